/-! ===== TuningTables$Text: the specification of reading; its small methods ===== -/
theorem dX4_allows_0 : decode cX4_allows 0 = .ok (.iload_n 0, 1) := by decide +kernel
theorem dX4_allows_1 : decode cX4_allows 1 = .ok (.bipush 10, 2) := by decide +kernel
theorem dX4_allows_3 : decode cX4_allows 3 = .ok (.if_icmp .eq 15, 3) := by decide +kernel
theorem dX4_allows_6 : decode cX4_allows 6 = .ok (.iload_n 0, 1) := by decide +kernel
theorem dX4_allows_7 : decode cX4_allows 7 = .ok (.bipush 32, 2) := by decide +kernel
theorem dX4_allows_9 : decode cX4_allows 9 = .ok (.if_icmp .lt 13, 3) := by decide +kernel
theorem dX4_allows_12 : decode cX4_allows 12 = .ok (.iload_n 0, 1) := by decide +kernel
theorem dX4_allows_13 : decode cX4_allows 13 = .ok (.bipush 126, 2) := by decide +kernel
theorem dX4_allows_15 : decode cX4_allows 15 = .ok (.if_icmp .gt 7, 3) := by decide +kernel
theorem dX4_allows_18 : decode cX4_allows 18 = .ok (.iconst 1, 1) := by decide +kernel
theorem dX4_allows_19 : decode cX4_allows 19 = .ok (.goto 4, 3) := by decide +kernel
theorem dX4_allows_22 : decode cX4_allows 22 = .ok (.iconst 0, 1) := by decide +kernel
theorem dX4_allows_23 : decode cX4_allows 23 = .ok (.ireturn, 1) := by decide +kernel
theorem dX4_isDigit_0 : decode cX4_isDigit 0 = .ok (.iload_n 0, 1) := by decide +kernel
theorem dX4_isDigit_1 : decode cX4_isDigit 1 = .ok (.bipush 48, 2) := by decide +kernel
theorem dX4_isDigit_3 : decode cX4_isDigit 3 = .ok (.if_icmp .lt 13, 3) := by decide +kernel
theorem dX4_isDigit_6 : decode cX4_isDigit 6 = .ok (.iload_n 0, 1) := by decide +kernel
theorem dX4_isDigit_7 : decode cX4_isDigit 7 = .ok (.bipush 57, 2) := by decide +kernel
theorem dX4_isDigit_9 : decode cX4_isDigit 9 = .ok (.if_icmp .gt 7, 3) := by decide +kernel
theorem dX4_isDigit_12 : decode cX4_isDigit 12 = .ok (.iconst 1, 1) := by decide +kernel
theorem dX4_isDigit_13 : decode cX4_isDigit 13 = .ok (.goto 4, 3) := by decide +kernel
theorem dX4_isDigit_16 : decode cX4_isDigit 16 = .ok (.iconst 0, 1) := by decide +kernel
theorem dX4_isDigit_17 : decode cX4_isDigit 17 = .ok (.ireturn, 1) := by decide +kernel
theorem dX4_isFull_0 : decode cX4_isFull 0 = .ok (.aload_n 0, 1) := by decide +kernel
theorem dX4_isFull_1 : decode cX4_isFull 1 = .ok (.getfield 24, 3) := by decide +kernel
theorem dX4_isFull_4 : decode cX4_isFull 4 = .ok (.sipush 300, 3) := by decide +kernel
theorem dX4_isFull_7 : decode cX4_isFull 7 = .ok (.if_icmp .lt 7, 3) := by decide +kernel
theorem dX4_isFull_10 : decode cX4_isFull 10 = .ok (.iconst 1, 1) := by decide +kernel
theorem dX4_isFull_11 : decode cX4_isFull 11 = .ok (.goto 4, 3) := by decide +kernel
theorem dX4_isFull_14 : decode cX4_isFull 14 = .ok (.iconst 0, 1) := by decide +kernel
theorem dX4_isFull_15 : decode cX4_isFull 15 = .ok (.ireturn, 1) := by decide +kernel
theorem dX4_append_0 : decode cX4_append 0 = .ok (.aload_n 0, 1) := by decide +kernel
theorem dX4_append_1 : decode cX4_append 1 = .ok (.getfield 24, 3) := by decide +kernel
theorem dX4_append_4 : decode cX4_append 4 = .ok (.sipush 300, 3) := by decide +kernel
theorem dX4_append_7 : decode cX4_append 7 = .ok (.if_icmp .ge 24, 3) := by decide +kernel
theorem dX4_append_10 : decode cX4_append 10 = .ok (.aload_n 0, 1) := by decide +kernel
theorem dX4_append_11 : decode cX4_append 11 = .ok (.getfield 11, 3) := by decide +kernel
theorem dX4_append_14 : decode cX4_append 14 = .ok (.aload_n 0, 1) := by decide +kernel
theorem dX4_append_15 : decode cX4_append 15 = .ok (.getfield 24, 3) := by decide +kernel
theorem dX4_append_18 : decode cX4_append 18 = .ok (.iload_n 1, 1) := by decide +kernel
theorem dX4_append_19 : decode cX4_append 19 = .ok (.i2b, 1) := by decide +kernel
theorem dX4_append_20 : decode cX4_append 20 = .ok (.bastore, 1) := by decide +kernel
theorem dX4_append_21 : decode cX4_append 21 = .ok (.aload_n 0, 1) := by decide +kernel
theorem dX4_append_22 : decode cX4_append 22 = .ok (.dup, 1) := by decide +kernel
theorem dX4_append_23 : decode cX4_append 23 = .ok (.getfield 24, 3) := by decide +kernel
theorem dX4_append_26 : decode cX4_append 26 = .ok (.iconst 1, 1) := by decide +kernel
theorem dX4_append_27 : decode cX4_append 27 = .ok (.iadd, 1) := by decide +kernel
theorem dX4_append_28 : decode cX4_append 28 = .ok (.putfield 24, 3) := by decide +kernel
theorem dX4_append_31 : decode cX4_append 31 = .ok (.aload_n 0, 1) := by decide +kernel
theorem dX4_append_32 : decode cX4_append 32 = .ok (.getfield 24, 3) := by decide +kernel
theorem dX4_append_35 : decode cX4_append 35 = .ok (.ireturn, 1) := by decide +kernel
theorem dX4_refuse_0 : decode cX4_refuse 0 = .ok (.aload_n 0, 1) := by decide +kernel
theorem dX4_refuse_1 : decode cX4_refuse 1 = .ok (.iload_n 1, 1) := by decide +kernel
theorem dX4_refuse_2 : decode cX4_refuse 2 = .ok (.putfield 30, 3) := by decide +kernel
theorem dX4_refuse_5 : decode cX4_refuse 5 = .ok (.aload_n 0, 1) := by decide +kernel
theorem dX4_refuse_6 : decode cX4_refuse 6 = .ok (.iload_n 2, 1) := by decide +kernel
theorem dX4_refuse_7 : decode cX4_refuse 7 = .ok (.putfield 20, 3) := by decide +kernel
theorem dX4_refuse_10 : decode cX4_refuse 10 = .ok (.return_, 1) := by decide +kernel
theorem dX4_lineEnd_0 : decode cX4_lineEnd 0 = .ok (.iload_n 1, 1) := by decide +kernel
theorem dX4_lineEnd_1 : decode cX4_lineEnd 1 = .ok (.istore_n 2, 1) := by decide +kernel
theorem dX4_lineEnd_2 : decode cX4_lineEnd 2 = .ok (.iload_n 2, 1) := by decide +kernel
theorem dX4_lineEnd_3 : decode cX4_lineEnd 3 = .ok (.aload_n 0, 1) := by decide +kernel
theorem dX4_lineEnd_4 : decode cX4_lineEnd 4 = .ok (.getfield 24, 3) := by decide +kernel
theorem dX4_lineEnd_7 : decode cX4_lineEnd 7 = .ok (.if_icmp .ge 20, 3) := by decide +kernel
theorem dX4_lineEnd_10 : decode cX4_lineEnd 10 = .ok (.aload_n 0, 1) := by decide +kernel
theorem dX4_lineEnd_11 : decode cX4_lineEnd 11 = .ok (.getfield 11, 3) := by decide +kernel
theorem dX4_lineEnd_14 : decode cX4_lineEnd 14 = .ok (.iload_n 2, 1) := by decide +kernel
theorem dX4_lineEnd_15 : decode cX4_lineEnd 15 = .ok (.baload, 1) := by decide +kernel
theorem dX4_lineEnd_16 : decode cX4_lineEnd 16 = .ok (.bipush 10, 2) := by decide +kernel
theorem dX4_lineEnd_18 : decode cX4_lineEnd 18 = .ok (.if_icmp .eq 9, 3) := by decide +kernel
theorem dX4_lineEnd_21 : decode cX4_lineEnd 21 = .ok (.iinc 2 1, 3) := by decide +kernel
theorem dX4_lineEnd_24 : decode cX4_lineEnd 24 = .ok (.goto (-22), 3) := by decide +kernel
theorem dX4_lineEnd_27 : decode cX4_lineEnd 27 = .ok (.iload_n 2, 1) := by decide +kernel
theorem dX4_lineEnd_28 : decode cX4_lineEnd 28 = .ok (.ireturn, 1) := by decide +kernel
theorem dX4_takeSlash_0 : decode cX4_takeSlash 0 = .ok (.aload_n 0, 1) := by decide +kernel
theorem dX4_takeSlash_1 : decode cX4_takeSlash 1 = .ok (.getfield 33, 3) := by decide +kernel
theorem dX4_takeSlash_4 : decode cX4_takeSlash 4 = .ok (.iconst 1, 1) := by decide +kernel
theorem dX4_takeSlash_5 : decode cX4_takeSlash 5 = .ok (.if_icmp .ne 11, 3) := by decide +kernel
theorem dX4_takeSlash_8 : decode cX4_takeSlash 8 = .ok (.aload_n 0, 1) := by decide +kernel
theorem dX4_takeSlash_9 : decode cX4_takeSlash 9 = .ok (.iconst 2, 1) := by decide +kernel
theorem dX4_takeSlash_10 : decode cX4_takeSlash 10 = .ok (.putfield 33, 3) := by decide +kernel
theorem dX4_takeSlash_13 : decode cX4_takeSlash 13 = .ok (.goto 9, 3) := by decide +kernel
theorem dX4_takeSlash_16 : decode cX4_takeSlash 16 = .ok (.aload_n 0, 1) := by decide +kernel
theorem dX4_takeSlash_17 : decode cX4_takeSlash 17 = .ok (.iconst 2, 1) := by decide +kernel
theorem dX4_takeSlash_18 : decode cX4_takeSlash 18 = .ok (.iload_n 1, 1) := by decide +kernel
theorem dX4_takeSlash_19 : decode cX4_takeSlash 19 = .ok (.invokevirtual 60, 3) := by decide +kernel
theorem dX4_takeSlash_22 : decode cX4_takeSlash 22 = .ok (.return_, 1) := by decide +kernel
theorem dX4_beginPitch_0 : decode cX4_beginPitch 0 = .ok (.iconst 0, 1) := by decide +kernel
theorem dX4_beginPitch_1 : decode cX4_beginPitch 1 = .ok (.istore_n 2, 1) := by decide +kernel
theorem dX4_beginPitch_2 : decode cX4_beginPitch 2 = .ok (.iload_n 2, 1) := by decide +kernel
theorem dX4_beginPitch_3 : decode cX4_beginPitch 3 = .ok (.bipush 6, 2) := by decide +kernel
theorem dX4_beginPitch_5 : decode cX4_beginPitch 5 = .ok (.if_icmp .ge 24, 3) := by decide +kernel
theorem dX4_beginPitch_8 : decode cX4_beginPitch 8 = .ok (.aload_n 0, 1) := by decide +kernel
theorem dX4_beginPitch_9 : decode cX4_beginPitch 9 = .ok (.getfield 15, 3) := by decide +kernel
theorem dX4_beginPitch_12 : decode cX4_beginPitch 12 = .ok (.aload_n 0, 1) := by decide +kernel
theorem dX4_beginPitch_13 : decode cX4_beginPitch 13 = .ok (.getfield 27, 3) := by decide +kernel
theorem dX4_beginPitch_16 : decode cX4_beginPitch 16 = .ok (.bipush 6, 2) := by decide +kernel
theorem dX4_beginPitch_18 : decode cX4_beginPitch 18 = .ok (.imul, 1) := by decide +kernel
theorem dX4_beginPitch_19 : decode cX4_beginPitch 19 = .ok (.iload_n 2, 1) := by decide +kernel
theorem dX4_beginPitch_20 : decode cX4_beginPitch 20 = .ok (.iadd, 1) := by decide +kernel
theorem dX4_beginPitch_21 : decode cX4_beginPitch 21 = .ok (.iconst 0, 1) := by decide +kernel
theorem dX4_beginPitch_22 : decode cX4_beginPitch 22 = .ok (.iastore, 1) := by decide +kernel
theorem dX4_beginPitch_23 : decode cX4_beginPitch 23 = .ok (.iinc 2 1, 3) := by decide +kernel
theorem dX4_beginPitch_26 : decode cX4_beginPitch 26 = .ok (.goto (-24), 3) := by decide +kernel
theorem dX4_beginPitch_29 : decode cX4_beginPitch 29 = .ok (.aload_n 0, 1) := by decide +kernel
theorem dX4_beginPitch_30 : decode cX4_beginPitch 30 = .ok (.dup, 1) := by decide +kernel
theorem dX4_beginPitch_31 : decode cX4_beginPitch 31 = .ok (.getfield 27, 3) := by decide +kernel
theorem dX4_beginPitch_34 : decode cX4_beginPitch 34 = .ok (.iconst 1, 1) := by decide +kernel
theorem dX4_beginPitch_35 : decode cX4_beginPitch 35 = .ok (.iadd, 1) := by decide +kernel
theorem dX4_beginPitch_36 : decode cX4_beginPitch 36 = .ok (.putfield 27, 3) := by decide +kernel
theorem dX4_beginPitch_39 : decode cX4_beginPitch 39 = .ok (.aload_n 0, 1) := by decide +kernel
theorem dX4_beginPitch_40 : decode cX4_beginPitch 40 = .ok (.iload_n 1, 1) := by decide +kernel
theorem dX4_beginPitch_41 : decode cX4_beginPitch 41 = .ok (.putfield 71, 3) := by decide +kernel
theorem dX4_beginPitch_44 : decode cX4_beginPitch 44 = .ok (.aload_n 0, 1) := by decide +kernel
theorem dX4_beginPitch_45 : decode cX4_beginPitch 45 = .ok (.iconst 1, 1) := by decide +kernel
theorem dX4_beginPitch_46 : decode cX4_beginPitch 46 = .ok (.putfield 33, 3) := by decide +kernel
theorem dX4_beginPitch_49 : decode cX4_beginPitch 49 = .ok (.return_, 1) := by decide +kernel
/-- digits from a on, at most k of them -/
def dE (t : Nat → Nat) (n : Nat) : Nat → Nat → Nat
  | 0, a => a
  | k + 1, a => if a < n ∧ 48 ≤ t a ∧ t a ≤ 57 then dE t n k (a + 1) else a
/-- the end of a line -/
def lE (t : Nat → Nat) (n : Nat) : Nat → Nat → Nat
  | 0, a => a
  | k + 1, a => if a < n ∧ t a ≠ 10 then lE t n k (a + 1) else a
/-- the number that k digits from a on are -/
def dV (t : Nat → Nat) (a : Nat) : Nat → Nat
  | 0 => 0
  | k + 1 => 10 * dV t a k + (t (a + k) - 48)
/-- how often p goes into v, at most k times, and the rest -/
def pw (p : Nat) : Nat → Nat → Nat × Nat
  | 0, v => (0, v)
  | k + 1, v => if v % p = 0 then ((pw p k (v / p)).1 + 1, (pw p k (v / p)).2) else (0, v)
def prm : Nat → Nat := fun k => match k with
  | 0 => 2 | 1 => 3 | 2 => 5 | 3 => 7 | 4 => 11 | _ => 13
def rst (v : Nat) : Nat → Nat
  | 0 => v
  | k + 1 => (pw (prm k) 20 (rst v k)).2
def mlt (v k : Nat) : Nat := (pw (prm k) 20 (rst v k)).1
/-- the table of pitches with a number multiplied into row r -/
def mulP (pt : Nat → xZ) (r v : Nat) (s : Int) : Nat → xZ := fun j k => if j = r then pt j k + s * (mlt v k : Int) else pt j k
def zrow (pt : Nat → xZ) (r : Nat) : Nat → xZ := fun j k => if j = r then 0 else pt j k
def pval (x : xZ) : Nat := 2 ^ (x 0).toNat * 3 ^ (x 1).toNat * 5 ^ (x 2).toNat * 7 ^ (x 3).toNat * 11 ^ (x 4).toNat * 13 ^ (x 5).toNat
def perB (x : xZ) : Bool := decide (0 ≤ x 0) && decide (0 ≤ x 1) && decide (0 ≤ x 2) && decide (0 ≤ x 3) && decide (0 ≤ x 4) && decide (0 ≤ x 5) && decide (2 ≤ pval x) && decide (pval x ≤ 13)
/-- reading from a on: count c, state st, the pitches pt, the last one's place pp; a fault and its place, or the pitches -/
def Sc (t : Nat → Nat) (n : Nat) : Nat → Nat → Nat → Nat → Nat → (Nat → xZ) → (Nat × Nat) ⊕ (Nat × (Nat → xZ))
  | 0, a, _, _, _, _ => .inl (0, a)
  | k + 1, a, c, st, pp, pt =>
    if n ≤ a then (if st ≠ 1 ∧ st ≠ 3 then .inl (2, n) else if perB (pt (c - 1)) = true then .inr (c, pt) else .inl (5, pp))
    else if 48 ≤ t a ∧ t a ≤ 57 then
      (if 6 < dE t n n a - a then .inl (1, a)
       else if st = 2 then (if rst (dV t a (dE t n n a - a)) 6 ≠ 1 then .inl (3, a) else Sc t n k (dE t n n a) c 3 pp (mulP pt (c - 1) (dV t a (dE t n n a - a)) (-1)))
       else if 24 ≤ c then .inl (4, a)
       else if rst (dV t a (dE t n n a - a)) 6 ≠ 1 then .inl (3, a) else Sc t n k (dE t n n a) (c + 1) 1 a (mulP (zrow pt c) c (dV t a (dE t n n a - a)) 1))
    else if t a = 47 then (if st = 1 then Sc t n k (a + 1) c 2 pp pt else .inl (2, a))
    else if t a = 35 then Sc t n k (lE t n n a) c st pp pt
    else if t a = 10 ∨ t a = 32 then Sc t n k (a + 1) c st pp pt
    else .inl (1, a)
set_option maxRecDepth 100000 in
set_option maxHeartbeats 4000000 in
theorem c_allows (V : xV) {z : Nat} {f : xH} {c : Int32} {post : Option Value → xH → Nat → Prop} (hp1 : (c.toInt = 10 ∨ (32 ≤ c.toInt ∧ c.toInt ≤ 126)) → post (some (.int 1)) f z) (hp0 : ¬ (c.toInt = 10 ∨ (32 ≤ c.toInt ∧ c.toInt ≤ 126)) → post (some (.int 0)) f z) :
    xMet V yX4_allows cX4_allows 1 (some .boolean) 1 0 0 [.int c] f z post := by
  refine xMet_of false (by decide) (Nat.le_of_ble_eq_true rfl) (fun h => by cases h) (fun X hX O Rt => ?_)
  have O : xO X cX4_allows 1 RX4 1 0 0 false := O
  show xG X 0 [some (.int c)] [] f (z, 0, 0)
  have e1 : (10 : Int32).toInt = 10 := rfl
  have e2 : (32 : Int32).toInt = 32 := rfl
  have e3 : (126 : Int32).toInt = 126 := rfl
  refine xgo O Rt xplX4_q xclX4_q [] 30 ?_
  simp (maxSteps := 10000000) (disch := omega) only [↓reduceIte, ↓xrun_s, ↓xck_e, xdo_e, xlg_0, xlg_c, xst1_0, xst1_1, xst1_c, xst2_0, xst2_1, xst2_c, xk2_n, xk2_i, xk2_a, xk2_l, xct_i, xct_a, xct_l, xf4_0, xf4_1, xf4_2, xf4_3, List.contains_cons, List.contains_nil, Bool.or_false, Bool.false_or, Bool.or_self, Bool.true_or, Bool.or_true, cond_true, cond_false, List.set_cons_zero, List.set_cons_succ, List.length_cons, List.length_nil, true_and, and_true, xu_s, xu_u, xeqs, Nat.le_refl, not_true_eq_false, xq_10, xq_01, Int32.reduceAdd, Int32.reduceMul, Int32.reduceSub, Int32.reduceLE, Int32.reduceLT, Int32.reduceToNatClampNeg, Nat.reduceAdd, Nat.reduceMul, Nat.reduceBEq, Nat.reduceLT, Nat.reduceLeDiff, Nat.reduceEqDiff, Nat.zero_add, Bool.false_eq_true, reduceCtorEq, if_false, if_true, not_false_eq_true, true_imp_iff, false_imp_iff, imp_self, ↓xil_e, ↓xll_e, ↓xal_e, ↓xs1i_e, ↓xs2i_e, ↓xs1l_e, ↓xs2l_e, ↓xsil_e, ↓xs1_e, ↓xs2_e, ↓xs1a_e, ↓xsia_e, ↓xsiia_e, ↓xslia_e, ↓xsaia_e, ↓xsva_e, ↓xse1i_e, ↓xse1l_e, ↓xse1a_e, ↓xse0_e, ↓xfv_0, ↓xfv_c, ↓xgf_e, ↓xpf_e, ↓xia_e, ↓xia_n, ↓xba_e, ↓xba_n, ↓xla_e, ↓xla_n, ↓xob_e, ↓xra_e, ↓xno_e, ↓xle_e, ↓xnr_i, ↓xnr_b0, ↓xnr_b1, ↓xnr_n, ↓xdo_e, ↓xkl_0, ↓xe_iconst, ↓xe_bipush, ↓xe_iload_n, ↓xe_goto, ↓xe_ireturn, ↓xe_icmp_eq, ↓xe_icmp_lt, ↓xe_icmp_gt, dX4_allows_0, dX4_allows_1, dX4_allows_3, dX4_allows_6, dX4_allows_7, dX4_allows_9, dX4_allows_12, dX4_allows_13, dX4_allows_15, dX4_allows_18, dX4_allows_19, dX4_allows_22, dX4_allows_23, xkb_10, xkb_126, xkb_32, xki_0, xki_1, n_lt, n_eq, e1, e2, e3, xt_3_15, xtc_3_15, xt_9_13, xtc_9_13, xt_15_7, xtc_15_7, xt_19_4, xtc_19_4]
  exact ⟨fun q => hp1 (Or.inl q), fun q => ⟨fun q2 => hp0 (by omega), fun q2 => ⟨fun q3 => hp0 (by omega), fun q3 => hp1 (Or.inr (by omega))⟩⟩⟩
set_option maxRecDepth 100000 in
set_option maxHeartbeats 4000000 in
theorem c_isDigit (V : xV) {z : Nat} {f : xH} {c : Int32} {post : Option Value → xH → Nat → Prop} (hp1 : (48 ≤ c.toInt ∧ c.toInt ≤ 57) → post (some (.int 1)) f z) (hp0 : ¬ (48 ≤ c.toInt ∧ c.toInt ≤ 57) → post (some (.int 0)) f z) :
    xMet V yX4_isDigit cX4_isDigit 1 (some .boolean) 1 0 0 [.int c] f z post := by
  refine xMet_of false (by decide) (Nat.le_of_ble_eq_true rfl) (fun h => by cases h) (fun X hX O Rt => ?_)
  have O : xO X cX4_isDigit 1 RX4 1 0 0 false := O
  show xG X 0 [some (.int c)] [] f (z, 0, 0)
  have e2 : (48 : Int32).toInt = 48 := rfl
  have e3 : (57 : Int32).toInt = 57 := rfl
  refine xgo O Rt xplX4_q xclX4_q [] 30 ?_
  simp (maxSteps := 10000000) (disch := omega) only [↓reduceIte, ↓xrun_s, ↓xck_e, xdo_e, xlg_0, xlg_c, xst1_0, xst1_1, xst1_c, xst2_0, xst2_1, xst2_c, xk2_n, xk2_i, xk2_a, xk2_l, xct_i, xct_a, xct_l, xf4_0, xf4_1, xf4_2, xf4_3, List.contains_cons, List.contains_nil, Bool.or_false, Bool.false_or, Bool.or_self, Bool.true_or, Bool.or_true, cond_true, cond_false, List.set_cons_zero, List.set_cons_succ, List.length_cons, List.length_nil, true_and, and_true, xu_s, xu_u, xeqs, Nat.le_refl, not_true_eq_false, xq_10, xq_01, Int32.reduceAdd, Int32.reduceMul, Int32.reduceSub, Int32.reduceLE, Int32.reduceLT, Int32.reduceToNatClampNeg, Nat.reduceAdd, Nat.reduceMul, Nat.reduceBEq, Nat.reduceLT, Nat.reduceLeDiff, Nat.reduceEqDiff, Nat.zero_add, Bool.false_eq_true, reduceCtorEq, if_false, if_true, not_false_eq_true, true_imp_iff, false_imp_iff, imp_self, ↓xil_e, ↓xll_e, ↓xal_e, ↓xs1i_e, ↓xs2i_e, ↓xs1l_e, ↓xs2l_e, ↓xsil_e, ↓xs1_e, ↓xs2_e, ↓xs1a_e, ↓xsia_e, ↓xsiia_e, ↓xslia_e, ↓xsaia_e, ↓xsva_e, ↓xse1i_e, ↓xse1l_e, ↓xse1a_e, ↓xse0_e, ↓xfv_0, ↓xfv_c, ↓xgf_e, ↓xpf_e, ↓xia_e, ↓xia_n, ↓xba_e, ↓xba_n, ↓xla_e, ↓xla_n, ↓xob_e, ↓xra_e, ↓xno_e, ↓xle_e, ↓xnr_i, ↓xnr_b0, ↓xnr_b1, ↓xnr_n, ↓xdo_e, ↓xkl_0, ↓xe_iconst, ↓xe_bipush, ↓xe_iload_n, ↓xe_goto, ↓xe_ireturn, ↓xe_icmp_lt, ↓xe_icmp_gt, dX4_isDigit_0, dX4_isDigit_1, dX4_isDigit_3, dX4_isDigit_6, dX4_isDigit_7, dX4_isDigit_9, dX4_isDigit_12, dX4_isDigit_13, dX4_isDigit_16, dX4_isDigit_17, xkb_48, xkb_57, xki_0, xki_1, n_lt, e2, e3, xt_3_13, xtc_3_13, xt_9_7, xtc_9_7, xt_13_4, xtc_13_4]
  exact ⟨fun q2 => hp0 (by omega), fun q2 => ⟨fun q3 => hp0 (by omega), fun q3 => hp1 (by omega)⟩⟩
set_option maxRecDepth 100000 in
set_option maxHeartbeats 4000000 in
theorem c_isFull (V : xV) {w z n : Nat} {f : xH} {c a4 a5 a6 a7 a8 : Int32} {post : Option Value → xH → Nat → Prop} (hT : f (w + 1) = some (xTx w (nI n) c a4 a5 a6 a7 a8)) (hn : n ≤ 300) (hp : post (some (.int (if n = 300 then 1 else 0))) f z) :
    xMet V yX4_isFull cX4_isFull 1 (some .boolean) 1 0 0 [.ref (w + 1)] f z post := by
  refine xMet_of false (by decide) (Nat.le_of_ble_eq_true rfl) (fun h => by cases h) (fun X hX O Rt => ?_)
  have O : xO X cX4_isFull 1 RX4 1 0 0 false := O
  show xG X 0 [some (.ref (w + 1))] [] f (z, 0, 0)
  have e2 : (300 : Int32).toInt = 300 := rfl
  have e3 : (nI n).toInt = (n : Int) := nI_toInt (by omega)
  refine xgo O Rt xplX4_q xclX4_q [] 30 ?_
  simp (maxSteps := 10000000) (disch := omega) only [↓reduceIte, ↓xrun_s, ↓xck_e, xdo_e, xlg_0, xlg_c, xst1_0, xst1_1, xst1_c, xst2_0, xst2_1, xst2_c, xk2_n, xk2_i, xk2_a, xk2_l, xct_i, xct_a, xct_l, xf4_0, xf4_1, xf4_2, xf4_3, List.contains_cons, List.contains_nil, Bool.or_false, Bool.false_or, Bool.or_self, Bool.true_or, Bool.or_true, cond_true, cond_false, List.set_cons_zero, List.set_cons_succ, List.length_cons, List.length_nil, true_and, and_true, xu_s, xu_u, xeqs, Nat.le_refl, not_true_eq_false, xq_10, xq_01, Int32.reduceAdd, Int32.reduceMul, Int32.reduceSub, Int32.reduceLE, Int32.reduceLT, Int32.reduceToNatClampNeg, Nat.reduceAdd, Nat.reduceMul, Nat.reduceBEq, Nat.reduceLT, Nat.reduceLeDiff, Nat.reduceEqDiff, Nat.zero_add, Bool.false_eq_true, reduceCtorEq, if_false, if_true, not_false_eq_true, true_imp_iff, false_imp_iff, imp_self, ↓xil_e, ↓xll_e, ↓xal_e, ↓xs1i_e, ↓xs2i_e, ↓xs1l_e, ↓xs2l_e, ↓xsil_e, ↓xs1_e, ↓xs2_e, ↓xs1a_e, ↓xsia_e, ↓xsiia_e, ↓xslia_e, ↓xsaia_e, ↓xsva_e, ↓xse1i_e, ↓xse1l_e, ↓xse1a_e, ↓xse0_e, ↓xfv_0, ↓xfv_c, ↓xgf_e, ↓xpf_e, ↓xia_e, ↓xia_n, ↓xba_e, ↓xba_n, ↓xla_e, ↓xla_n, ↓xob_e, ↓xra_e, ↓xno_e, ↓xle_e, ↓xnr_i, ↓xnr_b0, ↓xnr_b1, ↓xnr_n, ↓xdo_e, ↓xkl_0, ↓xe_iconst, ↓xe_sipush, ↓xe_aload_n, ↓xe_goto, ↓xe_getfield, ↓xe_ireturn, ↓xe_icmp_lt, dX4_isFull_0, dX4_isFull_1, dX4_isFull_4, dX4_isFull_7, dX4_isFull_10, dX4_isFull_11, dX4_isFull_14, dX4_isFull_15, xpX4_24, xki_0, xki_1, xks_300, hT, n_lt, e2, e3, xt_7_7, xtc_7_7, xt_11_4, xtc_11_4]
  refine ⟨fun q => ?_, fun q => ?_⟩
  · rw [if_neg (by omega)] at hp; exact hp
  · rw [if_pos (by omega)] at hp; exact hp
set_option maxRecDepth 100000 in
set_option maxHeartbeats 4000000 in
theorem c_append (V : xV) {w z n : Nat} {f : xH} {ch c a4 a5 a6 a7 a8 : Int32} {bt : Nat → Int32} {post : Option Value → xH → Nat → Prop} (hT : f (w + 1) = some (xTx w (nI n) c a4 a5 a6 a7 a8)) (hB : f (w + 2) = some (xB 300 bt)) (hn : n < 300) (hp : post (some (.int (nI (n + 1)))) (xu (xu f (w + 2) (xB 300 (upd bt n ch.toInt8.toInt32.toInt8.toInt32))) (w + 1) (xTx w (nI (n + 1)) c a4 a5 a6 a7 a8)) z) :
    xMet V yX4_append cX4_append 2 (some .int) 1 0 0 [.ref (w + 1), .int ch] f z post := by
  refine xMet_of false (by decide) (Nat.le_of_ble_eq_true rfl) (fun h => by cases h) (fun X hX O Rt => ?_)
  have O : xO X cX4_append 2 RX4 1 0 0 false := O
  show xG X 0 [some (.ref (w + 1)), some (.int ch)] [] f (z, 0, 0)
  have e2 : ((300 : Int32) ≤ nI n) = False := eq_false (fun q => by
    have h1 := (n_le _ _).mp q
    rw [nI_toInt (by omega)] at h1
    have e2 : (300 : Int32).toInt = 300 := rfl
    omega)
  have v0 : vp_in (nI n) 300 := vp_in_nI hn (by omega)
  have v1 : (nI n).toNatClampNeg = n := nI_clamp (by omega)
  have ni : nI n + 1 = nI (n + 1) := nI_1 n
  have u1 : ∀ e2, xu f (w + 2) e2 (w + 1) = f (w + 1) := fun e2 => xu_n (by omega)
  refine xgo O Rt xplX4_q xclX4_q [] 40 ?_
  simp (maxSteps := 10000000) (disch := omega) only [↓reduceIte, ↓xrun_s, ↓xck_e, xdo_e, xlg_0, xlg_c, xst1_0, xst1_1, xst1_c, xst2_0, xst2_1, xst2_c, xk2_n, xk2_i, xk2_a, xk2_l, xct_i, xct_a, xct_l, xf4_0, xf4_1, xf4_2, xf4_3, List.contains_cons, List.contains_nil, Bool.or_false, Bool.false_or, Bool.or_self, Bool.true_or, Bool.or_true, cond_true, cond_false, List.set_cons_zero, List.set_cons_succ, List.length_cons, List.length_nil, true_and, and_true, xu_s, xu_u, xeqs, Nat.le_refl, not_true_eq_false, xq_10, xq_01, Int32.reduceAdd, Int32.reduceMul, Int32.reduceSub, Int32.reduceLE, Int32.reduceLT, Int32.reduceToNatClampNeg, Nat.reduceAdd, Nat.reduceMul, Nat.reduceBEq, Nat.reduceLT, Nat.reduceLeDiff, Nat.reduceEqDiff, Nat.zero_add, Bool.false_eq_true, reduceCtorEq, if_false, if_true, not_false_eq_true, true_imp_iff, false_imp_iff, imp_self, ↓xil_e, ↓xll_e, ↓xal_e, ↓xs1i_e, ↓xs2i_e, ↓xs1l_e, ↓xs2l_e, ↓xsil_e, ↓xs1_e, ↓xs2_e, ↓xs1a_e, ↓xsia_e, ↓xsiia_e, ↓xslia_e, ↓xsaia_e, ↓xsva_e, ↓xse1i_e, ↓xse1l_e, ↓xse1a_e, ↓xse0_e, ↓xfv_0, ↓xfv_c, ↓xgf_e, ↓xpf_e, ↓xia_e, ↓xia_n, ↓xba_e, ↓xba_n, ↓xla_e, ↓xla_n, ↓xob_e, ↓xra_e, ↓xno_e, ↓xle_e, ↓xnr_i, ↓xnr_b0, ↓xnr_b1, ↓xnr_n, ↓xdo_e, ↓xkl_0, ↓xe_iconst, ↓xe_sipush, ↓xe_iadd, ↓xe_i2b, ↓xe_dup, ↓xe_iload_n, ↓xe_aload_n, ↓xe_getfield, ↓xe_putfield, ↓xe_bastore, ↓xe_ireturn, ↓xe_icmp_ge, dX4_append_0, dX4_append_1, dX4_append_4, dX4_append_7, dX4_append_10, dX4_append_11, dX4_append_14, dX4_append_15, dX4_append_18, dX4_append_19, dX4_append_20, dX4_append_21, dX4_append_22, dX4_append_23, dX4_append_26, dX4_append_27, dX4_append_28, dX4_append_31, dX4_append_32, dX4_append_35, xpX4_11, xpX4_24, xki_1, xks_300, hT, hB, e2, v0, v1, ni, u1, xft_4_2, xt_7_24, xtc_7_24]
  exact hp
set_option maxRecDepth 100000 in
set_option maxHeartbeats 4000000 in
theorem c_refuse (V : xV) {w z : Nat} {f : xH} {nm pl a2 c a4 a5 a6 a7 a8 : Int32} {post : Option Value → xH → Nat → Prop} (hT : f (w + 1) = some (xTx w a2 c a4 a5 a6 a7 a8)) (hp : post none (xu f (w + 1) (xTx w a2 c nm pl a6 a7 a8)) z) :
    xMet V yX4_refuse cX4_refuse 3 none 1 0 0 [.ref (w + 1), .int nm, .int pl] f z post := by
  refine xMet_of false (by decide) (Nat.le_of_ble_eq_true rfl) (fun h => by cases h) (fun X hX O Rt => ?_)
  have O : xO X cX4_refuse 3 RX4 1 0 0 false := O
  show xG X 0 [some (.ref (w + 1)), some (.int nm), some (.int pl)] [] f (z, 0, 0)
  refine xgo O Rt xplX4_q xclX4_q [] 40 ?_
  simp (maxSteps := 10000000) (disch := omega) only [↓reduceIte, ↓xrun_s, ↓xck_e, xdo_e, xlg_0, xlg_c, xst1_0, xst1_1, xst1_c, xst2_0, xst2_1, xst2_c, xk2_n, xk2_i, xk2_a, xk2_l, xct_i, xct_a, xct_l, xf4_0, xf4_1, xf4_2, xf4_3, List.contains_cons, List.contains_nil, Bool.or_false, Bool.false_or, Bool.or_self, Bool.true_or, Bool.or_true, cond_true, cond_false, List.set_cons_zero, List.set_cons_succ, List.length_cons, List.length_nil, true_and, and_true, xu_s, xu_u, xeqs, Nat.le_refl, not_true_eq_false, xq_10, xq_01, Int32.reduceAdd, Int32.reduceMul, Int32.reduceSub, Int32.reduceLE, Int32.reduceLT, Int32.reduceToNatClampNeg, Nat.reduceAdd, Nat.reduceMul, Nat.reduceBEq, Nat.reduceLT, Nat.reduceLeDiff, Nat.reduceEqDiff, Nat.zero_add, Bool.false_eq_true, reduceCtorEq, if_false, if_true, not_false_eq_true, true_imp_iff, false_imp_iff, imp_self, ↓xil_e, ↓xll_e, ↓xal_e, ↓xs1i_e, ↓xs2i_e, ↓xs1l_e, ↓xs2l_e, ↓xsil_e, ↓xs1_e, ↓xs2_e, ↓xs1a_e, ↓xsia_e, ↓xsiia_e, ↓xslia_e, ↓xsaia_e, ↓xsva_e, ↓xse1i_e, ↓xse1l_e, ↓xse1a_e, ↓xse0_e, ↓xfv_0, ↓xfv_c, ↓xgf_e, ↓xpf_e, ↓xia_e, ↓xia_n, ↓xba_e, ↓xba_n, ↓xla_e, ↓xla_n, ↓xob_e, ↓xra_e, ↓xno_e, ↓xle_e, ↓xnr_i, ↓xnr_b0, ↓xnr_b1, ↓xnr_n, ↓xdo_e, ↓xkl_0, ↓xe_iload_n, ↓xe_aload_n, ↓xe_putfield, ↓xe_return_, dX4_refuse_0, dX4_refuse_1, dX4_refuse_2, dX4_refuse_5, dX4_refuse_6, dX4_refuse_7, dX4_refuse_10, xpX4_20, xpX4_30, hT, xft_4_4, xft_4_5]
  exact hp
theorem lE_le (t : Nat → Nat) (n : Nat) : ∀ k a, a ≤ n → a ≤ lE t n k a ∧ lE t n k a ≤ n
  | 0, a, h => by simp [lE]; exact h
  | k + 1, a, h => by
    simp only [lE]
    split
    · have := lE_le t n k (a + 1) (by omega); omega
    · omega
theorem dE_le (t : Nat → Nat) (n : Nat) : ∀ k a, a ≤ n → a ≤ dE t n k a ∧ dE t n k a ≤ n
  | 0, a, h => by simp [dE]; exact h
  | k + 1, a, h => by
    simp only [dE]
    split
    · have := dE_le t n k (a + 1) (by omega); omega
    · omega
theorem lE_fuel (t : Nat → Nat) (n : Nat) : ∀ k k' a, n - a ≤ k → n - a ≤ k' → lE t n k a = lE t n k' a
  | 0, 0, a, _, _ => rfl
  | 0, k' + 1, a, h, _ => by simp only [lE]; rw [if_neg (by omega)]
  | k + 1, 0, a, _, h => by simp only [lE]; rw [if_neg (by omega)]
  | k + 1, k' + 1, a, h, h' => by
    simp only [lE]
    split
    · exact lE_fuel t n k k' (a + 1) (by omega) (by omega)
    · rfl
theorem dE_fuel (t : Nat → Nat) (n : Nat) : ∀ k k' a, n - a ≤ k → n - a ≤ k' → dE t n k a = dE t n k' a
  | 0, 0, a, _, _ => rfl
  | 0, k' + 1, a, h, _ => by simp only [dE]; rw [if_neg (by omega)]
  | k + 1, 0, a, _, h => by simp only [dE]; rw [if_neg (by omega)]
  | k + 1, k' + 1, a, h, h' => by
    simp only [dE]
    split
    · exact dE_fuel t n k k' (a + 1) (by omega) (by omega)
    · rfl
/-- bytes as the text's row holds them -/
def Byt (bt : Nat → Int32) (t : Nat → Nat) (n : Nat) : Prop := ∀ i, i < n → bt i = nI (t i) ∧ t i < 127
set_option maxRecDepth 100000 in
set_option maxHeartbeats 4000000 in
theorem c_lineEnd (V : xV) {w z n a : Nat} {f : xH} {c a4 a5 a6 a7 a8 : Int32} {bt : Nat → Int32} {t : Nat → Nat} {post : Option Value → xH → Nat → Prop} (hT : f (w + 1) = some (xTx w (nI n) c a4 a5 a6 a7 a8)) (hB : f (w + 2) = some (xB 300 bt)) (hb : Byt bt t n) (hn : n ≤ 300) (ha : a ≤ n) (hp : post (some (.int (nI (lE t n n a)))) f z) :
    xMet V yX4_lineEnd cX4_lineEnd 3 (some .int) 1 0 0 [.ref (w + 1), .int (nI a)] f z post := by
  refine xMet_of false (by decide) (Nat.le_of_ble_eq_true rfl) (fun h => by cases h) (fun X hX O Rt => ?_)
  have O : xO X cX4_lineEnd 3 RX4 1 0 0 false := O
  show xG X 0 [some (.ref (w + 1)), some (.int (nI a)), none] [] f (z, 0, 0)
  have e10 : (10 : Int32) = nI 10 := rfl
  have loop : ∀ k b, b + k = n → lE t n k b = lE t n n a → xG X 2 [some (.ref (w + 1)), some (.int (nI a)), some (.int (nI b))] [] f (z, 0, 0) := by
    intro k
    induction k with
    | zero =>
      intro b hb2 hl
      have hcc : (nI n ≤ nI b) = True := eq_true ((nI_leI (by omega) (by omega)).mpr (by omega))
      refine xgo O Rt xplX4_q xclX4_q [2] 30 ?_
      simp (maxSteps := 10000000) (disch := omega) only [↓reduceIte, ↓xrun_s, ↓xck_e, xdo_e, xlg_0, xlg_c, xst1_0, xst1_1, xst1_c, xst2_0, xst2_1, xst2_c, xk2_n, xk2_i, xk2_a, xk2_l, xct_i, xct_a, xct_l, xf4_0, xf4_1, xf4_2, xf4_3, List.contains_cons, List.contains_nil, Bool.or_false, Bool.false_or, Bool.or_self, Bool.true_or, Bool.or_true, cond_true, cond_false, List.set_cons_zero, List.set_cons_succ, List.length_cons, List.length_nil, true_and, and_true, xu_s, xu_u, xeqs, Nat.le_refl, not_true_eq_false, xq_10, xq_01, Int32.reduceAdd, Int32.reduceMul, Int32.reduceSub, Int32.reduceLE, Int32.reduceLT, Int32.reduceToNatClampNeg, Nat.reduceAdd, Nat.reduceMul, Nat.reduceBEq, Nat.reduceLT, Nat.reduceLeDiff, Nat.reduceEqDiff, Nat.zero_add, Bool.false_eq_true, reduceCtorEq, if_false, if_true, not_false_eq_true, true_imp_iff, false_imp_iff, imp_self, ↓xil_e, ↓xll_e, ↓xal_e, ↓xs1i_e, ↓xs2i_e, ↓xs1l_e, ↓xs2l_e, ↓xsil_e, ↓xs1_e, ↓xs2_e, ↓xs1a_e, ↓xsia_e, ↓xsiia_e, ↓xslia_e, ↓xsaia_e, ↓xsva_e, ↓xse1i_e, ↓xse1l_e, ↓xse1a_e, ↓xse0_e, ↓xfv_0, ↓xfv_c, ↓xgf_e, ↓xpf_e, ↓xia_e, ↓xia_n, ↓xba_e, ↓xba_n, ↓xla_e, ↓xla_n, ↓xob_e, ↓xra_e, ↓xno_e, ↓xle_e, ↓xnr_i, ↓xnr_b0, ↓xnr_b1, ↓xnr_n, ↓xdo_e, ↓xkl_0, ↓xe_bipush, ↓xe_iload_n, ↓xe_aload_n, ↓xe_istore_n, ↓xe_iinc, ↓xe_goto, ↓xe_getfield, ↓xe_baload, ↓xe_ireturn, ↓xe_icmp_eq, ↓xe_icmp_ge, dX4_lineEnd_0, dX4_lineEnd_1, dX4_lineEnd_2, dX4_lineEnd_3, dX4_lineEnd_4, dX4_lineEnd_7, dX4_lineEnd_10, dX4_lineEnd_11, dX4_lineEnd_14, dX4_lineEnd_15, dX4_lineEnd_16, dX4_lineEnd_18, dX4_lineEnd_21, dX4_lineEnd_24, dX4_lineEnd_27, dX4_lineEnd_28, xpX4_11, xpX4_24, xkb_10, xki_1, hT, hcc, xt_7_20, xtc_7_20, xt_18_9, xtc_18_9, xt_24_m22, xtc_24_m22]
      simp only [lE] at hl
      rw [hl]
      exact hp
    | succ k ih =>
      intro b hb2 hl
      have hcc : (nI n ≤ nI b) = False := eq_false (fun q => by have := (nI_leI (by omega) (by omega)).mp q; omega)
      have nb : nI b + 1 = nI (b + 1) := nI_1 b
      have v0 : vp_in (nI b) 300 := vp_in_nI (by omega) (by omega)
      have v1 : (nI b).toNatClampNeg = b := nI_clamp (by omega)
      obtain ⟨b1, b2⟩ := hb b (by omega)
      refine xgo O Rt xplX4_q xclX4_q [2] 30 ?_
      simp (maxSteps := 10000000) (disch := omega) only [↓reduceIte, ↓xrun_s, ↓xck_e, xdo_e, xlg_0, xlg_c, xst1_0, xst1_1, xst1_c, xst2_0, xst2_1, xst2_c, xk2_n, xk2_i, xk2_a, xk2_l, xct_i, xct_a, xct_l, xf4_0, xf4_1, xf4_2, xf4_3, List.contains_cons, List.contains_nil, Bool.or_false, Bool.false_or, Bool.or_self, Bool.true_or, Bool.or_true, cond_true, cond_false, List.set_cons_zero, List.set_cons_succ, List.length_cons, List.length_nil, true_and, and_true, xu_s, xu_u, xeqs, Nat.le_refl, not_true_eq_false, xq_10, xq_01, Int32.reduceAdd, Int32.reduceMul, Int32.reduceSub, Int32.reduceLE, Int32.reduceLT, Int32.reduceToNatClampNeg, Nat.reduceAdd, Nat.reduceMul, Nat.reduceBEq, Nat.reduceLT, Nat.reduceLeDiff, Nat.reduceEqDiff, Nat.zero_add, Bool.false_eq_true, reduceCtorEq, if_false, if_true, not_false_eq_true, true_imp_iff, false_imp_iff, imp_self, ↓xil_e, ↓xll_e, ↓xal_e, ↓xs1i_e, ↓xs2i_e, ↓xs1l_e, ↓xs2l_e, ↓xsil_e, ↓xs1_e, ↓xs2_e, ↓xs1a_e, ↓xsia_e, ↓xsiia_e, ↓xslia_e, ↓xsaia_e, ↓xsva_e, ↓xse1i_e, ↓xse1l_e, ↓xse1a_e, ↓xse0_e, ↓xfv_0, ↓xfv_c, ↓xgf_e, ↓xpf_e, ↓xia_e, ↓xia_n, ↓xba_e, ↓xba_n, ↓xla_e, ↓xla_n, ↓xob_e, ↓xra_e, ↓xno_e, ↓xle_e, ↓xnr_i, ↓xnr_b0, ↓xnr_b1, ↓xnr_n, ↓xdo_e, ↓xkl_0, ↓xe_bipush, ↓xe_iload_n, ↓xe_aload_n, ↓xe_istore_n, ↓xe_iinc, ↓xe_goto, ↓xe_getfield, ↓xe_baload, ↓xe_ireturn, ↓xe_icmp_eq, ↓xe_icmp_ge, dX4_lineEnd_0, dX4_lineEnd_1, dX4_lineEnd_2, dX4_lineEnd_3, dX4_lineEnd_4, dX4_lineEnd_7, dX4_lineEnd_10, dX4_lineEnd_11, dX4_lineEnd_14, dX4_lineEnd_15, dX4_lineEnd_16, dX4_lineEnd_18, dX4_lineEnd_21, dX4_lineEnd_24, dX4_lineEnd_27, dX4_lineEnd_28, xpX4_11, xpX4_24, xkb_10, xki_1, hT, hB, hcc, nb, v0, v1, b1, xt_7_20, xtc_7_20, xt_18_9, xtc_18_9, xt_24_m22, xtc_24_m22]
      refine ⟨fun q => ?_, fun q => ?_⟩
      · rw [e10, nI_eq (by omega) (by omega)] at q
        simp only [lE] at hl
        rw [if_neg (by omega)] at hl
        rw [hl]; exact hp
      · rw [e10, nI_eq (by omega) (by omega)] at q
        simp only [lE] at hl
        rw [if_pos ⟨by omega, q⟩] at hl
        exact ih (b + 1) (by omega) hl
  refine xgo O Rt xplX4_q xclX4_q [2] 30 ?_
  simp (maxSteps := 10000000) (disch := omega) only [↓reduceIte, ↓xrun_s, ↓xck_e, xdo_e, xlg_0, xlg_c, xst1_0, xst1_1, xst1_c, xst2_0, xst2_1, xst2_c, xk2_n, xk2_i, xk2_a, xk2_l, xct_i, xct_a, xct_l, xf4_0, xf4_1, xf4_2, xf4_3, List.contains_cons, List.contains_nil, Bool.or_false, Bool.false_or, Bool.or_self, Bool.true_or, Bool.or_true, cond_true, cond_false, List.set_cons_zero, List.set_cons_succ, List.length_cons, List.length_nil, true_and, and_true, xu_s, xu_u, xeqs, Nat.le_refl, not_true_eq_false, xq_10, xq_01, Int32.reduceAdd, Int32.reduceMul, Int32.reduceSub, Int32.reduceLE, Int32.reduceLT, Int32.reduceToNatClampNeg, Nat.reduceAdd, Nat.reduceMul, Nat.reduceBEq, Nat.reduceLT, Nat.reduceLeDiff, Nat.reduceEqDiff, Nat.zero_add, Bool.false_eq_true, reduceCtorEq, if_false, if_true, not_false_eq_true, true_imp_iff, false_imp_iff, imp_self, ↓xil_e, ↓xll_e, ↓xal_e, ↓xs1i_e, ↓xs2i_e, ↓xs1l_e, ↓xs2l_e, ↓xsil_e, ↓xs1_e, ↓xs2_e, ↓xs1a_e, ↓xsia_e, ↓xsiia_e, ↓xslia_e, ↓xsaia_e, ↓xsva_e, ↓xse1i_e, ↓xse1l_e, ↓xse1a_e, ↓xse0_e, ↓xfv_0, ↓xfv_c, ↓xgf_e, ↓xpf_e, ↓xia_e, ↓xia_n, ↓xba_e, ↓xba_n, ↓xla_e, ↓xla_n, ↓xob_e, ↓xra_e, ↓xno_e, ↓xle_e, ↓xnr_i, ↓xnr_b0, ↓xnr_b1, ↓xnr_n, ↓xdo_e, ↓xkl_0, ↓xe_bipush, ↓xe_iload_n, ↓xe_aload_n, ↓xe_istore_n, ↓xe_iinc, ↓xe_goto, ↓xe_getfield, ↓xe_baload, ↓xe_ireturn, ↓xe_icmp_eq, ↓xe_icmp_ge, dX4_lineEnd_0, dX4_lineEnd_1, dX4_lineEnd_2, dX4_lineEnd_3, dX4_lineEnd_4, dX4_lineEnd_7, dX4_lineEnd_10, dX4_lineEnd_11, dX4_lineEnd_14, dX4_lineEnd_15, dX4_lineEnd_16, dX4_lineEnd_18, dX4_lineEnd_21, dX4_lineEnd_24, dX4_lineEnd_27, dX4_lineEnd_28, xpX4_11, xpX4_24, xkb_10, xki_1, xt_7_20, xtc_7_20, xt_18_9, xtc_18_9, xt_24_m22, xtc_24_m22]
  exact loop (n - a) a (by omega) (lE_fuel t n _ _ a (by omega) (by omega))
set_option maxRecDepth 100000 in
set_option maxHeartbeats 4000000 in
theorem c_takeSlash (V : xV) {w z at' st : Nat} {f : xH} {a2 c a4 a5 a7 a8 : Int32} {post : Option Value → xH → Nat → Prop} (hT : f (w + 1) = some (xTx w a2 c a4 a5 (nI st) a7 a8)) (hst : st < 4) (hp1 : st = 1 → post none (xu f (w + 1) (xTx w a2 c a4 a5 2 a7 a8)) z) (hp0 : st ≠ 1 → post none (xu f (w + 1) (xTx w a2 c 2 (nI at') (nI st) a7 a8)) z) :
    xMet V yX4_takeSlash cX4_takeSlash 2 none 2 0 0 [.ref (w + 1), .int (nI at')] f z post := by
  refine xMet_of false (by decide) (Nat.le_of_ble_eq_true rfl) (fun h => by cases h) (fun X hX O Rt => ?_)
  have O : xO X cX4_takeSlash 2 RX4 2 0 0 false := O
  show xG X 0 [some (.ref (w + 1)), some (.int (nI at'))] [] f (z, 0, 0)
  have e1 : (1 : Int32) = nI 1 := rfl
  refine xgo O Rt xplX4_q xclX4_q [] 30 ?_
  simp (maxSteps := 10000000) (disch := omega) only [↓reduceIte, ↓xrun_s, ↓xck_e, xdo_e, xlg_0, xlg_c, xst1_0, xst1_1, xst1_c, xst2_0, xst2_1, xst2_c, xk2_n, xk2_i, xk2_a, xk2_l, xct_i, xct_a, xct_l, xf4_0, xf4_1, xf4_2, xf4_3, List.contains_cons, List.contains_nil, Bool.or_false, Bool.false_or, Bool.or_self, Bool.true_or, Bool.or_true, cond_true, cond_false, List.set_cons_zero, List.set_cons_succ, List.length_cons, List.length_nil, true_and, and_true, xu_s, xu_u, xeqs, Nat.le_refl, not_true_eq_false, xq_10, xq_01, Int32.reduceAdd, Int32.reduceMul, Int32.reduceSub, Int32.reduceLE, Int32.reduceLT, Int32.reduceToNatClampNeg, Nat.reduceAdd, Nat.reduceMul, Nat.reduceBEq, Nat.reduceLT, Nat.reduceLeDiff, Nat.reduceEqDiff, Nat.zero_add, Bool.false_eq_true, reduceCtorEq, if_false, if_true, not_false_eq_true, true_imp_iff, false_imp_iff, imp_self, ↓xil_e, ↓xll_e, ↓xal_e, ↓xs1i_e, ↓xs2i_e, ↓xs1l_e, ↓xs2l_e, ↓xsil_e, ↓xs1_e, ↓xs2_e, ↓xs1a_e, ↓xsia_e, ↓xsiia_e, ↓xslia_e, ↓xsaia_e, ↓xsva_e, ↓xse1i_e, ↓xse1l_e, ↓xse1a_e, ↓xse0_e, ↓xfv_0, ↓xfv_c, ↓xgf_e, ↓xpf_e, ↓xia_e, ↓xia_n, ↓xba_e, ↓xba_n, ↓xla_e, ↓xla_n, ↓xob_e, ↓xra_e, ↓xno_e, ↓xle_e, ↓xnr_i, ↓xnr_b0, ↓xnr_b1, ↓xnr_n, ↓xdo_e, ↓xkl_0, ↓xe_iconst, ↓xe_iload_n, ↓xe_aload_n, ↓xe_goto, ↓xe_getfield, ↓xe_putfield, ↓xe_return_, ↓xe_icmp_ne, ↓xe_invokevirtual, dX4_takeSlash_0, dX4_takeSlash_1, dX4_takeSlash_4, dX4_takeSlash_5, dX4_takeSlash_8, dX4_takeSlash_9, dX4_takeSlash_10, dX4_takeSlash_13, dX4_takeSlash_16, dX4_takeSlash_17, dX4_takeSlash_18, dX4_takeSlash_19, dX4_takeSlash_22, xpX4_33, xki_1, xki_2, hT, xft_4_6, xt_5_11, xtc_5_11, xt_13_9, xtc_13_9]
  refine ⟨fun q => ?_, fun q => ?_⟩
  · rw [e1, nI_eq (by omega) (by omega)] at q
    exact hp1 q
  · rw [e1, nI_eq (by omega) (by omega)] at q
    refine xg_callVv (Qp := fun f' => f' = xu f (w + 1) (xTx w a2 c 2 (nI at') (nI st) a7 a8)) O dX4_takeSlash_19 xl_X4_60 xk_X4_refuse (c_refuse _ hT ⟨rfl, rfl, rfl⟩) hT rfl rfl rfl (Nat.le_of_ble_eq_true rfl) rfl (Nat.le_of_ble_eq_true rfl) (Nat.le_of_ble_eq_true rfl) (Nat.le_of_ble_eq_true rfl) (fun f1 hq => ?_)
    subst hq
    refine xgo O Rt xplX4_q xclX4_q [] 30 ?_
    simp (maxSteps := 10000000) (disch := omega) only [↓reduceIte, ↓xrun_s, ↓xck_e, xdo_e, xlg_0, xlg_c, xst1_0, xst1_1, xst1_c, xst2_0, xst2_1, xst2_c, xk2_n, xk2_i, xk2_a, xk2_l, xct_i, xct_a, xct_l, xf4_0, xf4_1, xf4_2, xf4_3, List.contains_cons, List.contains_nil, Bool.or_false, Bool.false_or, Bool.or_self, Bool.true_or, Bool.or_true, cond_true, cond_false, List.set_cons_zero, List.set_cons_succ, List.length_cons, List.length_nil, true_and, and_true, xu_s, xu_u, xeqs, Nat.le_refl, not_true_eq_false, xq_10, xq_01, Int32.reduceAdd, Int32.reduceMul, Int32.reduceSub, Int32.reduceLE, Int32.reduceLT, Int32.reduceToNatClampNeg, Nat.reduceAdd, Nat.reduceMul, Nat.reduceBEq, Nat.reduceLT, Nat.reduceLeDiff, Nat.reduceEqDiff, Nat.zero_add, Bool.false_eq_true, reduceCtorEq, if_false, if_true, not_false_eq_true, true_imp_iff, false_imp_iff, imp_self, ↓xil_e, ↓xll_e, ↓xal_e, ↓xs1i_e, ↓xs2i_e, ↓xs1l_e, ↓xs2l_e, ↓xsil_e, ↓xs1_e, ↓xs2_e, ↓xs1a_e, ↓xsia_e, ↓xsiia_e, ↓xslia_e, ↓xsaia_e, ↓xsva_e, ↓xse1i_e, ↓xse1l_e, ↓xse1a_e, ↓xse0_e, ↓xfv_0, ↓xfv_c, ↓xgf_e, ↓xpf_e, ↓xia_e, ↓xia_n, ↓xba_e, ↓xba_n, ↓xla_e, ↓xla_n, ↓xob_e, ↓xra_e, ↓xno_e, ↓xle_e, ↓xnr_i, ↓xnr_b0, ↓xnr_b1, ↓xnr_n, ↓xdo_e, ↓xkl_0, ↓xe_iconst, ↓xe_iload_n, ↓xe_aload_n, ↓xe_goto, ↓xe_getfield, ↓xe_putfield, ↓xe_return_, ↓xe_icmp_ne, ↓xe_invokevirtual, dX4_takeSlash_0, dX4_takeSlash_1, dX4_takeSlash_4, dX4_takeSlash_5, dX4_takeSlash_8, dX4_takeSlash_9, dX4_takeSlash_10, dX4_takeSlash_13, dX4_takeSlash_16, dX4_takeSlash_17, dX4_takeSlash_18, dX4_takeSlash_19, dX4_takeSlash_22, xpX4_33, xki_1, xki_2, xft_4_6, xt_5_11, xtc_5_11, xt_13_9, xtc_13_9]
    exact hp0 q
/-- the row of pitches holds a table -/
def Pit (g : Nat → Int32) (pt : Nat → xZ) (c : Nat) : Prop := ∀ j k, j < c → k < 6 → (g (j * 6 + k)).toInt = pt j k
set_option maxRecDepth 100000 in
set_option maxHeartbeats 4000000 in
theorem c_beginPitch (V : xV) {w z c at' : Nat} {f : xH} {a2 a4 a5 a6 a7 a8 : Int32} {g : Nat → Int32} {pt : Nat → xZ} {post : Option Value → xH → Nat → Prop} (hT : f (w + 1) = some (xTx w a2 (nI c) a4 a5 a6 a7 a8)) (hg : f (w + 3) = some (xI 144 g)) (hc : c < 24) (hpt : Pit g pt c)
    (hp : ∀ g', Pit g' (zrow pt c) (c + 1) → post none (xu (xu f (w + 3) (xI 144 g')) (w + 1) (xTx w a2 (nI (c + 1)) a4 a5 1 a7 (nI at'))) z) :
    xMet V yX4_beginPitch cX4_beginPitch 3 none 1 0 0 [.ref (w + 1), .int (nI at')] f z post := by
  refine xMet_of false (by decide) (Nat.le_of_ble_eq_true rfl) (fun h => by cases h) (fun X hX O Rt => ?_)
  have O : xO X cX4_beginPitch 3 RX4 1 0 0 false := O
  show xG X 0 [some (.ref (w + 1)), some (.int (nI at')), none] [] f (z, 0, 0)
  have six : (6 : Int32).toInt = 6 := rfl
  have loop : ∀ k i, i + k = 6 → ∀ g', (∀ j k, j < c → k < 6 → (g' (j * 6 + k)).toInt = pt j k) → (∀ k, k < i → (g' (c * 6 + k)).toInt = 0) → xG X 2 [some (.ref (w + 1)), some (.int (nI at')), some (.int (nI i))] [] (xu f (w + 3) (xI 144 g')) (z, 0, 0) := by
    intro k
    induction k with
    | zero =>
      intro i hi g' h1 h2
      have hti : (nI i).toInt = 6 := by rw [nI_toInt (by omega)]; omega
      have u1 : ∀ e2, xu f (w + 3) e2 (w + 1) = f (w + 1) := fun e2 => xu_n (by omega)
      have nc : nI c + 1 = nI (c + 1) := nI_1 c
      refine xgo O Rt xplX4_q xclX4_q [2] 40 ?_
      simp (maxSteps := 10000000) (disch := omega) only [↓reduceIte, ↓xrun_s, ↓xck_e, xdo_e, xlg_0, xlg_c, xst1_0, xst1_1, xst1_c, xst2_0, xst2_1, xst2_c, xk2_n, xk2_i, xk2_a, xk2_l, xct_i, xct_a, xct_l, xf4_0, xf4_1, xf4_2, xf4_3, List.contains_cons, List.contains_nil, Bool.or_false, Bool.false_or, Bool.or_self, Bool.true_or, Bool.or_true, cond_true, cond_false, List.set_cons_zero, List.set_cons_succ, List.length_cons, List.length_nil, true_and, and_true, xu_s, xu_u, xeqs, Nat.le_refl, not_true_eq_false, xq_10, xq_01, Int32.reduceAdd, Int32.reduceMul, Int32.reduceSub, Int32.reduceLE, Int32.reduceLT, Int32.reduceToNatClampNeg, Nat.reduceAdd, Nat.reduceMul, Nat.reduceBEq, Nat.reduceLT, Nat.reduceLeDiff, Nat.reduceEqDiff, Nat.zero_add, Bool.false_eq_true, reduceCtorEq, if_false, if_true, not_false_eq_true, true_imp_iff, false_imp_iff, imp_self, ↓xil_e, ↓xll_e, ↓xal_e, ↓xs1i_e, ↓xs2i_e, ↓xs1l_e, ↓xs2l_e, ↓xsil_e, ↓xs1_e, ↓xs2_e, ↓xs1a_e, ↓xsia_e, ↓xsiia_e, ↓xslia_e, ↓xsaia_e, ↓xsva_e, ↓xse1i_e, ↓xse1l_e, ↓xse1a_e, ↓xse0_e, ↓xfv_0, ↓xfv_c, ↓xgf_e, ↓xpf_e, ↓xia_e, ↓xia_n, ↓xba_e, ↓xba_n, ↓xla_e, ↓xla_n, ↓xob_e, ↓xra_e, ↓xno_e, ↓xle_e, ↓xnr_i, ↓xnr_b0, ↓xnr_b1, ↓xnr_n, ↓xdo_e, ↓xkl_0, ↓xe_iconst, ↓xe_bipush, ↓xe_iadd, ↓xe_imul, ↓xe_dup, ↓xe_iload_n, ↓xe_aload_n, ↓xe_istore_n, ↓xe_iinc, ↓xe_goto, ↓xe_getfield, ↓xe_putfield, ↓xe_iastore, ↓xe_return_, ↓xe_icmp_ge, dX4_beginPitch_0, dX4_beginPitch_1, dX4_beginPitch_2, dX4_beginPitch_3, dX4_beginPitch_5, dX4_beginPitch_8, dX4_beginPitch_9, dX4_beginPitch_12, dX4_beginPitch_13, dX4_beginPitch_16, dX4_beginPitch_18, dX4_beginPitch_19, dX4_beginPitch_20, dX4_beginPitch_21, dX4_beginPitch_22, dX4_beginPitch_23, dX4_beginPitch_26, dX4_beginPitch_29, dX4_beginPitch_30, dX4_beginPitch_31, dX4_beginPitch_34, dX4_beginPitch_35, dX4_beginPitch_36, dX4_beginPitch_39, dX4_beginPitch_40, dX4_beginPitch_41, dX4_beginPitch_44, dX4_beginPitch_45, dX4_beginPitch_46, dX4_beginPitch_49, xpX4_15, xpX4_27, xpX4_33, xpX4_71, xkb_6, xki_0, xki_1, n_le, six, hti, u1, hT, nc, xft_4_3, xft_4_6, xft_4_8, xt_5_24, xtc_5_24, xt_26_m24, xtc_26_m24]
      refine ⟨fun _ => hp g' (fun j k hj hk => ?_), fun q => absurd (by omega) q⟩
      simp only [zrow]
      by_cases e : j = c
      · rw [if_pos e, e]; exact h2 k (by omega)
      · rw [if_neg e]; exact h1 j k (by omega) hk
    | succ k ih =>
      intro i hi g' h1 h2
      have hti : (nI i).toInt = (i : Int) := nI_toInt (by omega)
      have ni : nI i + 1 = nI (i + 1) := nI_1 i
      have u1 : ∀ e2, xu f (w + 3) e2 (w + 1) = f (w + 1) := fun e2 => xu_n (by omega)
      have c6 : nI c * 6 = nI (c * 6) := pk_mul c 6
      have ci : nI (c * 6) + nI i = nI (c * 6 + i) := nI_add _ _
      have v0 : vp_in (nI (c * 6 + i)) 144 := vp_in_nI (by omega) (by omega)
      have v1 : (nI (c * 6 + i)).toNatClampNeg = c * 6 + i := nI_clamp (by omega)
      refine xgo O Rt xplX4_q xclX4_q [2] 40 ?_
      simp (maxSteps := 10000000) (disch := omega) only [↓reduceIte, ↓xrun_s, ↓xck_e, xdo_e, xlg_0, xlg_c, xst1_0, xst1_1, xst1_c, xst2_0, xst2_1, xst2_c, xk2_n, xk2_i, xk2_a, xk2_l, xct_i, xct_a, xct_l, xf4_0, xf4_1, xf4_2, xf4_3, List.contains_cons, List.contains_nil, Bool.or_false, Bool.false_or, Bool.or_self, Bool.true_or, Bool.or_true, cond_true, cond_false, List.set_cons_zero, List.set_cons_succ, List.length_cons, List.length_nil, true_and, and_true, xu_s, xu_u, xeqs, Nat.le_refl, not_true_eq_false, xq_10, xq_01, Int32.reduceAdd, Int32.reduceMul, Int32.reduceSub, Int32.reduceLE, Int32.reduceLT, Int32.reduceToNatClampNeg, Nat.reduceAdd, Nat.reduceMul, Nat.reduceBEq, Nat.reduceLT, Nat.reduceLeDiff, Nat.reduceEqDiff, Nat.zero_add, Bool.false_eq_true, reduceCtorEq, if_false, if_true, not_false_eq_true, true_imp_iff, false_imp_iff, imp_self, ↓xil_e, ↓xll_e, ↓xal_e, ↓xs1i_e, ↓xs2i_e, ↓xs1l_e, ↓xs2l_e, ↓xsil_e, ↓xs1_e, ↓xs2_e, ↓xs1a_e, ↓xsia_e, ↓xsiia_e, ↓xslia_e, ↓xsaia_e, ↓xsva_e, ↓xse1i_e, ↓xse1l_e, ↓xse1a_e, ↓xse0_e, ↓xfv_0, ↓xfv_c, ↓xgf_e, ↓xpf_e, ↓xia_e, ↓xia_n, ↓xba_e, ↓xba_n, ↓xla_e, ↓xla_n, ↓xob_e, ↓xra_e, ↓xno_e, ↓xle_e, ↓xnr_i, ↓xnr_b0, ↓xnr_b1, ↓xnr_n, ↓xdo_e, ↓xkl_0, ↓xe_iconst, ↓xe_bipush, ↓xe_iadd, ↓xe_imul, ↓xe_dup, ↓xe_iload_n, ↓xe_aload_n, ↓xe_istore_n, ↓xe_iinc, ↓xe_goto, ↓xe_getfield, ↓xe_putfield, ↓xe_iastore, ↓xe_return_, ↓xe_icmp_ge, dX4_beginPitch_0, dX4_beginPitch_1, dX4_beginPitch_2, dX4_beginPitch_3, dX4_beginPitch_5, dX4_beginPitch_8, dX4_beginPitch_9, dX4_beginPitch_12, dX4_beginPitch_13, dX4_beginPitch_16, dX4_beginPitch_18, dX4_beginPitch_19, dX4_beginPitch_20, dX4_beginPitch_21, dX4_beginPitch_22, dX4_beginPitch_23, dX4_beginPitch_26, dX4_beginPitch_29, dX4_beginPitch_30, dX4_beginPitch_31, dX4_beginPitch_34, dX4_beginPitch_35, dX4_beginPitch_36, dX4_beginPitch_39, dX4_beginPitch_40, dX4_beginPitch_41, dX4_beginPitch_44, dX4_beginPitch_45, dX4_beginPitch_46, dX4_beginPitch_49, xpX4_15, xpX4_27, xpX4_33, xpX4_71, xkb_6, xki_0, xki_1, n_le, six, hti, u1, hT, ni, c6, ci, v0, v1, xft_4_3, xft_4_6, xft_4_8, xt_5_24, xtc_5_24, xt_26_m24, xtc_26_m24]
      refine ⟨fun q => absurd q (by omega), fun _ => ?_⟩
      refine ih (i + 1) (by omega) _ (fun j k hj hk => ?_) (fun k hk => ?_)
      · simp only [upd]
        rw [if_neg (by omega)]
        exact h1 j k hj hk
      · simp only [upd]
        by_cases e : k = i
        · rw [if_pos (by omega)]; rfl
        · rw [if_neg (by omega)]; exact h2 k (by omega)
  have := loop 6 0 (by omega) g hpt (fun k hk => absurd hk (by omega))
  rw [xu_id hg] at this
  refine xgo O Rt xplX4_q xclX4_q [2] 40 ?_
  simp (maxSteps := 10000000) (disch := omega) only [↓reduceIte, ↓xrun_s, ↓xck_e, xdo_e, xlg_0, xlg_c, xst1_0, xst1_1, xst1_c, xst2_0, xst2_1, xst2_c, xk2_n, xk2_i, xk2_a, xk2_l, xct_i, xct_a, xct_l, xf4_0, xf4_1, xf4_2, xf4_3, List.contains_cons, List.contains_nil, Bool.or_false, Bool.false_or, Bool.or_self, Bool.true_or, Bool.or_true, cond_true, cond_false, List.set_cons_zero, List.set_cons_succ, List.length_cons, List.length_nil, true_and, and_true, xu_s, xu_u, xeqs, Nat.le_refl, not_true_eq_false, xq_10, xq_01, Int32.reduceAdd, Int32.reduceMul, Int32.reduceSub, Int32.reduceLE, Int32.reduceLT, Int32.reduceToNatClampNeg, Nat.reduceAdd, Nat.reduceMul, Nat.reduceBEq, Nat.reduceLT, Nat.reduceLeDiff, Nat.reduceEqDiff, Nat.zero_add, Bool.false_eq_true, reduceCtorEq, if_false, if_true, not_false_eq_true, true_imp_iff, false_imp_iff, imp_self, ↓xil_e, ↓xll_e, ↓xal_e, ↓xs1i_e, ↓xs2i_e, ↓xs1l_e, ↓xs2l_e, ↓xsil_e, ↓xs1_e, ↓xs2_e, ↓xs1a_e, ↓xsia_e, ↓xsiia_e, ↓xslia_e, ↓xsaia_e, ↓xsva_e, ↓xse1i_e, ↓xse1l_e, ↓xse1a_e, ↓xse0_e, ↓xfv_0, ↓xfv_c, ↓xgf_e, ↓xpf_e, ↓xia_e, ↓xia_n, ↓xba_e, ↓xba_n, ↓xla_e, ↓xla_n, ↓xob_e, ↓xra_e, ↓xno_e, ↓xle_e, ↓xnr_i, ↓xnr_b0, ↓xnr_b1, ↓xnr_n, ↓xdo_e, ↓xkl_0, ↓xe_iconst, ↓xe_bipush, ↓xe_iadd, ↓xe_imul, ↓xe_dup, ↓xe_iload_n, ↓xe_aload_n, ↓xe_istore_n, ↓xe_iinc, ↓xe_goto, ↓xe_getfield, ↓xe_putfield, ↓xe_iastore, ↓xe_return_, ↓xe_icmp_ge, dX4_beginPitch_0, dX4_beginPitch_1, dX4_beginPitch_2, dX4_beginPitch_3, dX4_beginPitch_5, dX4_beginPitch_8, dX4_beginPitch_9, dX4_beginPitch_12, dX4_beginPitch_13, dX4_beginPitch_16, dX4_beginPitch_18, dX4_beginPitch_19, dX4_beginPitch_20, dX4_beginPitch_21, dX4_beginPitch_22, dX4_beginPitch_23, dX4_beginPitch_26, dX4_beginPitch_29, dX4_beginPitch_30, dX4_beginPitch_31, dX4_beginPitch_34, dX4_beginPitch_35, dX4_beginPitch_36, dX4_beginPitch_39, dX4_beginPitch_40, dX4_beginPitch_41, dX4_beginPitch_44, dX4_beginPitch_45, dX4_beginPitch_46, dX4_beginPitch_49, xpX4_15, xpX4_27, xpX4_33, xpX4_71, xkb_6, xki_0, xki_1, xft_4_3, xft_4_6, xft_4_8, xt_5_24, xtc_5_24, xt_26_m24, xtc_26_m24]
  exact this
