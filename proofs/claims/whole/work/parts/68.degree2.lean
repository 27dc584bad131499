/-! ===== TuningTablesModel: degreeOf ===== -/
/-- the degrees that are tried -/
def Rdd (A Q d : Int) : Prop := -(A + 2 * Q) ≤ d * Q ∧ d * Q ≤ A + 2 * Q
theorem Rdd.small {A Q d : Int} (h : Rdd A Q d) (hA : A ≤ 1052748572661653371339815191742032904192) (hQ : 1329227995784915872903807060280344576 ≤ Q) : -794 ≤ d ∧ d ≤ 794 := by
  obtain ⟨h1, h2⟩ := h
  constructor
  · rcases Int.lt_or_le d (-794) with q | q
    · have := Int.mul_le_mul_of_nonneg_right (show d ≤ -795 by omega) (show 0 ≤ Q by omega)
      omega
    · exact q
  · rcases Int.lt_or_le 794 d with q | q
    · have := Int.mul_le_mul_of_nonneg_right (show 795 ≤ d by omega) (show 0 ≤ Q by omega)
      omega
    · exact q
theorem Rdd.mid {A Q a b c : Int} (h1 : Rdd A Q a) (h2 : Rdd A Q c) (hQ : 0 ≤ Q) (x : a ≤ b) (y : b ≤ c) : Rdd A Q b := by
  have e1 := Int.mul_le_mul_of_nonneg_right x hQ
  have e2 := Int.mul_le_mul_of_nonneg_right y hQ
  exact ⟨Int.le_trans h1.1 e1, Int.le_trans e2 h2.2⟩
theorem dl_lt {Q D d M : Int} (hQ : 0 < Q) (h1 : 2 * (D * Q) - Q < 2 * M) (h : d < D) : 0 < 2 * M - (2 * (d * Q) + Q) := by
  have := Int.mul_le_mul_of_nonneg_right (show d + 1 ≤ D by omega) (show 0 ≤ Q by omega)
  rw [Int.add_mul] at this
  omega
theorem dl_ge {Q D d M : Int} (hQ : 0 < Q) (h2 : 2 * M ≤ 2 * (D * Q) + Q) (h : D ≤ d) : ¬ 0 < 2 * M - (2 * (d * Q) + Q) := by
  have := Int.mul_le_mul_of_nonneg_right h (show 0 ≤ Q by omega)
  omega
theorem dl_eq {Q D d M : Int} (h1 : 2 * (D * Q) - Q < 2 * M) (h : d = D) : 0 < 2 * M - (2 * (d * Q) - Q) := by
  rw [h]; omega
theorem dl_gt {Q D d M : Int} (hQ : 0 < Q) (h2 : 2 * M ≤ 2 * (D * Q) + Q) (h : D < d) : ¬ 0 < 2 * M - (2 * (d * Q) - Q) := by
  have := Int.mul_le_mul_of_nonneg_right (show D + 1 ≤ d by omega) (show 0 ≤ Q by omega)
  rw [Int.add_mul] at this
  omega
theorem dl_cap {A Q d M l : Int} (h : Rdd A Q d) (hA : A ≤ 1052748572661653371339815191742032904192) (hA1 : M ≤ A) (hA2 : -M ≤ A) (hQ : 1329227995784915872903807060280344576 ≤ Q ∧ Q ≤ 5316911983139663491615228241121378304) (hl : l = 2 * d + 1 ∨ l = 2 * d - 1) : -4253529586511730793292182592897102643200 ≤ 2 * M - l * Q ∧ 2 * M - l * Q ≤ 4253529586511730793292182592897102643200 := by
  obtain ⟨h1, h2⟩ := h
  have e1 : (2 * d + 1) * Q = 2 * (d * Q) + Q := by rw [Int.add_mul, Int.mul_assoc]; omega
  have e2 : (2 * d - 1) * Q = 2 * (d * Q) - Q := by rw [Int.sub_mul, Int.mul_assoc]; omega
  rcases hl with q | q
  · rw [q, e1]; omega
  · rw [q, e2]; omega
theorem dl_0 {A Q M t0 A0 L o : Int} (hA1 : M ≤ A) (hA2 : -M ≤ A) (hQ : 1329227995784915872903807060280344576 ≤ Q) (hL : 1048558 ≤ L) (l3 : Q ≤ (L + 18) * 1267650600228229401496703205376) (ho : o ≤ 6000) (hE1 : -(36 * (o * 1267650600228229401496703205376)) ≤ M - A0 * 1267650600228229401496703205376) (hE2 : M - A0 * 1267650600228229401496703205376 ≤ 36 * (o * 1267650600228229401496703205376)) (ht : -800 ≤ t0 ∧ t0 ≤ 800) (h3 : 0 ≤ A0 → 0 ≤ t0 * L ∧ t0 * L ≤ A0) (h4 : A0 ≤ 0 → A0 ≤ t0 * L ∧ t0 * L ≤ 0) : Rdd A Q t0 := by
  have c1 : ∀ u : Int, 0 ≤ u → u ≤ 800 → u * Q ≤ (u * L + 14400) * 1267650600228229401496703205376 ∧ 0 ≤ u * Q := by
    intro u u1 u2
    have a1 := Int.mul_le_mul_of_nonneg_left l3 u1
    have a2 : u * ((L + 18) * 1267650600228229401496703205376) = (u * L + u * 18) * 1267650600228229401496703205376 := by rw [← Int.mul_assoc, Int.mul_add]
    have a3 := Int.mul_nonneg u1 (show 0 ≤ Q by omega)
    omega
  rcases Int.le_total 0 A0 with q | q
  · have a1 := h3 q
    have a2 : 0 ≤ t0 := by
      rcases Int.lt_or_le t0 0 with y | y
      · have := Int.mul_le_mul_of_nonneg_right (show t0 ≤ -1 by omega) (show 0 ≤ L by omega)
        omega
      · exact y
    have a3 := c1 t0 a2 (by omega)
    constructor <;> omega
  · have a1 := h4 q
    have a2 : t0 ≤ 0 := by
      rcases Int.lt_or_le 0 t0 with y | y
      · have := Int.mul_le_mul_of_nonneg_right (show 1 ≤ t0 by omega) (show 0 ≤ L by omega)
        omega
      · exact y
    have a3 := c1 (-t0) (by omega) (by omega)
    rw [Int.neg_mul, Int.neg_mul] at a3
    constructor <;> omega
/-- what is known of the degrees that are tried, with no number in sight -/
def DgW (e P : xZ) (m D : Int) (R : Int → Prop) : Prop :=
  (∀ d, R d → -794 ≤ d ∧ d ≤ 794) ∧ (∀ a b c, R a → R c → a ≤ b → b ≤ c → R b) ∧ R D ∧
  (∀ d l, R d → (l = 2 * d + 1 ∨ l = 2 * d - 1) → bd (zlin (2 * m) e l P) 80000 ∧ Cap (zlin (2 * m) e l P)) ∧
  (∀ d, 0 < 2 * m * sz e - (2 * d + 1) * sz P ↔ d < D) ∧ (∀ d, 0 < 2 * m * sz e - (2 * d - 1) * sz P ↔ d ≤ D)
theorem dw_1 {S l o : Int} (h1 : -29243015907268149203883755326167580672 ≤ S) (h2 : S ≤ 29243015907268149203883755326167580672) (h3 : -(o * 1267650600228229401496703205376) ≤ S - l * 1267650600228229401496703205376) (h4 : S - l * 1267650600228229401496703205376 ≤ o * 1267650600228229401496703205376) (h5 : o ≤ 6000) : -23074700 ≤ l ∧ l ≤ 23074700 := by omega
theorem dw_2 {M : Int} (h1 : -(36 * 29243015907268149203883755326167580672) ≤ M) (h2 : M ≤ 36 * 29243015907268149203883755326167580672) : ∃ A : Int, A ≤ 1052748572661653371339815191742032904192 ∧ M ≤ A ∧ -M ≤ A := by
  rcases Int.le_total 0 M with q | q
  · exact ⟨M, by omega, by omega, by omega⟩
  · exact ⟨-M, by omega, by omega, by omega⟩
theorem dw_3 {M A Q D : Int} (hQ : 0 < Q) (h1 : M ≤ A) (h2 : -M ≤ A) (h3 : 2 * (D * Q) - Q < 2 * M) (h4 : 2 * M ≤ 2 * (D * Q) + Q) : Rdd A Q D := ⟨by omega, by omega⟩
theorem dw_4 {a L : Int} (h1 : -(36 * 23074700) ≤ a) (h2 : a ≤ 36 * 23074700) (hL : 1048558 ≤ L) : (-850000000 ≤ a ∧ a ≤ 850000000) ∧ -(800 * L) ≤ a ∧ a ≤ 800 * L := by omega
theorem dw_5 {Q : Int} (d : Int) : (2 * d + 1) * Q = 2 * (d * Q) + Q := by rw [Int.add_mul, Int.mul_assoc]; omega
theorem dw_6 {Q : Int} (d : Int) : (2 * d - 1) * Q = 2 * (d * Q) - Q := by rw [Int.sub_mul, Int.mul_assoc]; omega
theorem dw_7 {Q d M : Int} (h : 0 < 2 * M - (2 * (d * Q) + Q)) (hQ : 0 < Q) : 0 < 2 * M - (2 * (d * Q) - Q) := by omega
theorem dw_8 {Q : Int} (h : 1329227995784915872903807060280344576 ≤ Q) : 0 < Q := by omega
theorem dg_world {e P : xZ} {m : Int} (hsd : Sdg e P) (hper : Per P) (hpn : ∀ k, k < 6 → 0 ≤ P k) (hm : 1 ≤ m ∧ m ≤ 36) :
    ∃ R : Int → Prop, DgW e P m (dg (sz e) (sz P) m) R ∧
      ((-850000000 ≤ m * lq e 6 ∧ m * lq e 6 ≤ 850000000) ∧ 1048558 ≤ lq P 6 ∧ lq P 6 ≤ 5000000 ∧ ((-(800 * lq P 6) ≤ m * lq e 6 ∧ m * lq e 6 ≤ 800 * lq P 6) ∧ ∀ t0, (-800 ≤ t0 ∧ t0 ≤ 800) → (0 ≤ m * lq e 6 → 0 ≤ t0 * lq P 6 ∧ t0 * lq P 6 ≤ m * lq e 6) → (m * lq e 6 ≤ 0 → m * lq e 6 ≤ t0 * lq P 6 ∧ t0 * lq P 6 ≤ 0) → R t0)) := by
  have hm1 : (-36 : Int) ≤ m := by omega
  have hm2 : m ≤ 36 := hm.2
  have hQ0 : 0 < sz P := dw_8 hper.2.1
  have hE := sz_lq e
  have hEo : ((offN e 6 : Nat) : Int) ≤ 6000 := by have := off_bd (B := 1000) hsd.1.1 6 (by omega); omega
  have hEm := mulb (a := m) (b := sz e - lq e 6 * 1267650600228229401496703205376) (A := 36) (B := (offN e 6 : Int) * 1267650600228229401496703205376) hm1 hm2 hE.1 hE.2
  have hlqe := dw_1 hsd.1.2.1 hsd.1.2.2 hE.1 hE.2 hEo
  have hml := mulb (a := m) (b := lq e 6) (A := 36) (B := 23074700) hm1 hm2 hlqe.1 hlqe.2
  rw [Int.mul_sub, show m * (lq e 6 * 1267650600228229401496703205376) = m * lq e 6 * 1267650600228229401496703205376 from (Int.mul_assoc ..).symm] at hEm
  have hMb := mulb (a := m) (b := sz e) (A := 36) (B := 29243015907268149203883755326167580672) hm1 hm2 hsd.1.2.1 hsd.1.2.2
  obtain ⟨A, hA0, hA1, hA2⟩ := dw_2 hMb.1 hMb.2
  have e2m : 2 * m * sz e = 2 * (m * sz e) := Int.mul_assoc ..
  obtain ⟨hdp1, hdp2⟩ := dg_prop (S := sz e) (Q := sz P) (m := m) hQ0
  obtain ⟨l1, l2, l3⟩ := lqP hper
  rw [e2m, dw_6] at hdp1
  rw [e2m, dw_5] at hdp2
  have h4 := dw_4 hml.1 hml.2 l1
  generalize dg (sz e) (sz P) m = D at hdp1 hdp2 ⊢
  have RD0 : Rdd A (sz P) D := dw_3 hQ0 hA1 hA2 hdp1 hdp2
  refine ⟨Rdd A (sz P), ⟨fun d hd => hd.small hA0 hper.2.1, fun a b c h1 h2 h3 h4 => h1.mid h2 (Int.le_of_lt hQ0) h3 h4, RD0, ?_, ?_, ?_⟩, h4.1, l1, l2, h4.2, ?_⟩
  · intro d l hd hl
    have hsm := hd.small hA0 hper.2.1
    refine cap_deg hsd hper hpn hm ?_ ?_
    · clear hA0 hA1 hA2 hEm hml hMb hE hlqe hdp1 hdp2 l1 l2 l3 h4 RD0 hd e2m hEo hQ0
      omega
    · rw [e2m]
      exact dl_cap hd hA0 hA1 hA2 hper.2 hl
  · intro d
    rw [e2m, dw_5]
    constructor
    · intro h
      rcases Int.lt_or_le d D with q | q
      · exact q
      · exact absurd h (dl_ge hQ0 hdp2 q)
    · exact dl_lt hQ0 hdp1
  · intro d
    rw [e2m, dw_6]
    constructor
    · intro h
      rcases Int.lt_or_le D d with q | q
      · exact absurd h (dl_gt hQ0 hdp2 q)
      · exact q
    · intro h
      rcases Int.lt_or_eq_of_le h with q | q
      · exact dw_7 (dl_lt hQ0 hdp1 q) hQ0
      · exact dl_eq hdp1 q
  · intro t0 h1 h2 h3
    exact dl_0 hA1 hA2 hper.2.1 l1 l3 hEo hEm.1 hEm.2 h1 h2 h3
def Hid (p : Prop) : Prop := p
theorem st_dn {D d d' : Int} {n : Nat} (w : d' = d - 1) (h : D < d) (q : d - D ≤ ((n + 1 : Nat) : Int)) : D ≤ d' ∧ d' ≤ d ∧ d' - D ≤ (n : Int) := by omega
theorem st_up {D d d' : Int} {n : Nat} (w : d' = d + 1) (h : d < D) (q : D - d ≤ ((n + 1 : Nat) : Int)) : d ≤ d' ∧ d' ≤ D ∧ D - d' ≤ (n : Int) := by omega
set_option maxRecDepth 100000 in
set_option maxHeartbeats 8000000 in
theorem c6_degreeOf (V : xV) {v z ea : Nat} {f : xH} {i3 i4 i5 i14 i15 i16 i17 i18 i19 i21 i22 m : Int32} {e P : xZ} {post : Option Value → xH → Nat → Prop} (h6 : f v = some (x6 v i3 i4 i5 i14 i15 i16 i17 i18 i19 i21 i22)) (hC : RfC f v) (hS : Scr f v) (he : E6 f ea e) (hP : E6 f (v + 5) P) (n1 : ea < v + 6 ∨ v + 9 ≤ ea) (hsd : Sdg e P) (hper : Per P) (hpn : ∀ k, k < 6 → 0 ≤ P k) (hm : 1 ≤ m.toInt ∧ m.toInt ≤ 36)
    (hp : ∀ (r : Int32) f', r.toInt = dg (sz e) (sz P) m.toInt → (∀ q, q < v + 6 ∨ v + 9 ≤ q → f' q = f q) → Scr f' v → post (some (.int r)) f' z) :
    xMet V yX6_degreeOf cX6_degreeOf 4 (some .int) 5 0 0 [.ref v, .ref ea, .int m] f z post := by
  refine xMet_of false (by decide) (Nat.le_of_ble_eq_true rfl) (fun h => by cases h) (fun X hX O Rt => ?_)
  have O : xO X cX6_degreeOf 4 RX6 5 0 0 false := O
  show xG X 0 [some (.ref v), some (.ref ea), some (.int m), none] [] f (z, 0, 0)
  have hb : bd e 1000 := hsd.1.1
  have hbP3 : bd P 3 := hper.1
  have two : (2 : Int32).toInt = 2 := rfl
  have mone : (-1 : Int32).toInt = -1 := rfl
  have ht : ((2 : Int32) * m).toInt = 2 * m.toInt := by rw [n_mul (by rw [two]; omega) (by rw [two]; omega), two]
  obtain ⟨R, ⟨Rsm, Rmid, RD0, caps, iff1, iff2⟩, hfin⟩ := dg_world hsd hper hpn hm
  have hfin : Hid _ := hfin
  have hbe : bd e 80000 := hb.mono (by omega)
  have hbP : bd P 80000 := hbP3.mono (by omega)
  generalize hD : dg (sz e) (sz P) m.toInt = D at hp RD0 iff1 iff2
  clear hsd hper hpn hD
  have b1 : ∀ k, k < 6 → -1000000 ≤ ((2 : Int32) * m).toInt * e k ∧ ((2 : Int32) * m).toInt * e k ≤ 1000000 := fun k hk => by
    have := mulb (a := 2 * m.toInt) (b := e k) (A := 72) (B := 1000) (by omega) (by omega) (hb k hk).1 (hb k hk).2
    rw [ht]; omega
  have b2 : ∀ l : Int, -1600 ≤ l → l ≤ 1600 → ∀ k, k < 6 → -1000000 ≤ l * P k ∧ l * P k ≤ 1000000 := fun l x1 x2 k hk => by
    have := mulb (a := l) (b := P k) (A := 1600) (B := 3) x1 x2 (hbP3 k hk).1 (hbP3 k hk).2
    omega
  have loop2 : ∀ n : Nat, ∀ (d : Int32) f', R d.toInt → D ≤ d.toInt → d.toInt - D ≤ n → (∀ a, a < v + 6 ∨ v + 9 ≤ a → f' a = f a) → Scr f' v → xG X 45 [some (.ref v), some (.ref ea), some (.int m), some (.int d)] [] f' (z, 0, 0) := by
    intro n
    induction n with
    | zero =>
      intro d f' hR q1 q2 k1 hS'
      have hsm := Rsm _ hR
      have g6 : f' v = some (x6 v i3 i4 i5 i14 i15 i16 i17 i18 i19 i21 i22) := by rw [k1 _ (by omega)]; exact h6
      have w1 : ((2 : Int32) * d).toInt = 2 * d.toInt := by rw [n_mul (by rw [two]; omega) (by rw [two]; omega), two]
      have w2 : ((2 : Int32) * d - 1).toInt = 2 * d.toInt - 1 := by rw [n_sub (by rw [w1, n_1]; omega) (by rw [w1, n_1]; omega), w1, n_1]
      have hcp := caps d.toInt (2 * d.toInt - 1) hR (Or.inr rfl)
      refine xgo O Rt xplX6_q xclX6_q [19, 45] 30 ?_
      simp (maxSteps := 10000000) (disch := omega) only [↓reduceIte, ↓xrun_s, ↓xck_e, xdo_e, xlg_0, xlg_c, xst1_0, xst1_1, xst1_c, xst2_0, xst2_1, xst2_c, xk2_n, xk2_i, xk2_a, xk2_l, xct_i, xct_a, xct_l, xf4_0, xf4_1, xf4_2, xf4_3, List.contains_cons, List.contains_nil, Bool.or_false, Bool.false_or, Bool.or_self, Bool.true_or, Bool.or_true, cond_true, cond_false, List.set_cons_zero, List.set_cons_succ, List.length_cons, List.length_nil, true_and, and_true, xu_s, xu_u, xeqs, Nat.le_refl, not_true_eq_false, xq_10, xq_01, Int32.reduceAdd, Int32.reduceMul, Int32.reduceSub, Int32.reduceLE, Int32.reduceLT, Int32.reduceToNatClampNeg, Nat.reduceAdd, Nat.reduceMul, Nat.reduceBEq, Nat.reduceLT, Nat.reduceLeDiff, Nat.reduceEqDiff, Nat.zero_add, Bool.false_eq_true, reduceCtorEq, if_false, if_true, not_false_eq_true, true_imp_iff, false_imp_iff, imp_self, ↓xil_e, ↓xll_e, ↓xal_e, ↓xs1i_e, ↓xs2i_e, ↓xs1l_e, ↓xs2l_e, ↓xsil_e, ↓xs1_e, ↓xs2_e, ↓xs1a_e, ↓xsia_e, ↓xsiia_e, ↓xslia_e, ↓xsaia_e, ↓xsva_e, ↓xse1i_e, ↓xse1l_e, ↓xse1a_e, ↓xse0_e, ↓xfv_0, ↓xfv_c, ↓xgf_e, ↓xpf_e, ↓xia_e, ↓xia_n, ↓xba_e, ↓xba_n, ↓xla_e, ↓xla_n, ↓xob_e, ↓xra_e, ↓xno_e, ↓xle_e, ↓xnr_i, ↓xnr_b0, ↓xnr_b1, ↓xnr_n, ↓xdo_e, ↓xkl_0, ↓xe_iconst, ↓xe_iadd, ↓xe_isub, ↓xe_imul, ↓xe_lmul, ↓xe_ldiv, ↓xe_i2l, ↓xe_l2i, ↓xe_iload_n, ↓xe_aload_n, ↓xe_istore_n, ↓xe_iinc, ↓xe_goto, ↓xe_getfield, ↓xe_ireturn, ↓xe_if_gt, ↓xe_if_le, ↓xe_invokevirtual, dX6_degreeOf_0, dX6_degreeOf_1, dX6_degreeOf_2, dX6_degreeOf_3, dX6_degreeOf_4, dX6_degreeOf_7, dX6_degreeOf_8, dX6_degreeOf_9, dX6_degreeOf_10, dX6_degreeOf_13, dX6_degreeOf_16, dX6_degreeOf_17, dX6_degreeOf_18, dX6_degreeOf_19, dX6_degreeOf_20, dX6_degreeOf_21, dX6_degreeOf_22, dX6_degreeOf_23, dX6_degreeOf_24, dX6_degreeOf_25, dX6_degreeOf_28, dX6_degreeOf_29, dX6_degreeOf_30, dX6_degreeOf_31, dX6_degreeOf_32, dX6_degreeOf_33, dX6_degreeOf_36, dX6_degreeOf_39, dX6_degreeOf_42, dX6_degreeOf_45, dX6_degreeOf_46, dX6_degreeOf_47, dX6_degreeOf_48, dX6_degreeOf_49, dX6_degreeOf_50, dX6_degreeOf_51, dX6_degreeOf_54, dX6_degreeOf_55, dX6_degreeOf_56, dX6_degreeOf_57, dX6_degreeOf_58, dX6_degreeOf_59, dX6_degreeOf_62, dX6_degreeOf_65, dX6_degreeOf_68, dX6_degreeOf_71, dX6_degreeOf_72, xpX6_36, xki_1, xki_2, xki_m1, g6, xt_36_9, xtc_36_9, xt_42_m23, xtc_42_m23, xt_62_9, xtc_62_9, xt_68_m23, xtc_68_m23]
      refine xg_callVi (Qp := fun r f2 => r.toInt = sg (((2 : Int32) * m).toInt * sz e - ((2 : Int32) * d - 1).toInt * sz P) ∧ (∀ a, a < v + 6 ∨ v + 9 ≤ a → f2 a = f' a) ∧ Scr f2 v) O dX6_degreeOf_59 xl_X6_97 xk_X6_signOf (c6_signOf _ (t := (2 : Int32) * m) (l := (2 : Int32) * d - 1) g6 (hC.kept (k1 _ (by omega)) (k1 _ (by omega))) hS' (he.kept (k1 _ n1)) (hP.kept (k1 _ (by omega))) n1 (by omega) b1 (by rw [w2]; exact b2 _ (by omega) (by omega)) (by rw [w2, ht]; exact hcp.1) (by rw [w2, ht]; exact hcp.2) (fun r f2 x1 x2 x3 => ⟨r, rfl, ⟨x1, x2, x3⟩, rfl⟩)) g6 rfl rfl rfl (Nat.le_of_ble_eq_true rfl) rfl (Nat.le_of_ble_eq_true rfl) (Nat.le_of_ble_eq_true rfl) (Nat.le_of_ble_eq_true rfl) (fun r f2 hq => ?_)
      obtain ⟨x1, x2, x3⟩ := hq
      rw [ht, w2] at x1
      have x1 : 0 < r.toInt ↔ d.toInt ≤ D := by rw [x1, sg_gt, iff2]
      have k2 : ∀ a, a < v + 6 ∨ v + 9 ≤ a → f2 a = f a := fun a ha => by rw [x2 a ha]; exact k1 a ha
      have hcc : (0 < r) = True := eq_true ((n_lt _ _).mpr (by rw [n_0, x1]; omega))
      refine xgo O Rt xplX6_q xclX6_q [19, 45] 30 ?_
      simp (maxSteps := 10000000) (disch := omega) only [↓reduceIte, ↓xrun_s, ↓xck_e, xdo_e, xlg_0, xlg_c, xst1_0, xst1_1, xst1_c, xst2_0, xst2_1, xst2_c, xk2_n, xk2_i, xk2_a, xk2_l, xct_i, xct_a, xct_l, xf4_0, xf4_1, xf4_2, xf4_3, List.contains_cons, List.contains_nil, Bool.or_false, Bool.false_or, Bool.or_self, Bool.true_or, Bool.or_true, cond_true, cond_false, List.set_cons_zero, List.set_cons_succ, List.length_cons, List.length_nil, true_and, and_true, xu_s, xu_u, xeqs, Nat.le_refl, not_true_eq_false, xq_10, xq_01, Int32.reduceAdd, Int32.reduceMul, Int32.reduceSub, Int32.reduceLE, Int32.reduceLT, Int32.reduceToNatClampNeg, Nat.reduceAdd, Nat.reduceMul, Nat.reduceBEq, Nat.reduceLT, Nat.reduceLeDiff, Nat.reduceEqDiff, Nat.zero_add, Bool.false_eq_true, reduceCtorEq, if_false, if_true, not_false_eq_true, true_imp_iff, false_imp_iff, imp_self, ↓xil_e, ↓xll_e, ↓xal_e, ↓xs1i_e, ↓xs2i_e, ↓xs1l_e, ↓xs2l_e, ↓xsil_e, ↓xs1_e, ↓xs2_e, ↓xs1a_e, ↓xsia_e, ↓xsiia_e, ↓xslia_e, ↓xsaia_e, ↓xsva_e, ↓xse1i_e, ↓xse1l_e, ↓xse1a_e, ↓xse0_e, ↓xfv_0, ↓xfv_c, ↓xgf_e, ↓xpf_e, ↓xia_e, ↓xia_n, ↓xba_e, ↓xba_n, ↓xla_e, ↓xla_n, ↓xob_e, ↓xra_e, ↓xno_e, ↓xle_e, ↓xnr_i, ↓xnr_b0, ↓xnr_b1, ↓xnr_n, ↓xdo_e, ↓xkl_0, ↓xe_iconst, ↓xe_iadd, ↓xe_isub, ↓xe_imul, ↓xe_lmul, ↓xe_ldiv, ↓xe_i2l, ↓xe_l2i, ↓xe_iload_n, ↓xe_aload_n, ↓xe_istore_n, ↓xe_iinc, ↓xe_goto, ↓xe_getfield, ↓xe_ireturn, ↓xe_if_gt, ↓xe_if_le, ↓xe_invokevirtual, dX6_degreeOf_0, dX6_degreeOf_1, dX6_degreeOf_2, dX6_degreeOf_3, dX6_degreeOf_4, dX6_degreeOf_7, dX6_degreeOf_8, dX6_degreeOf_9, dX6_degreeOf_10, dX6_degreeOf_13, dX6_degreeOf_16, dX6_degreeOf_17, dX6_degreeOf_18, dX6_degreeOf_19, dX6_degreeOf_20, dX6_degreeOf_21, dX6_degreeOf_22, dX6_degreeOf_23, dX6_degreeOf_24, dX6_degreeOf_25, dX6_degreeOf_28, dX6_degreeOf_29, dX6_degreeOf_30, dX6_degreeOf_31, dX6_degreeOf_32, dX6_degreeOf_33, dX6_degreeOf_36, dX6_degreeOf_39, dX6_degreeOf_42, dX6_degreeOf_45, dX6_degreeOf_46, dX6_degreeOf_47, dX6_degreeOf_48, dX6_degreeOf_49, dX6_degreeOf_50, dX6_degreeOf_51, dX6_degreeOf_54, dX6_degreeOf_55, dX6_degreeOf_56, dX6_degreeOf_57, dX6_degreeOf_58, dX6_degreeOf_59, dX6_degreeOf_62, dX6_degreeOf_65, dX6_degreeOf_68, dX6_degreeOf_71, dX6_degreeOf_72, xpX6_36, xki_1, xki_2, xki_m1, hcc, xt_36_9, xtc_36_9, xt_42_m23, xtc_42_m23, xt_62_9, xtc_62_9, xt_68_m23, xtc_68_m23]
      exact hp d f2 (by omega) k2 x3
    | succ n ih =>
      intro d f' hR q1 q2 k1 hS'
      have hsm := Rsm _ hR
      have g6 : f' v = some (x6 v i3 i4 i5 i14 i15 i16 i17 i18 i19 i21 i22) := by rw [k1 _ (by omega)]; exact h6
      have w1 : ((2 : Int32) * d).toInt = 2 * d.toInt := by rw [n_mul (by rw [two]; omega) (by rw [two]; omega), two]
      have w2 : ((2 : Int32) * d - 1).toInt = 2 * d.toInt - 1 := by rw [n_sub (by rw [w1, n_1]; omega) (by rw [w1, n_1]; omega), w1, n_1]
      have hcp := caps d.toInt (2 * d.toInt - 1) hR (Or.inr rfl)
      refine xgo O Rt xplX6_q xclX6_q [19, 45] 30 ?_
      simp (maxSteps := 10000000) (disch := omega) only [↓reduceIte, ↓xrun_s, ↓xck_e, xdo_e, xlg_0, xlg_c, xst1_0, xst1_1, xst1_c, xst2_0, xst2_1, xst2_c, xk2_n, xk2_i, xk2_a, xk2_l, xct_i, xct_a, xct_l, xf4_0, xf4_1, xf4_2, xf4_3, List.contains_cons, List.contains_nil, Bool.or_false, Bool.false_or, Bool.or_self, Bool.true_or, Bool.or_true, cond_true, cond_false, List.set_cons_zero, List.set_cons_succ, List.length_cons, List.length_nil, true_and, and_true, xu_s, xu_u, xeqs, Nat.le_refl, not_true_eq_false, xq_10, xq_01, Int32.reduceAdd, Int32.reduceMul, Int32.reduceSub, Int32.reduceLE, Int32.reduceLT, Int32.reduceToNatClampNeg, Nat.reduceAdd, Nat.reduceMul, Nat.reduceBEq, Nat.reduceLT, Nat.reduceLeDiff, Nat.reduceEqDiff, Nat.zero_add, Bool.false_eq_true, reduceCtorEq, if_false, if_true, not_false_eq_true, true_imp_iff, false_imp_iff, imp_self, ↓xil_e, ↓xll_e, ↓xal_e, ↓xs1i_e, ↓xs2i_e, ↓xs1l_e, ↓xs2l_e, ↓xsil_e, ↓xs1_e, ↓xs2_e, ↓xs1a_e, ↓xsia_e, ↓xsiia_e, ↓xslia_e, ↓xsaia_e, ↓xsva_e, ↓xse1i_e, ↓xse1l_e, ↓xse1a_e, ↓xse0_e, ↓xfv_0, ↓xfv_c, ↓xgf_e, ↓xpf_e, ↓xia_e, ↓xia_n, ↓xba_e, ↓xba_n, ↓xla_e, ↓xla_n, ↓xob_e, ↓xra_e, ↓xno_e, ↓xle_e, ↓xnr_i, ↓xnr_b0, ↓xnr_b1, ↓xnr_n, ↓xdo_e, ↓xkl_0, ↓xe_iconst, ↓xe_iadd, ↓xe_isub, ↓xe_imul, ↓xe_lmul, ↓xe_ldiv, ↓xe_i2l, ↓xe_l2i, ↓xe_iload_n, ↓xe_aload_n, ↓xe_istore_n, ↓xe_iinc, ↓xe_goto, ↓xe_getfield, ↓xe_ireturn, ↓xe_if_gt, ↓xe_if_le, ↓xe_invokevirtual, dX6_degreeOf_0, dX6_degreeOf_1, dX6_degreeOf_2, dX6_degreeOf_3, dX6_degreeOf_4, dX6_degreeOf_7, dX6_degreeOf_8, dX6_degreeOf_9, dX6_degreeOf_10, dX6_degreeOf_13, dX6_degreeOf_16, dX6_degreeOf_17, dX6_degreeOf_18, dX6_degreeOf_19, dX6_degreeOf_20, dX6_degreeOf_21, dX6_degreeOf_22, dX6_degreeOf_23, dX6_degreeOf_24, dX6_degreeOf_25, dX6_degreeOf_28, dX6_degreeOf_29, dX6_degreeOf_30, dX6_degreeOf_31, dX6_degreeOf_32, dX6_degreeOf_33, dX6_degreeOf_36, dX6_degreeOf_39, dX6_degreeOf_42, dX6_degreeOf_45, dX6_degreeOf_46, dX6_degreeOf_47, dX6_degreeOf_48, dX6_degreeOf_49, dX6_degreeOf_50, dX6_degreeOf_51, dX6_degreeOf_54, dX6_degreeOf_55, dX6_degreeOf_56, dX6_degreeOf_57, dX6_degreeOf_58, dX6_degreeOf_59, dX6_degreeOf_62, dX6_degreeOf_65, dX6_degreeOf_68, dX6_degreeOf_71, dX6_degreeOf_72, xpX6_36, xki_1, xki_2, xki_m1, g6, xt_36_9, xtc_36_9, xt_42_m23, xtc_42_m23, xt_62_9, xtc_62_9, xt_68_m23, xtc_68_m23]
      refine xg_callVi (Qp := fun r f2 => r.toInt = sg (((2 : Int32) * m).toInt * sz e - ((2 : Int32) * d - 1).toInt * sz P) ∧ (∀ a, a < v + 6 ∨ v + 9 ≤ a → f2 a = f' a) ∧ Scr f2 v) O dX6_degreeOf_59 xl_X6_97 xk_X6_signOf (c6_signOf _ (t := (2 : Int32) * m) (l := (2 : Int32) * d - 1) g6 (hC.kept (k1 _ (by omega)) (k1 _ (by omega))) hS' (he.kept (k1 _ n1)) (hP.kept (k1 _ (by omega))) n1 (by omega) b1 (by rw [w2]; exact b2 _ (by omega) (by omega)) (by rw [w2, ht]; exact hcp.1) (by rw [w2, ht]; exact hcp.2) (fun r f2 x1 x2 x3 => ⟨r, rfl, ⟨x1, x2, x3⟩, rfl⟩)) g6 rfl rfl rfl (Nat.le_of_ble_eq_true rfl) rfl (Nat.le_of_ble_eq_true rfl) (Nat.le_of_ble_eq_true rfl) (Nat.le_of_ble_eq_true rfl) (fun r f2 hq => ?_)
      obtain ⟨x1, x2, x3⟩ := hq
      rw [ht, w2] at x1
      have x1 : 0 < r.toInt ↔ d.toInt ≤ D := by rw [x1, sg_gt, iff2]
      have k2 : ∀ a, a < v + 6 ∨ v + 9 ≤ a → f2 a = f a := fun a ha => by rw [x2 a ha]; exact k1 a ha
      by_cases hdD : d.toInt = D
      · have hcc : (0 < r) = True := eq_true ((n_lt _ _).mpr (by rw [n_0, x1]; omega))
        refine xgo O Rt xplX6_q xclX6_q [19, 45] 30 ?_
        simp (maxSteps := 10000000) (disch := omega) only [↓reduceIte, ↓xrun_s, ↓xck_e, xdo_e, xlg_0, xlg_c, xst1_0, xst1_1, xst1_c, xst2_0, xst2_1, xst2_c, xk2_n, xk2_i, xk2_a, xk2_l, xct_i, xct_a, xct_l, xf4_0, xf4_1, xf4_2, xf4_3, List.contains_cons, List.contains_nil, Bool.or_false, Bool.false_or, Bool.or_self, Bool.true_or, Bool.or_true, cond_true, cond_false, List.set_cons_zero, List.set_cons_succ, List.length_cons, List.length_nil, true_and, and_true, xu_s, xu_u, xeqs, Nat.le_refl, not_true_eq_false, xq_10, xq_01, Int32.reduceAdd, Int32.reduceMul, Int32.reduceSub, Int32.reduceLE, Int32.reduceLT, Int32.reduceToNatClampNeg, Nat.reduceAdd, Nat.reduceMul, Nat.reduceBEq, Nat.reduceLT, Nat.reduceLeDiff, Nat.reduceEqDiff, Nat.zero_add, Bool.false_eq_true, reduceCtorEq, if_false, if_true, not_false_eq_true, true_imp_iff, false_imp_iff, imp_self, ↓xil_e, ↓xll_e, ↓xal_e, ↓xs1i_e, ↓xs2i_e, ↓xs1l_e, ↓xs2l_e, ↓xsil_e, ↓xs1_e, ↓xs2_e, ↓xs1a_e, ↓xsia_e, ↓xsiia_e, ↓xslia_e, ↓xsaia_e, ↓xsva_e, ↓xse1i_e, ↓xse1l_e, ↓xse1a_e, ↓xse0_e, ↓xfv_0, ↓xfv_c, ↓xgf_e, ↓xpf_e, ↓xia_e, ↓xia_n, ↓xba_e, ↓xba_n, ↓xla_e, ↓xla_n, ↓xob_e, ↓xra_e, ↓xno_e, ↓xle_e, ↓xnr_i, ↓xnr_b0, ↓xnr_b1, ↓xnr_n, ↓xdo_e, ↓xkl_0, ↓xe_iconst, ↓xe_iadd, ↓xe_isub, ↓xe_imul, ↓xe_lmul, ↓xe_ldiv, ↓xe_i2l, ↓xe_l2i, ↓xe_iload_n, ↓xe_aload_n, ↓xe_istore_n, ↓xe_iinc, ↓xe_goto, ↓xe_getfield, ↓xe_ireturn, ↓xe_if_gt, ↓xe_if_le, ↓xe_invokevirtual, dX6_degreeOf_0, dX6_degreeOf_1, dX6_degreeOf_2, dX6_degreeOf_3, dX6_degreeOf_4, dX6_degreeOf_7, dX6_degreeOf_8, dX6_degreeOf_9, dX6_degreeOf_10, dX6_degreeOf_13, dX6_degreeOf_16, dX6_degreeOf_17, dX6_degreeOf_18, dX6_degreeOf_19, dX6_degreeOf_20, dX6_degreeOf_21, dX6_degreeOf_22, dX6_degreeOf_23, dX6_degreeOf_24, dX6_degreeOf_25, dX6_degreeOf_28, dX6_degreeOf_29, dX6_degreeOf_30, dX6_degreeOf_31, dX6_degreeOf_32, dX6_degreeOf_33, dX6_degreeOf_36, dX6_degreeOf_39, dX6_degreeOf_42, dX6_degreeOf_45, dX6_degreeOf_46, dX6_degreeOf_47, dX6_degreeOf_48, dX6_degreeOf_49, dX6_degreeOf_50, dX6_degreeOf_51, dX6_degreeOf_54, dX6_degreeOf_55, dX6_degreeOf_56, dX6_degreeOf_57, dX6_degreeOf_58, dX6_degreeOf_59, dX6_degreeOf_62, dX6_degreeOf_65, dX6_degreeOf_68, dX6_degreeOf_71, dX6_degreeOf_72, xpX6_36, xki_1, xki_2, xki_m1, hcc, xt_36_9, xtc_36_9, xt_42_m23, xtc_42_m23, xt_62_9, xtc_62_9, xt_68_m23, xtc_68_m23]
        exact hp d f2 hdD k2 x3
      · have hgt : D < d.toInt := by omega
        have hcc : (0 < r) = False := eq_false (fun y => by
          have y := (n_lt _ _).mp y
          rw [n_0, x1] at y
          omega)
        have w3 : (d + (-1)).toInt = d.toInt - 1 := by rw [n_add (by rw [mone]; omega) (by rw [mone]; omega), mone]; omega
        refine xgo O Rt xplX6_q xclX6_q [19, 45] 30 ?_
        simp (maxSteps := 10000000) (disch := omega) only [↓reduceIte, ↓xrun_s, ↓xck_e, xdo_e, xlg_0, xlg_c, xst1_0, xst1_1, xst1_c, xst2_0, xst2_1, xst2_c, xk2_n, xk2_i, xk2_a, xk2_l, xct_i, xct_a, xct_l, xf4_0, xf4_1, xf4_2, xf4_3, List.contains_cons, List.contains_nil, Bool.or_false, Bool.false_or, Bool.or_self, Bool.true_or, Bool.or_true, cond_true, cond_false, List.set_cons_zero, List.set_cons_succ, List.length_cons, List.length_nil, true_and, and_true, xu_s, xu_u, xeqs, Nat.le_refl, not_true_eq_false, xq_10, xq_01, Int32.reduceAdd, Int32.reduceMul, Int32.reduceSub, Int32.reduceLE, Int32.reduceLT, Int32.reduceToNatClampNeg, Nat.reduceAdd, Nat.reduceMul, Nat.reduceBEq, Nat.reduceLT, Nat.reduceLeDiff, Nat.reduceEqDiff, Nat.zero_add, Bool.false_eq_true, reduceCtorEq, if_false, if_true, not_false_eq_true, true_imp_iff, false_imp_iff, imp_self, ↓xil_e, ↓xll_e, ↓xal_e, ↓xs1i_e, ↓xs2i_e, ↓xs1l_e, ↓xs2l_e, ↓xsil_e, ↓xs1_e, ↓xs2_e, ↓xs1a_e, ↓xsia_e, ↓xsiia_e, ↓xslia_e, ↓xsaia_e, ↓xsva_e, ↓xse1i_e, ↓xse1l_e, ↓xse1a_e, ↓xse0_e, ↓xfv_0, ↓xfv_c, ↓xgf_e, ↓xpf_e, ↓xia_e, ↓xia_n, ↓xba_e, ↓xba_n, ↓xla_e, ↓xla_n, ↓xob_e, ↓xra_e, ↓xno_e, ↓xle_e, ↓xnr_i, ↓xnr_b0, ↓xnr_b1, ↓xnr_n, ↓xdo_e, ↓xkl_0, ↓xe_iconst, ↓xe_iadd, ↓xe_isub, ↓xe_imul, ↓xe_lmul, ↓xe_ldiv, ↓xe_i2l, ↓xe_l2i, ↓xe_iload_n, ↓xe_aload_n, ↓xe_istore_n, ↓xe_iinc, ↓xe_goto, ↓xe_getfield, ↓xe_ireturn, ↓xe_if_gt, ↓xe_if_le, ↓xe_invokevirtual, dX6_degreeOf_0, dX6_degreeOf_1, dX6_degreeOf_2, dX6_degreeOf_3, dX6_degreeOf_4, dX6_degreeOf_7, dX6_degreeOf_8, dX6_degreeOf_9, dX6_degreeOf_10, dX6_degreeOf_13, dX6_degreeOf_16, dX6_degreeOf_17, dX6_degreeOf_18, dX6_degreeOf_19, dX6_degreeOf_20, dX6_degreeOf_21, dX6_degreeOf_22, dX6_degreeOf_23, dX6_degreeOf_24, dX6_degreeOf_25, dX6_degreeOf_28, dX6_degreeOf_29, dX6_degreeOf_30, dX6_degreeOf_31, dX6_degreeOf_32, dX6_degreeOf_33, dX6_degreeOf_36, dX6_degreeOf_39, dX6_degreeOf_42, dX6_degreeOf_45, dX6_degreeOf_46, dX6_degreeOf_47, dX6_degreeOf_48, dX6_degreeOf_49, dX6_degreeOf_50, dX6_degreeOf_51, dX6_degreeOf_54, dX6_degreeOf_55, dX6_degreeOf_56, dX6_degreeOf_57, dX6_degreeOf_58, dX6_degreeOf_59, dX6_degreeOf_62, dX6_degreeOf_65, dX6_degreeOf_68, dX6_degreeOf_71, dX6_degreeOf_72, xpX6_36, xki_1, xki_2, xki_m1, hcc, xt_36_9, xtc_36_9, xt_42_m23, xtc_42_m23, xt_62_9, xtc_62_9, xt_68_m23, xtc_68_m23]
        have s3 := st_dn w3 hgt q2
        exact ih (d + (-1)) f2 (Rmid _ _ _ RD0 hR s3.1 s3.2.1) s3.1 s3.2.2 k2 x3
  have loop1 : ∀ n : Nat, ∀ (d : Int32) f', R d.toInt → D - d.toInt ≤ n → (∀ a, a < v + 6 ∨ v + 9 ≤ a → f' a = f a) → Scr f' v → xG X 19 [some (.ref v), some (.ref ea), some (.int m), some (.int d)] [] f' (z, 0, 0) := by
    intro n
    induction n with
    | zero =>
      intro d f' hR q2 k1 hS'
      have hsm := Rsm _ hR
      have g6 : f' v = some (x6 v i3 i4 i5 i14 i15 i16 i17 i18 i19 i21 i22) := by rw [k1 _ (by omega)]; exact h6
      have w1 : ((2 : Int32) * d).toInt = 2 * d.toInt := by rw [n_mul (by rw [two]; omega) (by rw [two]; omega), two]
      have w2 : ((2 : Int32) * d + 1).toInt = 2 * d.toInt + 1 := by rw [n_add (by rw [w1, n_1]; omega) (by rw [w1, n_1]; omega), w1, n_1]
      have hcp := caps d.toInt (2 * d.toInt + 1) hR (Or.inl rfl)
      refine xgo O Rt xplX6_q xclX6_q [19, 45] 30 ?_
      simp (maxSteps := 10000000) (disch := omega) only [↓reduceIte, ↓xrun_s, ↓xck_e, xdo_e, xlg_0, xlg_c, xst1_0, xst1_1, xst1_c, xst2_0, xst2_1, xst2_c, xk2_n, xk2_i, xk2_a, xk2_l, xct_i, xct_a, xct_l, xf4_0, xf4_1, xf4_2, xf4_3, List.contains_cons, List.contains_nil, Bool.or_false, Bool.false_or, Bool.or_self, Bool.true_or, Bool.or_true, cond_true, cond_false, List.set_cons_zero, List.set_cons_succ, List.length_cons, List.length_nil, true_and, and_true, xu_s, xu_u, xeqs, Nat.le_refl, not_true_eq_false, xq_10, xq_01, Int32.reduceAdd, Int32.reduceMul, Int32.reduceSub, Int32.reduceLE, Int32.reduceLT, Int32.reduceToNatClampNeg, Nat.reduceAdd, Nat.reduceMul, Nat.reduceBEq, Nat.reduceLT, Nat.reduceLeDiff, Nat.reduceEqDiff, Nat.zero_add, Bool.false_eq_true, reduceCtorEq, if_false, if_true, not_false_eq_true, true_imp_iff, false_imp_iff, imp_self, ↓xil_e, ↓xll_e, ↓xal_e, ↓xs1i_e, ↓xs2i_e, ↓xs1l_e, ↓xs2l_e, ↓xsil_e, ↓xs1_e, ↓xs2_e, ↓xs1a_e, ↓xsia_e, ↓xsiia_e, ↓xslia_e, ↓xsaia_e, ↓xsva_e, ↓xse1i_e, ↓xse1l_e, ↓xse1a_e, ↓xse0_e, ↓xfv_0, ↓xfv_c, ↓xgf_e, ↓xpf_e, ↓xia_e, ↓xia_n, ↓xba_e, ↓xba_n, ↓xla_e, ↓xla_n, ↓xob_e, ↓xra_e, ↓xno_e, ↓xle_e, ↓xnr_i, ↓xnr_b0, ↓xnr_b1, ↓xnr_n, ↓xdo_e, ↓xkl_0, ↓xe_iconst, ↓xe_iadd, ↓xe_isub, ↓xe_imul, ↓xe_lmul, ↓xe_ldiv, ↓xe_i2l, ↓xe_l2i, ↓xe_iload_n, ↓xe_aload_n, ↓xe_istore_n, ↓xe_iinc, ↓xe_goto, ↓xe_getfield, ↓xe_ireturn, ↓xe_if_gt, ↓xe_if_le, ↓xe_invokevirtual, dX6_degreeOf_0, dX6_degreeOf_1, dX6_degreeOf_2, dX6_degreeOf_3, dX6_degreeOf_4, dX6_degreeOf_7, dX6_degreeOf_8, dX6_degreeOf_9, dX6_degreeOf_10, dX6_degreeOf_13, dX6_degreeOf_16, dX6_degreeOf_17, dX6_degreeOf_18, dX6_degreeOf_19, dX6_degreeOf_20, dX6_degreeOf_21, dX6_degreeOf_22, dX6_degreeOf_23, dX6_degreeOf_24, dX6_degreeOf_25, dX6_degreeOf_28, dX6_degreeOf_29, dX6_degreeOf_30, dX6_degreeOf_31, dX6_degreeOf_32, dX6_degreeOf_33, dX6_degreeOf_36, dX6_degreeOf_39, dX6_degreeOf_42, dX6_degreeOf_45, dX6_degreeOf_46, dX6_degreeOf_47, dX6_degreeOf_48, dX6_degreeOf_49, dX6_degreeOf_50, dX6_degreeOf_51, dX6_degreeOf_54, dX6_degreeOf_55, dX6_degreeOf_56, dX6_degreeOf_57, dX6_degreeOf_58, dX6_degreeOf_59, dX6_degreeOf_62, dX6_degreeOf_65, dX6_degreeOf_68, dX6_degreeOf_71, dX6_degreeOf_72, xpX6_36, xki_1, xki_2, xki_m1, g6, xt_36_9, xtc_36_9, xt_42_m23, xtc_42_m23, xt_62_9, xtc_62_9, xt_68_m23, xtc_68_m23]
      refine xg_callVi (Qp := fun r f2 => r.toInt = sg (((2 : Int32) * m).toInt * sz e - ((2 : Int32) * d + 1).toInt * sz P) ∧ (∀ a, a < v + 6 ∨ v + 9 ≤ a → f2 a = f' a) ∧ Scr f2 v) O dX6_degreeOf_33 xl_X6_97 xk_X6_signOf (c6_signOf _ (t := (2 : Int32) * m) (l := (2 : Int32) * d + 1) g6 (hC.kept (k1 _ (by omega)) (k1 _ (by omega))) hS' (he.kept (k1 _ n1)) (hP.kept (k1 _ (by omega))) n1 (by omega) b1 (by rw [w2]; exact b2 _ (by omega) (by omega)) (by rw [w2, ht]; exact hcp.1) (by rw [w2, ht]; exact hcp.2) (fun r f2 x1 x2 x3 => ⟨r, rfl, ⟨x1, x2, x3⟩, rfl⟩)) g6 rfl rfl rfl (Nat.le_of_ble_eq_true rfl) rfl (Nat.le_of_ble_eq_true rfl) (Nat.le_of_ble_eq_true rfl) (Nat.le_of_ble_eq_true rfl) (fun r f2 hq => ?_)
      obtain ⟨x1, x2, x3⟩ := hq
      rw [ht, w2] at x1
      have x1 : 0 < r.toInt ↔ d.toInt < D := by rw [x1, sg_gt, iff1]
      have k2 : ∀ a, a < v + 6 ∨ v + 9 ≤ a → f2 a = f a := fun a ha => by rw [x2 a ha]; exact k1 a ha
      have hge : D ≤ d.toInt := by omega
      have hcc : (r ≤ 0) = True := eq_true ((n_le _ _).mpr (by
        rw [n_0]
        exact Int.not_lt.mp (fun y => by rw [x1] at y; omega)))
      refine xgo O Rt xplX6_q xclX6_q [19, 45] 30 ?_
      simp (maxSteps := 10000000) (disch := omega) only [↓reduceIte, ↓xrun_s, ↓xck_e, xdo_e, xlg_0, xlg_c, xst1_0, xst1_1, xst1_c, xst2_0, xst2_1, xst2_c, xk2_n, xk2_i, xk2_a, xk2_l, xct_i, xct_a, xct_l, xf4_0, xf4_1, xf4_2, xf4_3, List.contains_cons, List.contains_nil, Bool.or_false, Bool.false_or, Bool.or_self, Bool.true_or, Bool.or_true, cond_true, cond_false, List.set_cons_zero, List.set_cons_succ, List.length_cons, List.length_nil, true_and, and_true, xu_s, xu_u, xeqs, Nat.le_refl, not_true_eq_false, xq_10, xq_01, Int32.reduceAdd, Int32.reduceMul, Int32.reduceSub, Int32.reduceLE, Int32.reduceLT, Int32.reduceToNatClampNeg, Nat.reduceAdd, Nat.reduceMul, Nat.reduceBEq, Nat.reduceLT, Nat.reduceLeDiff, Nat.reduceEqDiff, Nat.zero_add, Bool.false_eq_true, reduceCtorEq, if_false, if_true, not_false_eq_true, true_imp_iff, false_imp_iff, imp_self, ↓xil_e, ↓xll_e, ↓xal_e, ↓xs1i_e, ↓xs2i_e, ↓xs1l_e, ↓xs2l_e, ↓xsil_e, ↓xs1_e, ↓xs2_e, ↓xs1a_e, ↓xsia_e, ↓xsiia_e, ↓xslia_e, ↓xsaia_e, ↓xsva_e, ↓xse1i_e, ↓xse1l_e, ↓xse1a_e, ↓xse0_e, ↓xfv_0, ↓xfv_c, ↓xgf_e, ↓xpf_e, ↓xia_e, ↓xia_n, ↓xba_e, ↓xba_n, ↓xla_e, ↓xla_n, ↓xob_e, ↓xra_e, ↓xno_e, ↓xle_e, ↓xnr_i, ↓xnr_b0, ↓xnr_b1, ↓xnr_n, ↓xdo_e, ↓xkl_0, ↓xe_iconst, ↓xe_iadd, ↓xe_isub, ↓xe_imul, ↓xe_lmul, ↓xe_ldiv, ↓xe_i2l, ↓xe_l2i, ↓xe_iload_n, ↓xe_aload_n, ↓xe_istore_n, ↓xe_iinc, ↓xe_goto, ↓xe_getfield, ↓xe_ireturn, ↓xe_if_gt, ↓xe_if_le, ↓xe_invokevirtual, dX6_degreeOf_0, dX6_degreeOf_1, dX6_degreeOf_2, dX6_degreeOf_3, dX6_degreeOf_4, dX6_degreeOf_7, dX6_degreeOf_8, dX6_degreeOf_9, dX6_degreeOf_10, dX6_degreeOf_13, dX6_degreeOf_16, dX6_degreeOf_17, dX6_degreeOf_18, dX6_degreeOf_19, dX6_degreeOf_20, dX6_degreeOf_21, dX6_degreeOf_22, dX6_degreeOf_23, dX6_degreeOf_24, dX6_degreeOf_25, dX6_degreeOf_28, dX6_degreeOf_29, dX6_degreeOf_30, dX6_degreeOf_31, dX6_degreeOf_32, dX6_degreeOf_33, dX6_degreeOf_36, dX6_degreeOf_39, dX6_degreeOf_42, dX6_degreeOf_45, dX6_degreeOf_46, dX6_degreeOf_47, dX6_degreeOf_48, dX6_degreeOf_49, dX6_degreeOf_50, dX6_degreeOf_51, dX6_degreeOf_54, dX6_degreeOf_55, dX6_degreeOf_56, dX6_degreeOf_57, dX6_degreeOf_58, dX6_degreeOf_59, dX6_degreeOf_62, dX6_degreeOf_65, dX6_degreeOf_68, dX6_degreeOf_71, dX6_degreeOf_72, xpX6_36, xki_1, xki_2, xki_m1, hcc, xt_36_9, xtc_36_9, xt_42_m23, xtc_42_m23, xt_62_9, xtc_62_9, xt_68_m23, xtc_68_m23]
      exact loop2 (d.toInt - D).toNat d f2 hR (by omega) (by omega) k2 x3
    | succ n ih =>
      intro d f' hR q2 k1 hS'
      have hsm := Rsm _ hR
      have g6 : f' v = some (x6 v i3 i4 i5 i14 i15 i16 i17 i18 i19 i21 i22) := by rw [k1 _ (by omega)]; exact h6
      have w1 : ((2 : Int32) * d).toInt = 2 * d.toInt := by rw [n_mul (by rw [two]; omega) (by rw [two]; omega), two]
      have w2 : ((2 : Int32) * d + 1).toInt = 2 * d.toInt + 1 := by rw [n_add (by rw [w1, n_1]; omega) (by rw [w1, n_1]; omega), w1, n_1]
      have hcp := caps d.toInt (2 * d.toInt + 1) hR (Or.inl rfl)
      refine xgo O Rt xplX6_q xclX6_q [19, 45] 30 ?_
      simp (maxSteps := 10000000) (disch := omega) only [↓reduceIte, ↓xrun_s, ↓xck_e, xdo_e, xlg_0, xlg_c, xst1_0, xst1_1, xst1_c, xst2_0, xst2_1, xst2_c, xk2_n, xk2_i, xk2_a, xk2_l, xct_i, xct_a, xct_l, xf4_0, xf4_1, xf4_2, xf4_3, List.contains_cons, List.contains_nil, Bool.or_false, Bool.false_or, Bool.or_self, Bool.true_or, Bool.or_true, cond_true, cond_false, List.set_cons_zero, List.set_cons_succ, List.length_cons, List.length_nil, true_and, and_true, xu_s, xu_u, xeqs, Nat.le_refl, not_true_eq_false, xq_10, xq_01, Int32.reduceAdd, Int32.reduceMul, Int32.reduceSub, Int32.reduceLE, Int32.reduceLT, Int32.reduceToNatClampNeg, Nat.reduceAdd, Nat.reduceMul, Nat.reduceBEq, Nat.reduceLT, Nat.reduceLeDiff, Nat.reduceEqDiff, Nat.zero_add, Bool.false_eq_true, reduceCtorEq, if_false, if_true, not_false_eq_true, true_imp_iff, false_imp_iff, imp_self, ↓xil_e, ↓xll_e, ↓xal_e, ↓xs1i_e, ↓xs2i_e, ↓xs1l_e, ↓xs2l_e, ↓xsil_e, ↓xs1_e, ↓xs2_e, ↓xs1a_e, ↓xsia_e, ↓xsiia_e, ↓xslia_e, ↓xsaia_e, ↓xsva_e, ↓xse1i_e, ↓xse1l_e, ↓xse1a_e, ↓xse0_e, ↓xfv_0, ↓xfv_c, ↓xgf_e, ↓xpf_e, ↓xia_e, ↓xia_n, ↓xba_e, ↓xba_n, ↓xla_e, ↓xla_n, ↓xob_e, ↓xra_e, ↓xno_e, ↓xle_e, ↓xnr_i, ↓xnr_b0, ↓xnr_b1, ↓xnr_n, ↓xdo_e, ↓xkl_0, ↓xe_iconst, ↓xe_iadd, ↓xe_isub, ↓xe_imul, ↓xe_lmul, ↓xe_ldiv, ↓xe_i2l, ↓xe_l2i, ↓xe_iload_n, ↓xe_aload_n, ↓xe_istore_n, ↓xe_iinc, ↓xe_goto, ↓xe_getfield, ↓xe_ireturn, ↓xe_if_gt, ↓xe_if_le, ↓xe_invokevirtual, dX6_degreeOf_0, dX6_degreeOf_1, dX6_degreeOf_2, dX6_degreeOf_3, dX6_degreeOf_4, dX6_degreeOf_7, dX6_degreeOf_8, dX6_degreeOf_9, dX6_degreeOf_10, dX6_degreeOf_13, dX6_degreeOf_16, dX6_degreeOf_17, dX6_degreeOf_18, dX6_degreeOf_19, dX6_degreeOf_20, dX6_degreeOf_21, dX6_degreeOf_22, dX6_degreeOf_23, dX6_degreeOf_24, dX6_degreeOf_25, dX6_degreeOf_28, dX6_degreeOf_29, dX6_degreeOf_30, dX6_degreeOf_31, dX6_degreeOf_32, dX6_degreeOf_33, dX6_degreeOf_36, dX6_degreeOf_39, dX6_degreeOf_42, dX6_degreeOf_45, dX6_degreeOf_46, dX6_degreeOf_47, dX6_degreeOf_48, dX6_degreeOf_49, dX6_degreeOf_50, dX6_degreeOf_51, dX6_degreeOf_54, dX6_degreeOf_55, dX6_degreeOf_56, dX6_degreeOf_57, dX6_degreeOf_58, dX6_degreeOf_59, dX6_degreeOf_62, dX6_degreeOf_65, dX6_degreeOf_68, dX6_degreeOf_71, dX6_degreeOf_72, xpX6_36, xki_1, xki_2, xki_m1, g6, xt_36_9, xtc_36_9, xt_42_m23, xtc_42_m23, xt_62_9, xtc_62_9, xt_68_m23, xtc_68_m23]
      refine xg_callVi (Qp := fun r f2 => r.toInt = sg (((2 : Int32) * m).toInt * sz e - ((2 : Int32) * d + 1).toInt * sz P) ∧ (∀ a, a < v + 6 ∨ v + 9 ≤ a → f2 a = f' a) ∧ Scr f2 v) O dX6_degreeOf_33 xl_X6_97 xk_X6_signOf (c6_signOf _ (t := (2 : Int32) * m) (l := (2 : Int32) * d + 1) g6 (hC.kept (k1 _ (by omega)) (k1 _ (by omega))) hS' (he.kept (k1 _ n1)) (hP.kept (k1 _ (by omega))) n1 (by omega) b1 (by rw [w2]; exact b2 _ (by omega) (by omega)) (by rw [w2, ht]; exact hcp.1) (by rw [w2, ht]; exact hcp.2) (fun r f2 x1 x2 x3 => ⟨r, rfl, ⟨x1, x2, x3⟩, rfl⟩)) g6 rfl rfl rfl (Nat.le_of_ble_eq_true rfl) rfl (Nat.le_of_ble_eq_true rfl) (Nat.le_of_ble_eq_true rfl) (Nat.le_of_ble_eq_true rfl) (fun r f2 hq => ?_)
      obtain ⟨x1, x2, x3⟩ := hq
      rw [ht, w2] at x1
      have x1 : 0 < r.toInt ↔ d.toInt < D := by rw [x1, sg_gt, iff1]
      have k2 : ∀ a, a < v + 6 ∨ v + 9 ≤ a → f2 a = f a := fun a ha => by rw [x2 a ha]; exact k1 a ha
      by_cases hdD : D ≤ d.toInt
      · have hcc : (r ≤ 0) = True := eq_true ((n_le _ _).mpr (by
          rw [n_0]
          exact Int.not_lt.mp (fun y => by rw [x1] at y; omega)))
        refine xgo O Rt xplX6_q xclX6_q [19, 45] 30 ?_
        simp (maxSteps := 10000000) (disch := omega) only [↓reduceIte, ↓xrun_s, ↓xck_e, xdo_e, xlg_0, xlg_c, xst1_0, xst1_1, xst1_c, xst2_0, xst2_1, xst2_c, xk2_n, xk2_i, xk2_a, xk2_l, xct_i, xct_a, xct_l, xf4_0, xf4_1, xf4_2, xf4_3, List.contains_cons, List.contains_nil, Bool.or_false, Bool.false_or, Bool.or_self, Bool.true_or, Bool.or_true, cond_true, cond_false, List.set_cons_zero, List.set_cons_succ, List.length_cons, List.length_nil, true_and, and_true, xu_s, xu_u, xeqs, Nat.le_refl, not_true_eq_false, xq_10, xq_01, Int32.reduceAdd, Int32.reduceMul, Int32.reduceSub, Int32.reduceLE, Int32.reduceLT, Int32.reduceToNatClampNeg, Nat.reduceAdd, Nat.reduceMul, Nat.reduceBEq, Nat.reduceLT, Nat.reduceLeDiff, Nat.reduceEqDiff, Nat.zero_add, Bool.false_eq_true, reduceCtorEq, if_false, if_true, not_false_eq_true, true_imp_iff, false_imp_iff, imp_self, ↓xil_e, ↓xll_e, ↓xal_e, ↓xs1i_e, ↓xs2i_e, ↓xs1l_e, ↓xs2l_e, ↓xsil_e, ↓xs1_e, ↓xs2_e, ↓xs1a_e, ↓xsia_e, ↓xsiia_e, ↓xslia_e, ↓xsaia_e, ↓xsva_e, ↓xse1i_e, ↓xse1l_e, ↓xse1a_e, ↓xse0_e, ↓xfv_0, ↓xfv_c, ↓xgf_e, ↓xpf_e, ↓xia_e, ↓xia_n, ↓xba_e, ↓xba_n, ↓xla_e, ↓xla_n, ↓xob_e, ↓xra_e, ↓xno_e, ↓xle_e, ↓xnr_i, ↓xnr_b0, ↓xnr_b1, ↓xnr_n, ↓xdo_e, ↓xkl_0, ↓xe_iconst, ↓xe_iadd, ↓xe_isub, ↓xe_imul, ↓xe_lmul, ↓xe_ldiv, ↓xe_i2l, ↓xe_l2i, ↓xe_iload_n, ↓xe_aload_n, ↓xe_istore_n, ↓xe_iinc, ↓xe_goto, ↓xe_getfield, ↓xe_ireturn, ↓xe_if_gt, ↓xe_if_le, ↓xe_invokevirtual, dX6_degreeOf_0, dX6_degreeOf_1, dX6_degreeOf_2, dX6_degreeOf_3, dX6_degreeOf_4, dX6_degreeOf_7, dX6_degreeOf_8, dX6_degreeOf_9, dX6_degreeOf_10, dX6_degreeOf_13, dX6_degreeOf_16, dX6_degreeOf_17, dX6_degreeOf_18, dX6_degreeOf_19, dX6_degreeOf_20, dX6_degreeOf_21, dX6_degreeOf_22, dX6_degreeOf_23, dX6_degreeOf_24, dX6_degreeOf_25, dX6_degreeOf_28, dX6_degreeOf_29, dX6_degreeOf_30, dX6_degreeOf_31, dX6_degreeOf_32, dX6_degreeOf_33, dX6_degreeOf_36, dX6_degreeOf_39, dX6_degreeOf_42, dX6_degreeOf_45, dX6_degreeOf_46, dX6_degreeOf_47, dX6_degreeOf_48, dX6_degreeOf_49, dX6_degreeOf_50, dX6_degreeOf_51, dX6_degreeOf_54, dX6_degreeOf_55, dX6_degreeOf_56, dX6_degreeOf_57, dX6_degreeOf_58, dX6_degreeOf_59, dX6_degreeOf_62, dX6_degreeOf_65, dX6_degreeOf_68, dX6_degreeOf_71, dX6_degreeOf_72, xpX6_36, xki_1, xki_2, xki_m1, hcc, xt_36_9, xtc_36_9, xt_42_m23, xtc_42_m23, xt_62_9, xtc_62_9, xt_68_m23, xtc_68_m23]
        exact loop2 (d.toInt - D).toNat d f2 hR hdD (by omega) k2 x3
      · have hlt : d.toInt < D := by omega
        have hcc : (r ≤ 0) = False := eq_false (fun y => by
          have y := (n_le _ _).mp y
          rw [n_0] at y
          exact absurd (x1.mpr hlt) (Int.not_lt.mpr y))
        have w3 : (d + 1).toInt = d.toInt + 1 := by rw [n_add (by rw [n_1]; omega) (by rw [n_1]; omega), n_1]
        refine xgo O Rt xplX6_q xclX6_q [19, 45] 30 ?_
        simp (maxSteps := 10000000) (disch := omega) only [↓reduceIte, ↓xrun_s, ↓xck_e, xdo_e, xlg_0, xlg_c, xst1_0, xst1_1, xst1_c, xst2_0, xst2_1, xst2_c, xk2_n, xk2_i, xk2_a, xk2_l, xct_i, xct_a, xct_l, xf4_0, xf4_1, xf4_2, xf4_3, List.contains_cons, List.contains_nil, Bool.or_false, Bool.false_or, Bool.or_self, Bool.true_or, Bool.or_true, cond_true, cond_false, List.set_cons_zero, List.set_cons_succ, List.length_cons, List.length_nil, true_and, and_true, xu_s, xu_u, xeqs, Nat.le_refl, not_true_eq_false, xq_10, xq_01, Int32.reduceAdd, Int32.reduceMul, Int32.reduceSub, Int32.reduceLE, Int32.reduceLT, Int32.reduceToNatClampNeg, Nat.reduceAdd, Nat.reduceMul, Nat.reduceBEq, Nat.reduceLT, Nat.reduceLeDiff, Nat.reduceEqDiff, Nat.zero_add, Bool.false_eq_true, reduceCtorEq, if_false, if_true, not_false_eq_true, true_imp_iff, false_imp_iff, imp_self, ↓xil_e, ↓xll_e, ↓xal_e, ↓xs1i_e, ↓xs2i_e, ↓xs1l_e, ↓xs2l_e, ↓xsil_e, ↓xs1_e, ↓xs2_e, ↓xs1a_e, ↓xsia_e, ↓xsiia_e, ↓xslia_e, ↓xsaia_e, ↓xsva_e, ↓xse1i_e, ↓xse1l_e, ↓xse1a_e, ↓xse0_e, ↓xfv_0, ↓xfv_c, ↓xgf_e, ↓xpf_e, ↓xia_e, ↓xia_n, ↓xba_e, ↓xba_n, ↓xla_e, ↓xla_n, ↓xob_e, ↓xra_e, ↓xno_e, ↓xle_e, ↓xnr_i, ↓xnr_b0, ↓xnr_b1, ↓xnr_n, ↓xdo_e, ↓xkl_0, ↓xe_iconst, ↓xe_iadd, ↓xe_isub, ↓xe_imul, ↓xe_lmul, ↓xe_ldiv, ↓xe_i2l, ↓xe_l2i, ↓xe_iload_n, ↓xe_aload_n, ↓xe_istore_n, ↓xe_iinc, ↓xe_goto, ↓xe_getfield, ↓xe_ireturn, ↓xe_if_gt, ↓xe_if_le, ↓xe_invokevirtual, dX6_degreeOf_0, dX6_degreeOf_1, dX6_degreeOf_2, dX6_degreeOf_3, dX6_degreeOf_4, dX6_degreeOf_7, dX6_degreeOf_8, dX6_degreeOf_9, dX6_degreeOf_10, dX6_degreeOf_13, dX6_degreeOf_16, dX6_degreeOf_17, dX6_degreeOf_18, dX6_degreeOf_19, dX6_degreeOf_20, dX6_degreeOf_21, dX6_degreeOf_22, dX6_degreeOf_23, dX6_degreeOf_24, dX6_degreeOf_25, dX6_degreeOf_28, dX6_degreeOf_29, dX6_degreeOf_30, dX6_degreeOf_31, dX6_degreeOf_32, dX6_degreeOf_33, dX6_degreeOf_36, dX6_degreeOf_39, dX6_degreeOf_42, dX6_degreeOf_45, dX6_degreeOf_46, dX6_degreeOf_47, dX6_degreeOf_48, dX6_degreeOf_49, dX6_degreeOf_50, dX6_degreeOf_51, dX6_degreeOf_54, dX6_degreeOf_55, dX6_degreeOf_56, dX6_degreeOf_57, dX6_degreeOf_58, dX6_degreeOf_59, dX6_degreeOf_62, dX6_degreeOf_65, dX6_degreeOf_68, dX6_degreeOf_71, dX6_degreeOf_72, xpX6_36, xki_1, xki_2, xki_m1, hcc, xt_36_9, xtc_36_9, xt_42_m23, xtc_42_m23, xt_62_9, xtc_62_9, xt_68_m23, xtc_68_m23]
        have s3 := st_up w3 hlt q2
        exact ih (d + 1) f2 (Rmid _ _ _ hR RD0 s3.1 s3.2.1) s3.2.2 k2 x3
  clear loop2
  obtain ⟨hml, l1, l2, hml2, Rst⟩ := id hfin
  refine xgo O Rt xplX6_q xclX6_q [19] 30 ?_
  simp (maxSteps := 10000000) (disch := omega) only [↓reduceIte, ↓xrun_s, ↓xck_e, xdo_e, xlg_0, xlg_c, xst1_0, xst1_1, xst1_c, xst2_0, xst2_1, xst2_c, xk2_n, xk2_i, xk2_a, xk2_l, xct_i, xct_a, xct_l, xf4_0, xf4_1, xf4_2, xf4_3, List.contains_cons, List.contains_nil, Bool.or_false, Bool.false_or, Bool.or_self, Bool.true_or, Bool.or_true, cond_true, cond_false, List.set_cons_zero, List.set_cons_succ, List.length_cons, List.length_nil, true_and, and_true, xu_s, xu_u, xeqs, Nat.le_refl, not_true_eq_false, xq_10, xq_01, Int32.reduceAdd, Int32.reduceMul, Int32.reduceSub, Int32.reduceLE, Int32.reduceLT, Int32.reduceToNatClampNeg, Nat.reduceAdd, Nat.reduceMul, Nat.reduceBEq, Nat.reduceLT, Nat.reduceLeDiff, Nat.reduceEqDiff, Nat.zero_add, Bool.false_eq_true, reduceCtorEq, if_false, if_true, not_false_eq_true, true_imp_iff, false_imp_iff, imp_self, ↓xil_e, ↓xll_e, ↓xal_e, ↓xs1i_e, ↓xs2i_e, ↓xs1l_e, ↓xs2l_e, ↓xsil_e, ↓xs1_e, ↓xs2_e, ↓xs1a_e, ↓xsia_e, ↓xsiia_e, ↓xslia_e, ↓xsaia_e, ↓xsva_e, ↓xse1i_e, ↓xse1l_e, ↓xse1a_e, ↓xse0_e, ↓xfv_0, ↓xfv_c, ↓xgf_e, ↓xpf_e, ↓xia_e, ↓xia_n, ↓xba_e, ↓xba_n, ↓xla_e, ↓xla_n, ↓xob_e, ↓xra_e, ↓xno_e, ↓xle_e, ↓xnr_i, ↓xnr_b0, ↓xnr_b1, ↓xnr_n, ↓xdo_e, ↓xkl_0, ↓xe_iconst, ↓xe_iadd, ↓xe_isub, ↓xe_imul, ↓xe_lmul, ↓xe_ldiv, ↓xe_i2l, ↓xe_l2i, ↓xe_iload_n, ↓xe_aload_n, ↓xe_istore_n, ↓xe_iinc, ↓xe_goto, ↓xe_getfield, ↓xe_ireturn, ↓xe_if_gt, ↓xe_if_le, ↓xe_invokevirtual, dX6_degreeOf_0, dX6_degreeOf_1, dX6_degreeOf_2, dX6_degreeOf_3, dX6_degreeOf_4, dX6_degreeOf_7, dX6_degreeOf_8, dX6_degreeOf_9, dX6_degreeOf_10, dX6_degreeOf_13, dX6_degreeOf_16, dX6_degreeOf_17, dX6_degreeOf_18, dX6_degreeOf_19, dX6_degreeOf_20, dX6_degreeOf_21, dX6_degreeOf_22, dX6_degreeOf_23, dX6_degreeOf_24, dX6_degreeOf_25, dX6_degreeOf_28, dX6_degreeOf_29, dX6_degreeOf_30, dX6_degreeOf_31, dX6_degreeOf_32, dX6_degreeOf_33, dX6_degreeOf_36, dX6_degreeOf_39, dX6_degreeOf_42, dX6_degreeOf_45, dX6_degreeOf_46, dX6_degreeOf_47, dX6_degreeOf_48, dX6_degreeOf_49, dX6_degreeOf_50, dX6_degreeOf_51, dX6_degreeOf_54, dX6_degreeOf_55, dX6_degreeOf_56, dX6_degreeOf_57, dX6_degreeOf_58, dX6_degreeOf_59, dX6_degreeOf_62, dX6_degreeOf_65, dX6_degreeOf_68, dX6_degreeOf_71, dX6_degreeOf_72, xpX6_36, xki_1, xki_2, xki_m1, xt_36_9, xtc_36_9, xt_42_m23, xtc_42_m23, xt_62_9, xtc_62_9, xt_68_m23, xtc_68_m23]
  refine xg_callVl (Qp := fun r2 f2 => r2.toInt = lq e 6 ∧ f = f2) O dX6_degreeOf_4 xl_X6_81 xk_X6_logOf (c6_logOf _ h6 hC he hbe (fun r q => ⟨r, rfl, ⟨q, rfl⟩, rfl⟩)) h6 rfl rfl rfl (Nat.le_of_ble_eq_true rfl) rfl (Nat.le_of_ble_eq_true rfl) (Nat.le_of_ble_eq_true rfl) (Nat.le_of_ble_eq_true rfl) (fun r f2 hq => ?_)
  obtain ⟨hr1, rfl⟩ := hq
  refine xgo O Rt xplX6_q xclX6_q [19] 30 ?_
  simp (maxSteps := 10000000) (disch := omega) only [↓reduceIte, ↓xrun_s, ↓xck_e, xdo_e, xlg_0, xlg_c, xst1_0, xst1_1, xst1_c, xst2_0, xst2_1, xst2_c, xk2_n, xk2_i, xk2_a, xk2_l, xct_i, xct_a, xct_l, xf4_0, xf4_1, xf4_2, xf4_3, List.contains_cons, List.contains_nil, Bool.or_false, Bool.false_or, Bool.or_self, Bool.true_or, Bool.or_true, cond_true, cond_false, List.set_cons_zero, List.set_cons_succ, List.length_cons, List.length_nil, true_and, and_true, xu_s, xu_u, xeqs, Nat.le_refl, not_true_eq_false, xq_10, xq_01, Int32.reduceAdd, Int32.reduceMul, Int32.reduceSub, Int32.reduceLE, Int32.reduceLT, Int32.reduceToNatClampNeg, Nat.reduceAdd, Nat.reduceMul, Nat.reduceBEq, Nat.reduceLT, Nat.reduceLeDiff, Nat.reduceEqDiff, Nat.zero_add, Bool.false_eq_true, reduceCtorEq, if_false, if_true, not_false_eq_true, true_imp_iff, false_imp_iff, imp_self, ↓xil_e, ↓xll_e, ↓xal_e, ↓xs1i_e, ↓xs2i_e, ↓xs1l_e, ↓xs2l_e, ↓xsil_e, ↓xs1_e, ↓xs2_e, ↓xs1a_e, ↓xsia_e, ↓xsiia_e, ↓xslia_e, ↓xsaia_e, ↓xsva_e, ↓xse1i_e, ↓xse1l_e, ↓xse1a_e, ↓xse0_e, ↓xfv_0, ↓xfv_c, ↓xgf_e, ↓xpf_e, ↓xia_e, ↓xia_n, ↓xba_e, ↓xba_n, ↓xla_e, ↓xla_n, ↓xob_e, ↓xra_e, ↓xno_e, ↓xle_e, ↓xnr_i, ↓xnr_b0, ↓xnr_b1, ↓xnr_n, ↓xdo_e, ↓xkl_0, ↓xe_iconst, ↓xe_iadd, ↓xe_isub, ↓xe_imul, ↓xe_lmul, ↓xe_ldiv, ↓xe_i2l, ↓xe_l2i, ↓xe_iload_n, ↓xe_aload_n, ↓xe_istore_n, ↓xe_iinc, ↓xe_goto, ↓xe_getfield, ↓xe_ireturn, ↓xe_if_gt, ↓xe_if_le, ↓xe_invokevirtual, dX6_degreeOf_0, dX6_degreeOf_1, dX6_degreeOf_2, dX6_degreeOf_3, dX6_degreeOf_4, dX6_degreeOf_7, dX6_degreeOf_8, dX6_degreeOf_9, dX6_degreeOf_10, dX6_degreeOf_13, dX6_degreeOf_16, dX6_degreeOf_17, dX6_degreeOf_18, dX6_degreeOf_19, dX6_degreeOf_20, dX6_degreeOf_21, dX6_degreeOf_22, dX6_degreeOf_23, dX6_degreeOf_24, dX6_degreeOf_25, dX6_degreeOf_28, dX6_degreeOf_29, dX6_degreeOf_30, dX6_degreeOf_31, dX6_degreeOf_32, dX6_degreeOf_33, dX6_degreeOf_36, dX6_degreeOf_39, dX6_degreeOf_42, dX6_degreeOf_45, dX6_degreeOf_46, dX6_degreeOf_47, dX6_degreeOf_48, dX6_degreeOf_49, dX6_degreeOf_50, dX6_degreeOf_51, dX6_degreeOf_54, dX6_degreeOf_55, dX6_degreeOf_56, dX6_degreeOf_57, dX6_degreeOf_58, dX6_degreeOf_59, dX6_degreeOf_62, dX6_degreeOf_65, dX6_degreeOf_68, dX6_degreeOf_71, dX6_degreeOf_72, xpX6_36, xki_1, xki_2, xki_m1, h6, xt_36_9, xtc_36_9, xt_42_m23, xtc_42_m23, xt_62_9, xtc_62_9, xt_68_m23, xtc_68_m23]
  refine xg_callVl (Qp := fun r2 f2 => r2.toInt = lq P 6 ∧ f = f2) O dX6_degreeOf_13 xl_X6_81 xk_X6_logOf (c6_logOf _ h6 hC hP hbP (fun r q => ⟨r, rfl, ⟨q, rfl⟩, rfl⟩)) h6 rfl rfl rfl (Nat.le_of_ble_eq_true rfl) rfl (Nat.le_of_ble_eq_true rfl) (Nat.le_of_ble_eq_true rfl) (Nat.le_of_ble_eq_true rfl) (fun r2 f2 hq => ?_)
  obtain ⟨hr2, rfl⟩ := hq
  have h0 : (r2 = 0) = False := eq_false (fun y => by rw [y, m_0] at hr2; omega)
  refine xgo O Rt xplX6_q xclX6_q [19] 30 ?_
  simp (maxSteps := 10000000) (disch := omega) only [↓reduceIte, ↓xrun_s, ↓xck_e, xdo_e, xlg_0, xlg_c, xst1_0, xst1_1, xst1_c, xst2_0, xst2_1, xst2_c, xk2_n, xk2_i, xk2_a, xk2_l, xct_i, xct_a, xct_l, xf4_0, xf4_1, xf4_2, xf4_3, List.contains_cons, List.contains_nil, Bool.or_false, Bool.false_or, Bool.or_self, Bool.true_or, Bool.or_true, cond_true, cond_false, List.set_cons_zero, List.set_cons_succ, List.length_cons, List.length_nil, true_and, and_true, xu_s, xu_u, xeqs, Nat.le_refl, not_true_eq_false, xq_10, xq_01, Int32.reduceAdd, Int32.reduceMul, Int32.reduceSub, Int32.reduceLE, Int32.reduceLT, Int32.reduceToNatClampNeg, Nat.reduceAdd, Nat.reduceMul, Nat.reduceBEq, Nat.reduceLT, Nat.reduceLeDiff, Nat.reduceEqDiff, Nat.zero_add, Bool.false_eq_true, reduceCtorEq, if_false, if_true, not_false_eq_true, true_imp_iff, false_imp_iff, imp_self, ↓xil_e, ↓xll_e, ↓xal_e, ↓xs1i_e, ↓xs2i_e, ↓xs1l_e, ↓xs2l_e, ↓xsil_e, ↓xs1_e, ↓xs2_e, ↓xs1a_e, ↓xsia_e, ↓xsiia_e, ↓xslia_e, ↓xsaia_e, ↓xsva_e, ↓xse1i_e, ↓xse1l_e, ↓xse1a_e, ↓xse0_e, ↓xfv_0, ↓xfv_c, ↓xgf_e, ↓xpf_e, ↓xia_e, ↓xia_n, ↓xba_e, ↓xba_n, ↓xla_e, ↓xla_n, ↓xob_e, ↓xra_e, ↓xno_e, ↓xle_e, ↓xnr_i, ↓xnr_b0, ↓xnr_b1, ↓xnr_n, ↓xdo_e, ↓xkl_0, ↓xe_iconst, ↓xe_iadd, ↓xe_isub, ↓xe_imul, ↓xe_lmul, ↓xe_ldiv, ↓xe_i2l, ↓xe_l2i, ↓xe_iload_n, ↓xe_aload_n, ↓xe_istore_n, ↓xe_iinc, ↓xe_goto, ↓xe_getfield, ↓xe_ireturn, ↓xe_if_gt, ↓xe_if_le, ↓xe_invokevirtual, dX6_degreeOf_0, dX6_degreeOf_1, dX6_degreeOf_2, dX6_degreeOf_3, dX6_degreeOf_4, dX6_degreeOf_7, dX6_degreeOf_8, dX6_degreeOf_9, dX6_degreeOf_10, dX6_degreeOf_13, dX6_degreeOf_16, dX6_degreeOf_17, dX6_degreeOf_18, dX6_degreeOf_19, dX6_degreeOf_20, dX6_degreeOf_21, dX6_degreeOf_22, dX6_degreeOf_23, dX6_degreeOf_24, dX6_degreeOf_25, dX6_degreeOf_28, dX6_degreeOf_29, dX6_degreeOf_30, dX6_degreeOf_31, dX6_degreeOf_32, dX6_degreeOf_33, dX6_degreeOf_36, dX6_degreeOf_39, dX6_degreeOf_42, dX6_degreeOf_45, dX6_degreeOf_46, dX6_degreeOf_47, dX6_degreeOf_48, dX6_degreeOf_49, dX6_degreeOf_50, dX6_degreeOf_51, dX6_degreeOf_54, dX6_degreeOf_55, dX6_degreeOf_56, dX6_degreeOf_57, dX6_degreeOf_58, dX6_degreeOf_59, dX6_degreeOf_62, dX6_degreeOf_65, dX6_degreeOf_68, dX6_degreeOf_71, dX6_degreeOf_72, xpX6_36, xki_1, xki_2, xki_m1, h0, xt_36_9, xtc_36_9, xt_42_m23, xtc_42_m23, xt_62_9, xtc_62_9, xt_68_m23, xtc_68_m23]
  have hm64 : m.toInt64.toInt = m.toInt := Int32.toInt_toInt64 m
  have hmr : (m.toInt64 * r).toInt = m.toInt * lq e 6 := by rw [m_mul (by rw [hm64, hr1]; omega) (by rw [hm64, hr1]; omega), hm64, hr1]
  have hd := m_tdiv (a := m.toInt64 * r) (b := r2) (by omega) (by omega) (by omega)
  rw [hmr, hr2] at hd
  obtain ⟨hd2, hd3, hd4⟩ := tdiv_bd (A := m.toInt * lq e 6) (D := lq P 6) (M := 800) (by omega) (by omega) (by omega)
  have hd5 : (m.toInt64 * r / r2).toInt32.toInt = (m.toInt * lq e 6).tdiv (lq P 6) := by rw [l2i (by omega) (by omega), hd]
  have hR0 := Rst _ hd2 hd3 hd4
  generalize (m.toInt64 * r / r2).toInt32 = d0 at hd5
  have hDs := Rsm _ RD0
  exact loop1 2000 d0 f (by rw [hd5]; exact hR0) (by omega) (fun _ _ => rfl) hS
