/-! ===== TuningTables: what its calls answer ===== -/
theorem dX5_key_0 : decode cX5_key 0 = .ok (.iload_n 1, 1) := by decide +kernel
theorem dX5_key_1 : decode cX5_key 1 = .ok (.sipush (-200), 3) := by decide +kernel
theorem dX5_key_4 : decode cX5_key 4 = .ok (.if_icmp .lt 17, 3) := by decide +kernel
theorem dX5_key_7 : decode cX5_key 7 = .ok (.iload_n 1, 1) := by decide +kernel
theorem dX5_key_8 : decode cX5_key 8 = .ok (.sipush 200, 3) := by decide +kernel
theorem dX5_key_11 : decode cX5_key 11 = .ok (.if_icmp .gt 10, 3) := by decide +kernel
theorem dX5_key_14 : decode cX5_key 14 = .ok (.iload_n 2, 1) := by decide +kernel
theorem dX5_key_15 : decode cX5_key 15 = .ok (.invokestatic 81, 3) := by decide +kernel
theorem dX5_key_18 : decode cX5_key 18 = .ok (.ifCond .ne 6, 3) := by decide +kernel
theorem dX5_key_21 : decode cX5_key 21 = .ok (.ldc 47, 2) := by decide +kernel
theorem dX5_key_23 : decode cX5_key 23 = .ok (.ireturn, 1) := by decide +kernel
theorem dX5_key_24 : decode cX5_key 24 = .ok (.iload_n 1, 1) := by decide +kernel
theorem dX5_key_25 : decode cX5_key 25 = .ok (.aload_n 0, 1) := by decide +kernel
theorem dX5_key_26 : decode cX5_key 26 = .ok (.getfield 19, 3) := by decide +kernel
theorem dX5_key_29 : decode cX5_key 29 = .ok (.getfield 71, 3) := by decide +kernel
theorem dX5_key_32 : decode cX5_key 32 = .ok (.invokestatic 94, 3) := by decide +kernel
theorem dX5_key_35 : decode cX5_key 35 = .ok (.istore_n 3, 1) := by decide +kernel
theorem dX5_key_36 : decode cX5_key 36 = .ok (.iload_n 1, 1) := by decide +kernel
theorem dX5_key_37 : decode cX5_key 37 = .ok (.iload_n 3, 1) := by decide +kernel
theorem dX5_key_38 : decode cX5_key 38 = .ok (.aload_n 0, 1) := by decide +kernel
theorem dX5_key_39 : decode cX5_key 39 = .ok (.getfield 19, 3) := by decide +kernel
theorem dX5_key_42 : decode cX5_key 42 = .ok (.getfield 71, 3) := by decide +kernel
theorem dX5_key_45 : decode cX5_key 45 = .ok (.imul, 1) := by decide +kernel
theorem dX5_key_46 : decode cX5_key 46 = .ok (.isub, 1) := by decide +kernel
theorem dX5_key_47 : decode cX5_key 47 = .ok (.istore 4, 2) := by decide +kernel
theorem dX5_key_49 : decode cX5_key 49 = .ok (.aload_n 0, 1) := by decide +kernel
theorem dX5_key_50 : decode cX5_key 50 = .ok (.getfield 19, 3) := by decide +kernel
theorem dX5_key_53 : decode cX5_key 53 = .ok (.getfield 100, 3) := by decide +kernel
theorem dX5_key_56 : decode cX5_key 56 = .ok (.iload 4, 2) := by decide +kernel
theorem dX5_key_58 : decode cX5_key 58 = .ok (.aaload, 1) := by decide +kernel
theorem dX5_key_59 : decode cX5_key 59 = .ok (.getfield 88, 3) := by decide +kernel
theorem dX5_key_62 : decode cX5_key 62 = .ok (.iload_n 2, 1) := by decide +kernel
theorem dX5_key_63 : decode cX5_key 63 = .ok (.iaload, 1) := by decide +kernel
theorem dX5_key_64 : decode cX5_key 64 = .ok (.iload_n 3, 1) := by decide +kernel
theorem dX5_key_65 : decode cX5_key 65 = .ok (.aload_n 0, 1) := by decide +kernel
theorem dX5_key_66 : decode cX5_key 66 = .ok (.getfield 19, 3) := by decide +kernel
theorem dX5_key_69 : decode cX5_key 69 = .ok (.getfield 25, 3) := by decide +kernel
theorem dX5_key_72 : decode cX5_key 72 = .ok (.getfield 88, 3) := by decide +kernel
theorem dX5_key_75 : decode cX5_key 75 = .ok (.iload_n 2, 1) := by decide +kernel
theorem dX5_key_76 : decode cX5_key 76 = .ok (.iaload, 1) := by decide +kernel
theorem dX5_key_77 : decode cX5_key 77 = .ok (.imul, 1) := by decide +kernel
theorem dX5_key_78 : decode cX5_key 78 = .ok (.iadd, 1) := by decide +kernel
theorem dX5_key_79 : decode cX5_key 79 = .ok (.ireturn, 1) := by decide +kernel
theorem dX5_compare_0 : decode cX5_compare 0 = .ok (.aload_n 0, 1) := by decide +kernel
theorem dX5_compare_1 : decode cX5_compare 1 = .ok (.iload_n 1, 1) := by decide +kernel
theorem dX5_compare_2 : decode cX5_compare 2 = .ok (.invokevirtual 77, 3) := by decide +kernel
theorem dX5_compare_5 : decode cX5_compare 5 = .ok (.ifCond .eq 11, 3) := by decide +kernel
theorem dX5_compare_8 : decode cX5_compare 8 = .ok (.aload_n 0, 1) := by decide +kernel
theorem dX5_compare_9 : decode cX5_compare 9 = .ok (.iload_n 2, 1) := by decide +kernel
theorem dX5_compare_10 : decode cX5_compare 10 = .ok (.invokevirtual 77, 3) := by decide +kernel
theorem dX5_compare_13 : decode cX5_compare 13 = .ok (.ifCond .ne 6, 3) := by decide +kernel
theorem dX5_compare_16 : decode cX5_compare 16 = .ok (.ldc 80, 2) := by decide +kernel
theorem dX5_compare_18 : decode cX5_compare 18 = .ok (.ireturn, 1) := by decide +kernel
theorem dX5_compare_19 : decode cX5_compare 19 = .ok (.aload_n 0, 1) := by decide +kernel
theorem dX5_compare_20 : decode cX5_compare 20 = .ok (.getfield 19, 3) := by decide +kernel
theorem dX5_compare_23 : decode cX5_compare 23 = .ok (.iload_n 1, 1) := by decide +kernel
theorem dX5_compare_24 : decode cX5_compare 24 = .ok (.invokevirtual 84, 3) := by decide +kernel
theorem dX5_compare_27 : decode cX5_compare 27 = .ok (.astore_n 3, 1) := by decide +kernel
theorem dX5_compare_28 : decode cX5_compare 28 = .ok (.aload_n 0, 1) := by decide +kernel
theorem dX5_compare_29 : decode cX5_compare 29 = .ok (.getfield 19, 3) := by decide +kernel
theorem dX5_compare_32 : decode cX5_compare 32 = .ok (.iload_n 2, 1) := by decide +kernel
theorem dX5_compare_33 : decode cX5_compare 33 = .ok (.invokevirtual 84, 3) := by decide +kernel
theorem dX5_compare_36 : decode cX5_compare 36 = .ok (.astore 4, 2) := by decide +kernel
theorem dX5_compare_38 : decode cX5_compare 38 = .ok (.aload_n 3, 1) := by decide +kernel
theorem dX5_compare_39 : decode cX5_compare 39 = .ok (.aload 4, 2) := by decide +kernel
theorem dX5_compare_41 : decode cX5_compare 41 = .ok (.iconst 1, 1) := by decide +kernel
theorem dX5_compare_42 : decode cX5_compare 42 = .ok (.invokevirtual 104, 3) := by decide +kernel
theorem dX5_compare_45 : decode cX5_compare 45 = .ok (.ifCond .eq 5, 3) := by decide +kernel
theorem dX5_compare_48 : decode cX5_compare 48 = .ok (.iconst (-1), 1) := by decide +kernel
theorem dX5_compare_49 : decode cX5_compare 49 = .ok (.ireturn, 1) := by decide +kernel
theorem dX5_compare_50 : decode cX5_compare 50 = .ok (.aload 4, 2) := by decide +kernel
theorem dX5_compare_52 : decode cX5_compare 52 = .ok (.aload_n 3, 1) := by decide +kernel
theorem dX5_compare_53 : decode cX5_compare 53 = .ok (.iconst 1, 1) := by decide +kernel
theorem dX5_compare_54 : decode cX5_compare 54 = .ok (.invokevirtual 104, 3) := by decide +kernel
theorem dX5_compare_57 : decode cX5_compare 57 = .ok (.ifCond .eq 7, 3) := by decide +kernel
theorem dX5_compare_60 : decode cX5_compare 60 = .ok (.iconst 1, 1) := by decide +kernel
theorem dX5_compare_61 : decode cX5_compare 61 = .ok (.goto 4, 3) := by decide +kernel
theorem dX5_compare_64 : decode cX5_compare 64 = .ok (.iconst 0, 1) := by decide +kernel
theorem dX5_compare_65 : decode cX5_compare 65 = .ok (.ireturn, 1) := by decide +kernel
theorem dX5_gap_0 : decode cX5_gap 0 = .ok (.aload_n 0, 1) := by decide +kernel
theorem dX5_gap_1 : decode cX5_gap 1 = .ok (.iload_n 1, 1) := by decide +kernel
theorem dX5_gap_2 : decode cX5_gap 2 = .ok (.invokevirtual 108, 3) := by decide +kernel
theorem dX5_gap_5 : decode cX5_gap 5 = .ok (.ifCond .ne 6, 3) := by decide +kernel
theorem dX5_gap_8 : decode cX5_gap 8 = .ok (.ldc 80, 2) := by decide +kernel
theorem dX5_gap_10 : decode cX5_gap 10 = .ok (.ireturn, 1) := by decide +kernel
theorem dX5_gap_11 : decode cX5_gap 11 = .ok (.iload_n 2, 1) := by decide +kernel
theorem dX5_gap_12 : decode cX5_gap 12 = .ok (.invokestatic 81, 3) := by decide +kernel
theorem dX5_gap_15 : decode cX5_gap 15 = .ok (.ifCond .eq 15, 3) := by decide +kernel
theorem dX5_gap_18 : decode cX5_gap 18 = .ok (.aload_n 0, 1) := by decide +kernel
theorem dX5_gap_19 : decode cX5_gap 19 = .ok (.getfield 19, 3) := by decide +kernel
theorem dX5_gap_22 : decode cX5_gap 22 = .ok (.iload_n 1, 1) := by decide +kernel
theorem dX5_gap_23 : decode cX5_gap 23 = .ok (.iload_n 2, 1) := by decide +kernel
theorem dX5_gap_24 : decode cX5_gap 24 = .ok (.invokevirtual 117, 3) := by decide +kernel
theorem dX5_gap_27 : decode cX5_gap 27 = .ok (.goto 5, 3) := by decide +kernel
theorem dX5_gap_30 : decode cX5_gap 30 = .ok (.ldc 47, 2) := by decide +kernel
theorem dX5_gap_32 : decode cX5_gap 32 = .ok (.ireturn, 1) := by decide +kernel
theorem dX5_gaps_0 : decode cX5_gaps 0 = .ok (.aload_n 0, 1) := by decide +kernel
theorem dX5_gaps_1 : decode cX5_gaps 1 = .ok (.getfield 19, 3) := by decide +kernel
theorem dX5_gaps_4 : decode cX5_gaps 4 = .ok (.invokevirtual 120, 3) := by decide +kernel
theorem dX5_gaps_7 : decode cX5_gaps 7 = .ok (.ireturn, 1) := by decide +kernel
theorem dX5_degree_0 : decode cX5_degree 0 = .ok (.aload_n 0, 1) := by decide +kernel
theorem dX5_degree_1 : decode cX5_degree 1 = .ok (.iload_n 1, 1) := by decide +kernel
theorem dX5_degree_2 : decode cX5_degree 2 = .ok (.invokevirtual 108, 3) := by decide +kernel
theorem dX5_degree_5 : decode cX5_degree 5 = .ok (.ifCond .ne 6, 3) := by decide +kernel
theorem dX5_degree_8 : decode cX5_degree 8 = .ok (.ldc 80, 2) := by decide +kernel
theorem dX5_degree_10 : decode cX5_degree 10 = .ok (.ireturn, 1) := by decide +kernel
theorem dX5_degree_11 : decode cX5_degree 11 = .ok (.iload_n 2, 1) := by decide +kernel
theorem dX5_degree_12 : decode cX5_degree 12 = .ok (.invokestatic 141, 3) := by decide +kernel
theorem dX5_degree_15 : decode cX5_degree 15 = .ok (.ifCond .eq 23, 3) := by decide +kernel
theorem dX5_degree_18 : decode cX5_degree 18 = .ok (.aload_n 0, 1) := by decide +kernel
theorem dX5_degree_19 : decode cX5_degree 19 = .ok (.getfield 32, 3) := by decide +kernel
theorem dX5_degree_22 : decode cX5_degree 22 = .ok (.aload_n 0, 1) := by decide +kernel
theorem dX5_degree_23 : decode cX5_degree 23 = .ok (.getfield 19, 3) := by decide +kernel
theorem dX5_degree_26 : decode cX5_degree 26 = .ok (.getfield 100, 3) := by decide +kernel
theorem dX5_degree_29 : decode cX5_degree 29 = .ok (.iload_n 1, 1) := by decide +kernel
theorem dX5_degree_30 : decode cX5_degree 30 = .ok (.aaload, 1) := by decide +kernel
theorem dX5_degree_31 : decode cX5_degree 31 = .ok (.iload_n 2, 1) := by decide +kernel
theorem dX5_degree_32 : decode cX5_degree 32 = .ok (.invokevirtual 144, 3) := by decide +kernel
theorem dX5_degree_35 : decode cX5_degree 35 = .ok (.goto 5, 3) := by decide +kernel
theorem dX5_degree_38 : decode cX5_degree 38 = .ok (.ldc 47, 2) := by decide +kernel
theorem dX5_degree_40 : decode cX5_degree 40 = .ok (.ireturn, 1) := by decide +kernel
theorem dX5_prime_0 : decode cX5_prime 0 = .ok (.iload_n 1, 1) := by decide +kernel
theorem dX5_prime_1 : decode cX5_prime 1 = .ok (.invokestatic 81, 3) := by decide +kernel
theorem dX5_prime_4 : decode cX5_prime 4 = .ok (.ifCond .eq 22, 3) := by decide +kernel
theorem dX5_prime_7 : decode cX5_prime 7 = .ok (.iload_n 2, 1) := by decide +kernel
theorem dX5_prime_8 : decode cX5_prime 8 = .ok (.invokestatic 141, 3) := by decide +kernel
theorem dX5_prime_11 : decode cX5_prime 11 = .ok (.ifCond .eq 15, 3) := by decide +kernel
theorem dX5_prime_14 : decode cX5_prime 14 = .ok (.aload_n 0, 1) := by decide +kernel
theorem dX5_prime_15 : decode cX5_prime 15 = .ok (.getfield 32, 3) := by decide +kernel
theorem dX5_prime_18 : decode cX5_prime 18 = .ok (.iload_n 1, 1) := by decide +kernel
theorem dX5_prime_19 : decode cX5_prime 19 = .ok (.iload_n 2, 1) := by decide +kernel
theorem dX5_prime_20 : decode cX5_prime 20 = .ok (.invokevirtual 148, 3) := by decide +kernel
theorem dX5_prime_23 : decode cX5_prime 23 = .ok (.goto 5, 3) := by decide +kernel
theorem dX5_prime_26 : decode cX5_prime 26 = .ok (.ldc 47, 2) := by decide +kernel
theorem dX5_prime_28 : decode cX5_prime 28 = .ok (.ireturn, 1) := by decide +kernel
theorem dX5_makes_0 : decode cX5_makes 0 = .ok (.aload_n 0, 1) := by decide +kernel
theorem dX5_makes_1 : decode cX5_makes 1 = .ok (.iload_n 1, 1) := by decide +kernel
theorem dX5_makes_2 : decode cX5_makes 2 = .ok (.invokevirtual 108, 3) := by decide +kernel
theorem dX5_makes_5 : decode cX5_makes 5 = .ok (.ifCond .ne 6, 3) := by decide +kernel
theorem dX5_makes_8 : decode cX5_makes 8 = .ok (.ldc 80, 2) := by decide +kernel
theorem dX5_makes_10 : decode cX5_makes 10 = .ok (.ireturn, 1) := by decide +kernel
theorem dX5_makes_11 : decode cX5_makes 11 = .ok (.iload_n 2, 1) := by decide +kernel
theorem dX5_makes_12 : decode cX5_makes 12 = .ok (.invokestatic 141, 3) := by decide +kernel
theorem dX5_makes_15 : decode cX5_makes 15 = .ok (.ifCond .eq 23, 3) := by decide +kernel
theorem dX5_makes_18 : decode cX5_makes 18 = .ok (.aload_n 0, 1) := by decide +kernel
theorem dX5_makes_19 : decode cX5_makes 19 = .ok (.getfield 32, 3) := by decide +kernel
theorem dX5_makes_22 : decode cX5_makes 22 = .ok (.aload_n 0, 1) := by decide +kernel
theorem dX5_makes_23 : decode cX5_makes 23 = .ok (.getfield 19, 3) := by decide +kernel
theorem dX5_makes_26 : decode cX5_makes 26 = .ok (.getfield 100, 3) := by decide +kernel
theorem dX5_makes_29 : decode cX5_makes 29 = .ok (.iload_n 1, 1) := by decide +kernel
theorem dX5_makes_30 : decode cX5_makes 30 = .ok (.aaload, 1) := by decide +kernel
theorem dX5_makes_31 : decode cX5_makes 31 = .ok (.iload_n 2, 1) := by decide +kernel
theorem dX5_makes_32 : decode cX5_makes 32 = .ok (.invokevirtual 151, 3) := by decide +kernel
theorem dX5_makes_35 : decode cX5_makes 35 = .ok (.goto 5, 3) := by decide +kernel
theorem dX5_makes_38 : decode cX5_makes 38 = .ok (.ldc 47, 2) := by decide +kernel
theorem dX5_makes_40 : decode cX5_makes 40 = .ok (.ireturn, 1) := by decide +kernel
theorem dX5_tempers_0 : decode cX5_tempers 0 = .ok (.aload_n 0, 1) := by decide +kernel
theorem dX5_tempers_1 : decode cX5_tempers 1 = .ok (.iload_n 1, 1) := by decide +kernel
theorem dX5_tempers_2 : decode cX5_tempers 2 = .ok (.invokevirtual 108, 3) := by decide +kernel
theorem dX5_tempers_5 : decode cX5_tempers 5 = .ok (.ifCond .eq 22, 3) := by decide +kernel
theorem dX5_tempers_8 : decode cX5_tempers 8 = .ok (.aload_n 0, 1) := by decide +kernel
theorem dX5_tempers_9 : decode cX5_tempers 9 = .ok (.getfield 32, 3) := by decide +kernel
theorem dX5_tempers_12 : decode cX5_tempers 12 = .ok (.aload_n 0, 1) := by decide +kernel
theorem dX5_tempers_13 : decode cX5_tempers 13 = .ok (.getfield 19, 3) := by decide +kernel
theorem dX5_tempers_16 : decode cX5_tempers 16 = .ok (.getfield 100, 3) := by decide +kernel
theorem dX5_tempers_19 : decode cX5_tempers 19 = .ok (.iload_n 1, 1) := by decide +kernel
theorem dX5_tempers_20 : decode cX5_tempers 20 = .ok (.aaload, 1) := by decide +kernel
theorem dX5_tempers_21 : decode cX5_tempers 21 = .ok (.invokevirtual 154, 3) := by decide +kernel
theorem dX5_tempers_24 : decode cX5_tempers 24 = .ok (.goto 5, 3) := by decide +kernel
theorem dX5_tempers_27 : decode cX5_tempers 27 = .ok (.ldc 80, 2) := by decide +kernel
theorem dX5_tempers_29 : decode cX5_tempers 29 = .ok (.ireturn, 1) := by decide +kernel
theorem dX5_term_0 : decode cX5_term 0 = .ok (.aload_n 0, 1) := by decide +kernel
theorem dX5_term_1 : decode cX5_term 1 = .ok (.iload_n 1, 1) := by decide +kernel
theorem dX5_term_2 : decode cX5_term 2 = .ok (.invokevirtual 108, 3) := by decide +kernel
theorem dX5_term_5 : decode cX5_term 5 = .ok (.ifCond .ne 6, 3) := by decide +kernel
theorem dX5_term_8 : decode cX5_term 8 = .ok (.ldc 80, 2) := by decide +kernel
theorem dX5_term_10 : decode cX5_term 10 = .ok (.ireturn, 1) := by decide +kernel
theorem dX5_term_11 : decode cX5_term 11 = .ok (.iload_n 2, 1) := by decide +kernel
theorem dX5_term_12 : decode cX5_term 12 = .ok (.ifCond .lt 9, 3) := by decide +kernel
theorem dX5_term_15 : decode cX5_term 15 = .ok (.iload_n 2, 1) := by decide +kernel
theorem dX5_term_16 : decode cX5_term 16 = .ok (.bipush 10, 2) := by decide +kernel
theorem dX5_term_18 : decode cX5_term 18 = .ok (.if_icmp .lt 6, 3) := by decide +kernel
theorem dX5_term_21 : decode cX5_term 21 = .ok (.ldc 47, 2) := by decide +kernel
theorem dX5_term_23 : decode cX5_term 23 = .ok (.ireturn, 1) := by decide +kernel
theorem dX5_term_24 : decode cX5_term 24 = .ok (.aload_n 0, 1) := by decide +kernel
theorem dX5_term_25 : decode cX5_term 25 = .ok (.getfield 19, 3) := by decide +kernel
theorem dX5_term_28 : decode cX5_term 28 = .ok (.getfield 100, 3) := by decide +kernel
theorem dX5_term_31 : decode cX5_term 31 = .ok (.iload_n 1, 1) := by decide +kernel
theorem dX5_term_32 : decode cX5_term 32 = .ok (.aaload, 1) := by decide +kernel
theorem dX5_term_33 : decode cX5_term 33 = .ok (.astore_n 3, 1) := by decide +kernel
theorem dX5_term_34 : decode cX5_term 34 = .ok (.aload_n 3, 1) := by decide +kernel
theorem dX5_term_35 : decode cX5_term 35 = .ok (.invokevirtual 158, 3) := by decide +kernel
theorem dX5_term_38 : decode cX5_term 38 = .ok (.ifCond .eq 22, 3) := by decide +kernel
theorem dX5_term_41 : decode cX5_term 41 = .ok (.aload_n 0, 1) := by decide +kernel
theorem dX5_term_42 : decode cX5_term 42 = .ok (.getfield 39, 3) := by decide +kernel
theorem dX5_term_45 : decode cX5_term 45 = .ok (.aload_n 3, 1) := by decide +kernel
theorem dX5_term_46 : decode cX5_term 46 = .ok (.aload_n 0, 1) := by decide +kernel
theorem dX5_term_47 : decode cX5_term 47 = .ok (.getfield 19, 3) := by decide +kernel
theorem dX5_term_50 : decode cX5_term 50 = .ok (.getfield 25, 3) := by decide +kernel
theorem dX5_term_53 : decode cX5_term 53 = .ok (.iload_n 2, 1) := by decide +kernel
theorem dX5_term_54 : decode cX5_term 54 = .ok (.invokevirtual 161, 3) := by decide +kernel
theorem dX5_term_57 : decode cX5_term 57 = .ok (.goto 5, 3) := by decide +kernel
theorem dX5_term_60 : decode cX5_term 60 = .ok (.ldc 165, 2) := by decide +kernel
theorem dX5_term_62 : decode cX5_term 62 = .ok (.ireturn, 1) := by decide +kernel
def nt (c : Nat) (xs : Nat → xZ) (P : xZ) (s : Int) : xZ := if s = c then P else xs s.toNat
def aExp (c : Nat) (xs : Nat → xZ) (P : xZ) (s p : Int) : Int := if 0 ≤ s ∧ s ≤ c then (if 0 ≤ p ∧ p < 6 then nt c xs P s p.toNat else -1000003) else -1000002
def aKey (c : Nat) (xs : Nat → xZ) (P : xZ) (k p : Int) : Int := if (-200 ≤ k ∧ k ≤ 200) ∧ 0 ≤ p ∧ p < 6 then xs (k % c).toNat p.toNat + (k / c) * P p.toNat else -1000003
def aCmp (c : Nat) (xs : Nat → xZ) (P : xZ) (a b : Int) : Int := if (0 ≤ a ∧ a ≤ c) ∧ 0 ≤ b ∧ b ≤ c then (if sz (nt c xs P a) < sz (nt c xs P b) then -1 else if sz (nt c xs P b) < sz (nt c xs P a) then 1 else 0) else -1000002
def aRed (c : Nat) (xs : Nat → xZ) (P : xZ) (s : Int) : Int := if 0 ≤ s ∧ s < c then qd (xs s.toNat) P else -1000002
def aOrd (c : Nat) (sr : Nat → Nat) (s : Int) : Int := if 0 ≤ s ∧ s < c then (sr s.toNat : Int) else -1000002
def rds (xs : Nat → xZ) (P : xZ) : Nat → xZ := fun j => rdc (xs j) P
def aGap (c : Nat) (xs : Nat → xZ) (P : xZ) (sr : Nat → Nat) (s p : Int) : Int := if 0 ≤ s ∧ s < c then (if 0 ≤ p ∧ p < 6 then gpv c (rds xs P) sr P s.toNat p.toNat else -1000003) else -1000002
def aDeg (c : Nat) (xs : Nat → xZ) (P : xZ) (s m : Int) : Int := if 0 ≤ s ∧ s < c then (if 1 ≤ m ∧ m ≤ 36 then dg (sz (xs s.toNat)) (sz P) m else -1000003) else -1000002
def aPrm (P : xZ) (p m : Int) : Int := if (0 ≤ p ∧ p < 6) ∧ 1 ≤ m ∧ m ≤ 36 then dg (LG p.toNat) (sz P) m else -1000003
def aMak (c : Nat) (xs : Nat → xZ) (P : xZ) (s m : Int) : Int := if 0 ≤ s ∧ s < c then (if 1 ≤ m ∧ m ≤ 36 then mkk (xs s.toNat) P m 6 else -1000003) else -1000002
/-- the least number of parts from i on, of k, that makes nothing -/
def lst (F : Nat → Int) : Nat → Nat → Int
  | 0, _ => -1000001
  | k + 1, i => if F i = 0 then (i : Int) else lst F k (i + 1)
def aTmp (c : Nat) (xs : Nat → xZ) (P : xZ) (s : Int) : Int := if 0 ≤ s ∧ s < c then lst (fun m => mkk (xs s.toNat) P m 6) 36 1 else -1000002
def aTrm (c : Nat) (xs : Nat → xZ) (P : xZ) (s i : Int) : Int := if 0 ≤ s ∧ s < c then (if 0 ≤ i ∧ i < 10 then (if 0 < sz (xs s.toNat) then trm i.toNat (xs s.toNat) P else -1000004) else -1000003) else -1000002
theorem lst_at {F : Nat → Int} {k : Nat} : ∀ {d i : Nat}, d < k → (∀ j, i ≤ j → j < i + d → F j ≠ 0) → F (i + d) = 0 → lst F k i = ((i + d : Nat) : Int) := by
  induction k with
  | zero => intro d i h; omega
  | succ k ih =>
    intro d i h h1 h2
    by_cases e : d = 0
    · subst e
      have h2 : F i = 0 := h2
      simp only [lst]
      rw [if_pos h2]; rfl
    · simp only [lst]
      rw [if_neg (h1 i (Nat.le_refl _) (by omega)), ih (d := d - 1) (i := i + 1) (by omega) (fun j a b => h1 j (by omega) (by omega)) (by rw [← h2]; congr 1; omega)]
      congr 1; omega
theorem lst_no {F : Nat → Int} {k : Nat} : ∀ {i : Nat}, (∀ j, i ≤ j → j < i + k → F j ≠ 0) → lst F k i = -1000001 := by
  induction k with
  | zero => intro i h; rfl
  | succ k ih =>
    intro i h
    simp only [lst]
    rw [if_neg (h i (Nat.le_refl _) (by omega))]
    exact ih (fun j a b => h j (by omega) (by omega))
theorem nI_nat {k : Nat} (h : k < 1000) : (nI k).toInt.toNat = k := by rw [nI_toInt (by omega)]; omega
theorem nI_int {k : Nat} (h : k < 1000) : (nI k).toInt = (k : Int) := nI_toInt (by omega)
theorem nt_k {c k : Nat} {xs : Nat → xZ} {P : xZ} (h : k < 1000) : nt c xs P (nI k).toInt = if k = c then P else xs k := by
  unfold nt
  rw [nI_int h]
  by_cases e : k = c
  · rw [if_pos e, if_pos (by omega)]
  · rw [if_neg e, if_neg (by omega)]; rfl
theorem ScW.note {f : xH} {w n : Nat} {ps : Nat → Nat} {xs rs : Nat → xZ} {tk so : Nat → Int32} {P : xZ} (h : ScW f w n ps xs rs tk so P) (hn : n ≤ 24) {k : Nat} (hk : k ≤ n) : ∃ b, Nt f (if k = n then w + 9 else ps k) b (if k = n then P else xs k) ∧ b < w + 111 ∧ (if k = n then w + 9 else ps k) < w + 111 := by
  obtain ⟨-, -, -, -, -, h6, -, h8, -, h10, -⟩ := h
  by_cases e : k = n
  · rw [if_pos e, if_pos e]; exact ⟨w + 10, h10, by omega, by omega⟩
  · rw [if_neg e, if_neg e]
    obtain ⟨j, hj, ej⟩ := h6 k (by omega)
    exact ⟨ps k + 1, h8 k (by omega), by omega, by omega⟩
theorem newg_ext {n : Nat} {rs rs' : Nat → xZ} {s : Nat → Nat} {P : xZ} (h : ∀ j, j < n → rs j = rs' j) (hs : ∀ j, j < n → s j < n) : ∀ {k c : Nat}, k ≤ n → newg n rs s P k c → newg n rs' s P k c
  | 0, c, _, q => q
  | k + 1, c, hk, ⟨c0, h0, q⟩ => by
    have e : ∀ i p, i < n → gpv n rs s P i p = gpv n rs' s P i p := by
      intro i p hi
      unfold gpv
      rw [h _ (hs i hi)]
      by_cases hc : i + 1 < n
      · rw [if_pos hc, if_pos hc, h _ (hs _ hc)]
      · rw [if_neg hc, if_neg hc]
    have e2 : ∀ j, j < k → (sameg n rs s P j k ↔ sameg n rs' s P j k) := fun j hj => by
      constructor
      · intro q p hp; rw [← e j p (by omega), ← e k p (by omega)]; exact q p hp
      · intro q p hp; rw [e j p (by omega), e k p (by omega)]; exact q p hp
    refine ⟨c0, newg_ext h hs (by omega) h0, ?_⟩
    rcases q with ⟨⟨j, hj, q1⟩, q2⟩ | ⟨q1, q2⟩
    · exact Or.inl ⟨⟨j, hj, (e2 j hj).mp q1⟩, q2⟩
    · exact Or.inr ⟨fun ⟨j, hj, q3⟩ => q1 ⟨j, hj, (e2 j hj).mpr q3⟩, q2⟩
theorem newg_uniq {n : Nat} {rs : Nat → xZ} {s : Nat → Nat} {P : xZ} : ∀ {k c c' : Nat}, newg n rs s P k c → newg n rs s P k c' → c = c'
  | 0, c, c', h, h' => by have h : c = 0 := h; have h' : c' = 0 := h'; omega
  | k + 1, c, c', ⟨c0, h0, h⟩, ⟨c1, h1, h'⟩ => by
    have := newg_uniq h0 h1
    rcases h with ⟨q, e⟩ | ⟨q, e⟩ <;> rcases h' with ⟨q', e'⟩ | ⟨q', e'⟩
    · omega
    · exact absurd q q'
    · exact absurd q' q
    · omega
set_option maxRecDepth 100000 in
set_option maxHeartbeats 4000000 in
theorem c5_place (V : xV) {w z n c : Nat} {f : xH} {t : Nat → Nat} {pl : Int32} {xs : Nat → xZ} {P : xZ} {sr : Nat → Nat} {post : Option Value → xH → Nat → Prop} (C : Cls f w t n pl c xs P sr) (S : Spc c xs P sr)
    (hp : post (some (.int pl)) f z) :
    xMet V yX5_place cX5_place 1 (some .int) 1 0 0 [.ref w] f z post := by
  refine xMet_of false (by decide) (Nat.le_of_ble_eq_true rfl) (fun h => by cases h) (fun X hX O Rt => ?_)
  have O : xO X cX5_place 1 RX5 1 0 0 false := O
  show xG X 0 [some (.ref w)] [] f (z, 0, 0)
  obtain ⟨h5, hT, ⟨ps, rs, tk, so, hW, htk, hrs, hso⟩, hPa, hDv⟩ := id C
  obtain ⟨hc1, hc2, hx0, hst, hbr, hper, hpn, hsrt⟩ := id S
  have h4 : f (w + 4) = some (xSc w c) := hW.1
  obtain ⟨hn, bt, g, cc, a4, a6, a7, a8, ht1, ht2, ht3, ht4⟩ := hT
  refine xgo O Rt xplX5_q xclX5_q [] 40 ?_
  simp (maxSteps := 10000000) (disch := omega) only [↓reduceIte, ↓xrun_s, ↓xck_e, xdo_e, xlg_0, xlg_c, xst1_0, xst1_1, xst1_c, xst2_0, xst2_1, xst2_c, xk2_n, xk2_i, xk2_a, xk2_l, xct_i, xct_a, xct_l, xf4_0, xf4_1, xf4_2, xf4_3, List.contains_cons, List.contains_nil, Bool.or_false, Bool.false_or, Bool.or_self, Bool.true_or, Bool.or_true, cond_true, cond_false, List.set_cons_zero, List.set_cons_succ, List.length_cons, List.length_nil, true_and, and_true, xu_s, xu_u, xeqs, Nat.le_refl, not_true_eq_false, xq_10, xq_01, Int32.reduceAdd, Int32.reduceMul, Int32.reduceSub, Int32.reduceLE, Int32.reduceLT, Int32.reduceToNatClampNeg, Nat.reduceAdd, Nat.reduceMul, Nat.reduceBEq, Nat.reduceLT, Nat.reduceLeDiff, Nat.reduceEqDiff, Nat.zero_add, Bool.false_eq_true, reduceCtorEq, if_false, if_true, not_false_eq_true, true_imp_iff, false_imp_iff, imp_self, ↓xil_e, ↓xll_e, ↓xal_e, ↓xs1i_e, ↓xs2i_e, ↓xs1l_e, ↓xs2l_e, ↓xsil_e, ↓xs1_e, ↓xs2_e, ↓xs1a_e, ↓xsia_e, ↓xsiia_e, ↓xslia_e, ↓xsaia_e, ↓xsva_e, ↓xse1i_e, ↓xse1l_e, ↓xse1a_e, ↓xse0_e, ↓xfv_0, ↓xfv_c, ↓xgf_e, ↓xpf_e, ↓xia_e, ↓xia_n, ↓xba_e, ↓xba_n, ↓xla_e, ↓xla_n, ↓xob_e, ↓xra_e, ↓xno_e, ↓xle_e, ↓xnr_i, ↓xnr_b0, ↓xnr_b1, ↓xnr_n, ↓xdo_e, ↓xkl_0, ↓xe_aload_n, ↓xe_getfield, ↓xe_ireturn, dX5_place_0, dX5_place_1, dX5_place_4, dX5_place_7, xpX5_10, xpX5_74, h5, ht1]
  exact hp
set_option maxRecDepth 100000 in
set_option maxHeartbeats 4000000 in
theorem c5_steps (V : xV) {w z n c : Nat} {f : xH} {t : Nat → Nat} {pl : Int32} {xs : Nat → xZ} {P : xZ} {sr : Nat → Nat} {post : Option Value → xH → Nat → Prop} (C : Cls f w t n pl c xs P sr) (S : Spc c xs P sr)
    (hp : post (some (.int (nI c))) f z) :
    xMet V yX5_steps cX5_steps 1 (some .int) 1 0 0 [.ref w] f z post := by
  refine xMet_of false (by decide) (Nat.le_of_ble_eq_true rfl) (fun h => by cases h) (fun X hX O Rt => ?_)
  have O : xO X cX5_steps 1 RX5 1 0 0 false := O
  show xG X 0 [some (.ref w)] [] f (z, 0, 0)
  obtain ⟨h5, hT, ⟨ps, rs, tk, so, hW, htk, hrs, hso⟩, hPa, hDv⟩ := id C
  obtain ⟨hc1, hc2, hx0, hst, hbr, hper, hpn, hsrt⟩ := id S
  have h4 : f (w + 4) = some (xSc w c) := hW.1
  refine xgo O Rt xplX5_q xclX5_q [] 40 ?_
  simp (maxSteps := 10000000) (disch := omega) only [↓reduceIte, ↓xrun_s, ↓xck_e, xdo_e, xlg_0, xlg_c, xst1_0, xst1_1, xst1_c, xst2_0, xst2_1, xst2_c, xk2_n, xk2_i, xk2_a, xk2_l, xct_i, xct_a, xct_l, xf4_0, xf4_1, xf4_2, xf4_3, List.contains_cons, List.contains_nil, Bool.or_false, Bool.false_or, Bool.or_self, Bool.true_or, Bool.or_true, cond_true, cond_false, List.set_cons_zero, List.set_cons_succ, List.length_cons, List.length_nil, true_and, and_true, xu_s, xu_u, xeqs, Nat.le_refl, not_true_eq_false, xq_10, xq_01, Int32.reduceAdd, Int32.reduceMul, Int32.reduceSub, Int32.reduceLE, Int32.reduceLT, Int32.reduceToNatClampNeg, Nat.reduceAdd, Nat.reduceMul, Nat.reduceBEq, Nat.reduceLT, Nat.reduceLeDiff, Nat.reduceEqDiff, Nat.zero_add, Bool.false_eq_true, reduceCtorEq, if_false, if_true, not_false_eq_true, true_imp_iff, false_imp_iff, imp_self, ↓xil_e, ↓xll_e, ↓xal_e, ↓xs1i_e, ↓xs2i_e, ↓xs1l_e, ↓xs2l_e, ↓xsil_e, ↓xs1_e, ↓xs2_e, ↓xs1a_e, ↓xsia_e, ↓xsiia_e, ↓xslia_e, ↓xsaia_e, ↓xsva_e, ↓xse1i_e, ↓xse1l_e, ↓xse1a_e, ↓xse0_e, ↓xfv_0, ↓xfv_c, ↓xgf_e, ↓xpf_e, ↓xia_e, ↓xia_n, ↓xba_e, ↓xba_n, ↓xla_e, ↓xla_n, ↓xob_e, ↓xra_e, ↓xno_e, ↓xle_e, ↓xnr_i, ↓xnr_b0, ↓xnr_b1, ↓xnr_n, ↓xdo_e, ↓xkl_0, ↓xe_aload_n, ↓xe_getfield, ↓xe_ireturn, dX5_steps_0, dX5_steps_1, dX5_steps_4, dX5_steps_7, xpX5_19, xpX5_71, h5, h4]
  exact hp
set_option maxRecDepth 100000 in
set_option maxHeartbeats 4000000 in
theorem c5_exponent (V : xV) {w z n c : Nat} {f : xH} {t : Nat → Nat} {pl : Int32} {xs : Nat → xZ} {P : xZ} {sr : Nat → Nat} {s p : Int32} {post : Option Value → xH → Nat → Prop} (C : Cls f w t n pl c xs P sr) (S : Spc c xs P sr)
    (hp : ∀ r : Int32, r.toInt = aExp c xs P s.toInt p.toInt → post (some (.int r)) f z) :
    xMet V yX5_exponent cX5_exponent 3 (some .int) 2 0 0 [.ref w, .int s, .int p] f z post := by
  refine xMet_of false (by decide) (Nat.le_of_ble_eq_true rfl) (fun h => by cases h) (fun X hX O Rt => ?_)
  have O : xO X cX5_exponent 3 RX5 2 0 0 false := O
  show xG X 0 [some (.ref w), some (.int s), some (.int p)] [] f (z, 0, 0)
  obtain ⟨h5, hT, ⟨ps, rs, tk, so, hW, htk, hrs, hso⟩, hPa, hDv⟩ := id C
  obtain ⟨hc1, hc2, hx0, hst, hbr, hper, hpn, hsrt⟩ := id S
  have h4 : f (w + 4) = some (xSc w c) := hW.1
  refine xgo O Rt xplX5_q xclX5_q [] 40 ?_
  simp (maxSteps := 10000000) (disch := omega) only [↓reduceIte, ↓xrun_s, ↓xck_e, xdo_e, xlg_0, xlg_c, xst1_0, xst1_1, xst1_c, xst2_0, xst2_1, xst2_c, xk2_n, xk2_i, xk2_a, xk2_l, xct_i, xct_a, xct_l, xf4_0, xf4_1, xf4_2, xf4_3, List.contains_cons, List.contains_nil, Bool.or_false, Bool.false_or, Bool.or_self, Bool.true_or, Bool.or_true, cond_true, cond_false, List.set_cons_zero, List.set_cons_succ, List.length_cons, List.length_nil, true_and, and_true, xu_s, xu_u, xeqs, Nat.le_refl, not_true_eq_false, xq_10, xq_01, Int32.reduceAdd, Int32.reduceMul, Int32.reduceSub, Int32.reduceLE, Int32.reduceLT, Int32.reduceToNatClampNeg, Nat.reduceAdd, Nat.reduceMul, Nat.reduceBEq, Nat.reduceLT, Nat.reduceLeDiff, Nat.reduceEqDiff, Nat.zero_add, Bool.false_eq_true, reduceCtorEq, if_false, if_true, not_false_eq_true, true_imp_iff, false_imp_iff, imp_self, ↓xil_e, ↓xll_e, ↓xal_e, ↓xs1i_e, ↓xs2i_e, ↓xs1l_e, ↓xs2l_e, ↓xsil_e, ↓xs1_e, ↓xs2_e, ↓xs1a_e, ↓xsia_e, ↓xsiia_e, ↓xslia_e, ↓xsaia_e, ↓xsva_e, ↓xse1i_e, ↓xse1l_e, ↓xse1a_e, ↓xse0_e, ↓xfv_0, ↓xfv_c, ↓xgf_e, ↓xpf_e, ↓xia_e, ↓xia_n, ↓xba_e, ↓xba_n, ↓xla_e, ↓xla_n, ↓xob_e, ↓xra_e, ↓xno_e, ↓xle_e, ↓xnr_i, ↓xnr_b0, ↓xnr_b1, ↓xnr_n, ↓xdo_e, ↓xkl_0, ↓xe_iload_n, ↓xe_aload_n, ↓xe_goto, ↓xe_ldc, ↓xe_getfield, ↓xe_iaload, ↓xe_ireturn, ↓xe_if_eq, ↓xe_if_ne, ↓xe_invokevirtual, ↓xe_invokestatic, dX5_exponent_0, dX5_exponent_1, dX5_exponent_2, dX5_exponent_5, dX5_exponent_8, dX5_exponent_10, dX5_exponent_11, dX5_exponent_12, dX5_exponent_15, dX5_exponent_18, dX5_exponent_19, dX5_exponent_22, dX5_exponent_23, dX5_exponent_26, dX5_exponent_29, dX5_exponent_30, dX5_exponent_31, dX5_exponent_34, dX5_exponent_36, xpX5_19, xpX5_88, xcX5_47, xcX5_80, xt_5_6, xtc_5_6, xt_15_19, xtc_15_19, xt_31_5, xtc_31_5]
  refine xg_callVi (Qp := fun r f2 => ((0 ≤ s.toInt ∧ s.toInt ≤ c ∧ r = 1) ∨ (¬ (0 ≤ s.toInt ∧ s.toInt ≤ c) ∧ r = 0)) ∧ f = f2) O dX5_exponent_2 xl_X5_77 xk_X5_isStepOrPeriod (c_isStepOrPeriod _ h5 h4 hc2 (fun a b => ⟨1, rfl, ⟨Or.inl ⟨a, b, rfl⟩, rfl⟩, rfl⟩) (fun a => ⟨0, rfl, ⟨Or.inr ⟨a, rfl⟩, rfl⟩, rfl⟩)) h5 rfl rfl rfl (Nat.le_of_ble_eq_true rfl) rfl (Nat.le_of_ble_eq_true rfl) (Nat.le_of_ble_eq_true rfl) (Nat.le_of_ble_eq_true rfl) (fun r f2 hq => ?_)
  obtain ⟨hd, rfl⟩ := hq
  rcases hd with ⟨a2, b2, rfl⟩ | ⟨a2, rfl⟩
  rotate_left
  · refine xgo O Rt xplX5_q xclX5_q [] 40 ?_
    simp (maxSteps := 10000000) (disch := omega) only [↓reduceIte, ↓xrun_s, ↓xck_e, xdo_e, xlg_0, xlg_c, xst1_0, xst1_1, xst1_c, xst2_0, xst2_1, xst2_c, xk2_n, xk2_i, xk2_a, xk2_l, xct_i, xct_a, xct_l, xf4_0, xf4_1, xf4_2, xf4_3, List.contains_cons, List.contains_nil, Bool.or_false, Bool.false_or, Bool.or_self, Bool.true_or, Bool.or_true, cond_true, cond_false, List.set_cons_zero, List.set_cons_succ, List.length_cons, List.length_nil, true_and, and_true, xu_s, xu_u, xeqs, Nat.le_refl, not_true_eq_false, xq_10, xq_01, Int32.reduceAdd, Int32.reduceMul, Int32.reduceSub, Int32.reduceLE, Int32.reduceLT, Int32.reduceToNatClampNeg, Nat.reduceAdd, Nat.reduceMul, Nat.reduceBEq, Nat.reduceLT, Nat.reduceLeDiff, Nat.reduceEqDiff, Nat.zero_add, Bool.false_eq_true, reduceCtorEq, if_false, if_true, not_false_eq_true, true_imp_iff, false_imp_iff, imp_self, ↓xil_e, ↓xll_e, ↓xal_e, ↓xs1i_e, ↓xs2i_e, ↓xs1l_e, ↓xs2l_e, ↓xsil_e, ↓xs1_e, ↓xs2_e, ↓xs1a_e, ↓xsia_e, ↓xsiia_e, ↓xslia_e, ↓xsaia_e, ↓xsva_e, ↓xse1i_e, ↓xse1l_e, ↓xse1a_e, ↓xse0_e, ↓xfv_0, ↓xfv_c, ↓xgf_e, ↓xpf_e, ↓xia_e, ↓xia_n, ↓xba_e, ↓xba_n, ↓xla_e, ↓xla_n, ↓xob_e, ↓xra_e, ↓xno_e, ↓xle_e, ↓xnr_i, ↓xnr_b0, ↓xnr_b1, ↓xnr_n, ↓xdo_e, ↓xkl_0, ↓xe_iload_n, ↓xe_aload_n, ↓xe_goto, ↓xe_ldc, ↓xe_getfield, ↓xe_iaload, ↓xe_ireturn, ↓xe_if_eq, ↓xe_if_ne, ↓xe_invokevirtual, ↓xe_invokestatic, dX5_exponent_0, dX5_exponent_1, dX5_exponent_2, dX5_exponent_5, dX5_exponent_8, dX5_exponent_10, dX5_exponent_11, dX5_exponent_12, dX5_exponent_15, dX5_exponent_18, dX5_exponent_19, dX5_exponent_22, dX5_exponent_23, dX5_exponent_26, dX5_exponent_29, dX5_exponent_30, dX5_exponent_31, dX5_exponent_34, dX5_exponent_36, xpX5_19, xpX5_88, xcX5_47, xcX5_80, xt_5_6, xtc_5_6, xt_15_19, xtc_15_19, xt_31_5, xtc_31_5]
    refine hp _ ?_
    rw [aExp, if_neg a2]
    rfl
  refine xgo O Rt xplX5_q xclX5_q [] 40 ?_
  simp (maxSteps := 10000000) (disch := omega) only [↓reduceIte, ↓xrun_s, ↓xck_e, xdo_e, xlg_0, xlg_c, xst1_0, xst1_1, xst1_c, xst2_0, xst2_1, xst2_c, xk2_n, xk2_i, xk2_a, xk2_l, xct_i, xct_a, xct_l, xf4_0, xf4_1, xf4_2, xf4_3, List.contains_cons, List.contains_nil, Bool.or_false, Bool.false_or, Bool.or_self, Bool.true_or, Bool.or_true, cond_true, cond_false, List.set_cons_zero, List.set_cons_succ, List.length_cons, List.length_nil, true_and, and_true, xu_s, xu_u, xeqs, Nat.le_refl, not_true_eq_false, xq_10, xq_01, Int32.reduceAdd, Int32.reduceMul, Int32.reduceSub, Int32.reduceLE, Int32.reduceLT, Int32.reduceToNatClampNeg, Nat.reduceAdd, Nat.reduceMul, Nat.reduceBEq, Nat.reduceLT, Nat.reduceLeDiff, Nat.reduceEqDiff, Nat.zero_add, Bool.false_eq_true, reduceCtorEq, if_false, if_true, not_false_eq_true, true_imp_iff, false_imp_iff, imp_self, ↓xil_e, ↓xll_e, ↓xal_e, ↓xs1i_e, ↓xs2i_e, ↓xs1l_e, ↓xs2l_e, ↓xsil_e, ↓xs1_e, ↓xs2_e, ↓xs1a_e, ↓xsia_e, ↓xsiia_e, ↓xslia_e, ↓xsaia_e, ↓xsva_e, ↓xse1i_e, ↓xse1l_e, ↓xse1a_e, ↓xse0_e, ↓xfv_0, ↓xfv_c, ↓xgf_e, ↓xpf_e, ↓xia_e, ↓xia_n, ↓xba_e, ↓xba_n, ↓xla_e, ↓xla_n, ↓xob_e, ↓xra_e, ↓xno_e, ↓xle_e, ↓xnr_i, ↓xnr_b0, ↓xnr_b1, ↓xnr_n, ↓xdo_e, ↓xkl_0, ↓xe_iload_n, ↓xe_aload_n, ↓xe_goto, ↓xe_ldc, ↓xe_getfield, ↓xe_iaload, ↓xe_ireturn, ↓xe_if_eq, ↓xe_if_ne, ↓xe_invokevirtual, ↓xe_invokestatic, dX5_exponent_0, dX5_exponent_1, dX5_exponent_2, dX5_exponent_5, dX5_exponent_8, dX5_exponent_10, dX5_exponent_11, dX5_exponent_12, dX5_exponent_15, dX5_exponent_18, dX5_exponent_19, dX5_exponent_22, dX5_exponent_23, dX5_exponent_26, dX5_exponent_29, dX5_exponent_30, dX5_exponent_31, dX5_exponent_34, dX5_exponent_36, xpX5_19, xpX5_88, xcX5_47, xcX5_80, xt_5_6, xtc_5_6, xt_15_19, xtc_15_19, xt_31_5, xtc_31_5]
  refine xg_callSi (Qp := fun r f2 => ((0 ≤ p.toInt ∧ p.toInt < 6 ∧ r = 1) ∨ (¬ (0 ≤ p.toInt ∧ p.toInt < 6) ∧ r = 0)) ∧ f = f2) O dX5_exponent_12 xl_X5_81 xk_X5_isPrime (c_isPrime _ (fun a b => ⟨1, rfl, ⟨Or.inl ⟨a, b, rfl⟩, rfl⟩, rfl⟩) (fun a => ⟨0, rfl, ⟨Or.inr ⟨a, rfl⟩, rfl⟩, rfl⟩)) rfl (Nat.le_of_ble_eq_true rfl) rfl (Nat.le_of_ble_eq_true rfl) (Nat.le_of_ble_eq_true rfl) (Nat.le_of_ble_eq_true rfl) (fun r f2 hq => ?_)
  obtain ⟨hd, rfl⟩ := hq
  rcases hd with ⟨a12, b12, rfl⟩ | ⟨a12, rfl⟩
  rotate_left
  · refine xgo O Rt xplX5_q xclX5_q [] 40 ?_
    simp (maxSteps := 10000000) (disch := omega) only [↓reduceIte, ↓xrun_s, ↓xck_e, xdo_e, xlg_0, xlg_c, xst1_0, xst1_1, xst1_c, xst2_0, xst2_1, xst2_c, xk2_n, xk2_i, xk2_a, xk2_l, xct_i, xct_a, xct_l, xf4_0, xf4_1, xf4_2, xf4_3, List.contains_cons, List.contains_nil, Bool.or_false, Bool.false_or, Bool.or_self, Bool.true_or, Bool.or_true, cond_true, cond_false, List.set_cons_zero, List.set_cons_succ, List.length_cons, List.length_nil, true_and, and_true, xu_s, xu_u, xeqs, Nat.le_refl, not_true_eq_false, xq_10, xq_01, Int32.reduceAdd, Int32.reduceMul, Int32.reduceSub, Int32.reduceLE, Int32.reduceLT, Int32.reduceToNatClampNeg, Nat.reduceAdd, Nat.reduceMul, Nat.reduceBEq, Nat.reduceLT, Nat.reduceLeDiff, Nat.reduceEqDiff, Nat.zero_add, Bool.false_eq_true, reduceCtorEq, if_false, if_true, not_false_eq_true, true_imp_iff, false_imp_iff, imp_self, ↓xil_e, ↓xll_e, ↓xal_e, ↓xs1i_e, ↓xs2i_e, ↓xs1l_e, ↓xs2l_e, ↓xsil_e, ↓xs1_e, ↓xs2_e, ↓xs1a_e, ↓xsia_e, ↓xsiia_e, ↓xslia_e, ↓xsaia_e, ↓xsva_e, ↓xse1i_e, ↓xse1l_e, ↓xse1a_e, ↓xse0_e, ↓xfv_0, ↓xfv_c, ↓xgf_e, ↓xpf_e, ↓xia_e, ↓xia_n, ↓xba_e, ↓xba_n, ↓xla_e, ↓xla_n, ↓xob_e, ↓xra_e, ↓xno_e, ↓xle_e, ↓xnr_i, ↓xnr_b0, ↓xnr_b1, ↓xnr_n, ↓xdo_e, ↓xkl_0, ↓xe_iload_n, ↓xe_aload_n, ↓xe_goto, ↓xe_ldc, ↓xe_getfield, ↓xe_iaload, ↓xe_ireturn, ↓xe_if_eq, ↓xe_if_ne, ↓xe_invokevirtual, ↓xe_invokestatic, dX5_exponent_0, dX5_exponent_1, dX5_exponent_2, dX5_exponent_5, dX5_exponent_8, dX5_exponent_10, dX5_exponent_11, dX5_exponent_12, dX5_exponent_15, dX5_exponent_18, dX5_exponent_19, dX5_exponent_22, dX5_exponent_23, dX5_exponent_26, dX5_exponent_29, dX5_exponent_30, dX5_exponent_31, dX5_exponent_34, dX5_exponent_36, xpX5_19, xpX5_88, xcX5_47, xcX5_80, xt_5_6, xtc_5_6, xt_15_19, xtc_15_19, xt_31_5, xtc_31_5]
    refine hp _ ?_
    rw [aExp, if_pos ⟨a2, b2⟩, if_neg a12]
    rfl
  obtain ⟨k, hk, rfl⟩ := s_nI (m := c + 1) a2 (by omega)
  obtain ⟨j, hj, rfl⟩ := s_nI (m := 6) a12 b12
  obtain ⟨b, hN, -⟩ := hW.note hc2 (k := k) (by omega)
  have v4 : vp_in (nI j) 6 := vp_in_nI hj (by omega)
  have v5 : (nI j).toNatClampNeg = j := nI_clamp (by omega)
  obtain ⟨-, e, q1, q2, q3, q4, q5, q6, -⟩ := hN
  refine xgo O Rt xplX5_q xclX5_q [] 40 ?_
  simp (maxSteps := 10000000) (disch := omega) only [↓reduceIte, ↓xrun_s, ↓xck_e, xdo_e, xlg_0, xlg_c, xst1_0, xst1_1, xst1_c, xst2_0, xst2_1, xst2_c, xk2_n, xk2_i, xk2_a, xk2_l, xct_i, xct_a, xct_l, xf4_0, xf4_1, xf4_2, xf4_3, List.contains_cons, List.contains_nil, Bool.or_false, Bool.false_or, Bool.or_self, Bool.true_or, Bool.or_true, cond_true, cond_false, List.set_cons_zero, List.set_cons_succ, List.length_cons, List.length_nil, true_and, and_true, xu_s, xu_u, xeqs, Nat.le_refl, not_true_eq_false, xq_10, xq_01, Int32.reduceAdd, Int32.reduceMul, Int32.reduceSub, Int32.reduceLE, Int32.reduceLT, Int32.reduceToNatClampNeg, Nat.reduceAdd, Nat.reduceMul, Nat.reduceBEq, Nat.reduceLT, Nat.reduceLeDiff, Nat.reduceEqDiff, Nat.zero_add, Bool.false_eq_true, reduceCtorEq, if_false, if_true, not_false_eq_true, true_imp_iff, false_imp_iff, imp_self, ↓xil_e, ↓xll_e, ↓xal_e, ↓xs1i_e, ↓xs2i_e, ↓xs1l_e, ↓xs2l_e, ↓xsil_e, ↓xs1_e, ↓xs2_e, ↓xs1a_e, ↓xsia_e, ↓xsiia_e, ↓xslia_e, ↓xsaia_e, ↓xsva_e, ↓xse1i_e, ↓xse1l_e, ↓xse1a_e, ↓xse0_e, ↓xfv_0, ↓xfv_c, ↓xgf_e, ↓xpf_e, ↓xia_e, ↓xia_n, ↓xba_e, ↓xba_n, ↓xla_e, ↓xla_n, ↓xob_e, ↓xra_e, ↓xno_e, ↓xle_e, ↓xnr_i, ↓xnr_b0, ↓xnr_b1, ↓xnr_n, ↓xdo_e, ↓xkl_0, ↓xe_iload_n, ↓xe_aload_n, ↓xe_goto, ↓xe_ldc, ↓xe_getfield, ↓xe_iaload, ↓xe_ireturn, ↓xe_if_eq, ↓xe_if_ne, ↓xe_invokevirtual, ↓xe_invokestatic, dX5_exponent_0, dX5_exponent_1, dX5_exponent_2, dX5_exponent_5, dX5_exponent_8, dX5_exponent_10, dX5_exponent_11, dX5_exponent_12, dX5_exponent_15, dX5_exponent_18, dX5_exponent_19, dX5_exponent_22, dX5_exponent_23, dX5_exponent_26, dX5_exponent_29, dX5_exponent_30, dX5_exponent_31, dX5_exponent_34, dX5_exponent_36, xpX5_19, xpX5_88, xcX5_47, xcX5_80, h5, xt_5_6, xtc_5_6, xt_15_19, xtc_15_19, xt_31_5, xtc_31_5]
  refine xg_callVa (Qp := fun r f2 => r = (if k = c then w + 9 else ps k) ∧ f = f2) O dX5_exponent_23 xl_X5_84 xk_X3_noteAt (c_noteAt _ hW hc2 (s := k) (by omega) ⟨_, rfl, ⟨rfl, rfl⟩, rfl⟩) h4 rfl rfl rfl (Nat.le_of_ble_eq_true rfl) rfl (Nat.le_of_ble_eq_true rfl) (Nat.le_of_ble_eq_true rfl) (Nat.le_of_ble_eq_true rfl) (fun r f2 hq => ?_)
  obtain ⟨rfl, rfl⟩ := hq
  refine xgo O Rt xplX5_q xclX5_q [] 40 ?_
  simp (maxSteps := 10000000) (disch := omega) only [↓reduceIte, ↓xrun_s, ↓xck_e, xdo_e, xlg_0, xlg_c, xst1_0, xst1_1, xst1_c, xst2_0, xst2_1, xst2_c, xk2_n, xk2_i, xk2_a, xk2_l, xct_i, xct_a, xct_l, xf4_0, xf4_1, xf4_2, xf4_3, List.contains_cons, List.contains_nil, Bool.or_false, Bool.false_or, Bool.or_self, Bool.true_or, Bool.or_true, cond_true, cond_false, List.set_cons_zero, List.set_cons_succ, List.length_cons, List.length_nil, true_and, and_true, xu_s, xu_u, xeqs, Nat.le_refl, not_true_eq_false, xq_10, xq_01, Int32.reduceAdd, Int32.reduceMul, Int32.reduceSub, Int32.reduceLE, Int32.reduceLT, Int32.reduceToNatClampNeg, Nat.reduceAdd, Nat.reduceMul, Nat.reduceBEq, Nat.reduceLT, Nat.reduceLeDiff, Nat.reduceEqDiff, Nat.zero_add, Bool.false_eq_true, reduceCtorEq, if_false, if_true, not_false_eq_true, true_imp_iff, false_imp_iff, imp_self, ↓xil_e, ↓xll_e, ↓xal_e, ↓xs1i_e, ↓xs2i_e, ↓xs1l_e, ↓xs2l_e, ↓xsil_e, ↓xs1_e, ↓xs2_e, ↓xs1a_e, ↓xsia_e, ↓xsiia_e, ↓xslia_e, ↓xsaia_e, ↓xsva_e, ↓xse1i_e, ↓xse1l_e, ↓xse1a_e, ↓xse0_e, ↓xfv_0, ↓xfv_c, ↓xgf_e, ↓xpf_e, ↓xia_e, ↓xia_n, ↓xba_e, ↓xba_n, ↓xla_e, ↓xla_n, ↓xob_e, ↓xra_e, ↓xno_e, ↓xle_e, ↓xnr_i, ↓xnr_b0, ↓xnr_b1, ↓xnr_n, ↓xdo_e, ↓xkl_0, ↓xe_iload_n, ↓xe_aload_n, ↓xe_goto, ↓xe_ldc, ↓xe_getfield, ↓xe_iaload, ↓xe_ireturn, ↓xe_if_eq, ↓xe_if_ne, ↓xe_invokevirtual, ↓xe_invokestatic, dX5_exponent_0, dX5_exponent_1, dX5_exponent_2, dX5_exponent_5, dX5_exponent_8, dX5_exponent_10, dX5_exponent_11, dX5_exponent_12, dX5_exponent_15, dX5_exponent_18, dX5_exponent_19, dX5_exponent_22, dX5_exponent_23, dX5_exponent_26, dX5_exponent_29, dX5_exponent_30, dX5_exponent_31, dX5_exponent_34, dX5_exponent_36, xpX5_19, xpX5_88, xcX5_47, xcX5_80, q4, q5, v4, v5, xt_5_6, xtc_5_6, xt_15_19, xtc_15_19, xt_31_5, xtc_31_5]
  refine hp _ ?_
  rw [aExp, if_pos ⟨a2, b2⟩, if_pos ⟨a12, b12⟩, nt_k (by omega), nI_nat (by omega)]
  exact q6 j hj
set_option maxRecDepth 100000 in
set_option maxHeartbeats 4000000 in
theorem c5_reduce (V : xV) {w z n c : Nat} {f : xH} {t : Nat → Nat} {pl : Int32} {xs : Nat → xZ} {P : xZ} {sr : Nat → Nat} {s : Int32} {post : Option Value → xH → Nat → Prop} (C : Cls f w t n pl c xs P sr) (S : Spc c xs P sr)
    (hp : ∀ r : Int32, r.toInt = aRed c xs P s.toInt → post (some (.int r)) f z) :
    xMet V yX5_reduce cX5_reduce 2 (some .int) 2 0 0 [.ref w, .int s] f z post := by
  refine xMet_of false (by decide) (Nat.le_of_ble_eq_true rfl) (fun h => by cases h) (fun X hX O Rt => ?_)
  have O : xO X cX5_reduce 2 RX5 2 0 0 false := O
  show xG X 0 [some (.ref w), some (.int s)] [] f (z, 0, 0)
  obtain ⟨h5, hT, ⟨ps, rs, tk, so, hW, htk, hrs, hso⟩, hPa, hDv⟩ := id C
  obtain ⟨hc1, hc2, hx0, hst, hbr, hper, hpn, hsrt⟩ := id S
  have h4 : f (w + 4) = some (xSc w c) := hW.1
  refine xgo O Rt xplX5_q xclX5_q [] 40 ?_
  simp (maxSteps := 10000000) (disch := omega) only [↓reduceIte, ↓xrun_s, ↓xck_e, xdo_e, xlg_0, xlg_c, xst1_0, xst1_1, xst1_c, xst2_0, xst2_1, xst2_c, xk2_n, xk2_i, xk2_a, xk2_l, xct_i, xct_a, xct_l, xf4_0, xf4_1, xf4_2, xf4_3, List.contains_cons, List.contains_nil, Bool.or_false, Bool.false_or, Bool.or_self, Bool.true_or, Bool.or_true, cond_true, cond_false, List.set_cons_zero, List.set_cons_succ, List.length_cons, List.length_nil, true_and, and_true, xu_s, xu_u, xeqs, Nat.le_refl, not_true_eq_false, xq_10, xq_01, Int32.reduceAdd, Int32.reduceMul, Int32.reduceSub, Int32.reduceLE, Int32.reduceLT, Int32.reduceToNatClampNeg, Nat.reduceAdd, Nat.reduceMul, Nat.reduceBEq, Nat.reduceLT, Nat.reduceLeDiff, Nat.reduceEqDiff, Nat.zero_add, Bool.false_eq_true, reduceCtorEq, if_false, if_true, not_false_eq_true, true_imp_iff, false_imp_iff, imp_self, ↓xil_e, ↓xll_e, ↓xal_e, ↓xs1i_e, ↓xs2i_e, ↓xs1l_e, ↓xs2l_e, ↓xsil_e, ↓xs1_e, ↓xs2_e, ↓xs1a_e, ↓xsia_e, ↓xsiia_e, ↓xslia_e, ↓xsaia_e, ↓xsva_e, ↓xse1i_e, ↓xse1l_e, ↓xse1a_e, ↓xse0_e, ↓xfv_0, ↓xfv_c, ↓xgf_e, ↓xpf_e, ↓xia_e, ↓xia_n, ↓xba_e, ↓xba_n, ↓xla_e, ↓xla_n, ↓xob_e, ↓xra_e, ↓xno_e, ↓xle_e, ↓xnr_i, ↓xnr_b0, ↓xnr_b1, ↓xnr_n, ↓xdo_e, ↓xkl_0, ↓xe_iload_n, ↓xe_aload_n, ↓xe_goto, ↓xe_ldc, ↓xe_getfield, ↓xe_iaload, ↓xe_ireturn, ↓xe_if_eq, ↓xe_invokevirtual, dX5_reduce_0, dX5_reduce_1, dX5_reduce_2, dX5_reduce_5, dX5_reduce_8, dX5_reduce_9, dX5_reduce_12, dX5_reduce_15, dX5_reduce_16, dX5_reduce_17, dX5_reduce_20, dX5_reduce_22, xpX5_19, xpX5_111, xcX5_80, xt_5_15, xtc_5_15, xt_17_5, xtc_17_5]
  refine xg_callVi (Qp := fun r f2 => ((0 ≤ s.toInt ∧ s.toInt < c ∧ r = 1) ∨ (¬ (0 ≤ s.toInt ∧ s.toInt < c) ∧ r = 0)) ∧ f = f2) O dX5_reduce_2 xl_X5_108 xk_X5_isStep (c_isStep _ h5 h4 hc2 (fun a b => ⟨1, rfl, ⟨Or.inl ⟨a, b, rfl⟩, rfl⟩, rfl⟩) (fun a => ⟨0, rfl, ⟨Or.inr ⟨a, rfl⟩, rfl⟩, rfl⟩)) h5 rfl rfl rfl (Nat.le_of_ble_eq_true rfl) rfl (Nat.le_of_ble_eq_true rfl) (Nat.le_of_ble_eq_true rfl) (Nat.le_of_ble_eq_true rfl) (fun r f2 hq => ?_)
  obtain ⟨hd, rfl⟩ := hq
  rcases hd with ⟨a2, b2, rfl⟩ | ⟨a2, rfl⟩
  rotate_left
  · refine xgo O Rt xplX5_q xclX5_q [] 40 ?_
    simp (maxSteps := 10000000) (disch := omega) only [↓reduceIte, ↓xrun_s, ↓xck_e, xdo_e, xlg_0, xlg_c, xst1_0, xst1_1, xst1_c, xst2_0, xst2_1, xst2_c, xk2_n, xk2_i, xk2_a, xk2_l, xct_i, xct_a, xct_l, xf4_0, xf4_1, xf4_2, xf4_3, List.contains_cons, List.contains_nil, Bool.or_false, Bool.false_or, Bool.or_self, Bool.true_or, Bool.or_true, cond_true, cond_false, List.set_cons_zero, List.set_cons_succ, List.length_cons, List.length_nil, true_and, and_true, xu_s, xu_u, xeqs, Nat.le_refl, not_true_eq_false, xq_10, xq_01, Int32.reduceAdd, Int32.reduceMul, Int32.reduceSub, Int32.reduceLE, Int32.reduceLT, Int32.reduceToNatClampNeg, Nat.reduceAdd, Nat.reduceMul, Nat.reduceBEq, Nat.reduceLT, Nat.reduceLeDiff, Nat.reduceEqDiff, Nat.zero_add, Bool.false_eq_true, reduceCtorEq, if_false, if_true, not_false_eq_true, true_imp_iff, false_imp_iff, imp_self, ↓xil_e, ↓xll_e, ↓xal_e, ↓xs1i_e, ↓xs2i_e, ↓xs1l_e, ↓xs2l_e, ↓xsil_e, ↓xs1_e, ↓xs2_e, ↓xs1a_e, ↓xsia_e, ↓xsiia_e, ↓xslia_e, ↓xsaia_e, ↓xsva_e, ↓xse1i_e, ↓xse1l_e, ↓xse1a_e, ↓xse0_e, ↓xfv_0, ↓xfv_c, ↓xgf_e, ↓xpf_e, ↓xia_e, ↓xia_n, ↓xba_e, ↓xba_n, ↓xla_e, ↓xla_n, ↓xob_e, ↓xra_e, ↓xno_e, ↓xle_e, ↓xnr_i, ↓xnr_b0, ↓xnr_b1, ↓xnr_n, ↓xdo_e, ↓xkl_0, ↓xe_iload_n, ↓xe_aload_n, ↓xe_goto, ↓xe_ldc, ↓xe_getfield, ↓xe_iaload, ↓xe_ireturn, ↓xe_if_eq, ↓xe_invokevirtual, dX5_reduce_0, dX5_reduce_1, dX5_reduce_2, dX5_reduce_5, dX5_reduce_8, dX5_reduce_9, dX5_reduce_12, dX5_reduce_15, dX5_reduce_16, dX5_reduce_17, dX5_reduce_20, dX5_reduce_22, xpX5_19, xpX5_111, xcX5_80, xt_5_15, xtc_5_15, xt_17_5, xtc_17_5]
    refine hp _ ?_
    rw [aRed, if_neg a2]
    rfl
  obtain ⟨k, hk, rfl⟩ := s_nI a2 b2
  have v4 : vp_in (nI k) 24 := vp_in_nI (by omega) (by omega)
  have v5 : (nI k).toNatClampNeg = k := nI_clamp (by omega)
  obtain ⟨-, -, -, q4, q5, -⟩ := hW
  refine xgo O Rt xplX5_q xclX5_q [] 40 ?_
  simp (maxSteps := 10000000) (disch := omega) only [↓reduceIte, ↓xrun_s, ↓xck_e, xdo_e, xlg_0, xlg_c, xst1_0, xst1_1, xst1_c, xst2_0, xst2_1, xst2_c, xk2_n, xk2_i, xk2_a, xk2_l, xct_i, xct_a, xct_l, xf4_0, xf4_1, xf4_2, xf4_3, List.contains_cons, List.contains_nil, Bool.or_false, Bool.false_or, Bool.or_self, Bool.true_or, Bool.or_true, cond_true, cond_false, List.set_cons_zero, List.set_cons_succ, List.length_cons, List.length_nil, true_and, and_true, xu_s, xu_u, xeqs, Nat.le_refl, not_true_eq_false, xq_10, xq_01, Int32.reduceAdd, Int32.reduceMul, Int32.reduceSub, Int32.reduceLE, Int32.reduceLT, Int32.reduceToNatClampNeg, Nat.reduceAdd, Nat.reduceMul, Nat.reduceBEq, Nat.reduceLT, Nat.reduceLeDiff, Nat.reduceEqDiff, Nat.zero_add, Bool.false_eq_true, reduceCtorEq, if_false, if_true, not_false_eq_true, true_imp_iff, false_imp_iff, imp_self, ↓xil_e, ↓xll_e, ↓xal_e, ↓xs1i_e, ↓xs2i_e, ↓xs1l_e, ↓xs2l_e, ↓xsil_e, ↓xs1_e, ↓xs2_e, ↓xs1a_e, ↓xsia_e, ↓xsiia_e, ↓xslia_e, ↓xsaia_e, ↓xsva_e, ↓xse1i_e, ↓xse1l_e, ↓xse1a_e, ↓xse0_e, ↓xfv_0, ↓xfv_c, ↓xgf_e, ↓xpf_e, ↓xia_e, ↓xia_n, ↓xba_e, ↓xba_n, ↓xla_e, ↓xla_n, ↓xob_e, ↓xra_e, ↓xno_e, ↓xle_e, ↓xnr_i, ↓xnr_b0, ↓xnr_b1, ↓xnr_n, ↓xdo_e, ↓xkl_0, ↓xe_iload_n, ↓xe_aload_n, ↓xe_goto, ↓xe_ldc, ↓xe_getfield, ↓xe_iaload, ↓xe_ireturn, ↓xe_if_eq, ↓xe_invokevirtual, dX5_reduce_0, dX5_reduce_1, dX5_reduce_2, dX5_reduce_5, dX5_reduce_8, dX5_reduce_9, dX5_reduce_12, dX5_reduce_15, dX5_reduce_16, dX5_reduce_17, dX5_reduce_20, dX5_reduce_22, xpX5_19, xpX5_111, xcX5_80, h5, h4, q4, q5, v4, v5, xt_5_15, xtc_5_15, xt_17_5, xtc_17_5]
  refine hp _ ?_
  rw [aRed, if_pos ⟨a2, b2⟩, nI_nat (by omega)]
  exact htk k hk
set_option maxRecDepth 100000 in
set_option maxHeartbeats 4000000 in
theorem c5_order (V : xV) {w z n c : Nat} {f : xH} {t : Nat → Nat} {pl : Int32} {xs : Nat → xZ} {P : xZ} {sr : Nat → Nat} {s : Int32} {post : Option Value → xH → Nat → Prop} (C : Cls f w t n pl c xs P sr) (S : Spc c xs P sr)
    (hp : ∀ r : Int32, r.toInt = aOrd c sr s.toInt → post (some (.int r)) f z) :
    xMet V yX5_order cX5_order 2 (some .int) 2 0 0 [.ref w, .int s] f z post := by
  refine xMet_of false (by decide) (Nat.le_of_ble_eq_true rfl) (fun h => by cases h) (fun X hX O Rt => ?_)
  have O : xO X cX5_order 2 RX5 2 0 0 false := O
  show xG X 0 [some (.ref w), some (.int s)] [] f (z, 0, 0)
  obtain ⟨h5, hT, ⟨ps, rs, tk, so, hW, htk, hrs, hso⟩, hPa, hDv⟩ := id C
  obtain ⟨hc1, hc2, hx0, hst, hbr, hper, hpn, hsrt⟩ := id S
  have h4 : f (w + 4) = some (xSc w c) := hW.1
  refine xgo O Rt xplX5_q xclX5_q [] 40 ?_
  simp (maxSteps := 10000000) (disch := omega) only [↓reduceIte, ↓xrun_s, ↓xck_e, xdo_e, xlg_0, xlg_c, xst1_0, xst1_1, xst1_c, xst2_0, xst2_1, xst2_c, xk2_n, xk2_i, xk2_a, xk2_l, xct_i, xct_a, xct_l, xf4_0, xf4_1, xf4_2, xf4_3, List.contains_cons, List.contains_nil, Bool.or_false, Bool.false_or, Bool.or_self, Bool.true_or, Bool.or_true, cond_true, cond_false, List.set_cons_zero, List.set_cons_succ, List.length_cons, List.length_nil, true_and, and_true, xu_s, xu_u, xeqs, Nat.le_refl, not_true_eq_false, xq_10, xq_01, Int32.reduceAdd, Int32.reduceMul, Int32.reduceSub, Int32.reduceLE, Int32.reduceLT, Int32.reduceToNatClampNeg, Nat.reduceAdd, Nat.reduceMul, Nat.reduceBEq, Nat.reduceLT, Nat.reduceLeDiff, Nat.reduceEqDiff, Nat.zero_add, Bool.false_eq_true, reduceCtorEq, if_false, if_true, not_false_eq_true, true_imp_iff, false_imp_iff, imp_self, ↓xil_e, ↓xll_e, ↓xal_e, ↓xs1i_e, ↓xs2i_e, ↓xs1l_e, ↓xs2l_e, ↓xsil_e, ↓xs1_e, ↓xs2_e, ↓xs1a_e, ↓xsia_e, ↓xsiia_e, ↓xslia_e, ↓xsaia_e, ↓xsva_e, ↓xse1i_e, ↓xse1l_e, ↓xse1a_e, ↓xse0_e, ↓xfv_0, ↓xfv_c, ↓xgf_e, ↓xpf_e, ↓xia_e, ↓xia_n, ↓xba_e, ↓xba_n, ↓xla_e, ↓xla_n, ↓xob_e, ↓xra_e, ↓xno_e, ↓xle_e, ↓xnr_i, ↓xnr_b0, ↓xnr_b1, ↓xnr_n, ↓xdo_e, ↓xkl_0, ↓xe_iload_n, ↓xe_aload_n, ↓xe_goto, ↓xe_ldc, ↓xe_getfield, ↓xe_iaload, ↓xe_ireturn, ↓xe_if_eq, ↓xe_invokevirtual, dX5_order_0, dX5_order_1, dX5_order_2, dX5_order_5, dX5_order_8, dX5_order_9, dX5_order_12, dX5_order_15, dX5_order_16, dX5_order_17, dX5_order_20, dX5_order_22, xpX5_19, xpX5_114, xcX5_80, xt_5_15, xtc_5_15, xt_17_5, xtc_17_5]
  refine xg_callVi (Qp := fun r f2 => ((0 ≤ s.toInt ∧ s.toInt < c ∧ r = 1) ∨ (¬ (0 ≤ s.toInt ∧ s.toInt < c) ∧ r = 0)) ∧ f = f2) O dX5_order_2 xl_X5_108 xk_X5_isStep (c_isStep _ h5 h4 hc2 (fun a b => ⟨1, rfl, ⟨Or.inl ⟨a, b, rfl⟩, rfl⟩, rfl⟩) (fun a => ⟨0, rfl, ⟨Or.inr ⟨a, rfl⟩, rfl⟩, rfl⟩)) h5 rfl rfl rfl (Nat.le_of_ble_eq_true rfl) rfl (Nat.le_of_ble_eq_true rfl) (Nat.le_of_ble_eq_true rfl) (Nat.le_of_ble_eq_true rfl) (fun r f2 hq => ?_)
  obtain ⟨hd, rfl⟩ := hq
  rcases hd with ⟨a2, b2, rfl⟩ | ⟨a2, rfl⟩
  rotate_left
  · refine xgo O Rt xplX5_q xclX5_q [] 40 ?_
    simp (maxSteps := 10000000) (disch := omega) only [↓reduceIte, ↓xrun_s, ↓xck_e, xdo_e, xlg_0, xlg_c, xst1_0, xst1_1, xst1_c, xst2_0, xst2_1, xst2_c, xk2_n, xk2_i, xk2_a, xk2_l, xct_i, xct_a, xct_l, xf4_0, xf4_1, xf4_2, xf4_3, List.contains_cons, List.contains_nil, Bool.or_false, Bool.false_or, Bool.or_self, Bool.true_or, Bool.or_true, cond_true, cond_false, List.set_cons_zero, List.set_cons_succ, List.length_cons, List.length_nil, true_and, and_true, xu_s, xu_u, xeqs, Nat.le_refl, not_true_eq_false, xq_10, xq_01, Int32.reduceAdd, Int32.reduceMul, Int32.reduceSub, Int32.reduceLE, Int32.reduceLT, Int32.reduceToNatClampNeg, Nat.reduceAdd, Nat.reduceMul, Nat.reduceBEq, Nat.reduceLT, Nat.reduceLeDiff, Nat.reduceEqDiff, Nat.zero_add, Bool.false_eq_true, reduceCtorEq, if_false, if_true, not_false_eq_true, true_imp_iff, false_imp_iff, imp_self, ↓xil_e, ↓xll_e, ↓xal_e, ↓xs1i_e, ↓xs2i_e, ↓xs1l_e, ↓xs2l_e, ↓xsil_e, ↓xs1_e, ↓xs2_e, ↓xs1a_e, ↓xsia_e, ↓xsiia_e, ↓xslia_e, ↓xsaia_e, ↓xsva_e, ↓xse1i_e, ↓xse1l_e, ↓xse1a_e, ↓xse0_e, ↓xfv_0, ↓xfv_c, ↓xgf_e, ↓xpf_e, ↓xia_e, ↓xia_n, ↓xba_e, ↓xba_n, ↓xla_e, ↓xla_n, ↓xob_e, ↓xra_e, ↓xno_e, ↓xle_e, ↓xnr_i, ↓xnr_b0, ↓xnr_b1, ↓xnr_n, ↓xdo_e, ↓xkl_0, ↓xe_iload_n, ↓xe_aload_n, ↓xe_goto, ↓xe_ldc, ↓xe_getfield, ↓xe_iaload, ↓xe_ireturn, ↓xe_if_eq, ↓xe_invokevirtual, dX5_order_0, dX5_order_1, dX5_order_2, dX5_order_5, dX5_order_8, dX5_order_9, dX5_order_12, dX5_order_15, dX5_order_16, dX5_order_17, dX5_order_20, dX5_order_22, xpX5_19, xpX5_114, xcX5_80, xt_5_15, xtc_5_15, xt_17_5, xtc_17_5]
    refine hp _ ?_
    rw [aOrd, if_neg a2]
    rfl
  obtain ⟨k, hk, rfl⟩ := s_nI a2 b2
  have v4 : vp_in (nI k) 24 := vp_in_nI (by omega) (by omega)
  have v5 : (nI k).toNatClampNeg = k := nI_clamp (by omega)
  obtain ⟨-, -, -, q4, q5, -⟩ := hW
  refine xgo O Rt xplX5_q xclX5_q [] 40 ?_
  simp (maxSteps := 10000000) (disch := omega) only [↓reduceIte, ↓xrun_s, ↓xck_e, xdo_e, xlg_0, xlg_c, xst1_0, xst1_1, xst1_c, xst2_0, xst2_1, xst2_c, xk2_n, xk2_i, xk2_a, xk2_l, xct_i, xct_a, xct_l, xf4_0, xf4_1, xf4_2, xf4_3, List.contains_cons, List.contains_nil, Bool.or_false, Bool.false_or, Bool.or_self, Bool.true_or, Bool.or_true, cond_true, cond_false, List.set_cons_zero, List.set_cons_succ, List.length_cons, List.length_nil, true_and, and_true, xu_s, xu_u, xeqs, Nat.le_refl, not_true_eq_false, xq_10, xq_01, Int32.reduceAdd, Int32.reduceMul, Int32.reduceSub, Int32.reduceLE, Int32.reduceLT, Int32.reduceToNatClampNeg, Nat.reduceAdd, Nat.reduceMul, Nat.reduceBEq, Nat.reduceLT, Nat.reduceLeDiff, Nat.reduceEqDiff, Nat.zero_add, Bool.false_eq_true, reduceCtorEq, if_false, if_true, not_false_eq_true, true_imp_iff, false_imp_iff, imp_self, ↓xil_e, ↓xll_e, ↓xal_e, ↓xs1i_e, ↓xs2i_e, ↓xs1l_e, ↓xs2l_e, ↓xsil_e, ↓xs1_e, ↓xs2_e, ↓xs1a_e, ↓xsia_e, ↓xsiia_e, ↓xslia_e, ↓xsaia_e, ↓xsva_e, ↓xse1i_e, ↓xse1l_e, ↓xse1a_e, ↓xse0_e, ↓xfv_0, ↓xfv_c, ↓xgf_e, ↓xpf_e, ↓xia_e, ↓xia_n, ↓xba_e, ↓xba_n, ↓xla_e, ↓xla_n, ↓xob_e, ↓xra_e, ↓xno_e, ↓xle_e, ↓xnr_i, ↓xnr_b0, ↓xnr_b1, ↓xnr_n, ↓xdo_e, ↓xkl_0, ↓xe_iload_n, ↓xe_aload_n, ↓xe_goto, ↓xe_ldc, ↓xe_getfield, ↓xe_iaload, ↓xe_ireturn, ↓xe_if_eq, ↓xe_invokevirtual, dX5_order_0, dX5_order_1, dX5_order_2, dX5_order_5, dX5_order_8, dX5_order_9, dX5_order_12, dX5_order_15, dX5_order_16, dX5_order_17, dX5_order_20, dX5_order_22, xpX5_19, xpX5_114, xcX5_80, h5, h4, q4, q5, v4, v5, xt_5_15, xtc_5_15, xt_17_5, xtc_17_5]
  refine hp _ ?_
  rw [aOrd, if_pos ⟨a2, b2⟩, nI_nat (by omega)]
  rw [hso k hk]
  exact nI_int (by have := hsrt.1 k hk; omega)
set_option maxRecDepth 100000 in
set_option maxHeartbeats 4000000 in
theorem c5_gap (V : xV) {w z n c : Nat} {f : xH} {t : Nat → Nat} {pl : Int32} {xs : Nat → xZ} {P : xZ} {sr : Nat → Nat} {s p : Int32} {post : Option Value → xH → Nat → Prop} (C : Cls f w t n pl c xs P sr) (S : Spc c xs P sr)
    (hp : ∀ r : Int32, r.toInt = aGap c xs P sr s.toInt p.toInt → post (some (.int r)) f z) :
    xMet V yX5_gap cX5_gap 3 (some .int) 2 0 0 [.ref w, .int s, .int p] f z post := by
  refine xMet_of false (by decide) (Nat.le_of_ble_eq_true rfl) (fun h => by cases h) (fun X hX O Rt => ?_)
  have O : xO X cX5_gap 3 RX5 2 0 0 false := O
  show xG X 0 [some (.ref w), some (.int s), some (.int p)] [] f (z, 0, 0)
  obtain ⟨h5, hT, ⟨ps, rs, tk, so, hW, htk, hrs, hso⟩, hPa, hDv⟩ := id C
  obtain ⟨hc1, hc2, hx0, hst, hbr, hper, hpn, hsrt⟩ := id S
  have h4 : f (w + 4) = some (xSc w c) := hW.1
  refine xgo O Rt xplX5_q xclX5_q [] 40 ?_
  simp (maxSteps := 10000000) (disch := omega) only [↓reduceIte, ↓xrun_s, ↓xck_e, xdo_e, xlg_0, xlg_c, xst1_0, xst1_1, xst1_c, xst2_0, xst2_1, xst2_c, xk2_n, xk2_i, xk2_a, xk2_l, xct_i, xct_a, xct_l, xf4_0, xf4_1, xf4_2, xf4_3, List.contains_cons, List.contains_nil, Bool.or_false, Bool.false_or, Bool.or_self, Bool.true_or, Bool.or_true, cond_true, cond_false, List.set_cons_zero, List.set_cons_succ, List.length_cons, List.length_nil, true_and, and_true, xu_s, xu_u, xeqs, Nat.le_refl, not_true_eq_false, xq_10, xq_01, Int32.reduceAdd, Int32.reduceMul, Int32.reduceSub, Int32.reduceLE, Int32.reduceLT, Int32.reduceToNatClampNeg, Nat.reduceAdd, Nat.reduceMul, Nat.reduceBEq, Nat.reduceLT, Nat.reduceLeDiff, Nat.reduceEqDiff, Nat.zero_add, Bool.false_eq_true, reduceCtorEq, if_false, if_true, not_false_eq_true, true_imp_iff, false_imp_iff, imp_self, ↓xil_e, ↓xll_e, ↓xal_e, ↓xs1i_e, ↓xs2i_e, ↓xs1l_e, ↓xs2l_e, ↓xsil_e, ↓xs1_e, ↓xs2_e, ↓xs1a_e, ↓xsia_e, ↓xsiia_e, ↓xslia_e, ↓xsaia_e, ↓xsva_e, ↓xse1i_e, ↓xse1l_e, ↓xse1a_e, ↓xse0_e, ↓xfv_0, ↓xfv_c, ↓xgf_e, ↓xpf_e, ↓xia_e, ↓xia_n, ↓xba_e, ↓xba_n, ↓xla_e, ↓xla_n, ↓xob_e, ↓xra_e, ↓xno_e, ↓xle_e, ↓xnr_i, ↓xnr_b0, ↓xnr_b1, ↓xnr_n, ↓xdo_e, ↓xkl_0, ↓xe_iload_n, ↓xe_aload_n, ↓xe_goto, ↓xe_ldc, ↓xe_getfield, ↓xe_ireturn, ↓xe_if_eq, ↓xe_if_ne, ↓xe_invokevirtual, ↓xe_invokestatic, dX5_gap_0, dX5_gap_1, dX5_gap_2, dX5_gap_5, dX5_gap_8, dX5_gap_10, dX5_gap_11, dX5_gap_12, dX5_gap_15, dX5_gap_18, dX5_gap_19, dX5_gap_22, dX5_gap_23, dX5_gap_24, dX5_gap_27, dX5_gap_30, dX5_gap_32, xpX5_19, xcX5_47, xcX5_80, xt_5_6, xtc_5_6, xt_15_15, xtc_15_15, xt_27_5, xtc_27_5]
  refine xg_callVi (Qp := fun r f2 => ((0 ≤ s.toInt ∧ s.toInt < c ∧ r = 1) ∨ (¬ (0 ≤ s.toInt ∧ s.toInt < c) ∧ r = 0)) ∧ f = f2) O dX5_gap_2 xl_X5_108 xk_X5_isStep (c_isStep _ h5 h4 hc2 (fun a b => ⟨1, rfl, ⟨Or.inl ⟨a, b, rfl⟩, rfl⟩, rfl⟩) (fun a => ⟨0, rfl, ⟨Or.inr ⟨a, rfl⟩, rfl⟩, rfl⟩)) h5 rfl rfl rfl (Nat.le_of_ble_eq_true rfl) rfl (Nat.le_of_ble_eq_true rfl) (Nat.le_of_ble_eq_true rfl) (Nat.le_of_ble_eq_true rfl) (fun r f2 hq => ?_)
  obtain ⟨hd, rfl⟩ := hq
  rcases hd with ⟨a2, b2, rfl⟩ | ⟨a2, rfl⟩
  rotate_left
  · refine xgo O Rt xplX5_q xclX5_q [] 40 ?_
    simp (maxSteps := 10000000) (disch := omega) only [↓reduceIte, ↓xrun_s, ↓xck_e, xdo_e, xlg_0, xlg_c, xst1_0, xst1_1, xst1_c, xst2_0, xst2_1, xst2_c, xk2_n, xk2_i, xk2_a, xk2_l, xct_i, xct_a, xct_l, xf4_0, xf4_1, xf4_2, xf4_3, List.contains_cons, List.contains_nil, Bool.or_false, Bool.false_or, Bool.or_self, Bool.true_or, Bool.or_true, cond_true, cond_false, List.set_cons_zero, List.set_cons_succ, List.length_cons, List.length_nil, true_and, and_true, xu_s, xu_u, xeqs, Nat.le_refl, not_true_eq_false, xq_10, xq_01, Int32.reduceAdd, Int32.reduceMul, Int32.reduceSub, Int32.reduceLE, Int32.reduceLT, Int32.reduceToNatClampNeg, Nat.reduceAdd, Nat.reduceMul, Nat.reduceBEq, Nat.reduceLT, Nat.reduceLeDiff, Nat.reduceEqDiff, Nat.zero_add, Bool.false_eq_true, reduceCtorEq, if_false, if_true, not_false_eq_true, true_imp_iff, false_imp_iff, imp_self, ↓xil_e, ↓xll_e, ↓xal_e, ↓xs1i_e, ↓xs2i_e, ↓xs1l_e, ↓xs2l_e, ↓xsil_e, ↓xs1_e, ↓xs2_e, ↓xs1a_e, ↓xsia_e, ↓xsiia_e, ↓xslia_e, ↓xsaia_e, ↓xsva_e, ↓xse1i_e, ↓xse1l_e, ↓xse1a_e, ↓xse0_e, ↓xfv_0, ↓xfv_c, ↓xgf_e, ↓xpf_e, ↓xia_e, ↓xia_n, ↓xba_e, ↓xba_n, ↓xla_e, ↓xla_n, ↓xob_e, ↓xra_e, ↓xno_e, ↓xle_e, ↓xnr_i, ↓xnr_b0, ↓xnr_b1, ↓xnr_n, ↓xdo_e, ↓xkl_0, ↓xe_iload_n, ↓xe_aload_n, ↓xe_goto, ↓xe_ldc, ↓xe_getfield, ↓xe_ireturn, ↓xe_if_eq, ↓xe_if_ne, ↓xe_invokevirtual, ↓xe_invokestatic, dX5_gap_0, dX5_gap_1, dX5_gap_2, dX5_gap_5, dX5_gap_8, dX5_gap_10, dX5_gap_11, dX5_gap_12, dX5_gap_15, dX5_gap_18, dX5_gap_19, dX5_gap_22, dX5_gap_23, dX5_gap_24, dX5_gap_27, dX5_gap_30, dX5_gap_32, xpX5_19, xcX5_47, xcX5_80, xt_5_6, xtc_5_6, xt_15_15, xtc_15_15, xt_27_5, xtc_27_5]
    refine hp _ ?_
    rw [aGap, if_neg a2]
    rfl
  refine xgo O Rt xplX5_q xclX5_q [] 40 ?_
  simp (maxSteps := 10000000) (disch := omega) only [↓reduceIte, ↓xrun_s, ↓xck_e, xdo_e, xlg_0, xlg_c, xst1_0, xst1_1, xst1_c, xst2_0, xst2_1, xst2_c, xk2_n, xk2_i, xk2_a, xk2_l, xct_i, xct_a, xct_l, xf4_0, xf4_1, xf4_2, xf4_3, List.contains_cons, List.contains_nil, Bool.or_false, Bool.false_or, Bool.or_self, Bool.true_or, Bool.or_true, cond_true, cond_false, List.set_cons_zero, List.set_cons_succ, List.length_cons, List.length_nil, true_and, and_true, xu_s, xu_u, xeqs, Nat.le_refl, not_true_eq_false, xq_10, xq_01, Int32.reduceAdd, Int32.reduceMul, Int32.reduceSub, Int32.reduceLE, Int32.reduceLT, Int32.reduceToNatClampNeg, Nat.reduceAdd, Nat.reduceMul, Nat.reduceBEq, Nat.reduceLT, Nat.reduceLeDiff, Nat.reduceEqDiff, Nat.zero_add, Bool.false_eq_true, reduceCtorEq, if_false, if_true, not_false_eq_true, true_imp_iff, false_imp_iff, imp_self, ↓xil_e, ↓xll_e, ↓xal_e, ↓xs1i_e, ↓xs2i_e, ↓xs1l_e, ↓xs2l_e, ↓xsil_e, ↓xs1_e, ↓xs2_e, ↓xs1a_e, ↓xsia_e, ↓xsiia_e, ↓xslia_e, ↓xsaia_e, ↓xsva_e, ↓xse1i_e, ↓xse1l_e, ↓xse1a_e, ↓xse0_e, ↓xfv_0, ↓xfv_c, ↓xgf_e, ↓xpf_e, ↓xia_e, ↓xia_n, ↓xba_e, ↓xba_n, ↓xla_e, ↓xla_n, ↓xob_e, ↓xra_e, ↓xno_e, ↓xle_e, ↓xnr_i, ↓xnr_b0, ↓xnr_b1, ↓xnr_n, ↓xdo_e, ↓xkl_0, ↓xe_iload_n, ↓xe_aload_n, ↓xe_goto, ↓xe_ldc, ↓xe_getfield, ↓xe_ireturn, ↓xe_if_eq, ↓xe_if_ne, ↓xe_invokevirtual, ↓xe_invokestatic, dX5_gap_0, dX5_gap_1, dX5_gap_2, dX5_gap_5, dX5_gap_8, dX5_gap_10, dX5_gap_11, dX5_gap_12, dX5_gap_15, dX5_gap_18, dX5_gap_19, dX5_gap_22, dX5_gap_23, dX5_gap_24, dX5_gap_27, dX5_gap_30, dX5_gap_32, xpX5_19, xcX5_47, xcX5_80, xt_5_6, xtc_5_6, xt_15_15, xtc_15_15, xt_27_5, xtc_27_5]
  refine xg_callSi (Qp := fun r f2 => ((0 ≤ p.toInt ∧ p.toInt < 6 ∧ r = 1) ∨ (¬ (0 ≤ p.toInt ∧ p.toInt < 6) ∧ r = 0)) ∧ f = f2) O dX5_gap_12 xl_X5_81 xk_X5_isPrime (c_isPrime _ (fun a b => ⟨1, rfl, ⟨Or.inl ⟨a, b, rfl⟩, rfl⟩, rfl⟩) (fun a => ⟨0, rfl, ⟨Or.inr ⟨a, rfl⟩, rfl⟩, rfl⟩)) rfl (Nat.le_of_ble_eq_true rfl) rfl (Nat.le_of_ble_eq_true rfl) (Nat.le_of_ble_eq_true rfl) (Nat.le_of_ble_eq_true rfl) (fun r f2 hq => ?_)
  obtain ⟨hd, rfl⟩ := hq
  rcases hd with ⟨a12, b12, rfl⟩ | ⟨a12, rfl⟩
  rotate_left
  · refine xgo O Rt xplX5_q xclX5_q [] 40 ?_
    simp (maxSteps := 10000000) (disch := omega) only [↓reduceIte, ↓xrun_s, ↓xck_e, xdo_e, xlg_0, xlg_c, xst1_0, xst1_1, xst1_c, xst2_0, xst2_1, xst2_c, xk2_n, xk2_i, xk2_a, xk2_l, xct_i, xct_a, xct_l, xf4_0, xf4_1, xf4_2, xf4_3, List.contains_cons, List.contains_nil, Bool.or_false, Bool.false_or, Bool.or_self, Bool.true_or, Bool.or_true, cond_true, cond_false, List.set_cons_zero, List.set_cons_succ, List.length_cons, List.length_nil, true_and, and_true, xu_s, xu_u, xeqs, Nat.le_refl, not_true_eq_false, xq_10, xq_01, Int32.reduceAdd, Int32.reduceMul, Int32.reduceSub, Int32.reduceLE, Int32.reduceLT, Int32.reduceToNatClampNeg, Nat.reduceAdd, Nat.reduceMul, Nat.reduceBEq, Nat.reduceLT, Nat.reduceLeDiff, Nat.reduceEqDiff, Nat.zero_add, Bool.false_eq_true, reduceCtorEq, if_false, if_true, not_false_eq_true, true_imp_iff, false_imp_iff, imp_self, ↓xil_e, ↓xll_e, ↓xal_e, ↓xs1i_e, ↓xs2i_e, ↓xs1l_e, ↓xs2l_e, ↓xsil_e, ↓xs1_e, ↓xs2_e, ↓xs1a_e, ↓xsia_e, ↓xsiia_e, ↓xslia_e, ↓xsaia_e, ↓xsva_e, ↓xse1i_e, ↓xse1l_e, ↓xse1a_e, ↓xse0_e, ↓xfv_0, ↓xfv_c, ↓xgf_e, ↓xpf_e, ↓xia_e, ↓xia_n, ↓xba_e, ↓xba_n, ↓xla_e, ↓xla_n, ↓xob_e, ↓xra_e, ↓xno_e, ↓xle_e, ↓xnr_i, ↓xnr_b0, ↓xnr_b1, ↓xnr_n, ↓xdo_e, ↓xkl_0, ↓xe_iload_n, ↓xe_aload_n, ↓xe_goto, ↓xe_ldc, ↓xe_getfield, ↓xe_ireturn, ↓xe_if_eq, ↓xe_if_ne, ↓xe_invokevirtual, ↓xe_invokestatic, dX5_gap_0, dX5_gap_1, dX5_gap_2, dX5_gap_5, dX5_gap_8, dX5_gap_10, dX5_gap_11, dX5_gap_12, dX5_gap_15, dX5_gap_18, dX5_gap_19, dX5_gap_22, dX5_gap_23, dX5_gap_24, dX5_gap_27, dX5_gap_30, dX5_gap_32, xpX5_19, xcX5_47, xcX5_80, xt_5_6, xtc_5_6, xt_15_15, xtc_15_15, xt_27_5, xtc_27_5]
    refine hp _ ?_
    rw [aGap, if_pos ⟨a2, b2⟩, if_neg a12]
    rfl
  obtain ⟨k, hk, rfl⟩ := s_nI a2 b2
  obtain ⟨j, hj, rfl⟩ := s_nI (m := 6) a12 b12
  refine xgo O Rt xplX5_q xclX5_q [] 40 ?_
  simp (maxSteps := 10000000) (disch := omega) only [↓reduceIte, ↓xrun_s, ↓xck_e, xdo_e, xlg_0, xlg_c, xst1_0, xst1_1, xst1_c, xst2_0, xst2_1, xst2_c, xk2_n, xk2_i, xk2_a, xk2_l, xct_i, xct_a, xct_l, xf4_0, xf4_1, xf4_2, xf4_3, List.contains_cons, List.contains_nil, Bool.or_false, Bool.false_or, Bool.or_self, Bool.true_or, Bool.or_true, cond_true, cond_false, List.set_cons_zero, List.set_cons_succ, List.length_cons, List.length_nil, true_and, and_true, xu_s, xu_u, xeqs, Nat.le_refl, not_true_eq_false, xq_10, xq_01, Int32.reduceAdd, Int32.reduceMul, Int32.reduceSub, Int32.reduceLE, Int32.reduceLT, Int32.reduceToNatClampNeg, Nat.reduceAdd, Nat.reduceMul, Nat.reduceBEq, Nat.reduceLT, Nat.reduceLeDiff, Nat.reduceEqDiff, Nat.zero_add, Bool.false_eq_true, reduceCtorEq, if_false, if_true, not_false_eq_true, true_imp_iff, false_imp_iff, imp_self, ↓xil_e, ↓xll_e, ↓xal_e, ↓xs1i_e, ↓xs2i_e, ↓xs1l_e, ↓xs2l_e, ↓xsil_e, ↓xs1_e, ↓xs2_e, ↓xs1a_e, ↓xsia_e, ↓xsiia_e, ↓xslia_e, ↓xsaia_e, ↓xsva_e, ↓xse1i_e, ↓xse1l_e, ↓xse1a_e, ↓xse0_e, ↓xfv_0, ↓xfv_c, ↓xgf_e, ↓xpf_e, ↓xia_e, ↓xia_n, ↓xba_e, ↓xba_n, ↓xla_e, ↓xla_n, ↓xob_e, ↓xra_e, ↓xno_e, ↓xle_e, ↓xnr_i, ↓xnr_b0, ↓xnr_b1, ↓xnr_n, ↓xdo_e, ↓xkl_0, ↓xe_iload_n, ↓xe_aload_n, ↓xe_goto, ↓xe_ldc, ↓xe_getfield, ↓xe_ireturn, ↓xe_if_eq, ↓xe_if_ne, ↓xe_invokevirtual, ↓xe_invokestatic, dX5_gap_0, dX5_gap_1, dX5_gap_2, dX5_gap_5, dX5_gap_8, dX5_gap_10, dX5_gap_11, dX5_gap_12, dX5_gap_15, dX5_gap_18, dX5_gap_19, dX5_gap_22, dX5_gap_23, dX5_gap_24, dX5_gap_27, dX5_gap_30, dX5_gap_32, xpX5_19, xcX5_47, xcX5_80, h5, xt_5_6, xtc_5_6, xt_15_15, xtc_15_15, xt_27_5, xtc_27_5]
  refine xg_callVi (Qp := fun r f2 => r.toInt = gpv c rs sr P k j ∧ f = f2) O dX5_gap_24 xl_X5_117 xk_X3_gapExponent (c_gapExponent _ (s := sr) hW hc2 hk hj (fun i hi => ⟨hsrt.1 i hi, hso i hi⟩) (fun i hi => by rw [hrs i hi]; exact hbr i hi) hper.1 (fun r q => ⟨r, rfl, ⟨q, rfl⟩, rfl⟩)) h4 rfl rfl rfl (Nat.le_of_ble_eq_true rfl) rfl (Nat.le_of_ble_eq_true rfl) (Nat.le_of_ble_eq_true rfl) (Nat.le_of_ble_eq_true rfl) (fun r f2 hq => ?_)
  obtain ⟨q, rfl⟩ := hq
  refine xgo O Rt xplX5_q xclX5_q [] 40 ?_
  simp (maxSteps := 10000000) (disch := omega) only [↓reduceIte, ↓xrun_s, ↓xck_e, xdo_e, xlg_0, xlg_c, xst1_0, xst1_1, xst1_c, xst2_0, xst2_1, xst2_c, xk2_n, xk2_i, xk2_a, xk2_l, xct_i, xct_a, xct_l, xf4_0, xf4_1, xf4_2, xf4_3, List.contains_cons, List.contains_nil, Bool.or_false, Bool.false_or, Bool.or_self, Bool.true_or, Bool.or_true, cond_true, cond_false, List.set_cons_zero, List.set_cons_succ, List.length_cons, List.length_nil, true_and, and_true, xu_s, xu_u, xeqs, Nat.le_refl, not_true_eq_false, xq_10, xq_01, Int32.reduceAdd, Int32.reduceMul, Int32.reduceSub, Int32.reduceLE, Int32.reduceLT, Int32.reduceToNatClampNeg, Nat.reduceAdd, Nat.reduceMul, Nat.reduceBEq, Nat.reduceLT, Nat.reduceLeDiff, Nat.reduceEqDiff, Nat.zero_add, Bool.false_eq_true, reduceCtorEq, if_false, if_true, not_false_eq_true, true_imp_iff, false_imp_iff, imp_self, ↓xil_e, ↓xll_e, ↓xal_e, ↓xs1i_e, ↓xs2i_e, ↓xs1l_e, ↓xs2l_e, ↓xsil_e, ↓xs1_e, ↓xs2_e, ↓xs1a_e, ↓xsia_e, ↓xsiia_e, ↓xslia_e, ↓xsaia_e, ↓xsva_e, ↓xse1i_e, ↓xse1l_e, ↓xse1a_e, ↓xse0_e, ↓xfv_0, ↓xfv_c, ↓xgf_e, ↓xpf_e, ↓xia_e, ↓xia_n, ↓xba_e, ↓xba_n, ↓xla_e, ↓xla_n, ↓xob_e, ↓xra_e, ↓xno_e, ↓xle_e, ↓xnr_i, ↓xnr_b0, ↓xnr_b1, ↓xnr_n, ↓xdo_e, ↓xkl_0, ↓xe_iload_n, ↓xe_aload_n, ↓xe_goto, ↓xe_ldc, ↓xe_getfield, ↓xe_ireturn, ↓xe_if_eq, ↓xe_if_ne, ↓xe_invokevirtual, ↓xe_invokestatic, dX5_gap_0, dX5_gap_1, dX5_gap_2, dX5_gap_5, dX5_gap_8, dX5_gap_10, dX5_gap_11, dX5_gap_12, dX5_gap_15, dX5_gap_18, dX5_gap_19, dX5_gap_22, dX5_gap_23, dX5_gap_24, dX5_gap_27, dX5_gap_30, dX5_gap_32, xpX5_19, xcX5_47, xcX5_80, xt_5_6, xtc_5_6, xt_15_15, xtc_15_15, xt_27_5, xtc_27_5]
  refine hp _ ?_
  rw [q, aGap, if_pos ⟨a2, b2⟩, if_pos ⟨a12, b12⟩, nI_nat (by omega), nI_nat (by omega)]
  unfold gpv
  rw [hrs _ (hsrt.1 k hk)]
  by_cases hc : k + 1 < c
  · rw [if_pos hc, if_pos hc, hrs _ (hsrt.1 _ hc)]; rfl
  · rw [if_neg hc, if_neg hc]; rfl
set_option maxRecDepth 100000 in
set_option maxHeartbeats 4000000 in
theorem c5_gaps (V : xV) {w z n c : Nat} {f : xH} {t : Nat → Nat} {pl : Int32} {xs : Nat → xZ} {P : xZ} {sr : Nat → Nat} {post : Option Value → xH → Nat → Prop} (C : Cls f w t n pl c xs P sr) (S : Spc c xs P sr)
    (hp : ∀ g, newg c (rds xs P) sr P c g → post (some (.int (nI g))) f z) :
    xMet V yX5_gaps cX5_gaps 1 (some .int) 5 0 0 [.ref w] f z post := by
  refine xMet_of false (by decide) (Nat.le_of_ble_eq_true rfl) (fun h => by cases h) (fun X hX O Rt => ?_)
  have O : xO X cX5_gaps 1 RX5 5 0 0 false := O
  show xG X 0 [some (.ref w)] [] f (z, 0, 0)
  obtain ⟨h5, hT, ⟨ps, rs, tk, so, hW, htk, hrs, hso⟩, hPa, hDv⟩ := id C
  obtain ⟨hc1, hc2, hx0, hst, hbr, hper, hpn, hsrt⟩ := id S
  have h4 : f (w + 4) = some (xSc w c) := hW.1
  refine xgo O Rt xplX5_q xclX5_q [] 40 ?_
  simp (maxSteps := 10000000) (disch := omega) only [↓reduceIte, ↓xrun_s, ↓xck_e, xdo_e, xlg_0, xlg_c, xst1_0, xst1_1, xst1_c, xst2_0, xst2_1, xst2_c, xk2_n, xk2_i, xk2_a, xk2_l, xct_i, xct_a, xct_l, xf4_0, xf4_1, xf4_2, xf4_3, List.contains_cons, List.contains_nil, Bool.or_false, Bool.false_or, Bool.or_self, Bool.true_or, Bool.or_true, cond_true, cond_false, List.set_cons_zero, List.set_cons_succ, List.length_cons, List.length_nil, true_and, and_true, xu_s, xu_u, xeqs, Nat.le_refl, not_true_eq_false, xq_10, xq_01, Int32.reduceAdd, Int32.reduceMul, Int32.reduceSub, Int32.reduceLE, Int32.reduceLT, Int32.reduceToNatClampNeg, Nat.reduceAdd, Nat.reduceMul, Nat.reduceBEq, Nat.reduceLT, Nat.reduceLeDiff, Nat.reduceEqDiff, Nat.zero_add, Bool.false_eq_true, reduceCtorEq, if_false, if_true, not_false_eq_true, true_imp_iff, false_imp_iff, imp_self, ↓xil_e, ↓xll_e, ↓xal_e, ↓xs1i_e, ↓xs2i_e, ↓xs1l_e, ↓xs2l_e, ↓xsil_e, ↓xs1_e, ↓xs2_e, ↓xs1a_e, ↓xsia_e, ↓xsiia_e, ↓xslia_e, ↓xsaia_e, ↓xsva_e, ↓xse1i_e, ↓xse1l_e, ↓xse1a_e, ↓xse0_e, ↓xfv_0, ↓xfv_c, ↓xgf_e, ↓xpf_e, ↓xia_e, ↓xia_n, ↓xba_e, ↓xba_n, ↓xla_e, ↓xla_n, ↓xob_e, ↓xra_e, ↓xno_e, ↓xle_e, ↓xnr_i, ↓xnr_b0, ↓xnr_b1, ↓xnr_n, ↓xdo_e, ↓xkl_0, ↓xe_aload_n, ↓xe_getfield, ↓xe_ireturn, ↓xe_invokevirtual, dX5_gaps_0, dX5_gaps_1, dX5_gaps_4, dX5_gaps_7, xpX5_19, h5]
  refine xg_callVi (Qp := fun r f2 => (∃ g, newg c rs sr P c g ∧ r = nI g) ∧ f = f2) O dX5_gaps_4 xl_X5_120 xk_X3_differentGaps (c_differentGaps _ (s := sr) hW hc2 (fun i hi => ⟨hsrt.1 i hi, hso i hi⟩) (fun i hi => by rw [hrs i hi]; exact hbr i hi) hper.1 (fun g q => ⟨nI g, rfl, ⟨⟨g, q, rfl⟩, rfl⟩, rfl⟩)) h4 rfl rfl rfl (Nat.le_of_ble_eq_true rfl) rfl (Nat.le_of_ble_eq_true rfl) (Nat.le_of_ble_eq_true rfl) (Nat.le_of_ble_eq_true rfl) (fun r f2 hq => ?_)
  obtain ⟨⟨g, q, rfl⟩, rfl⟩ := hq
  refine xgo O Rt xplX5_q xclX5_q [] 40 ?_
  simp (maxSteps := 10000000) (disch := omega) only [↓reduceIte, ↓xrun_s, ↓xck_e, xdo_e, xlg_0, xlg_c, xst1_0, xst1_1, xst1_c, xst2_0, xst2_1, xst2_c, xk2_n, xk2_i, xk2_a, xk2_l, xct_i, xct_a, xct_l, xf4_0, xf4_1, xf4_2, xf4_3, List.contains_cons, List.contains_nil, Bool.or_false, Bool.false_or, Bool.or_self, Bool.true_or, Bool.or_true, cond_true, cond_false, List.set_cons_zero, List.set_cons_succ, List.length_cons, List.length_nil, true_and, and_true, xu_s, xu_u, xeqs, Nat.le_refl, not_true_eq_false, xq_10, xq_01, Int32.reduceAdd, Int32.reduceMul, Int32.reduceSub, Int32.reduceLE, Int32.reduceLT, Int32.reduceToNatClampNeg, Nat.reduceAdd, Nat.reduceMul, Nat.reduceBEq, Nat.reduceLT, Nat.reduceLeDiff, Nat.reduceEqDiff, Nat.zero_add, Bool.false_eq_true, reduceCtorEq, if_false, if_true, not_false_eq_true, true_imp_iff, false_imp_iff, imp_self, ↓xil_e, ↓xll_e, ↓xal_e, ↓xs1i_e, ↓xs2i_e, ↓xs1l_e, ↓xs2l_e, ↓xsil_e, ↓xs1_e, ↓xs2_e, ↓xs1a_e, ↓xsia_e, ↓xsiia_e, ↓xslia_e, ↓xsaia_e, ↓xsva_e, ↓xse1i_e, ↓xse1l_e, ↓xse1a_e, ↓xse0_e, ↓xfv_0, ↓xfv_c, ↓xgf_e, ↓xpf_e, ↓xia_e, ↓xia_n, ↓xba_e, ↓xba_n, ↓xla_e, ↓xla_n, ↓xob_e, ↓xra_e, ↓xno_e, ↓xle_e, ↓xnr_i, ↓xnr_b0, ↓xnr_b1, ↓xnr_n, ↓xdo_e, ↓xkl_0, ↓xe_aload_n, ↓xe_getfield, ↓xe_ireturn, ↓xe_invokevirtual, dX5_gaps_0, dX5_gaps_1, dX5_gaps_4, dX5_gaps_7, xpX5_19]
  exact hp g (newg_ext hrs hsrt.1 (Nat.le_refl _) q)
set_option maxRecDepth 100000 in
set_option maxHeartbeats 4000000 in
theorem c5_key (V : xV) {w z n c : Nat} {f : xH} {t : Nat → Nat} {pl : Int32} {xs : Nat → xZ} {P : xZ} {sr : Nat → Nat} {k p : Int32} {post : Option Value → xH → Nat → Prop} (C : Cls f w t n pl c xs P sr) (S : Spc c xs P sr)
    (hp : ∀ r : Int32, r.toInt = aKey c xs P k.toInt p.toInt → post (some (.int r)) f z) :
    xMet V yX5_key cX5_key 5 (some .int) 2 0 0 [.ref w, .int k, .int p] f z post := by
  refine xMet_of false (by decide) (Nat.le_of_ble_eq_true rfl) (fun h => by cases h) (fun X hX O Rt => ?_)
  have O : xO X cX5_key 5 RX5 2 0 0 false := O
  show xG X 0 [some (.ref w), some (.int k), some (.int p), none, none] [] f (z, 0, 0)
  obtain ⟨h5, hT, ⟨ps, rs, tk, so, hW, htk, hrs, hso⟩, hPa, hDv⟩ := id C
  obtain ⟨hc1, hc2, hx0, hst, hbr, hper, hpn, hsrt⟩ := id S
  have h4 : f (w + 4) = some (xSc w c) := hW.1
  have e200 : (200 : Int32).toInt = 200 := rfl
  have em200 : (-200 : Int32).toInt = -200 := rfl
  have no : ¬ ((-200 ≤ k.toInt ∧ k.toInt ≤ 200) ∧ 0 ≤ p.toInt ∧ p.toInt < 6) → post (some (.int (-1000003))) f z := by
    intro q
    refine hp _ ?_
    rw [aKey, if_neg q]
    rfl
  refine xgo O Rt xplX5_q xclX5_q [] 40 ?_
  simp (maxSteps := 10000000) (disch := omega) only [↓reduceIte, ↓xrun_s, ↓xck_e, xdo_e, xlg_0, xlg_c, xst1_0, xst1_1, xst1_c, xst2_0, xst2_1, xst2_c, xk2_n, xk2_i, xk2_a, xk2_l, xct_i, xct_a, xct_l, xf4_0, xf4_1, xf4_2, xf4_3, List.contains_cons, List.contains_nil, Bool.or_false, Bool.false_or, Bool.or_self, Bool.true_or, Bool.or_true, cond_true, cond_false, List.set_cons_zero, List.set_cons_succ, List.length_cons, List.length_nil, true_and, and_true, xu_s, xu_u, xeqs, Nat.le_refl, not_true_eq_false, xq_10, xq_01, Int32.reduceAdd, Int32.reduceMul, Int32.reduceSub, Int32.reduceLE, Int32.reduceLT, Int32.reduceToNatClampNeg, Nat.reduceAdd, Nat.reduceMul, Nat.reduceBEq, Nat.reduceLT, Nat.reduceLeDiff, Nat.reduceEqDiff, Nat.zero_add, Bool.false_eq_true, reduceCtorEq, if_false, if_true, not_false_eq_true, true_imp_iff, false_imp_iff, imp_self, ↓xil_e, ↓xll_e, ↓xal_e, ↓xs1i_e, ↓xs2i_e, ↓xs1l_e, ↓xs2l_e, ↓xsil_e, ↓xs1_e, ↓xs2_e, ↓xs1a_e, ↓xsia_e, ↓xsiia_e, ↓xslia_e, ↓xsaia_e, ↓xsva_e, ↓xse1i_e, ↓xse1l_e, ↓xse1a_e, ↓xse0_e, ↓xfv_0, ↓xfv_c, ↓xgf_e, ↓xpf_e, ↓xia_e, ↓xia_n, ↓xba_e, ↓xba_n, ↓xla_e, ↓xla_n, ↓xob_e, ↓xra_e, ↓xno_e, ↓xle_e, ↓xnr_i, ↓xnr_b0, ↓xnr_b1, ↓xnr_n, ↓xdo_e, ↓xkl_0, ↓xe_sipush, ↓xe_iadd, ↓xe_isub, ↓xe_imul, ↓xe_iload, ↓xe_iload_n, ↓xe_aload_n, ↓xe_istore, ↓xe_istore_n, ↓xe_ldc, ↓xe_getfield, ↓xe_iaload, ↓xe_aaload, ↓xe_ireturn, ↓xe_if_ne, ↓xe_icmp_lt, ↓xe_icmp_gt, ↓xe_invokestatic, dX5_key_0, dX5_key_1, dX5_key_4, dX5_key_7, dX5_key_8, dX5_key_11, dX5_key_14, dX5_key_15, dX5_key_18, dX5_key_21, dX5_key_23, dX5_key_24, dX5_key_25, dX5_key_26, dX5_key_29, dX5_key_32, dX5_key_35, dX5_key_36, dX5_key_37, dX5_key_38, dX5_key_39, dX5_key_42, dX5_key_45, dX5_key_46, dX5_key_47, dX5_key_49, dX5_key_50, dX5_key_53, dX5_key_56, dX5_key_58, dX5_key_59, dX5_key_62, dX5_key_63, dX5_key_64, dX5_key_65, dX5_key_66, dX5_key_69, dX5_key_72, dX5_key_75, dX5_key_76, dX5_key_77, dX5_key_78, dX5_key_79, xpX5_19, xpX5_25, xpX5_71, xpX5_88, xpX5_100, xcX5_47, xks_200, xks_m200, n_lt, e200, em200, xt_4_17, xtc_4_17, xt_11_10, xtc_11_10, xt_18_6, xtc_18_6]
  refine ⟨fun q => no (by omega), fun q1 => ⟨fun q => no (by omega), fun q2 => ?_⟩⟩
  refine xg_callSi (Qp := fun r f2 => ((0 ≤ p.toInt ∧ p.toInt < 6 ∧ r = 1) ∨ (¬ (0 ≤ p.toInt ∧ p.toInt < 6) ∧ r = 0)) ∧ f = f2) O dX5_key_15 xl_X5_81 xk_X5_isPrime (c_isPrime _ (fun a b => ⟨1, rfl, ⟨Or.inl ⟨a, b, rfl⟩, rfl⟩, rfl⟩) (fun a => ⟨0, rfl, ⟨Or.inr ⟨a, rfl⟩, rfl⟩, rfl⟩)) rfl (Nat.le_of_ble_eq_true rfl) rfl (Nat.le_of_ble_eq_true rfl) (Nat.le_of_ble_eq_true rfl) (Nat.le_of_ble_eq_true rfl) (fun r f2 hq => ?_)
  obtain ⟨hd, rfl⟩ := hq
  rcases hd with ⟨a15, b15, rfl⟩ | ⟨a15, rfl⟩
  rotate_left
  · refine xgo O Rt xplX5_q xclX5_q [] 40 ?_
    simp (maxSteps := 10000000) (disch := omega) only [↓reduceIte, ↓xrun_s, ↓xck_e, xdo_e, xlg_0, xlg_c, xst1_0, xst1_1, xst1_c, xst2_0, xst2_1, xst2_c, xk2_n, xk2_i, xk2_a, xk2_l, xct_i, xct_a, xct_l, xf4_0, xf4_1, xf4_2, xf4_3, List.contains_cons, List.contains_nil, Bool.or_false, Bool.false_or, Bool.or_self, Bool.true_or, Bool.or_true, cond_true, cond_false, List.set_cons_zero, List.set_cons_succ, List.length_cons, List.length_nil, true_and, and_true, xu_s, xu_u, xeqs, Nat.le_refl, not_true_eq_false, xq_10, xq_01, Int32.reduceAdd, Int32.reduceMul, Int32.reduceSub, Int32.reduceLE, Int32.reduceLT, Int32.reduceToNatClampNeg, Nat.reduceAdd, Nat.reduceMul, Nat.reduceBEq, Nat.reduceLT, Nat.reduceLeDiff, Nat.reduceEqDiff, Nat.zero_add, Bool.false_eq_true, reduceCtorEq, if_false, if_true, not_false_eq_true, true_imp_iff, false_imp_iff, imp_self, ↓xil_e, ↓xll_e, ↓xal_e, ↓xs1i_e, ↓xs2i_e, ↓xs1l_e, ↓xs2l_e, ↓xsil_e, ↓xs1_e, ↓xs2_e, ↓xs1a_e, ↓xsia_e, ↓xsiia_e, ↓xslia_e, ↓xsaia_e, ↓xsva_e, ↓xse1i_e, ↓xse1l_e, ↓xse1a_e, ↓xse0_e, ↓xfv_0, ↓xfv_c, ↓xgf_e, ↓xpf_e, ↓xia_e, ↓xia_n, ↓xba_e, ↓xba_n, ↓xla_e, ↓xla_n, ↓xob_e, ↓xra_e, ↓xno_e, ↓xle_e, ↓xnr_i, ↓xnr_b0, ↓xnr_b1, ↓xnr_n, ↓xdo_e, ↓xkl_0, ↓xe_sipush, ↓xe_iadd, ↓xe_isub, ↓xe_imul, ↓xe_iload, ↓xe_iload_n, ↓xe_aload_n, ↓xe_istore, ↓xe_istore_n, ↓xe_ldc, ↓xe_getfield, ↓xe_iaload, ↓xe_aaload, ↓xe_ireturn, ↓xe_if_ne, ↓xe_icmp_lt, ↓xe_icmp_gt, ↓xe_invokestatic, dX5_key_0, dX5_key_1, dX5_key_4, dX5_key_7, dX5_key_8, dX5_key_11, dX5_key_14, dX5_key_15, dX5_key_18, dX5_key_21, dX5_key_23, dX5_key_24, dX5_key_25, dX5_key_26, dX5_key_29, dX5_key_32, dX5_key_35, dX5_key_36, dX5_key_37, dX5_key_38, dX5_key_39, dX5_key_42, dX5_key_45, dX5_key_46, dX5_key_47, dX5_key_49, dX5_key_50, dX5_key_53, dX5_key_56, dX5_key_58, dX5_key_59, dX5_key_62, dX5_key_63, dX5_key_64, dX5_key_65, dX5_key_66, dX5_key_69, dX5_key_72, dX5_key_75, dX5_key_76, dX5_key_77, dX5_key_78, dX5_key_79, xpX5_19, xpX5_25, xpX5_71, xpX5_88, xpX5_100, xcX5_47, xks_200, xks_m200, xt_4_17, xtc_4_17, xt_11_10, xtc_11_10, xt_18_6, xtc_18_6]
    exact no (by omega)
  refine xgo O Rt xplX5_q xclX5_q [] 40 ?_
  simp (maxSteps := 10000000) (disch := omega) only [↓reduceIte, ↓xrun_s, ↓xck_e, xdo_e, xlg_0, xlg_c, xst1_0, xst1_1, xst1_c, xst2_0, xst2_1, xst2_c, xk2_n, xk2_i, xk2_a, xk2_l, xct_i, xct_a, xct_l, xf4_0, xf4_1, xf4_2, xf4_3, List.contains_cons, List.contains_nil, Bool.or_false, Bool.false_or, Bool.or_self, Bool.true_or, Bool.or_true, cond_true, cond_false, List.set_cons_zero, List.set_cons_succ, List.length_cons, List.length_nil, true_and, and_true, xu_s, xu_u, xeqs, Nat.le_refl, not_true_eq_false, xq_10, xq_01, Int32.reduceAdd, Int32.reduceMul, Int32.reduceSub, Int32.reduceLE, Int32.reduceLT, Int32.reduceToNatClampNeg, Nat.reduceAdd, Nat.reduceMul, Nat.reduceBEq, Nat.reduceLT, Nat.reduceLeDiff, Nat.reduceEqDiff, Nat.zero_add, Bool.false_eq_true, reduceCtorEq, if_false, if_true, not_false_eq_true, true_imp_iff, false_imp_iff, imp_self, ↓xil_e, ↓xll_e, ↓xal_e, ↓xs1i_e, ↓xs2i_e, ↓xs1l_e, ↓xs2l_e, ↓xsil_e, ↓xs1_e, ↓xs2_e, ↓xs1a_e, ↓xsia_e, ↓xsiia_e, ↓xslia_e, ↓xsaia_e, ↓xsva_e, ↓xse1i_e, ↓xse1l_e, ↓xse1a_e, ↓xse0_e, ↓xfv_0, ↓xfv_c, ↓xgf_e, ↓xpf_e, ↓xia_e, ↓xia_n, ↓xba_e, ↓xba_n, ↓xla_e, ↓xla_n, ↓xob_e, ↓xra_e, ↓xno_e, ↓xle_e, ↓xnr_i, ↓xnr_b0, ↓xnr_b1, ↓xnr_n, ↓xdo_e, ↓xkl_0, ↓xe_sipush, ↓xe_iadd, ↓xe_isub, ↓xe_imul, ↓xe_iload, ↓xe_iload_n, ↓xe_aload_n, ↓xe_istore, ↓xe_istore_n, ↓xe_ldc, ↓xe_getfield, ↓xe_iaload, ↓xe_aaload, ↓xe_ireturn, ↓xe_if_ne, ↓xe_icmp_lt, ↓xe_icmp_gt, ↓xe_invokestatic, dX5_key_0, dX5_key_1, dX5_key_4, dX5_key_7, dX5_key_8, dX5_key_11, dX5_key_14, dX5_key_15, dX5_key_18, dX5_key_21, dX5_key_23, dX5_key_24, dX5_key_25, dX5_key_26, dX5_key_29, dX5_key_32, dX5_key_35, dX5_key_36, dX5_key_37, dX5_key_38, dX5_key_39, dX5_key_42, dX5_key_45, dX5_key_46, dX5_key_47, dX5_key_49, dX5_key_50, dX5_key_53, dX5_key_56, dX5_key_58, dX5_key_59, dX5_key_62, dX5_key_63, dX5_key_64, dX5_key_65, dX5_key_66, dX5_key_69, dX5_key_72, dX5_key_75, dX5_key_76, dX5_key_77, dX5_key_78, dX5_key_79, xpX5_19, xpX5_25, xpX5_71, xpX5_88, xpX5_100, xcX5_47, xks_200, xks_m200, h5, h4, xt_4_17, xtc_4_17, xt_11_10, xtc_11_10, xt_18_6, xtc_18_6]
  have hci : (nI c).toInt = (c : Int) := nI_int (by omega)
  refine xg_callSi (Qp := fun r f2 => r.toInt = k.toInt / (nI c).toInt ∧ f = f2) O dX5_key_32 xl_X5_94 xk_J9_floorDiv_7cf53 (c_floorDiv _ (b := nI c) (by omega) (by omega) (fun r q => ⟨r, rfl, ⟨q, rfl⟩, rfl⟩)) rfl (Nat.le_of_ble_eq_true rfl) rfl (Nat.le_of_ble_eq_true rfl) (Nat.le_of_ble_eq_true rfl) (Nat.le_of_ble_eq_true rfl) (fun r f2 hq => ?_)
  obtain ⟨hr, rfl⟩ := hq
  rw [hci] at hr
  obtain ⟨j, hj, rfl⟩ := s_nI (m := 6) a15 b15
  have hm0 := Int.emod_nonneg k.toInt (show (c : Int) ≠ 0 by omega)
  have hm1 := Int.emod_lt_of_pos k.toInt (show (0 : Int) < c by omega)
  have hdm : k.toInt = c * (k.toInt / c) + k.toInt % c := (Int.mul_ediv_add_emod k.toInt c).symm
  have hq1 : -200 ≤ k.toInt / c := (Int.le_ediv_iff_mul_le (by omega)).mpr (by omega)
  have hq2 : k.toInt / c ≤ 200 := by have : k.toInt / c < 201 := (Int.ediv_lt_iff_lt_mul (by omega)).mpr (by omega); omega
  have hrc : (r * nI c).toInt = k.toInt - k.toInt % c := by
    rw [n_mul (by rw [hr, hci, Int.mul_comm]; omega) (by rw [hr, hci, Int.mul_comm]; omega), hr, hci, Int.mul_comm]; omega
  have hs : (k - r * nI c).toInt = k.toInt % c := by rw [n_sub (by rw [hrc]; omega) (by rw [hrc]; omega), hrc]; omega
  obtain ⟨i, hi, ei⟩ := s_nI (s := k - r * nI c) (m := c) (by omega) (by omega)
  have hii : k.toInt % c = (i : Int) := by rw [← hs, ei]; exact nI_int (by omega)
  obtain ⟨-, ⟨st, g2, g2'⟩, -, -, -, -, -, g8, -, g10, -⟩ := id hW
  obtain ⟨-, e, q1', q2', q3', q4', q5', q6', -⟩ := g8 i (by omega)
  obtain ⟨-, e2, p1', p2', p3', p4', p5', p6', -⟩ := g10
  have v0 : vp_in (nI i) 24 := vp_in_nI (by omega) (by omega)
  have v1 : st (nI i).toNatClampNeg = some (ps i) := by rw [nI_clamp (by omega)]; exact g2' i (by omega)
  have v4 : vp_in (nI j) 6 := vp_in_nI hj (by omega)
  have v5 : (nI j).toNatClampNeg = j := nI_clamp (by omega)
  refine xgo O Rt xplX5_q xclX5_q [] 60 ?_
  simp (maxSteps := 10000000) (disch := omega) only [↓reduceIte, ↓xrun_s, ↓xck_e, xdo_e, xlg_0, xlg_c, xst1_0, xst1_1, xst1_c, xst2_0, xst2_1, xst2_c, xk2_n, xk2_i, xk2_a, xk2_l, xct_i, xct_a, xct_l, xf4_0, xf4_1, xf4_2, xf4_3, List.contains_cons, List.contains_nil, Bool.or_false, Bool.false_or, Bool.or_self, Bool.true_or, Bool.or_true, cond_true, cond_false, List.set_cons_zero, List.set_cons_succ, List.length_cons, List.length_nil, true_and, and_true, xu_s, xu_u, xeqs, Nat.le_refl, not_true_eq_false, xq_10, xq_01, Int32.reduceAdd, Int32.reduceMul, Int32.reduceSub, Int32.reduceLE, Int32.reduceLT, Int32.reduceToNatClampNeg, Nat.reduceAdd, Nat.reduceMul, Nat.reduceBEq, Nat.reduceLT, Nat.reduceLeDiff, Nat.reduceEqDiff, Nat.zero_add, Bool.false_eq_true, reduceCtorEq, if_false, if_true, not_false_eq_true, true_imp_iff, false_imp_iff, imp_self, ↓xil_e, ↓xll_e, ↓xal_e, ↓xs1i_e, ↓xs2i_e, ↓xs1l_e, ↓xs2l_e, ↓xsil_e, ↓xs1_e, ↓xs2_e, ↓xs1a_e, ↓xsia_e, ↓xsiia_e, ↓xslia_e, ↓xsaia_e, ↓xsva_e, ↓xse1i_e, ↓xse1l_e, ↓xse1a_e, ↓xse0_e, ↓xfv_0, ↓xfv_c, ↓xgf_e, ↓xpf_e, ↓xia_e, ↓xia_n, ↓xba_e, ↓xba_n, ↓xla_e, ↓xla_n, ↓xob_e, ↓xra_e, ↓xno_e, ↓xle_e, ↓xnr_i, ↓xnr_b0, ↓xnr_b1, ↓xnr_n, ↓xdo_e, ↓xkl_0, ↓xe_sipush, ↓xe_iadd, ↓xe_isub, ↓xe_imul, ↓xe_iload, ↓xe_iload_n, ↓xe_aload_n, ↓xe_istore, ↓xe_istore_n, ↓xe_ldc, ↓xe_getfield, ↓xe_iaload, ↓xe_aaload, ↓xe_ireturn, ↓xe_if_ne, ↓xe_icmp_lt, ↓xe_icmp_gt, ↓xe_invokestatic, dX5_key_0, dX5_key_1, dX5_key_4, dX5_key_7, dX5_key_8, dX5_key_11, dX5_key_14, dX5_key_15, dX5_key_18, dX5_key_21, dX5_key_23, dX5_key_24, dX5_key_25, dX5_key_26, dX5_key_29, dX5_key_32, dX5_key_35, dX5_key_36, dX5_key_37, dX5_key_38, dX5_key_39, dX5_key_42, dX5_key_45, dX5_key_46, dX5_key_47, dX5_key_49, dX5_key_50, dX5_key_53, dX5_key_56, dX5_key_58, dX5_key_59, dX5_key_62, dX5_key_63, dX5_key_64, dX5_key_65, dX5_key_66, dX5_key_69, dX5_key_72, dX5_key_75, dX5_key_76, dX5_key_77, dX5_key_78, dX5_key_79, xpX5_19, xpX5_25, xpX5_71, xpX5_88, xpX5_100, xcX5_47, xks_200, xks_m200, h5, h4, ei, g2, v0, v1, v4, v5, q4', q5', p4', p5', xt_4_17, xtc_4_17, xt_11_10, xtc_11_10, xt_18_6, xtc_18_6]
  refine hp _ ?_
  have hb1 := (hst i hi).1 j hj
  have hb2 := hper.1 j hj
  have hE := q6' j hj
  have hE2 := p6' j hj
  have hmb := mulb (a := k.toInt / c) (b := P j) (A := 200) (B := 3) (by omega) (by omega) hb2.1 hb2.2
  have hmu : (r * e2 j).toInt = k.toInt / c * P j := by rw [n_mul (by rw [hr, hE2]; omega) (by rw [hr, hE2]; omega), hr, hE2]
  rw [n_add (by rw [hmu, hE]; omega) (by rw [hmu, hE]; omega), hmu, hE, aKey, if_pos ⟨⟨by omega, by omega⟩, a15, b15⟩, hii, nI_nat (by omega)]
  rfl
set_option maxRecDepth 100000 in
set_option maxHeartbeats 4000000 in
theorem c5_compare (V : xV) {w z n c : Nat} {f : xH} {t : Nat → Nat} {pl : Int32} {xs : Nat → xZ} {P : xZ} {sr : Nat → Nat} {a b : Int32} {post : Option Value → xH → Nat → Prop} (C : Cls f w t n pl c xs P sr) (S : Spc c xs P sr)
    (hp : ∀ r : Int32, r.toInt = aCmp c xs P a.toInt b.toInt → post (some (.int r)) f z) :
    xMet V yX5_compare cX5_compare 5 (some .int) 2 0 0 [.ref w, .int a, .int b] f z post := by
  refine xMet_of false (by decide) (Nat.le_of_ble_eq_true rfl) (fun h => by cases h) (fun X hX O Rt => ?_)
  have O : xO X cX5_compare 5 RX5 2 0 0 false := O
  show xG X 0 [some (.ref w), some (.int a), some (.int b), none, none] [] f (z, 0, 0)
  obtain ⟨h5, hT, ⟨ps, rs, tk, so, hW, htk, hrs, hso⟩, hPa, hDv⟩ := id C
  obtain ⟨hc1, hc2, hx0, hst, hbr, hper, hpn, hsrt⟩ := id S
  have h4 : f (w + 4) = some (xSc w c) := hW.1
  refine xgo O Rt xplX5_q xclX5_q [] 40 ?_
  simp (maxSteps := 10000000) (disch := omega) only [↓reduceIte, ↓xrun_s, ↓xck_e, xdo_e, xlg_0, xlg_c, xst1_0, xst1_1, xst1_c, xst2_0, xst2_1, xst2_c, xk2_n, xk2_i, xk2_a, xk2_l, xct_i, xct_a, xct_l, xf4_0, xf4_1, xf4_2, xf4_3, List.contains_cons, List.contains_nil, Bool.or_false, Bool.false_or, Bool.or_self, Bool.true_or, Bool.or_true, cond_true, cond_false, List.set_cons_zero, List.set_cons_succ, List.length_cons, List.length_nil, true_and, and_true, xu_s, xu_u, xeqs, Nat.le_refl, not_true_eq_false, xq_10, xq_01, Int32.reduceAdd, Int32.reduceMul, Int32.reduceSub, Int32.reduceLE, Int32.reduceLT, Int32.reduceToNatClampNeg, Nat.reduceAdd, Nat.reduceMul, Nat.reduceBEq, Nat.reduceLT, Nat.reduceLeDiff, Nat.reduceEqDiff, Nat.zero_add, Bool.false_eq_true, reduceCtorEq, if_false, if_true, not_false_eq_true, true_imp_iff, false_imp_iff, imp_self, ↓xil_e, ↓xll_e, ↓xal_e, ↓xs1i_e, ↓xs2i_e, ↓xs1l_e, ↓xs2l_e, ↓xsil_e, ↓xs1_e, ↓xs2_e, ↓xs1a_e, ↓xsia_e, ↓xsiia_e, ↓xslia_e, ↓xsaia_e, ↓xsva_e, ↓xse1i_e, ↓xse1l_e, ↓xse1a_e, ↓xse0_e, ↓xfv_0, ↓xfv_c, ↓xgf_e, ↓xpf_e, ↓xia_e, ↓xia_n, ↓xba_e, ↓xba_n, ↓xla_e, ↓xla_n, ↓xob_e, ↓xra_e, ↓xno_e, ↓xle_e, ↓xnr_i, ↓xnr_b0, ↓xnr_b1, ↓xnr_n, ↓xdo_e, ↓xkl_0, ↓xe_iconst, ↓xe_iload_n, ↓xe_aload, ↓xe_aload_n, ↓xe_astore, ↓xe_astore_n, ↓xe_goto, ↓xe_ldc, ↓xe_getfield, ↓xe_ireturn, ↓xe_if_eq, ↓xe_if_ne, ↓xe_invokevirtual, dX5_compare_0, dX5_compare_1, dX5_compare_2, dX5_compare_5, dX5_compare_8, dX5_compare_9, dX5_compare_10, dX5_compare_13, dX5_compare_16, dX5_compare_18, dX5_compare_19, dX5_compare_20, dX5_compare_23, dX5_compare_24, dX5_compare_27, dX5_compare_28, dX5_compare_29, dX5_compare_32, dX5_compare_33, dX5_compare_36, dX5_compare_38, dX5_compare_39, dX5_compare_41, dX5_compare_42, dX5_compare_45, dX5_compare_48, dX5_compare_49, dX5_compare_50, dX5_compare_52, dX5_compare_53, dX5_compare_54, dX5_compare_57, dX5_compare_60, dX5_compare_61, dX5_compare_64, dX5_compare_65, xpX5_19, xcX5_80, xki_0, xki_1, xki_m1, xt_5_11, xtc_5_11, xt_13_6, xtc_13_6, xt_45_5, xtc_45_5, xt_57_7, xtc_57_7, xt_61_4, xtc_61_4]
  refine xg_callVi (Qp := fun r f2 => ((0 ≤ a.toInt ∧ a.toInt ≤ c ∧ r = 1) ∨ (¬ (0 ≤ a.toInt ∧ a.toInt ≤ c) ∧ r = 0)) ∧ f = f2) O dX5_compare_2 xl_X5_77 xk_X5_isStepOrPeriod (c_isStepOrPeriod _ h5 h4 hc2 (fun a b => ⟨1, rfl, ⟨Or.inl ⟨a, b, rfl⟩, rfl⟩, rfl⟩) (fun a => ⟨0, rfl, ⟨Or.inr ⟨a, rfl⟩, rfl⟩, rfl⟩)) h5 rfl rfl rfl (Nat.le_of_ble_eq_true rfl) rfl (Nat.le_of_ble_eq_true rfl) (Nat.le_of_ble_eq_true rfl) (Nat.le_of_ble_eq_true rfl) (fun r f2 hq => ?_)
  obtain ⟨hd, rfl⟩ := hq
  rcases hd with ⟨a2, b2, rfl⟩ | ⟨a2, rfl⟩
  rotate_left
  · refine xgo O Rt xplX5_q xclX5_q [] 40 ?_
    simp (maxSteps := 10000000) (disch := omega) only [↓reduceIte, ↓xrun_s, ↓xck_e, xdo_e, xlg_0, xlg_c, xst1_0, xst1_1, xst1_c, xst2_0, xst2_1, xst2_c, xk2_n, xk2_i, xk2_a, xk2_l, xct_i, xct_a, xct_l, xf4_0, xf4_1, xf4_2, xf4_3, List.contains_cons, List.contains_nil, Bool.or_false, Bool.false_or, Bool.or_self, Bool.true_or, Bool.or_true, cond_true, cond_false, List.set_cons_zero, List.set_cons_succ, List.length_cons, List.length_nil, true_and, and_true, xu_s, xu_u, xeqs, Nat.le_refl, not_true_eq_false, xq_10, xq_01, Int32.reduceAdd, Int32.reduceMul, Int32.reduceSub, Int32.reduceLE, Int32.reduceLT, Int32.reduceToNatClampNeg, Nat.reduceAdd, Nat.reduceMul, Nat.reduceBEq, Nat.reduceLT, Nat.reduceLeDiff, Nat.reduceEqDiff, Nat.zero_add, Bool.false_eq_true, reduceCtorEq, if_false, if_true, not_false_eq_true, true_imp_iff, false_imp_iff, imp_self, ↓xil_e, ↓xll_e, ↓xal_e, ↓xs1i_e, ↓xs2i_e, ↓xs1l_e, ↓xs2l_e, ↓xsil_e, ↓xs1_e, ↓xs2_e, ↓xs1a_e, ↓xsia_e, ↓xsiia_e, ↓xslia_e, ↓xsaia_e, ↓xsva_e, ↓xse1i_e, ↓xse1l_e, ↓xse1a_e, ↓xse0_e, ↓xfv_0, ↓xfv_c, ↓xgf_e, ↓xpf_e, ↓xia_e, ↓xia_n, ↓xba_e, ↓xba_n, ↓xla_e, ↓xla_n, ↓xob_e, ↓xra_e, ↓xno_e, ↓xle_e, ↓xnr_i, ↓xnr_b0, ↓xnr_b1, ↓xnr_n, ↓xdo_e, ↓xkl_0, ↓xe_iconst, ↓xe_iload_n, ↓xe_aload, ↓xe_aload_n, ↓xe_astore, ↓xe_astore_n, ↓xe_goto, ↓xe_ldc, ↓xe_getfield, ↓xe_ireturn, ↓xe_if_eq, ↓xe_if_ne, ↓xe_invokevirtual, dX5_compare_0, dX5_compare_1, dX5_compare_2, dX5_compare_5, dX5_compare_8, dX5_compare_9, dX5_compare_10, dX5_compare_13, dX5_compare_16, dX5_compare_18, dX5_compare_19, dX5_compare_20, dX5_compare_23, dX5_compare_24, dX5_compare_27, dX5_compare_28, dX5_compare_29, dX5_compare_32, dX5_compare_33, dX5_compare_36, dX5_compare_38, dX5_compare_39, dX5_compare_41, dX5_compare_42, dX5_compare_45, dX5_compare_48, dX5_compare_49, dX5_compare_50, dX5_compare_52, dX5_compare_53, dX5_compare_54, dX5_compare_57, dX5_compare_60, dX5_compare_61, dX5_compare_64, dX5_compare_65, xpX5_19, xcX5_80, xki_0, xki_1, xki_m1, xt_5_11, xtc_5_11, xt_13_6, xtc_13_6, xt_45_5, xtc_45_5, xt_57_7, xtc_57_7, xt_61_4, xtc_61_4]
    refine hp _ ?_
    rw [aCmp, if_neg (fun q => a2 q.1)]
    rfl
  refine xgo O Rt xplX5_q xclX5_q [] 40 ?_
  simp (maxSteps := 10000000) (disch := omega) only [↓reduceIte, ↓xrun_s, ↓xck_e, xdo_e, xlg_0, xlg_c, xst1_0, xst1_1, xst1_c, xst2_0, xst2_1, xst2_c, xk2_n, xk2_i, xk2_a, xk2_l, xct_i, xct_a, xct_l, xf4_0, xf4_1, xf4_2, xf4_3, List.contains_cons, List.contains_nil, Bool.or_false, Bool.false_or, Bool.or_self, Bool.true_or, Bool.or_true, cond_true, cond_false, List.set_cons_zero, List.set_cons_succ, List.length_cons, List.length_nil, true_and, and_true, xu_s, xu_u, xeqs, Nat.le_refl, not_true_eq_false, xq_10, xq_01, Int32.reduceAdd, Int32.reduceMul, Int32.reduceSub, Int32.reduceLE, Int32.reduceLT, Int32.reduceToNatClampNeg, Nat.reduceAdd, Nat.reduceMul, Nat.reduceBEq, Nat.reduceLT, Nat.reduceLeDiff, Nat.reduceEqDiff, Nat.zero_add, Bool.false_eq_true, reduceCtorEq, if_false, if_true, not_false_eq_true, true_imp_iff, false_imp_iff, imp_self, ↓xil_e, ↓xll_e, ↓xal_e, ↓xs1i_e, ↓xs2i_e, ↓xs1l_e, ↓xs2l_e, ↓xsil_e, ↓xs1_e, ↓xs2_e, ↓xs1a_e, ↓xsia_e, ↓xsiia_e, ↓xslia_e, ↓xsaia_e, ↓xsva_e, ↓xse1i_e, ↓xse1l_e, ↓xse1a_e, ↓xse0_e, ↓xfv_0, ↓xfv_c, ↓xgf_e, ↓xpf_e, ↓xia_e, ↓xia_n, ↓xba_e, ↓xba_n, ↓xla_e, ↓xla_n, ↓xob_e, ↓xra_e, ↓xno_e, ↓xle_e, ↓xnr_i, ↓xnr_b0, ↓xnr_b1, ↓xnr_n, ↓xdo_e, ↓xkl_0, ↓xe_iconst, ↓xe_iload_n, ↓xe_aload, ↓xe_aload_n, ↓xe_astore, ↓xe_astore_n, ↓xe_goto, ↓xe_ldc, ↓xe_getfield, ↓xe_ireturn, ↓xe_if_eq, ↓xe_if_ne, ↓xe_invokevirtual, dX5_compare_0, dX5_compare_1, dX5_compare_2, dX5_compare_5, dX5_compare_8, dX5_compare_9, dX5_compare_10, dX5_compare_13, dX5_compare_16, dX5_compare_18, dX5_compare_19, dX5_compare_20, dX5_compare_23, dX5_compare_24, dX5_compare_27, dX5_compare_28, dX5_compare_29, dX5_compare_32, dX5_compare_33, dX5_compare_36, dX5_compare_38, dX5_compare_39, dX5_compare_41, dX5_compare_42, dX5_compare_45, dX5_compare_48, dX5_compare_49, dX5_compare_50, dX5_compare_52, dX5_compare_53, dX5_compare_54, dX5_compare_57, dX5_compare_60, dX5_compare_61, dX5_compare_64, dX5_compare_65, xpX5_19, xcX5_80, xki_0, xki_1, xki_m1, xt_5_11, xtc_5_11, xt_13_6, xtc_13_6, xt_45_5, xtc_45_5, xt_57_7, xtc_57_7, xt_61_4, xtc_61_4]
  refine xg_callVi (Qp := fun r f2 => ((0 ≤ b.toInt ∧ b.toInt ≤ c ∧ r = 1) ∨ (¬ (0 ≤ b.toInt ∧ b.toInt ≤ c) ∧ r = 0)) ∧ f = f2) O dX5_compare_10 xl_X5_77 xk_X5_isStepOrPeriod (c_isStepOrPeriod _ h5 h4 hc2 (fun a b => ⟨1, rfl, ⟨Or.inl ⟨a, b, rfl⟩, rfl⟩, rfl⟩) (fun a => ⟨0, rfl, ⟨Or.inr ⟨a, rfl⟩, rfl⟩, rfl⟩)) h5 rfl rfl rfl (Nat.le_of_ble_eq_true rfl) rfl (Nat.le_of_ble_eq_true rfl) (Nat.le_of_ble_eq_true rfl) (Nat.le_of_ble_eq_true rfl) (fun r f2 hq => ?_)
  obtain ⟨hd, rfl⟩ := hq
  rcases hd with ⟨a10, b10, rfl⟩ | ⟨a10, rfl⟩
  rotate_left
  · refine xgo O Rt xplX5_q xclX5_q [] 40 ?_
    simp (maxSteps := 10000000) (disch := omega) only [↓reduceIte, ↓xrun_s, ↓xck_e, xdo_e, xlg_0, xlg_c, xst1_0, xst1_1, xst1_c, xst2_0, xst2_1, xst2_c, xk2_n, xk2_i, xk2_a, xk2_l, xct_i, xct_a, xct_l, xf4_0, xf4_1, xf4_2, xf4_3, List.contains_cons, List.contains_nil, Bool.or_false, Bool.false_or, Bool.or_self, Bool.true_or, Bool.or_true, cond_true, cond_false, List.set_cons_zero, List.set_cons_succ, List.length_cons, List.length_nil, true_and, and_true, xu_s, xu_u, xeqs, Nat.le_refl, not_true_eq_false, xq_10, xq_01, Int32.reduceAdd, Int32.reduceMul, Int32.reduceSub, Int32.reduceLE, Int32.reduceLT, Int32.reduceToNatClampNeg, Nat.reduceAdd, Nat.reduceMul, Nat.reduceBEq, Nat.reduceLT, Nat.reduceLeDiff, Nat.reduceEqDiff, Nat.zero_add, Bool.false_eq_true, reduceCtorEq, if_false, if_true, not_false_eq_true, true_imp_iff, false_imp_iff, imp_self, ↓xil_e, ↓xll_e, ↓xal_e, ↓xs1i_e, ↓xs2i_e, ↓xs1l_e, ↓xs2l_e, ↓xsil_e, ↓xs1_e, ↓xs2_e, ↓xs1a_e, ↓xsia_e, ↓xsiia_e, ↓xslia_e, ↓xsaia_e, ↓xsva_e, ↓xse1i_e, ↓xse1l_e, ↓xse1a_e, ↓xse0_e, ↓xfv_0, ↓xfv_c, ↓xgf_e, ↓xpf_e, ↓xia_e, ↓xia_n, ↓xba_e, ↓xba_n, ↓xla_e, ↓xla_n, ↓xob_e, ↓xra_e, ↓xno_e, ↓xle_e, ↓xnr_i, ↓xnr_b0, ↓xnr_b1, ↓xnr_n, ↓xdo_e, ↓xkl_0, ↓xe_iconst, ↓xe_iload_n, ↓xe_aload, ↓xe_aload_n, ↓xe_astore, ↓xe_astore_n, ↓xe_goto, ↓xe_ldc, ↓xe_getfield, ↓xe_ireturn, ↓xe_if_eq, ↓xe_if_ne, ↓xe_invokevirtual, dX5_compare_0, dX5_compare_1, dX5_compare_2, dX5_compare_5, dX5_compare_8, dX5_compare_9, dX5_compare_10, dX5_compare_13, dX5_compare_16, dX5_compare_18, dX5_compare_19, dX5_compare_20, dX5_compare_23, dX5_compare_24, dX5_compare_27, dX5_compare_28, dX5_compare_29, dX5_compare_32, dX5_compare_33, dX5_compare_36, dX5_compare_38, dX5_compare_39, dX5_compare_41, dX5_compare_42, dX5_compare_45, dX5_compare_48, dX5_compare_49, dX5_compare_50, dX5_compare_52, dX5_compare_53, dX5_compare_54, dX5_compare_57, dX5_compare_60, dX5_compare_61, dX5_compare_64, dX5_compare_65, xpX5_19, xcX5_80, xki_0, xki_1, xki_m1, xt_5_11, xtc_5_11, xt_13_6, xtc_13_6, xt_45_5, xtc_45_5, xt_57_7, xtc_57_7, xt_61_4, xtc_61_4]
    refine hp _ ?_
    rw [aCmp, if_neg (fun q => a10 q.2)]
    rfl
  obtain ⟨k, hk, rfl⟩ := s_nI (m := c + 1) a2 (by omega)
  obtain ⟨j, hj, rfl⟩ := s_nI (m := c + 1) a10 (by omega)
  obtain ⟨y1, hN1, -⟩ := hW.note hc2 (k := k) (by omega)
  obtain ⟨y2, hN2, -⟩ := hW.note hc2 (k := j) (by omega)
  have one : (1 : Int32).toInt = 1 := rfl
  have hsb : ∀ i, i ≤ c → -29243015907268149203883755326167580672 ≤ sz (if i = c then P else xs i) ∧ sz (if i = c then P else xs i) ≤ 29243015907268149203883755326167580672 := by
    intro i hi
    by_cases e : i = c
    · rw [if_pos e]; have := hper.2; omega
    · rw [if_neg e]; exact (hst i (by omega)).2
  have hb1 := hsb k (by omega)
  have hb2 := hsb j (by omega)
  refine xgo O Rt xplX5_q xclX5_q [] 40 ?_
  simp (maxSteps := 10000000) (disch := omega) only [↓reduceIte, ↓xrun_s, ↓xck_e, xdo_e, xlg_0, xlg_c, xst1_0, xst1_1, xst1_c, xst2_0, xst2_1, xst2_c, xk2_n, xk2_i, xk2_a, xk2_l, xct_i, xct_a, xct_l, xf4_0, xf4_1, xf4_2, xf4_3, List.contains_cons, List.contains_nil, Bool.or_false, Bool.false_or, Bool.or_self, Bool.true_or, Bool.or_true, cond_true, cond_false, List.set_cons_zero, List.set_cons_succ, List.length_cons, List.length_nil, true_and, and_true, xu_s, xu_u, xeqs, Nat.le_refl, not_true_eq_false, xq_10, xq_01, Int32.reduceAdd, Int32.reduceMul, Int32.reduceSub, Int32.reduceLE, Int32.reduceLT, Int32.reduceToNatClampNeg, Nat.reduceAdd, Nat.reduceMul, Nat.reduceBEq, Nat.reduceLT, Nat.reduceLeDiff, Nat.reduceEqDiff, Nat.zero_add, Bool.false_eq_true, reduceCtorEq, if_false, if_true, not_false_eq_true, true_imp_iff, false_imp_iff, imp_self, ↓xil_e, ↓xll_e, ↓xal_e, ↓xs1i_e, ↓xs2i_e, ↓xs1l_e, ↓xs2l_e, ↓xsil_e, ↓xs1_e, ↓xs2_e, ↓xs1a_e, ↓xsia_e, ↓xsiia_e, ↓xslia_e, ↓xsaia_e, ↓xsva_e, ↓xse1i_e, ↓xse1l_e, ↓xse1a_e, ↓xse0_e, ↓xfv_0, ↓xfv_c, ↓xgf_e, ↓xpf_e, ↓xia_e, ↓xia_n, ↓xba_e, ↓xba_n, ↓xla_e, ↓xla_n, ↓xob_e, ↓xra_e, ↓xno_e, ↓xle_e, ↓xnr_i, ↓xnr_b0, ↓xnr_b1, ↓xnr_n, ↓xdo_e, ↓xkl_0, ↓xe_iconst, ↓xe_iload_n, ↓xe_aload, ↓xe_aload_n, ↓xe_astore, ↓xe_astore_n, ↓xe_goto, ↓xe_ldc, ↓xe_getfield, ↓xe_ireturn, ↓xe_if_eq, ↓xe_if_ne, ↓xe_invokevirtual, dX5_compare_0, dX5_compare_1, dX5_compare_2, dX5_compare_5, dX5_compare_8, dX5_compare_9, dX5_compare_10, dX5_compare_13, dX5_compare_16, dX5_compare_18, dX5_compare_19, dX5_compare_20, dX5_compare_23, dX5_compare_24, dX5_compare_27, dX5_compare_28, dX5_compare_29, dX5_compare_32, dX5_compare_33, dX5_compare_36, dX5_compare_38, dX5_compare_39, dX5_compare_41, dX5_compare_42, dX5_compare_45, dX5_compare_48, dX5_compare_49, dX5_compare_50, dX5_compare_52, dX5_compare_53, dX5_compare_54, dX5_compare_57, dX5_compare_60, dX5_compare_61, dX5_compare_64, dX5_compare_65, xpX5_19, xcX5_80, xki_0, xki_1, xki_m1, h5, xt_5_11, xtc_5_11, xt_13_6, xtc_13_6, xt_45_5, xtc_45_5, xt_57_7, xtc_57_7, xt_61_4, xtc_61_4]
  refine xg_callVa (Qp := fun r f2 => r = (if k = c then w + 9 else ps k) ∧ f = f2) O dX5_compare_24 xl_X5_84 xk_X3_noteAt (c_noteAt _ hW hc2 (s := k) (by omega) ⟨_, rfl, ⟨rfl, rfl⟩, rfl⟩) h4 rfl rfl rfl (Nat.le_of_ble_eq_true rfl) rfl (Nat.le_of_ble_eq_true rfl) (Nat.le_of_ble_eq_true rfl) (Nat.le_of_ble_eq_true rfl) (fun r f2 hq => ?_)
  obtain ⟨rfl, rfl⟩ := hq
  refine xgo O Rt xplX5_q xclX5_q [] 40 ?_
  simp (maxSteps := 10000000) (disch := omega) only [↓reduceIte, ↓xrun_s, ↓xck_e, xdo_e, xlg_0, xlg_c, xst1_0, xst1_1, xst1_c, xst2_0, xst2_1, xst2_c, xk2_n, xk2_i, xk2_a, xk2_l, xct_i, xct_a, xct_l, xf4_0, xf4_1, xf4_2, xf4_3, List.contains_cons, List.contains_nil, Bool.or_false, Bool.false_or, Bool.or_self, Bool.true_or, Bool.or_true, cond_true, cond_false, List.set_cons_zero, List.set_cons_succ, List.length_cons, List.length_nil, true_and, and_true, xu_s, xu_u, xeqs, Nat.le_refl, not_true_eq_false, xq_10, xq_01, Int32.reduceAdd, Int32.reduceMul, Int32.reduceSub, Int32.reduceLE, Int32.reduceLT, Int32.reduceToNatClampNeg, Nat.reduceAdd, Nat.reduceMul, Nat.reduceBEq, Nat.reduceLT, Nat.reduceLeDiff, Nat.reduceEqDiff, Nat.zero_add, Bool.false_eq_true, reduceCtorEq, if_false, if_true, not_false_eq_true, true_imp_iff, false_imp_iff, imp_self, ↓xil_e, ↓xll_e, ↓xal_e, ↓xs1i_e, ↓xs2i_e, ↓xs1l_e, ↓xs2l_e, ↓xsil_e, ↓xs1_e, ↓xs2_e, ↓xs1a_e, ↓xsia_e, ↓xsiia_e, ↓xslia_e, ↓xsaia_e, ↓xsva_e, ↓xse1i_e, ↓xse1l_e, ↓xse1a_e, ↓xse0_e, ↓xfv_0, ↓xfv_c, ↓xgf_e, ↓xpf_e, ↓xia_e, ↓xia_n, ↓xba_e, ↓xba_n, ↓xla_e, ↓xla_n, ↓xob_e, ↓xra_e, ↓xno_e, ↓xle_e, ↓xnr_i, ↓xnr_b0, ↓xnr_b1, ↓xnr_n, ↓xdo_e, ↓xkl_0, ↓xe_iconst, ↓xe_iload_n, ↓xe_aload, ↓xe_aload_n, ↓xe_astore, ↓xe_astore_n, ↓xe_goto, ↓xe_ldc, ↓xe_getfield, ↓xe_ireturn, ↓xe_if_eq, ↓xe_if_ne, ↓xe_invokevirtual, dX5_compare_0, dX5_compare_1, dX5_compare_2, dX5_compare_5, dX5_compare_8, dX5_compare_9, dX5_compare_10, dX5_compare_13, dX5_compare_16, dX5_compare_18, dX5_compare_19, dX5_compare_20, dX5_compare_23, dX5_compare_24, dX5_compare_27, dX5_compare_28, dX5_compare_29, dX5_compare_32, dX5_compare_33, dX5_compare_36, dX5_compare_38, dX5_compare_39, dX5_compare_41, dX5_compare_42, dX5_compare_45, dX5_compare_48, dX5_compare_49, dX5_compare_50, dX5_compare_52, dX5_compare_53, dX5_compare_54, dX5_compare_57, dX5_compare_60, dX5_compare_61, dX5_compare_64, dX5_compare_65, xpX5_19, xcX5_80, xki_0, xki_1, xki_m1, h5, xt_5_11, xtc_5_11, xt_13_6, xtc_13_6, xt_45_5, xtc_45_5, xt_57_7, xtc_57_7, xt_61_4, xtc_61_4]
  refine xg_callVa (Qp := fun r f2 => r = (if j = c then w + 9 else ps j) ∧ f = f2) O dX5_compare_33 xl_X5_84 xk_X3_noteAt (c_noteAt _ hW hc2 (s := j) (by omega) ⟨_, rfl, ⟨rfl, rfl⟩, rfl⟩) h4 rfl rfl rfl (Nat.le_of_ble_eq_true rfl) rfl (Nat.le_of_ble_eq_true rfl) (Nat.le_of_ble_eq_true rfl) (Nat.le_of_ble_eq_true rfl) (fun r f2 hq => ?_)
  obtain ⟨rfl, rfl⟩ := hq
  have ans : ∀ r : Int32, r.toInt = (if sz (if k = c then P else xs k) < sz (if j = c then P else xs j) then -1 else if sz (if j = c then P else xs j) < sz (if k = c then P else xs k) then 1 else 0) → post (some (.int r)) f z := by
    intro r q
    refine hp r ?_
    rw [q, aCmp, if_pos (show (0 ≤ (nI k).toInt ∧ (nI k).toInt ≤ c) ∧ 0 ≤ (nI j).toInt ∧ (nI j).toInt ≤ c from ⟨⟨a2, b2⟩, a10, b10⟩), nt_k (by omega), nt_k (by omega)]
  generalize (if k = c then w + 9 else ps k) = A1 at hN1
  generalize (if j = c then w + 9 else ps j) = A2 at hN2
  generalize (if k = c then P else xs k) = X1 at hN1 ans hb1
  generalize (if j = c then P else xs j) = X2 at hN2 ans hb2
  obtain ⟨-, _, _, _, _, hf1, -⟩ := id hN1
  obtain ⟨-, _, _, _, _, hf2, -⟩ := id hN2
  refine xgo O Rt xplX5_q xclX5_q [] 40 ?_
  simp (maxSteps := 10000000) (disch := omega) only [↓reduceIte, ↓xrun_s, ↓xck_e, xdo_e, xlg_0, xlg_c, xst1_0, xst1_1, xst1_c, xst2_0, xst2_1, xst2_c, xk2_n, xk2_i, xk2_a, xk2_l, xct_i, xct_a, xct_l, xf4_0, xf4_1, xf4_2, xf4_3, List.contains_cons, List.contains_nil, Bool.or_false, Bool.false_or, Bool.or_self, Bool.true_or, Bool.or_true, cond_true, cond_false, List.set_cons_zero, List.set_cons_succ, List.length_cons, List.length_nil, true_and, and_true, xu_s, xu_u, xeqs, Nat.le_refl, not_true_eq_false, xq_10, xq_01, Int32.reduceAdd, Int32.reduceMul, Int32.reduceSub, Int32.reduceLE, Int32.reduceLT, Int32.reduceToNatClampNeg, Nat.reduceAdd, Nat.reduceMul, Nat.reduceBEq, Nat.reduceLT, Nat.reduceLeDiff, Nat.reduceEqDiff, Nat.zero_add, Bool.false_eq_true, reduceCtorEq, if_false, if_true, not_false_eq_true, true_imp_iff, false_imp_iff, imp_self, ↓xil_e, ↓xll_e, ↓xal_e, ↓xs1i_e, ↓xs2i_e, ↓xs1l_e, ↓xs2l_e, ↓xsil_e, ↓xs1_e, ↓xs2_e, ↓xs1a_e, ↓xsia_e, ↓xsiia_e, ↓xslia_e, ↓xsaia_e, ↓xsva_e, ↓xse1i_e, ↓xse1l_e, ↓xse1a_e, ↓xse0_e, ↓xfv_0, ↓xfv_c, ↓xgf_e, ↓xpf_e, ↓xia_e, ↓xia_n, ↓xba_e, ↓xba_n, ↓xla_e, ↓xla_n, ↓xob_e, ↓xra_e, ↓xno_e, ↓xle_e, ↓xnr_i, ↓xnr_b0, ↓xnr_b1, ↓xnr_n, ↓xdo_e, ↓xkl_0, ↓xe_iconst, ↓xe_iload_n, ↓xe_aload, ↓xe_aload_n, ↓xe_astore, ↓xe_astore_n, ↓xe_goto, ↓xe_ldc, ↓xe_getfield, ↓xe_ireturn, ↓xe_if_eq, ↓xe_if_ne, ↓xe_invokevirtual, dX5_compare_0, dX5_compare_1, dX5_compare_2, dX5_compare_5, dX5_compare_8, dX5_compare_9, dX5_compare_10, dX5_compare_13, dX5_compare_16, dX5_compare_18, dX5_compare_19, dX5_compare_20, dX5_compare_23, dX5_compare_24, dX5_compare_27, dX5_compare_28, dX5_compare_29, dX5_compare_32, dX5_compare_33, dX5_compare_36, dX5_compare_38, dX5_compare_39, dX5_compare_41, dX5_compare_42, dX5_compare_45, dX5_compare_48, dX5_compare_49, dX5_compare_50, dX5_compare_52, dX5_compare_53, dX5_compare_54, dX5_compare_57, dX5_compare_60, dX5_compare_61, dX5_compare_64, dX5_compare_65, xpX5_19, xcX5_80, xki_0, xki_1, xki_m1, xt_5_11, xtc_5_11, xt_13_6, xtc_13_6, xt_45_5, xtc_45_5, xt_57_7, xtc_57_7, xt_61_4, xtc_61_4]
  refine xg_callVi (Qp := fun r f2 => r = (if sz X1 < (1 : Int32).toInt * sz X2 then 1 else 0) ∧ f = f2) O dX5_compare_42 xl_X5_104 xk_X1_isBelow (c_isBelow _ hN1 hN2 (by rw [one]; omega) (by omega) (by rw [one]; omega) ⟨_, rfl, ⟨rfl, rfl⟩, rfl⟩) hf1 rfl rfl rfl (Nat.le_of_ble_eq_true rfl) rfl (Nat.le_of_ble_eq_true rfl) (Nat.le_of_ble_eq_true rfl) (Nat.le_of_ble_eq_true rfl) (fun r f2 hq => ?_)
  obtain ⟨rfl, rfl⟩ := hq
  rw [one, Int.one_mul]
  by_cases c1 : sz X1 < sz X2
  · rw [if_pos c1]
    refine xgo O Rt xplX5_q xclX5_q [] 40 ?_
    simp (maxSteps := 10000000) (disch := omega) only [↓reduceIte, ↓xrun_s, ↓xck_e, xdo_e, xlg_0, xlg_c, xst1_0, xst1_1, xst1_c, xst2_0, xst2_1, xst2_c, xk2_n, xk2_i, xk2_a, xk2_l, xct_i, xct_a, xct_l, xf4_0, xf4_1, xf4_2, xf4_3, List.contains_cons, List.contains_nil, Bool.or_false, Bool.false_or, Bool.or_self, Bool.true_or, Bool.or_true, cond_true, cond_false, List.set_cons_zero, List.set_cons_succ, List.length_cons, List.length_nil, true_and, and_true, xu_s, xu_u, xeqs, Nat.le_refl, not_true_eq_false, xq_10, xq_01, Int32.reduceAdd, Int32.reduceMul, Int32.reduceSub, Int32.reduceLE, Int32.reduceLT, Int32.reduceToNatClampNeg, Nat.reduceAdd, Nat.reduceMul, Nat.reduceBEq, Nat.reduceLT, Nat.reduceLeDiff, Nat.reduceEqDiff, Nat.zero_add, Bool.false_eq_true, reduceCtorEq, if_false, if_true, not_false_eq_true, true_imp_iff, false_imp_iff, imp_self, ↓xil_e, ↓xll_e, ↓xal_e, ↓xs1i_e, ↓xs2i_e, ↓xs1l_e, ↓xs2l_e, ↓xsil_e, ↓xs1_e, ↓xs2_e, ↓xs1a_e, ↓xsia_e, ↓xsiia_e, ↓xslia_e, ↓xsaia_e, ↓xsva_e, ↓xse1i_e, ↓xse1l_e, ↓xse1a_e, ↓xse0_e, ↓xfv_0, ↓xfv_c, ↓xgf_e, ↓xpf_e, ↓xia_e, ↓xia_n, ↓xba_e, ↓xba_n, ↓xla_e, ↓xla_n, ↓xob_e, ↓xra_e, ↓xno_e, ↓xle_e, ↓xnr_i, ↓xnr_b0, ↓xnr_b1, ↓xnr_n, ↓xdo_e, ↓xkl_0, ↓xe_iconst, ↓xe_iload_n, ↓xe_aload, ↓xe_aload_n, ↓xe_astore, ↓xe_astore_n, ↓xe_goto, ↓xe_ldc, ↓xe_getfield, ↓xe_ireturn, ↓xe_if_eq, ↓xe_if_ne, ↓xe_invokevirtual, dX5_compare_0, dX5_compare_1, dX5_compare_2, dX5_compare_5, dX5_compare_8, dX5_compare_9, dX5_compare_10, dX5_compare_13, dX5_compare_16, dX5_compare_18, dX5_compare_19, dX5_compare_20, dX5_compare_23, dX5_compare_24, dX5_compare_27, dX5_compare_28, dX5_compare_29, dX5_compare_32, dX5_compare_33, dX5_compare_36, dX5_compare_38, dX5_compare_39, dX5_compare_41, dX5_compare_42, dX5_compare_45, dX5_compare_48, dX5_compare_49, dX5_compare_50, dX5_compare_52, dX5_compare_53, dX5_compare_54, dX5_compare_57, dX5_compare_60, dX5_compare_61, dX5_compare_64, dX5_compare_65, xpX5_19, xcX5_80, xki_0, xki_1, xki_m1, xt_5_11, xtc_5_11, xt_13_6, xtc_13_6, xt_45_5, xtc_45_5, xt_57_7, xtc_57_7, xt_61_4, xtc_61_4]
    exact ans _ (by rw [if_pos c1]; rfl)
  rw [if_neg c1]
  refine xgo O Rt xplX5_q xclX5_q [] 40 ?_
  simp (maxSteps := 10000000) (disch := omega) only [↓reduceIte, ↓xrun_s, ↓xck_e, xdo_e, xlg_0, xlg_c, xst1_0, xst1_1, xst1_c, xst2_0, xst2_1, xst2_c, xk2_n, xk2_i, xk2_a, xk2_l, xct_i, xct_a, xct_l, xf4_0, xf4_1, xf4_2, xf4_3, List.contains_cons, List.contains_nil, Bool.or_false, Bool.false_or, Bool.or_self, Bool.true_or, Bool.or_true, cond_true, cond_false, List.set_cons_zero, List.set_cons_succ, List.length_cons, List.length_nil, true_and, and_true, xu_s, xu_u, xeqs, Nat.le_refl, not_true_eq_false, xq_10, xq_01, Int32.reduceAdd, Int32.reduceMul, Int32.reduceSub, Int32.reduceLE, Int32.reduceLT, Int32.reduceToNatClampNeg, Nat.reduceAdd, Nat.reduceMul, Nat.reduceBEq, Nat.reduceLT, Nat.reduceLeDiff, Nat.reduceEqDiff, Nat.zero_add, Bool.false_eq_true, reduceCtorEq, if_false, if_true, not_false_eq_true, true_imp_iff, false_imp_iff, imp_self, ↓xil_e, ↓xll_e, ↓xal_e, ↓xs1i_e, ↓xs2i_e, ↓xs1l_e, ↓xs2l_e, ↓xsil_e, ↓xs1_e, ↓xs2_e, ↓xs1a_e, ↓xsia_e, ↓xsiia_e, ↓xslia_e, ↓xsaia_e, ↓xsva_e, ↓xse1i_e, ↓xse1l_e, ↓xse1a_e, ↓xse0_e, ↓xfv_0, ↓xfv_c, ↓xgf_e, ↓xpf_e, ↓xia_e, ↓xia_n, ↓xba_e, ↓xba_n, ↓xla_e, ↓xla_n, ↓xob_e, ↓xra_e, ↓xno_e, ↓xle_e, ↓xnr_i, ↓xnr_b0, ↓xnr_b1, ↓xnr_n, ↓xdo_e, ↓xkl_0, ↓xe_iconst, ↓xe_iload_n, ↓xe_aload, ↓xe_aload_n, ↓xe_astore, ↓xe_astore_n, ↓xe_goto, ↓xe_ldc, ↓xe_getfield, ↓xe_ireturn, ↓xe_if_eq, ↓xe_if_ne, ↓xe_invokevirtual, dX5_compare_0, dX5_compare_1, dX5_compare_2, dX5_compare_5, dX5_compare_8, dX5_compare_9, dX5_compare_10, dX5_compare_13, dX5_compare_16, dX5_compare_18, dX5_compare_19, dX5_compare_20, dX5_compare_23, dX5_compare_24, dX5_compare_27, dX5_compare_28, dX5_compare_29, dX5_compare_32, dX5_compare_33, dX5_compare_36, dX5_compare_38, dX5_compare_39, dX5_compare_41, dX5_compare_42, dX5_compare_45, dX5_compare_48, dX5_compare_49, dX5_compare_50, dX5_compare_52, dX5_compare_53, dX5_compare_54, dX5_compare_57, dX5_compare_60, dX5_compare_61, dX5_compare_64, dX5_compare_65, xpX5_19, xcX5_80, xki_0, xki_1, xki_m1, xt_5_11, xtc_5_11, xt_13_6, xtc_13_6, xt_45_5, xtc_45_5, xt_57_7, xtc_57_7, xt_61_4, xtc_61_4]
  refine xg_callVi (Qp := fun r f2 => r = (if sz X2 < (1 : Int32).toInt * sz X1 then 1 else 0) ∧ f = f2) O dX5_compare_54 xl_X5_104 xk_X1_isBelow (c_isBelow _ hN2 hN1 (by rw [one]; omega) (by omega) (by rw [one]; omega) ⟨_, rfl, ⟨rfl, rfl⟩, rfl⟩) hf2 rfl rfl rfl (Nat.le_of_ble_eq_true rfl) rfl (Nat.le_of_ble_eq_true rfl) (Nat.le_of_ble_eq_true rfl) (Nat.le_of_ble_eq_true rfl) (fun r f2 hq => ?_)
  obtain ⟨rfl, rfl⟩ := hq
  rw [one, Int.one_mul]
  by_cases c2 : sz X2 < sz X1
  · rw [if_pos c2]
    refine xgo O Rt xplX5_q xclX5_q [] 40 ?_
    simp (maxSteps := 10000000) (disch := omega) only [↓reduceIte, ↓xrun_s, ↓xck_e, xdo_e, xlg_0, xlg_c, xst1_0, xst1_1, xst1_c, xst2_0, xst2_1, xst2_c, xk2_n, xk2_i, xk2_a, xk2_l, xct_i, xct_a, xct_l, xf4_0, xf4_1, xf4_2, xf4_3, List.contains_cons, List.contains_nil, Bool.or_false, Bool.false_or, Bool.or_self, Bool.true_or, Bool.or_true, cond_true, cond_false, List.set_cons_zero, List.set_cons_succ, List.length_cons, List.length_nil, true_and, and_true, xu_s, xu_u, xeqs, Nat.le_refl, not_true_eq_false, xq_10, xq_01, Int32.reduceAdd, Int32.reduceMul, Int32.reduceSub, Int32.reduceLE, Int32.reduceLT, Int32.reduceToNatClampNeg, Nat.reduceAdd, Nat.reduceMul, Nat.reduceBEq, Nat.reduceLT, Nat.reduceLeDiff, Nat.reduceEqDiff, Nat.zero_add, Bool.false_eq_true, reduceCtorEq, if_false, if_true, not_false_eq_true, true_imp_iff, false_imp_iff, imp_self, ↓xil_e, ↓xll_e, ↓xal_e, ↓xs1i_e, ↓xs2i_e, ↓xs1l_e, ↓xs2l_e, ↓xsil_e, ↓xs1_e, ↓xs2_e, ↓xs1a_e, ↓xsia_e, ↓xsiia_e, ↓xslia_e, ↓xsaia_e, ↓xsva_e, ↓xse1i_e, ↓xse1l_e, ↓xse1a_e, ↓xse0_e, ↓xfv_0, ↓xfv_c, ↓xgf_e, ↓xpf_e, ↓xia_e, ↓xia_n, ↓xba_e, ↓xba_n, ↓xla_e, ↓xla_n, ↓xob_e, ↓xra_e, ↓xno_e, ↓xle_e, ↓xnr_i, ↓xnr_b0, ↓xnr_b1, ↓xnr_n, ↓xdo_e, ↓xkl_0, ↓xe_iconst, ↓xe_iload_n, ↓xe_aload, ↓xe_aload_n, ↓xe_astore, ↓xe_astore_n, ↓xe_goto, ↓xe_ldc, ↓xe_getfield, ↓xe_ireturn, ↓xe_if_eq, ↓xe_if_ne, ↓xe_invokevirtual, dX5_compare_0, dX5_compare_1, dX5_compare_2, dX5_compare_5, dX5_compare_8, dX5_compare_9, dX5_compare_10, dX5_compare_13, dX5_compare_16, dX5_compare_18, dX5_compare_19, dX5_compare_20, dX5_compare_23, dX5_compare_24, dX5_compare_27, dX5_compare_28, dX5_compare_29, dX5_compare_32, dX5_compare_33, dX5_compare_36, dX5_compare_38, dX5_compare_39, dX5_compare_41, dX5_compare_42, dX5_compare_45, dX5_compare_48, dX5_compare_49, dX5_compare_50, dX5_compare_52, dX5_compare_53, dX5_compare_54, dX5_compare_57, dX5_compare_60, dX5_compare_61, dX5_compare_64, dX5_compare_65, xpX5_19, xcX5_80, xki_0, xki_1, xki_m1, xt_5_11, xtc_5_11, xt_13_6, xtc_13_6, xt_45_5, xtc_45_5, xt_57_7, xtc_57_7, xt_61_4, xtc_61_4]
    exact ans _ (by rw [if_neg c1, if_pos c2]; rfl)
  · rw [if_neg c2]
    refine xgo O Rt xplX5_q xclX5_q [] 40 ?_
    simp (maxSteps := 10000000) (disch := omega) only [↓reduceIte, ↓xrun_s, ↓xck_e, xdo_e, xlg_0, xlg_c, xst1_0, xst1_1, xst1_c, xst2_0, xst2_1, xst2_c, xk2_n, xk2_i, xk2_a, xk2_l, xct_i, xct_a, xct_l, xf4_0, xf4_1, xf4_2, xf4_3, List.contains_cons, List.contains_nil, Bool.or_false, Bool.false_or, Bool.or_self, Bool.true_or, Bool.or_true, cond_true, cond_false, List.set_cons_zero, List.set_cons_succ, List.length_cons, List.length_nil, true_and, and_true, xu_s, xu_u, xeqs, Nat.le_refl, not_true_eq_false, xq_10, xq_01, Int32.reduceAdd, Int32.reduceMul, Int32.reduceSub, Int32.reduceLE, Int32.reduceLT, Int32.reduceToNatClampNeg, Nat.reduceAdd, Nat.reduceMul, Nat.reduceBEq, Nat.reduceLT, Nat.reduceLeDiff, Nat.reduceEqDiff, Nat.zero_add, Bool.false_eq_true, reduceCtorEq, if_false, if_true, not_false_eq_true, true_imp_iff, false_imp_iff, imp_self, ↓xil_e, ↓xll_e, ↓xal_e, ↓xs1i_e, ↓xs2i_e, ↓xs1l_e, ↓xs2l_e, ↓xsil_e, ↓xs1_e, ↓xs2_e, ↓xs1a_e, ↓xsia_e, ↓xsiia_e, ↓xslia_e, ↓xsaia_e, ↓xsva_e, ↓xse1i_e, ↓xse1l_e, ↓xse1a_e, ↓xse0_e, ↓xfv_0, ↓xfv_c, ↓xgf_e, ↓xpf_e, ↓xia_e, ↓xia_n, ↓xba_e, ↓xba_n, ↓xla_e, ↓xla_n, ↓xob_e, ↓xra_e, ↓xno_e, ↓xle_e, ↓xnr_i, ↓xnr_b0, ↓xnr_b1, ↓xnr_n, ↓xdo_e, ↓xkl_0, ↓xe_iconst, ↓xe_iload_n, ↓xe_aload, ↓xe_aload_n, ↓xe_astore, ↓xe_astore_n, ↓xe_goto, ↓xe_ldc, ↓xe_getfield, ↓xe_ireturn, ↓xe_if_eq, ↓xe_if_ne, ↓xe_invokevirtual, dX5_compare_0, dX5_compare_1, dX5_compare_2, dX5_compare_5, dX5_compare_8, dX5_compare_9, dX5_compare_10, dX5_compare_13, dX5_compare_16, dX5_compare_18, dX5_compare_19, dX5_compare_20, dX5_compare_23, dX5_compare_24, dX5_compare_27, dX5_compare_28, dX5_compare_29, dX5_compare_32, dX5_compare_33, dX5_compare_36, dX5_compare_38, dX5_compare_39, dX5_compare_41, dX5_compare_42, dX5_compare_45, dX5_compare_48, dX5_compare_49, dX5_compare_50, dX5_compare_52, dX5_compare_53, dX5_compare_54, dX5_compare_57, dX5_compare_60, dX5_compare_61, dX5_compare_64, dX5_compare_65, xpX5_19, xcX5_80, xki_0, xki_1, xki_m1, xt_5_11, xtc_5_11, xt_13_6, xtc_13_6, xt_45_5, xtc_45_5, xt_57_7, xtc_57_7, xt_61_4, xtc_61_4]
    exact ans _ (by rw [if_neg c1, if_neg c2]; rfl)
