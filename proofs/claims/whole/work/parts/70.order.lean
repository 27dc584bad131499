/-! ===== TuningTablesModel: the order of the reduced steps ===== -/
theorem dX6_compareReduced_0 : decode cX6_compareReduced 0 = .ok (.iconst 0, 1) := by decide +kernel
theorem dX6_compareReduced_1 : decode cX6_compareReduced 1 = .ok (.istore_n 3, 1) := by decide +kernel
theorem dX6_compareReduced_2 : decode cX6_compareReduced 2 = .ok (.iload_n 3, 1) := by decide +kernel
theorem dX6_compareReduced_3 : decode cX6_compareReduced 3 = .ok (.bipush 6, 2) := by decide +kernel
theorem dX6_compareReduced_5 : decode cX6_compareReduced 5 = .ok (.if_icmp .ge 38, 3) := by decide +kernel
theorem dX6_compareReduced_8 : decode cX6_compareReduced 8 = .ok (.aload_n 0, 1) := by decide +kernel
theorem dX6_compareReduced_9 : decode cX6_compareReduced 9 = .ok (.getfield 46, 3) := by decide +kernel
theorem dX6_compareReduced_12 : decode cX6_compareReduced 12 = .ok (.iload_n 3, 1) := by decide +kernel
theorem dX6_compareReduced_13 : decode cX6_compareReduced 13 = .ok (.aload_n 0, 1) := by decide +kernel
theorem dX6_compareReduced_14 : decode cX6_compareReduced 14 = .ok (.getfield 58, 3) := by decide +kernel
theorem dX6_compareReduced_17 : decode cX6_compareReduced 17 = .ok (.bipush 6, 2) := by decide +kernel
theorem dX6_compareReduced_19 : decode cX6_compareReduced 19 = .ok (.iload_n 1, 1) := by decide +kernel
theorem dX6_compareReduced_20 : decode cX6_compareReduced 20 = .ok (.imul, 1) := by decide +kernel
theorem dX6_compareReduced_21 : decode cX6_compareReduced 21 = .ok (.iload_n 3, 1) := by decide +kernel
theorem dX6_compareReduced_22 : decode cX6_compareReduced 22 = .ok (.iadd, 1) := by decide +kernel
theorem dX6_compareReduced_23 : decode cX6_compareReduced 23 = .ok (.iaload, 1) := by decide +kernel
theorem dX6_compareReduced_24 : decode cX6_compareReduced 24 = .ok (.aload_n 0, 1) := by decide +kernel
theorem dX6_compareReduced_25 : decode cX6_compareReduced 25 = .ok (.getfield 58, 3) := by decide +kernel
theorem dX6_compareReduced_28 : decode cX6_compareReduced 28 = .ok (.bipush 6, 2) := by decide +kernel
theorem dX6_compareReduced_30 : decode cX6_compareReduced 30 = .ok (.iload_n 2, 1) := by decide +kernel
theorem dX6_compareReduced_31 : decode cX6_compareReduced 31 = .ok (.imul, 1) := by decide +kernel
theorem dX6_compareReduced_32 : decode cX6_compareReduced 32 = .ok (.iload_n 3, 1) := by decide +kernel
theorem dX6_compareReduced_33 : decode cX6_compareReduced 33 = .ok (.iadd, 1) := by decide +kernel
theorem dX6_compareReduced_34 : decode cX6_compareReduced 34 = .ok (.iaload, 1) := by decide +kernel
theorem dX6_compareReduced_35 : decode cX6_compareReduced 35 = .ok (.isub, 1) := by decide +kernel
theorem dX6_compareReduced_36 : decode cX6_compareReduced 36 = .ok (.iastore, 1) := by decide +kernel
theorem dX6_compareReduced_37 : decode cX6_compareReduced 37 = .ok (.iinc 3 1, 3) := by decide +kernel
theorem dX6_compareReduced_40 : decode cX6_compareReduced 40 = .ok (.goto (-38), 3) := by decide +kernel
theorem dX6_compareReduced_43 : decode cX6_compareReduced 43 = .ok (.aload_n 0, 1) := by decide +kernel
theorem dX6_compareReduced_44 : decode cX6_compareReduced 44 = .ok (.aload_n 0, 1) := by decide +kernel
theorem dX6_compareReduced_45 : decode cX6_compareReduced 45 = .ok (.getfield 46, 3) := by decide +kernel
theorem dX6_compareReduced_48 : decode cX6_compareReduced 48 = .ok (.invokevirtual 93, 3) := by decide +kernel
theorem dX6_compareReduced_51 : decode cX6_compareReduced 51 = .ok (.ireturn, 1) := by decide +kernel
theorem dX6_orderAll_0 : decode cX6_orderAll 0 = .ok (.iconst 0, 1) := by decide +kernel
theorem dX6_orderAll_1 : decode cX6_orderAll 1 = .ok (.istore_n 1, 1) := by decide +kernel
theorem dX6_orderAll_2 : decode cX6_orderAll 2 = .ok (.iload_n 1, 1) := by decide +kernel
theorem dX6_orderAll_3 : decode cX6_orderAll 3 = .ok (.aload_n 0, 1) := by decide +kernel
theorem dX6_orderAll_4 : decode cX6_orderAll 4 = .ok (.getfield 30, 3) := by decide +kernel
theorem dX6_orderAll_7 : decode cX6_orderAll 7 = .ok (.if_icmp .ge 49, 3) := by decide +kernel
theorem dX6_orderAll_10 : decode cX6_orderAll 10 = .ok (.aload_n 0, 1) := by decide +kernel
theorem dX6_orderAll_11 : decode cX6_orderAll 11 = .ok (.iload_n 1, 1) := by decide +kernel
theorem dX6_orderAll_12 : decode cX6_orderAll 12 = .ok (.aload_n 0, 1) := by decide +kernel
theorem dX6_orderAll_13 : decode cX6_orderAll 13 = .ok (.getfield 49, 3) := by decide +kernel
theorem dX6_orderAll_16 : decode cX6_orderAll 16 = .ok (.invokevirtual 164, 3) := by decide +kernel
theorem dX6_orderAll_19 : decode cX6_orderAll 19 = .ok (.iconst 0, 1) := by decide +kernel
theorem dX6_orderAll_20 : decode cX6_orderAll 20 = .ok (.istore_n 2, 1) := by decide +kernel
theorem dX6_orderAll_21 : decode cX6_orderAll 21 = .ok (.iload_n 2, 1) := by decide +kernel
theorem dX6_orderAll_22 : decode cX6_orderAll 22 = .ok (.bipush 6, 2) := by decide +kernel
theorem dX6_orderAll_24 : decode cX6_orderAll 24 = .ok (.if_icmp .ge 26, 3) := by decide +kernel
theorem dX6_orderAll_27 : decode cX6_orderAll 27 = .ok (.aload_n 0, 1) := by decide +kernel
theorem dX6_orderAll_28 : decode cX6_orderAll 28 = .ok (.getfield 58, 3) := by decide +kernel
theorem dX6_orderAll_31 : decode cX6_orderAll 31 = .ok (.bipush 6, 2) := by decide +kernel
theorem dX6_orderAll_33 : decode cX6_orderAll 33 = .ok (.iload_n 1, 1) := by decide +kernel
theorem dX6_orderAll_34 : decode cX6_orderAll 34 = .ok (.imul, 1) := by decide +kernel
theorem dX6_orderAll_35 : decode cX6_orderAll 35 = .ok (.iload_n 2, 1) := by decide +kernel
theorem dX6_orderAll_36 : decode cX6_orderAll 36 = .ok (.iadd, 1) := by decide +kernel
theorem dX6_orderAll_37 : decode cX6_orderAll 37 = .ok (.aload_n 0, 1) := by decide +kernel
theorem dX6_orderAll_38 : decode cX6_orderAll 38 = .ok (.getfield 49, 3) := by decide +kernel
theorem dX6_orderAll_41 : decode cX6_orderAll 41 = .ok (.iload_n 2, 1) := by decide +kernel
theorem dX6_orderAll_42 : decode cX6_orderAll 42 = .ok (.iaload, 1) := by decide +kernel
theorem dX6_orderAll_43 : decode cX6_orderAll 43 = .ok (.iastore, 1) := by decide +kernel
theorem dX6_orderAll_44 : decode cX6_orderAll 44 = .ok (.iinc 2 1, 3) := by decide +kernel
theorem dX6_orderAll_47 : decode cX6_orderAll 47 = .ok (.goto (-26), 3) := by decide +kernel
theorem dX6_orderAll_50 : decode cX6_orderAll 50 = .ok (.iinc 1 1, 3) := by decide +kernel
theorem dX6_orderAll_53 : decode cX6_orderAll 53 = .ok (.goto (-51), 3) := by decide +kernel
theorem dX6_orderAll_56 : decode cX6_orderAll 56 = .ok (.iconst 0, 1) := by decide +kernel
theorem dX6_orderAll_57 : decode cX6_orderAll 57 = .ok (.istore_n 1, 1) := by decide +kernel
theorem dX6_orderAll_58 : decode cX6_orderAll 58 = .ok (.iload_n 1, 1) := by decide +kernel
theorem dX6_orderAll_59 : decode cX6_orderAll 59 = .ok (.aload_n 0, 1) := by decide +kernel
theorem dX6_orderAll_60 : decode cX6_orderAll 60 = .ok (.getfield 30, 3) := by decide +kernel
theorem dX6_orderAll_63 : decode cX6_orderAll 63 = .ok (.if_icmp .ge 74, 3) := by decide +kernel
theorem dX6_orderAll_66 : decode cX6_orderAll 66 = .ok (.iconst 0, 1) := by decide +kernel
theorem dX6_orderAll_67 : decode cX6_orderAll 67 = .ok (.istore_n 2, 1) := by decide +kernel
theorem dX6_orderAll_68 : decode cX6_orderAll 68 = .ok (.iconst 0, 1) := by decide +kernel
theorem dX6_orderAll_69 : decode cX6_orderAll 69 = .ok (.istore_n 3, 1) := by decide +kernel
theorem dX6_orderAll_70 : decode cX6_orderAll 70 = .ok (.iload_n 3, 1) := by decide +kernel
theorem dX6_orderAll_71 : decode cX6_orderAll 71 = .ok (.aload_n 0, 1) := by decide +kernel
theorem dX6_orderAll_72 : decode cX6_orderAll 72 = .ok (.getfield 30, 3) := by decide +kernel
theorem dX6_orderAll_75 : decode cX6_orderAll 75 = .ok (.if_icmp .ge 49, 3) := by decide +kernel
theorem dX6_orderAll_78 : decode cX6_orderAll 78 = .ok (.iload_n 3, 1) := by decide +kernel
theorem dX6_orderAll_79 : decode cX6_orderAll 79 = .ok (.iload_n 1, 1) := by decide +kernel
theorem dX6_orderAll_80 : decode cX6_orderAll 80 = .ok (.if_icmp .ne 7, 3) := by decide +kernel
theorem dX6_orderAll_83 : decode cX6_orderAll 83 = .ok (.iconst 1, 1) := by decide +kernel
theorem dX6_orderAll_84 : decode cX6_orderAll 84 = .ok (.goto 9, 3) := by decide +kernel
theorem dX6_orderAll_87 : decode cX6_orderAll 87 = .ok (.aload_n 0, 1) := by decide +kernel
theorem dX6_orderAll_88 : decode cX6_orderAll 88 = .ok (.iload_n 3, 1) := by decide +kernel
theorem dX6_orderAll_89 : decode cX6_orderAll 89 = .ok (.iload_n 1, 1) := by decide +kernel
theorem dX6_orderAll_90 : decode cX6_orderAll 90 = .ok (.invokevirtual 167, 3) := by decide +kernel
theorem dX6_orderAll_93 : decode cX6_orderAll 93 = .ok (.istore 4, 2) := by decide +kernel
theorem dX6_orderAll_95 : decode cX6_orderAll 95 = .ok (.iload_n 2, 1) := by decide +kernel
theorem dX6_orderAll_96 : decode cX6_orderAll 96 = .ok (.iload 4, 2) := by decide +kernel
theorem dX6_orderAll_98 : decode cX6_orderAll 98 = .ok (.ifCond .lt 13, 3) := by decide +kernel
theorem dX6_orderAll_101 : decode cX6_orderAll 101 = .ok (.iload 4, 2) := by decide +kernel
theorem dX6_orderAll_103 : decode cX6_orderAll 103 = .ok (.ifCond .ne 12, 3) := by decide +kernel
theorem dX6_orderAll_106 : decode cX6_orderAll 106 = .ok (.iload_n 3, 1) := by decide +kernel
theorem dX6_orderAll_107 : decode cX6_orderAll 107 = .ok (.iload_n 1, 1) := by decide +kernel
theorem dX6_orderAll_108 : decode cX6_orderAll 108 = .ok (.if_icmp .ge 7, 3) := by decide +kernel
theorem dX6_orderAll_111 : decode cX6_orderAll 111 = .ok (.iconst 1, 1) := by decide +kernel
theorem dX6_orderAll_112 : decode cX6_orderAll 112 = .ok (.goto 4, 3) := by decide +kernel
theorem dX6_orderAll_115 : decode cX6_orderAll 115 = .ok (.iconst 0, 1) := by decide +kernel
theorem dX6_orderAll_116 : decode cX6_orderAll 116 = .ok (.iadd, 1) := by decide +kernel
theorem dX6_orderAll_117 : decode cX6_orderAll 117 = .ok (.istore_n 2, 1) := by decide +kernel
theorem dX6_orderAll_118 : decode cX6_orderAll 118 = .ok (.iinc 3 1, 3) := by decide +kernel
theorem dX6_orderAll_121 : decode cX6_orderAll 121 = .ok (.goto (-51), 3) := by decide +kernel
theorem dX6_orderAll_124 : decode cX6_orderAll 124 = .ok (.aload_n 0, 1) := by decide +kernel
theorem dX6_orderAll_125 : decode cX6_orderAll 125 = .ok (.getfield 61, 3) := by decide +kernel
theorem dX6_orderAll_128 : decode cX6_orderAll 128 = .ok (.iload_n 2, 1) := by decide +kernel
theorem dX6_orderAll_129 : decode cX6_orderAll 129 = .ok (.iload_n 1, 1) := by decide +kernel
theorem dX6_orderAll_130 : decode cX6_orderAll 130 = .ok (.iastore, 1) := by decide +kernel
theorem dX6_orderAll_131 : decode cX6_orderAll 131 = .ok (.iinc 1 1, 3) := by decide +kernel
theorem dX6_orderAll_134 : decode cX6_orderAll 134 = .ok (.goto (-76), 3) := by decide +kernel
theorem dX6_orderAll_137 : decode cX6_orderAll 137 = .ok (.return_, 1) := by decide +kernel
theorem dX6_order_0 : decode cX6_order 0 = .ok (.aload_n 0, 1) := by decide +kernel
theorem dX6_order_1 : decode cX6_order 1 = .ok (.iload_n 1, 1) := by decide +kernel
theorem dX6_order_2 : decode cX6_order 2 = .ok (.invokevirtual 160, 3) := by decide +kernel
theorem dX6_order_5 : decode cX6_order 5 = .ok (.ifCond .ne 6, 3) := by decide +kernel
theorem dX6_order_8 : decode cX6_order 8 = .ok (.ldc 159, 2) := by decide +kernel
theorem dX6_order_10 : decode cX6_order 10 = .ok (.ireturn, 1) := by decide +kernel
theorem dX6_order_11 : decode cX6_order 11 = .ok (.aload_n 0, 1) := by decide +kernel
theorem dX6_order_12 : decode cX6_order 12 = .ok (.invokevirtual 171, 3) := by decide +kernel
theorem dX6_order_15 : decode cX6_order 15 = .ok (.aload_n 0, 1) := by decide +kernel
theorem dX6_order_16 : decode cX6_order 16 = .ok (.getfield 61, 3) := by decide +kernel
theorem dX6_order_19 : decode cX6_order 19 = .ok (.iload_n 1, 1) := by decide +kernel
theorem dX6_order_20 : decode cX6_order 20 = .ok (.iaload, 1) := by decide +kernel
theorem dX6_order_21 : decode cX6_order 21 = .ok (.ireturn, 1) := by decide +kernel
theorem dX6_gapAt_0 : decode cX6_gapAt 0 = .ok (.iload_n 1, 1) := by decide +kernel
theorem dX6_gapAt_1 : decode cX6_gapAt 1 = .ok (.iconst 1, 1) := by decide +kernel
theorem dX6_gapAt_2 : decode cX6_gapAt 2 = .ok (.iadd, 1) := by decide +kernel
theorem dX6_gapAt_3 : decode cX6_gapAt 3 = .ok (.aload_n 0, 1) := by decide +kernel
theorem dX6_gapAt_4 : decode cX6_gapAt 4 = .ok (.getfield 30, 3) := by decide +kernel
theorem dX6_gapAt_7 : decode cX6_gapAt 7 = .ok (.if_icmp .ne 19, 3) := by decide +kernel
theorem dX6_gapAt_10 : decode cX6_gapAt 10 = .ok (.aload_n 0, 1) := by decide +kernel
theorem dX6_gapAt_11 : decode cX6_gapAt 11 = .ok (.getfield 58, 3) := by decide +kernel
theorem dX6_gapAt_14 : decode cX6_gapAt 14 = .ok (.iload_n 2, 1) := by decide +kernel
theorem dX6_gapAt_15 : decode cX6_gapAt 15 = .ok (.iaload, 1) := by decide +kernel
theorem dX6_gapAt_16 : decode cX6_gapAt 16 = .ok (.aload_n 0, 1) := by decide +kernel
theorem dX6_gapAt_17 : decode cX6_gapAt 17 = .ok (.getfield 36, 3) := by decide +kernel
theorem dX6_gapAt_20 : decode cX6_gapAt 20 = .ok (.iload_n 2, 1) := by decide +kernel
theorem dX6_gapAt_21 : decode cX6_gapAt 21 = .ok (.iaload, 1) := by decide +kernel
theorem dX6_gapAt_22 : decode cX6_gapAt 22 = .ok (.iadd, 1) := by decide +kernel
theorem dX6_gapAt_23 : decode cX6_gapAt 23 = .ok (.goto 21, 3) := by decide +kernel
theorem dX6_gapAt_26 : decode cX6_gapAt 26 = .ok (.aload_n 0, 1) := by decide +kernel
theorem dX6_gapAt_27 : decode cX6_gapAt 27 = .ok (.getfield 58, 3) := by decide +kernel
theorem dX6_gapAt_30 : decode cX6_gapAt 30 = .ok (.bipush 6, 2) := by decide +kernel
theorem dX6_gapAt_32 : decode cX6_gapAt 32 = .ok (.aload_n 0, 1) := by decide +kernel
theorem dX6_gapAt_33 : decode cX6_gapAt 33 = .ok (.getfield 61, 3) := by decide +kernel
theorem dX6_gapAt_36 : decode cX6_gapAt 36 = .ok (.iload_n 1, 1) := by decide +kernel
theorem dX6_gapAt_37 : decode cX6_gapAt 37 = .ok (.iconst 1, 1) := by decide +kernel
theorem dX6_gapAt_38 : decode cX6_gapAt 38 = .ok (.iadd, 1) := by decide +kernel
theorem dX6_gapAt_39 : decode cX6_gapAt 39 = .ok (.iaload, 1) := by decide +kernel
theorem dX6_gapAt_40 : decode cX6_gapAt 40 = .ok (.imul, 1) := by decide +kernel
theorem dX6_gapAt_41 : decode cX6_gapAt 41 = .ok (.iload_n 2, 1) := by decide +kernel
theorem dX6_gapAt_42 : decode cX6_gapAt 42 = .ok (.iadd, 1) := by decide +kernel
theorem dX6_gapAt_43 : decode cX6_gapAt 43 = .ok (.iaload, 1) := by decide +kernel
theorem dX6_gapAt_44 : decode cX6_gapAt 44 = .ok (.istore_n 3, 1) := by decide +kernel
theorem dX6_gapAt_45 : decode cX6_gapAt 45 = .ok (.iload_n 3, 1) := by decide +kernel
theorem dX6_gapAt_46 : decode cX6_gapAt 46 = .ok (.aload_n 0, 1) := by decide +kernel
theorem dX6_gapAt_47 : decode cX6_gapAt 47 = .ok (.getfield 58, 3) := by decide +kernel
theorem dX6_gapAt_50 : decode cX6_gapAt 50 = .ok (.bipush 6, 2) := by decide +kernel
theorem dX6_gapAt_52 : decode cX6_gapAt 52 = .ok (.aload_n 0, 1) := by decide +kernel
theorem dX6_gapAt_53 : decode cX6_gapAt 53 = .ok (.getfield 61, 3) := by decide +kernel
theorem dX6_gapAt_56 : decode cX6_gapAt 56 = .ok (.iload_n 1, 1) := by decide +kernel
theorem dX6_gapAt_57 : decode cX6_gapAt 57 = .ok (.iaload, 1) := by decide +kernel
theorem dX6_gapAt_58 : decode cX6_gapAt 58 = .ok (.imul, 1) := by decide +kernel
theorem dX6_gapAt_59 : decode cX6_gapAt 59 = .ok (.iload_n 2, 1) := by decide +kernel
theorem dX6_gapAt_60 : decode cX6_gapAt 60 = .ok (.iadd, 1) := by decide +kernel
theorem dX6_gapAt_61 : decode cX6_gapAt 61 = .ok (.iaload, 1) := by decide +kernel
theorem dX6_gapAt_62 : decode cX6_gapAt 62 = .ok (.isub, 1) := by decide +kernel
theorem dX6_gapAt_63 : decode cX6_gapAt 63 = .ok (.ireturn, 1) := by decide +kernel
theorem dX6_gap_0 : decode cX6_gap 0 = .ok (.aload_n 0, 1) := by decide +kernel
theorem dX6_gap_1 : decode cX6_gap 1 = .ok (.iload_n 1, 1) := by decide +kernel
theorem dX6_gap_2 : decode cX6_gap 2 = .ok (.invokevirtual 160, 3) := by decide +kernel
theorem dX6_gap_5 : decode cX6_gap 5 = .ok (.ifCond .ne 6, 3) := by decide +kernel
theorem dX6_gap_8 : decode cX6_gap 8 = .ok (.ldc 159, 2) := by decide +kernel
theorem dX6_gap_10 : decode cX6_gap 10 = .ok (.ireturn, 1) := by decide +kernel
theorem dX6_gap_11 : decode cX6_gap 11 = .ok (.iload_n 2, 1) := by decide +kernel
theorem dX6_gap_12 : decode cX6_gap 12 = .ok (.iconst 0, 1) := by decide +kernel
theorem dX6_gap_13 : decode cX6_gap 13 = .ok (.iconst 5, 1) := by decide +kernel
theorem dX6_gap_14 : decode cX6_gap 14 = .ok (.invokestatic 108, 3) := by decide +kernel
theorem dX6_gap_17 : decode cX6_gap 17 = .ok (.ifCond .ne 6, 3) := by decide +kernel
theorem dX6_gap_20 : decode cX6_gap 20 = .ok (.ldc 112, 2) := by decide +kernel
theorem dX6_gap_22 : decode cX6_gap 22 = .ok (.ireturn, 1) := by decide +kernel
theorem dX6_gap_23 : decode cX6_gap 23 = .ok (.aload_n 0, 1) := by decide +kernel
theorem dX6_gap_24 : decode cX6_gap 24 = .ok (.invokevirtual 171, 3) := by decide +kernel
theorem dX6_gap_27 : decode cX6_gap 27 = .ok (.aload_n 0, 1) := by decide +kernel
theorem dX6_gap_28 : decode cX6_gap 28 = .ok (.iload_n 1, 1) := by decide +kernel
theorem dX6_gap_29 : decode cX6_gap 29 = .ok (.iload_n 2, 1) := by decide +kernel
theorem dX6_gap_30 : decode cX6_gap 30 = .ok (.invokevirtual 174, 3) := by decide +kernel
theorem dX6_gap_33 : decode cX6_gap 33 = .ok (.ireturn, 1) := by decide +kernel
abbrev bf (ky : Nat → Int) (a b : Nat) : Prop := ky a < ky b ∨ (ky a = ky b ∧ a < b)
def rk (ky : Nat → Int) (s : Nat) : Nat → Nat
  | 0 => 0
  | t + 1 => rk ky s t + (if bf ky t s then 1 else 0)
theorem rk_le (ky : Nat → Int) (s : Nat) : ∀ t, rk ky s t + (if s < t then 1 else 0) ≤ t
  | 0 => by simp [rk]
  | t + 1 => by
    have := rk_le ky s t
    simp only [rk]
    by_cases e : s = t
    · subst e
      rw [if_neg (show ¬ bf ky s s by unfold bf; omega)]
      rw [if_neg (by omega)] at this
      rw [if_pos (by omega)]
      omega
    · split at this <;> split <;> split <;> omega
theorem rk_mono {ky : Nat → Int} {a b : Nat} (h : bf ky a b) : ∀ t, rk ky a t + (if a < t then 1 else 0) ≤ rk ky b t
  | 0 => by simp [rk]
  | t + 1 => by
    have ih := rk_mono h t
    simp only [rk]
    by_cases e : a = t
    · subst e
      rw [if_neg (show ¬ bf ky a a by unfold bf; omega), if_pos (by omega), if_pos h]
      rw [if_neg (by omega)] at ih
      omega
    · have e5 : (if bf ky t a then 1 else 0) ≤ (if bf ky t b then 1 else 0) := by
        by_cases e3 : bf ky t a
        · have e4 : bf ky t b := by unfold bf at *; omega
          rw [if_pos e3, if_pos e4]
          exact Nat.le_refl _
        · rw [if_neg e3]
          exact Nat.zero_le _
      by_cases ea : a < t
      · rw [if_pos (show a < t + 1 by omega)]
        rw [if_pos ea] at ih
        omega
      · rw [if_neg (show ¬ a < t + 1 by omega)]
        rw [if_neg ea] at ih
        omega
theorem rk_no {ky : Nat → Int} {s t : Nat} (h : ¬ (ky t < ky s ∨ (ky t = ky s ∧ t < s))) : rk ky s (t + 1) = rk ky s t := by
  simp only [rk]
  rw [if_neg h]
  rfl
theorem bf_tot {ky : Nat → Int} {a b : Nat} (h : a ≠ b) : bf ky a b ∨ bf ky b a := by unfold bf; omega
theorem rk_inj {ky : Nat → Int} {a b c : Nat} (ha : a < c) (hb : b < c) (h : rk ky a c = rk ky b c) : a = b := by
  by_cases e : a = b
  · exact e
  · rcases bf_tot (ky := ky) e with q | q
    · have := rk_mono q c
      rw [if_pos ha] at this; omega
    · have := rk_mono q c
      rw [if_pos hb] at this; omega
theorem rk_srt {ky : Nat → Int} {c : Nat} {o sr : Nat → Nat} (h : ∀ s, s < c → o (rk ky s c) = s) (hs : Srt sr c ky) : ∀ j, j < c → o j = sr j := by
  have hsur := inj_surj c (fun s => rk ky s c) (fun i hi => by have := rk_le ky i c; rw [if_pos hi] at this; show rk ky i c < c; omega) (fun i j hi hj e => rk_inj hi hj e)
  have ho : Srt o c ky := by
    refine ⟨fun i hi => ?_, fun i j hij hj => ?_⟩
    · obtain ⟨a, ha, e⟩ := hsur i hi
      have e : rk ky a c = i := e
      rw [← e, h a ha]; exact ha
    · obtain ⟨a, ha, ea⟩ := hsur i (by omega)
      obtain ⟨b, hb, eb⟩ := hsur j hj
      have ea : rk ky a c = i := ea
      have eb : rk ky b c = j := eb
      rw [← ea, ← eb, h a ha, h b hb]
      rcases bf_tot (ky := ky) (a := a) (b := b) (fun e => by subst e; omega) with q | q
      · exact q
      · have := rk_mono q c
        rw [if_pos hb] at this; omega
  exact fun j hj => ho.uniq hs j j (Nat.le_refl _) hj
/-- rows of six -/
def Rws (f : xH) (a c : Nat) (rs : Nat → xZ) : Prop := ∃ g : Nat → Int32, f a = some (xI 150 g) ∧ ∀ j k, j < c → k < 6 → (g (6 * j + k)).toInt = rs j k
theorem Rws.kept {f f' : xH} {a c : Nat} {rs : Nat → xZ} (h : Rws f a c rs) (k : f' a = f a) : Rws f' a c rs := by
  obtain ⟨g, h1, h2⟩ := h
  exact ⟨g, k.trans h1, h2⟩
theorem Rws.i {f : xH} {a c : Nat} {rs : Nat → xZ} (h : Rws f a c rs) : I6 f a 150 := by
  obtain ⟨g, h1, h2⟩ := h
  exact ⟨g, h1⟩
set_option maxRecDepth 100000 in
set_option maxHeartbeats 8000000 in
theorem c6_compareReduced (V : xV) {v z a b c : Nat} {f : xH} {i3 i4 i5 i14 i15 i16 i17 i18 i19 i21 i22 : Int32} {rs : Nat → xZ} {post : Option Value → xH → Nat → Prop} (h6 : f v = some (x6 v i3 i4 i5 i14 i15 i16 i17 i18 i19 i21 i22)) (hC : RfC f v) (hS : Scr f v) (hA : Rws f (v + 12) c rs) (hc : c ≤ 24) (ha : a < c) (hb : b < c) (b1 : bd (rs a) 1000) (b2 : bd (rs b) 1000)
    (hp : ∀ (r : Int32) f', r.toInt = sg (sz (rs a) - sz (rs b)) → (∀ q, q < v + 6 ∨ v + 9 ≤ q → f' q = f q) → Scr f' v → post (some (.int r)) f' z) :
    xMet V yX6_compareReduced cX6_compareReduced 4 (some .int) 4 0 0 [.ref v, .int (nI a), .int (nI b)] f z post := by
  refine xMet_of false (by decide) (Nat.le_of_ble_eq_true rfl) (fun h => by cases h) (fun X hX O Rt => ?_)
  have O : xO X cX6_compareReduced 4 RX6 4 0 0 false := O
  show xG X 0 [some (.ref v), some (.int (nI a)), some (.int (nI b)), none] [] f (z, 0, 0)
  obtain ⟨ag, ha1, ha2⟩ := hA
  obtain ⟨hs1, hs2, g0, hs3⟩ := hS
  have six : (6 : Int32).toInt = 6 := rfl
  have hb8 : bd (zlin 1 (rs a) 1 (rs b)) 3800 := fun k hk => by
    have := b1 k hk; have := b2 k hk
    simp only [zlin]; omega
  have hcap := cap_small hb8
  have loop : ∀ n k : Nat, k + n = 6 → ∀ g, (∀ j, j < k → (g j).toInt = zlin 1 (rs a) 1 (rs b) j) → xG X 2 [some (.ref v), some (.int (nI a)), some (.int (nI b)), some (.int (nI k))] [] (xu f (v + 8) (xI 6 g)) (z, 0, 0) := by
    intro n
    induction n with
    | zero =>
      intro k hk g hg
      have : k = 6 := by omega
      subst this
      have hti : (nI 6).toInt = 6 := rfl
      have hu : xu f (v + 8) (xI 6 g) v = some (x6 v i3 i4 i5 i14 i15 i16 i17 i18 i19 i21 i22) := by rw [xu_n (by omega)]; exact h6
      have cT : ((6 : Int) ≤ 6) = True := eq_true (Int.le_refl _)
      refine xgo O Rt xplX6_q xclX6_q [2] 30 ?_
      simp (maxSteps := 10000000) (disch := omega) only [↓reduceIte, ↓xrun_s, ↓xck_e, xdo_e, xlg_0, xlg_c, xst1_0, xst1_1, xst1_c, xst2_0, xst2_1, xst2_c, xk2_n, xk2_i, xk2_a, xk2_l, xct_i, xct_a, xct_l, xf4_0, xf4_1, xf4_2, xf4_3, List.contains_cons, List.contains_nil, Bool.or_false, Bool.false_or, Bool.or_self, Bool.true_or, Bool.or_true, cond_true, cond_false, List.set_cons_zero, List.set_cons_succ, List.length_cons, List.length_nil, true_and, and_true, xu_s, xu_u, xeqs, Nat.le_refl, not_true_eq_false, xq_10, xq_01, Int32.reduceAdd, Int32.reduceMul, Int32.reduceSub, Int32.reduceLE, Int32.reduceLT, Int32.reduceToNatClampNeg, Nat.reduceAdd, Nat.reduceMul, Nat.reduceBEq, Nat.reduceLT, Nat.reduceLeDiff, Nat.reduceEqDiff, Nat.zero_add, Bool.false_eq_true, reduceCtorEq, if_false, if_true, not_false_eq_true, true_imp_iff, false_imp_iff, imp_self, ↓xil_e, ↓xll_e, ↓xal_e, ↓xs1i_e, ↓xs2i_e, ↓xs1l_e, ↓xs2l_e, ↓xsil_e, ↓xs1_e, ↓xs2_e, ↓xs1a_e, ↓xsia_e, ↓xsiia_e, ↓xslia_e, ↓xsaia_e, ↓xsva_e, ↓xse1i_e, ↓xse1l_e, ↓xse1a_e, ↓xse0_e, ↓xfv_0, ↓xfv_c, ↓xgf_e, ↓xpf_e, ↓xia_e, ↓xia_n, ↓xba_e, ↓xba_n, ↓xla_e, ↓xla_n, ↓xob_e, ↓xra_e, ↓xno_e, ↓xle_e, ↓xnr_i, ↓xnr_b0, ↓xnr_b1, ↓xnr_n, ↓xdo_e, ↓xkl_0, ↓xe_iconst, ↓xe_bipush, ↓xe_iadd, ↓xe_isub, ↓xe_imul, ↓xe_iload_n, ↓xe_aload_n, ↓xe_istore_n, ↓xe_iinc, ↓xe_goto, ↓xe_getfield, ↓xe_iaload, ↓xe_iastore, ↓xe_ireturn, ↓xe_icmp_ge, ↓xe_invokevirtual, dX6_compareReduced_0, dX6_compareReduced_1, dX6_compareReduced_2, dX6_compareReduced_3, dX6_compareReduced_5, dX6_compareReduced_8, dX6_compareReduced_9, dX6_compareReduced_12, dX6_compareReduced_13, dX6_compareReduced_14, dX6_compareReduced_17, dX6_compareReduced_19, dX6_compareReduced_20, dX6_compareReduced_21, dX6_compareReduced_22, dX6_compareReduced_23, dX6_compareReduced_24, dX6_compareReduced_25, dX6_compareReduced_28, dX6_compareReduced_30, dX6_compareReduced_31, dX6_compareReduced_32, dX6_compareReduced_33, dX6_compareReduced_34, dX6_compareReduced_35, dX6_compareReduced_36, dX6_compareReduced_37, dX6_compareReduced_40, dX6_compareReduced_43, dX6_compareReduced_44, dX6_compareReduced_45, dX6_compareReduced_48, dX6_compareReduced_51, xpX6_46, xpX6_58, xkb_6, xki_0, xki_1, n_le, six, hti, hu, cT, xt_5_38, xtc_5_38, xt_40_m38, xtc_40_m38]
      refine xg_callVi (Qp := fun r f' => r.toInt = sg (sz (zlin 1 (rs a) 1 (rs b))) ∧ (∀ q, q ≠ v + 6 → q ≠ v + 7 → f' q = xu f (v + 8) (xI 6 g) q) ∧ RowOK f' (v + 6) ∧ RowOK f' (v + 7)) O dX6_compareReduced_48 xl_X6_93 xk_X6_sign (c6_sign _ (ea := v + 8) (e := zlin 1 (rs a) 1 (rs b)) hu (hC.kept (xu_n (by omega)) (xu_n (by omega))) ⟨g, xu_s _ _ _, hg⟩ (hb8.mono (by omega)) (hs1.kept (xu_n (by omega))) (hs2.kept (xu_n (by omega))) (by omega) (by omega) hcap.1 hcap.2 (fun r f' q1 q2 q3 q4 => ⟨r, rfl, ⟨q1, q2, q3, q4⟩, rfl⟩)) hu rfl rfl rfl (Nat.le_of_ble_eq_true rfl) rfl (Nat.le_of_ble_eq_true rfl) (Nat.le_of_ble_eq_true rfl) (Nat.le_of_ble_eq_true rfl) (fun r f1 hq => ?_)
      obtain ⟨q1, q2, q3, q4⟩ := hq
      refine xgo O Rt xplX6_q xclX6_q [2] 30 ?_
      simp (maxSteps := 10000000) (disch := omega) only [↓reduceIte, ↓xrun_s, ↓xck_e, xdo_e, xlg_0, xlg_c, xst1_0, xst1_1, xst1_c, xst2_0, xst2_1, xst2_c, xk2_n, xk2_i, xk2_a, xk2_l, xct_i, xct_a, xct_l, xf4_0, xf4_1, xf4_2, xf4_3, List.contains_cons, List.contains_nil, Bool.or_false, Bool.false_or, Bool.or_self, Bool.true_or, Bool.or_true, cond_true, cond_false, List.set_cons_zero, List.set_cons_succ, List.length_cons, List.length_nil, true_and, and_true, xu_s, xu_u, xeqs, Nat.le_refl, not_true_eq_false, xq_10, xq_01, Int32.reduceAdd, Int32.reduceMul, Int32.reduceSub, Int32.reduceLE, Int32.reduceLT, Int32.reduceToNatClampNeg, Nat.reduceAdd, Nat.reduceMul, Nat.reduceBEq, Nat.reduceLT, Nat.reduceLeDiff, Nat.reduceEqDiff, Nat.zero_add, Bool.false_eq_true, reduceCtorEq, if_false, if_true, not_false_eq_true, true_imp_iff, false_imp_iff, imp_self, ↓xil_e, ↓xll_e, ↓xal_e, ↓xs1i_e, ↓xs2i_e, ↓xs1l_e, ↓xs2l_e, ↓xsil_e, ↓xs1_e, ↓xs2_e, ↓xs1a_e, ↓xsia_e, ↓xsiia_e, ↓xslia_e, ↓xsaia_e, ↓xsva_e, ↓xse1i_e, ↓xse1l_e, ↓xse1a_e, ↓xse0_e, ↓xfv_0, ↓xfv_c, ↓xgf_e, ↓xpf_e, ↓xia_e, ↓xia_n, ↓xba_e, ↓xba_n, ↓xla_e, ↓xla_n, ↓xob_e, ↓xra_e, ↓xno_e, ↓xle_e, ↓xnr_i, ↓xnr_b0, ↓xnr_b1, ↓xnr_n, ↓xdo_e, ↓xkl_0, ↓xe_iconst, ↓xe_bipush, ↓xe_iadd, ↓xe_isub, ↓xe_imul, ↓xe_iload_n, ↓xe_aload_n, ↓xe_istore_n, ↓xe_iinc, ↓xe_goto, ↓xe_getfield, ↓xe_iaload, ↓xe_iastore, ↓xe_ireturn, ↓xe_icmp_ge, ↓xe_invokevirtual, dX6_compareReduced_0, dX6_compareReduced_1, dX6_compareReduced_2, dX6_compareReduced_3, dX6_compareReduced_5, dX6_compareReduced_8, dX6_compareReduced_9, dX6_compareReduced_12, dX6_compareReduced_13, dX6_compareReduced_14, dX6_compareReduced_17, dX6_compareReduced_19, dX6_compareReduced_20, dX6_compareReduced_21, dX6_compareReduced_22, dX6_compareReduced_23, dX6_compareReduced_24, dX6_compareReduced_25, dX6_compareReduced_28, dX6_compareReduced_30, dX6_compareReduced_31, dX6_compareReduced_32, dX6_compareReduced_33, dX6_compareReduced_34, dX6_compareReduced_35, dX6_compareReduced_36, dX6_compareReduced_37, dX6_compareReduced_40, dX6_compareReduced_43, dX6_compareReduced_44, dX6_compareReduced_45, dX6_compareReduced_48, dX6_compareReduced_51, xpX6_46, xpX6_58, xkb_6, xki_0, xki_1, xt_5_38, xtc_5_38, xt_40_m38, xtc_40_m38]
      exact hp r f1 (by rw [q1, zl1]) (fun q hq => by rw [q2 _ (by omega) (by omega), xu_n (by omega)]) ⟨q3, q4, g, by rw [q2 _ (by omega) (by omega)]; exact xu_s _ _ _⟩
    | succ n ih =>
      intro k hk g hg
      have hti : (nI k).toInt = (k : Int) := nI_int (by omega)
      have nk : nI k + 1 = nI (k + 1) := nI_1 k
      have v0 : vp_in (nI k) 6 := vp_in_nI (by omega) (by omega)
      have v1 : (nI k).toNatClampNeg = k := nI_clamp (by omega)
      have hu : xu f (v + 8) (xI 6 g) v = some (x6 v i3 i4 i5 i14 i15 i16 i17 i18 i19 i21 i22) := by rw [xu_n (by omega)]; exact h6
      have hu1 : xu f (v + 8) (xI 6 g) (v + 12) = some (xI 150 ag) := by rw [xu_n (by omega)]; exact ha1
      have i1 : (6 : Int32) * nI a = nI (6 * a) := pk_mul 6 a
      have i2 : nI (6 * a) + nI k = nI (6 * a + k) := nI_add _ _
      have i3 : (6 : Int32) * nI b = nI (6 * b) := pk_mul 6 b
      have i4 : nI (6 * b) + nI k = nI (6 * b + k) := nI_add _ _
      have v2 : vp_in (nI (6 * a + k)) 150 := vp_in_nI (by omega) (by omega)
      have v3 : (nI (6 * a + k)).toNatClampNeg = 6 * a + k := nI_clamp (by omega)
      have v4 : vp_in (nI (6 * b + k)) 150 := vp_in_nI (by omega) (by omega)
      have v5 : (nI (6 * b + k)).toNatClampNeg = 6 * b + k := nI_clamp (by omega)
      have cF : ((6 : Int) ≤ (k : Int)) = False := eq_false (by omega)
      refine xgo O Rt xplX6_q xclX6_q [2] 30 ?_
      simp (maxSteps := 10000000) (disch := omega) only [↓reduceIte, ↓xrun_s, ↓xck_e, xdo_e, xlg_0, xlg_c, xst1_0, xst1_1, xst1_c, xst2_0, xst2_1, xst2_c, xk2_n, xk2_i, xk2_a, xk2_l, xct_i, xct_a, xct_l, xf4_0, xf4_1, xf4_2, xf4_3, List.contains_cons, List.contains_nil, Bool.or_false, Bool.false_or, Bool.or_self, Bool.true_or, Bool.or_true, cond_true, cond_false, List.set_cons_zero, List.set_cons_succ, List.length_cons, List.length_nil, true_and, and_true, xu_s, xu_u, xeqs, Nat.le_refl, not_true_eq_false, xq_10, xq_01, Int32.reduceAdd, Int32.reduceMul, Int32.reduceSub, Int32.reduceLE, Int32.reduceLT, Int32.reduceToNatClampNeg, Nat.reduceAdd, Nat.reduceMul, Nat.reduceBEq, Nat.reduceLT, Nat.reduceLeDiff, Nat.reduceEqDiff, Nat.zero_add, Bool.false_eq_true, reduceCtorEq, if_false, if_true, not_false_eq_true, true_imp_iff, false_imp_iff, imp_self, ↓xil_e, ↓xll_e, ↓xal_e, ↓xs1i_e, ↓xs2i_e, ↓xs1l_e, ↓xs2l_e, ↓xsil_e, ↓xs1_e, ↓xs2_e, ↓xs1a_e, ↓xsia_e, ↓xsiia_e, ↓xslia_e, ↓xsaia_e, ↓xsva_e, ↓xse1i_e, ↓xse1l_e, ↓xse1a_e, ↓xse0_e, ↓xfv_0, ↓xfv_c, ↓xgf_e, ↓xpf_e, ↓xia_e, ↓xia_n, ↓xba_e, ↓xba_n, ↓xla_e, ↓xla_n, ↓xob_e, ↓xra_e, ↓xno_e, ↓xle_e, ↓xnr_i, ↓xnr_b0, ↓xnr_b1, ↓xnr_n, ↓xdo_e, ↓xkl_0, ↓xe_iconst, ↓xe_bipush, ↓xe_iadd, ↓xe_isub, ↓xe_imul, ↓xe_iload_n, ↓xe_aload_n, ↓xe_istore_n, ↓xe_iinc, ↓xe_goto, ↓xe_getfield, ↓xe_iaload, ↓xe_iastore, ↓xe_ireturn, ↓xe_icmp_ge, ↓xe_invokevirtual, dX6_compareReduced_0, dX6_compareReduced_1, dX6_compareReduced_2, dX6_compareReduced_3, dX6_compareReduced_5, dX6_compareReduced_8, dX6_compareReduced_9, dX6_compareReduced_12, dX6_compareReduced_13, dX6_compareReduced_14, dX6_compareReduced_17, dX6_compareReduced_19, dX6_compareReduced_20, dX6_compareReduced_21, dX6_compareReduced_22, dX6_compareReduced_23, dX6_compareReduced_24, dX6_compareReduced_25, dX6_compareReduced_28, dX6_compareReduced_30, dX6_compareReduced_31, dX6_compareReduced_32, dX6_compareReduced_33, dX6_compareReduced_34, dX6_compareReduced_35, dX6_compareReduced_36, dX6_compareReduced_37, dX6_compareReduced_40, dX6_compareReduced_43, dX6_compareReduced_44, dX6_compareReduced_45, dX6_compareReduced_48, dX6_compareReduced_51, xpX6_46, xpX6_58, xkb_6, xki_0, xki_1, n_le, six, hti, hu, hu1, v0, v1, v2, v3, v4, v5, i1, i2, i3, i4, nk, cF, xt_5_38, xtc_5_38, xt_40_m38, xtc_40_m38]
      refine ih (k + 1) (by omega) _ (fun j hj => ?_)
      simp only [upd]
      by_cases ej : j = k
      · rw [if_pos ej, ej]
        have c1 := b1 k (by omega)
        have c2 := b2 k (by omega)
        have d1 := ha2 a k ha (by omega)
        have d2 := ha2 b k hb (by omega)
        rw [n_sub (by rw [d1, d2]; omega) (by rw [d1, d2]; omega), d1, d2]
        simp only [zlin]; omega
      · rw [if_neg ej]; exact hg j (by omega)
  refine xgo O Rt xplX6_q xclX6_q [2] 30 ?_
  simp (maxSteps := 10000000) (disch := omega) only [↓reduceIte, ↓xrun_s, ↓xck_e, xdo_e, xlg_0, xlg_c, xst1_0, xst1_1, xst1_c, xst2_0, xst2_1, xst2_c, xk2_n, xk2_i, xk2_a, xk2_l, xct_i, xct_a, xct_l, xf4_0, xf4_1, xf4_2, xf4_3, List.contains_cons, List.contains_nil, Bool.or_false, Bool.false_or, Bool.or_self, Bool.true_or, Bool.or_true, cond_true, cond_false, List.set_cons_zero, List.set_cons_succ, List.length_cons, List.length_nil, true_and, and_true, xu_s, xu_u, xeqs, Nat.le_refl, not_true_eq_false, xq_10, xq_01, Int32.reduceAdd, Int32.reduceMul, Int32.reduceSub, Int32.reduceLE, Int32.reduceLT, Int32.reduceToNatClampNeg, Nat.reduceAdd, Nat.reduceMul, Nat.reduceBEq, Nat.reduceLT, Nat.reduceLeDiff, Nat.reduceEqDiff, Nat.zero_add, Bool.false_eq_true, reduceCtorEq, if_false, if_true, not_false_eq_true, true_imp_iff, false_imp_iff, imp_self, ↓xil_e, ↓xll_e, ↓xal_e, ↓xs1i_e, ↓xs2i_e, ↓xs1l_e, ↓xs2l_e, ↓xsil_e, ↓xs1_e, ↓xs2_e, ↓xs1a_e, ↓xsia_e, ↓xsiia_e, ↓xslia_e, ↓xsaia_e, ↓xsva_e, ↓xse1i_e, ↓xse1l_e, ↓xse1a_e, ↓xse0_e, ↓xfv_0, ↓xfv_c, ↓xgf_e, ↓xpf_e, ↓xia_e, ↓xia_n, ↓xba_e, ↓xba_n, ↓xla_e, ↓xla_n, ↓xob_e, ↓xra_e, ↓xno_e, ↓xle_e, ↓xnr_i, ↓xnr_b0, ↓xnr_b1, ↓xnr_n, ↓xdo_e, ↓xkl_0, ↓xe_iconst, ↓xe_bipush, ↓xe_iadd, ↓xe_isub, ↓xe_imul, ↓xe_iload_n, ↓xe_aload_n, ↓xe_istore_n, ↓xe_iinc, ↓xe_goto, ↓xe_getfield, ↓xe_iaload, ↓xe_iastore, ↓xe_ireturn, ↓xe_icmp_ge, ↓xe_invokevirtual, dX6_compareReduced_0, dX6_compareReduced_1, dX6_compareReduced_2, dX6_compareReduced_3, dX6_compareReduced_5, dX6_compareReduced_8, dX6_compareReduced_9, dX6_compareReduced_12, dX6_compareReduced_13, dX6_compareReduced_14, dX6_compareReduced_17, dX6_compareReduced_19, dX6_compareReduced_20, dX6_compareReduced_21, dX6_compareReduced_22, dX6_compareReduced_23, dX6_compareReduced_24, dX6_compareReduced_25, dX6_compareReduced_28, dX6_compareReduced_30, dX6_compareReduced_31, dX6_compareReduced_32, dX6_compareReduced_33, dX6_compareReduced_34, dX6_compareReduced_35, dX6_compareReduced_36, dX6_compareReduced_37, dX6_compareReduced_40, dX6_compareReduced_43, dX6_compareReduced_44, dX6_compareReduced_45, dX6_compareReduced_48, dX6_compareReduced_51, xpX6_46, xpX6_58, xkb_6, xki_0, xki_1, xt_5_38, xtc_5_38, xt_40_m38, xtc_40_m38]
  have := loop 6 0 (by omega) g0 (fun j hj => absurd hj (by omega))
  rw [xu_id hs3] at this
  exact this
theorem sg_eq (S : Int) : sg S = 0 ↔ S = 0 := by unfold sg; split <;> (try split) <;> omega
set_option maxRecDepth 100000 in
set_option maxHeartbeats 8000000 in
theorem c6_orderAll (V : xV) {v z c : Nat} {f : xH} {i3 i4 i14 i15 i16 i17 i18 i19 i21 i22 : Int32} {xs : Nat → xZ} {P : xZ} {sr : Nat → Nat} {post : Option Value → xH → Nat → Prop} (h6 : f v = some (x6 v i3 i4 (nI c) i14 i15 i16 i17 i18 i19 i21 i22)) (hC : RfC f v) (hS : RfS f v) (hX : Exs f v c xs) (hP : E6 f (v + 5) P) (hc : c ≤ 24) (hb : ∀ j, j < c → bd (xs j) 1000) (hper : Per P) (hq : ∀ j, j < c → -700 ≤ qd (xs j) P ∧ qd (xs j) P ≤ 700) (hbr : ∀ j, j < c → bd (rdc (xs j) P) 1000) (hsr : Srt sr c (fun j => sz (rdc (xs j) P)))
    (hp : ∀ f' og, (∀ q, q < v + 6 ∨ v + 17 ≤ q → f' q = f q) → RfS f' v → Rws f' (v + 12) c (rds xs P) → f' (v + 13) = some (xI 24 og) → (∀ j, j < c → og j = nI (sr j)) → post none f' z) :
    xMet V yX6_orderAll cX6_orderAll 5 none 7 0 0 [.ref v] f z post := by
  refine xMet_of false (by decide) (Nat.le_of_ble_eq_true rfl) (fun h => by cases h) (fun X hX' O Rt => ?_)
  have O : xO X cX6_orderAll 5 RX6 7 0 0 false := O
  show xG X 0 [some (.ref v), none, none, none, none] [] f (z, 0, 0)
  have six : (6 : Int32).toInt = 6 := rfl
  have hci : (nI c).toInt = (c : Int) := nI_int (by omega)
  -- the second loop
  have loopB : ∀ m s : Nat, s + m = c → ∀ f' (og : Nat → Int32) u2 u3 u4, (∀ q, q < v + 6 ∨ v + 17 ≤ q → f' q = f q) → RfS f' v → Rws f' (v + 12) c (rds xs P) → f' (v + 13) = some (xI 24 og) → (∀ j, j < s → og (rk (fun j => sz (rdc (xs j) P)) j c) = nI j) → xG X 58 [some (.ref v), some (.int (nI s)), u2, u3, u4] [] f' (z, 0, 0) := by
    intro m
    induction m with
    | zero =>
      intro s hs f' og u2 u3 u4 k1 hS' hA hg hog
      have : s = c := by omega
      subst this
      have g6 : f' v = some (x6 v i3 i4 (nI s) i14 i15 i16 i17 i18 i19 i21 i22) := by rw [k1 _ (by omega)]; exact h6
      have cT : ((s : Int) ≤ (s : Int)) = True := eq_true (Int.le_refl _)
      refine xgo O Rt xplX6_q xclX6_q [58, 70] 30 ?_
      simp (maxSteps := 10000000) (disch := omega) only [↓reduceIte, ↓xrun_s, ↓xck_e, xdo_e, xlg_0, xlg_c, xst1_0, xst1_1, xst1_c, xst2_0, xst2_1, xst2_c, xk2_n, xk2_i, xk2_a, xk2_l, xct_i, xct_a, xct_l, xf4_0, xf4_1, xf4_2, xf4_3, List.contains_cons, List.contains_nil, Bool.or_false, Bool.false_or, Bool.or_self, Bool.true_or, Bool.or_true, cond_true, cond_false, List.set_cons_zero, List.set_cons_succ, List.length_cons, List.length_nil, true_and, and_true, xu_s, xu_u, xeqs, Nat.le_refl, not_true_eq_false, xq_10, xq_01, Int32.reduceAdd, Int32.reduceMul, Int32.reduceSub, Int32.reduceLE, Int32.reduceLT, Int32.reduceToNatClampNeg, Nat.reduceAdd, Nat.reduceMul, Nat.reduceBEq, Nat.reduceLT, Nat.reduceLeDiff, Nat.reduceEqDiff, Nat.zero_add, Bool.false_eq_true, reduceCtorEq, if_false, if_true, not_false_eq_true, true_imp_iff, false_imp_iff, imp_self, ↓xil_e, ↓xll_e, ↓xal_e, ↓xs1i_e, ↓xs2i_e, ↓xs1l_e, ↓xs2l_e, ↓xsil_e, ↓xs1_e, ↓xs2_e, ↓xs1a_e, ↓xsia_e, ↓xsiia_e, ↓xslia_e, ↓xsaia_e, ↓xsva_e, ↓xse1i_e, ↓xse1l_e, ↓xse1a_e, ↓xse0_e, ↓xfv_0, ↓xfv_c, ↓xgf_e, ↓xpf_e, ↓xia_e, ↓xia_n, ↓xba_e, ↓xba_n, ↓xla_e, ↓xla_n, ↓xob_e, ↓xra_e, ↓xno_e, ↓xle_e, ↓xnr_i, ↓xnr_b0, ↓xnr_b1, ↓xnr_n, ↓xdo_e, ↓xkl_0, ↓xe_iconst, ↓xe_bipush, ↓xe_iadd, ↓xe_imul, ↓xe_iload, ↓xe_iload_n, ↓xe_aload_n, ↓xe_istore, ↓xe_istore_n, ↓xe_iinc, ↓xe_goto, ↓xe_getfield, ↓xe_iaload, ↓xe_iastore, ↓xe_return_, ↓xe_if_ne, ↓xe_icmp_ne, ↓xe_if_lt, ↓xe_icmp_ge, ↓xe_invokevirtual, dX6_orderAll_0, dX6_orderAll_1, dX6_orderAll_2, dX6_orderAll_3, dX6_orderAll_4, dX6_orderAll_7, dX6_orderAll_10, dX6_orderAll_11, dX6_orderAll_12, dX6_orderAll_13, dX6_orderAll_16, dX6_orderAll_19, dX6_orderAll_20, dX6_orderAll_21, dX6_orderAll_22, dX6_orderAll_24, dX6_orderAll_27, dX6_orderAll_28, dX6_orderAll_31, dX6_orderAll_33, dX6_orderAll_34, dX6_orderAll_35, dX6_orderAll_36, dX6_orderAll_37, dX6_orderAll_38, dX6_orderAll_41, dX6_orderAll_42, dX6_orderAll_43, dX6_orderAll_44, dX6_orderAll_47, dX6_orderAll_50, dX6_orderAll_53, dX6_orderAll_56, dX6_orderAll_57, dX6_orderAll_58, dX6_orderAll_59, dX6_orderAll_60, dX6_orderAll_63, dX6_orderAll_66, dX6_orderAll_67, dX6_orderAll_68, dX6_orderAll_69, dX6_orderAll_70, dX6_orderAll_71, dX6_orderAll_72, dX6_orderAll_75, dX6_orderAll_78, dX6_orderAll_79, dX6_orderAll_80, dX6_orderAll_83, dX6_orderAll_84, dX6_orderAll_87, dX6_orderAll_88, dX6_orderAll_89, dX6_orderAll_90, dX6_orderAll_93, dX6_orderAll_95, dX6_orderAll_96, dX6_orderAll_98, dX6_orderAll_101, dX6_orderAll_103, dX6_orderAll_106, dX6_orderAll_107, dX6_orderAll_108, dX6_orderAll_111, dX6_orderAll_112, dX6_orderAll_115, dX6_orderAll_116, dX6_orderAll_117, dX6_orderAll_118, dX6_orderAll_121, dX6_orderAll_124, dX6_orderAll_125, dX6_orderAll_128, dX6_orderAll_129, dX6_orderAll_130, dX6_orderAll_131, dX6_orderAll_134, dX6_orderAll_137, xpX6_30, xpX6_49, xpX6_58, xpX6_61, xkb_6, xki_0, xki_1, g6, n_le, hci, cT, xt_7_49, xtc_7_49, xt_24_26, xtc_24_26, xt_47_m26, xtc_47_m26, xt_53_m51, xtc_53_m51, xt_63_74, xtc_63_74, xt_75_49, xtc_75_49, xt_80_7, xtc_80_7, xt_84_9, xtc_84_9, xt_98_13, xtc_98_13, xt_103_12, xtc_103_12, xt_108_7, xtc_108_7, xt_112_4, xtc_112_4, xt_121_m51, xtc_121_m51, xt_134_m76, xtc_134_m76]
      have hsr' := rk_srt (o := fun j => (og j).toNatClampNeg) (fun j hj => by show (og _).toNatClampNeg = j; rw [hog j hj]; exact nI_clamp (by omega)) hsr
      refine hp f' og k1 hS' hA hg (fun j hj => ?_)
      obtain ⟨i, hi, e⟩ := inj_surj s (fun j => rk (fun j => sz (rdc (xs j) P)) j s) (fun i hi => by have := rk_le (fun j => sz (rdc (xs j) P)) i s; rw [if_pos hi] at this; show rk (fun j => sz (rdc (xs j) P)) i s < s; omega) (fun i j hi hj e => rk_inj hi hj e) j hj
      have e : rk (fun j => sz (rdc (xs j) P)) i s = j := e
      have e2 := hsr' j hj
      have e3 := hog i hi
      rw [e] at e3
      have e2 : (og j).toNatClampNeg = sr j := e2
      rw [e3, nI_clamp (by omega)] at e2
      rw [e3, e2]
    | succ m ih =>
      intro s hs f' og u2 u3 u4 k1 hS' hA hg hog
      have hsc : s < c := by omega
      have g6 : f' v = some (x6 v i3 i4 (nI c) i14 i15 i16 i17 i18 i19 i21 i22) := by rw [k1 _ (by omega)]; exact h6
      have hsi : (nI s).toInt = (s : Int) := nI_int (by omega)
      have ns : nI s + 1 = nI (s + 1) := nI_1 s
      have cF : ((c : Int) ≤ (s : Int)) = False := eq_false (by omega)
      have loopC : ∀ m t : Nat, t + m = c → ∀ f2 u4, (∀ q, q < v + 6 ∨ v + 9 ≤ q → f2 q = f' q) → Scr f2 v → xG X 70 [some (.ref v), some (.int (nI s)), some (.int (nI (rk (fun j => sz (rdc (xs j) P)) s t))), some (.int (nI t)), u4] [] f2 (z, 0, 0) := by
        intro m2
        induction m2 with
        | zero =>
          intro t ht f2 u4 k2 hS2
          have : t = c := by omega
          subst this
          have g62 : f2 v = some (x6 v i3 i4 (nI t) i14 i15 i16 i17 i18 i19 i21 i22) := by rw [k2 _ (by omega)]; exact g6
          have cT : ((t : Int) ≤ (t : Int)) = True := eq_true (Int.le_refl _)
          have hrl := rk_le (fun j => sz (rdc (xs j) P)) s t
          rw [if_pos hsc] at hrl
          have v0 : vp_in (nI (rk (fun j => sz (rdc (xs j) P)) s t)) 24 := vp_in_nI (by omega) (by omega)
          have v1 : (nI (rk (fun j => sz (rdc (xs j) P)) s t)).toNatClampNeg = rk (fun j => sz (rdc (xs j) P)) s t := nI_clamp (by omega)
          have hg2 : f2 (v + 13) = some (xI 24 og) := by rw [k2 _ (by omega)]; exact hg
          refine xgo O Rt xplX6_q xclX6_q [58, 70] 40 ?_
          simp (maxSteps := 10000000) (disch := omega) only [↓reduceIte, ↓xrun_s, ↓xck_e, xdo_e, xlg_0, xlg_c, xst1_0, xst1_1, xst1_c, xst2_0, xst2_1, xst2_c, xk2_n, xk2_i, xk2_a, xk2_l, xct_i, xct_a, xct_l, xf4_0, xf4_1, xf4_2, xf4_3, List.contains_cons, List.contains_nil, Bool.or_false, Bool.false_or, Bool.or_self, Bool.true_or, Bool.or_true, cond_true, cond_false, List.set_cons_zero, List.set_cons_succ, List.length_cons, List.length_nil, true_and, and_true, xu_s, xu_u, xeqs, Nat.le_refl, not_true_eq_false, xq_10, xq_01, Int32.reduceAdd, Int32.reduceMul, Int32.reduceSub, Int32.reduceLE, Int32.reduceLT, Int32.reduceToNatClampNeg, Nat.reduceAdd, Nat.reduceMul, Nat.reduceBEq, Nat.reduceLT, Nat.reduceLeDiff, Nat.reduceEqDiff, Nat.zero_add, Bool.false_eq_true, reduceCtorEq, if_false, if_true, not_false_eq_true, true_imp_iff, false_imp_iff, imp_self, ↓xil_e, ↓xll_e, ↓xal_e, ↓xs1i_e, ↓xs2i_e, ↓xs1l_e, ↓xs2l_e, ↓xsil_e, ↓xs1_e, ↓xs2_e, ↓xs1a_e, ↓xsia_e, ↓xsiia_e, ↓xslia_e, ↓xsaia_e, ↓xsva_e, ↓xse1i_e, ↓xse1l_e, ↓xse1a_e, ↓xse0_e, ↓xfv_0, ↓xfv_c, ↓xgf_e, ↓xpf_e, ↓xia_e, ↓xia_n, ↓xba_e, ↓xba_n, ↓xla_e, ↓xla_n, ↓xob_e, ↓xra_e, ↓xno_e, ↓xle_e, ↓xnr_i, ↓xnr_b0, ↓xnr_b1, ↓xnr_n, ↓xdo_e, ↓xkl_0, ↓xe_iconst, ↓xe_bipush, ↓xe_iadd, ↓xe_imul, ↓xe_iload, ↓xe_iload_n, ↓xe_aload_n, ↓xe_istore, ↓xe_istore_n, ↓xe_iinc, ↓xe_goto, ↓xe_getfield, ↓xe_iaload, ↓xe_iastore, ↓xe_return_, ↓xe_if_ne, ↓xe_icmp_ne, ↓xe_if_lt, ↓xe_icmp_ge, ↓xe_invokevirtual, dX6_orderAll_0, dX6_orderAll_1, dX6_orderAll_2, dX6_orderAll_3, dX6_orderAll_4, dX6_orderAll_7, dX6_orderAll_10, dX6_orderAll_11, dX6_orderAll_12, dX6_orderAll_13, dX6_orderAll_16, dX6_orderAll_19, dX6_orderAll_20, dX6_orderAll_21, dX6_orderAll_22, dX6_orderAll_24, dX6_orderAll_27, dX6_orderAll_28, dX6_orderAll_31, dX6_orderAll_33, dX6_orderAll_34, dX6_orderAll_35, dX6_orderAll_36, dX6_orderAll_37, dX6_orderAll_38, dX6_orderAll_41, dX6_orderAll_42, dX6_orderAll_43, dX6_orderAll_44, dX6_orderAll_47, dX6_orderAll_50, dX6_orderAll_53, dX6_orderAll_56, dX6_orderAll_57, dX6_orderAll_58, dX6_orderAll_59, dX6_orderAll_60, dX6_orderAll_63, dX6_orderAll_66, dX6_orderAll_67, dX6_orderAll_68, dX6_orderAll_69, dX6_orderAll_70, dX6_orderAll_71, dX6_orderAll_72, dX6_orderAll_75, dX6_orderAll_78, dX6_orderAll_79, dX6_orderAll_80, dX6_orderAll_83, dX6_orderAll_84, dX6_orderAll_87, dX6_orderAll_88, dX6_orderAll_89, dX6_orderAll_90, dX6_orderAll_93, dX6_orderAll_95, dX6_orderAll_96, dX6_orderAll_98, dX6_orderAll_101, dX6_orderAll_103, dX6_orderAll_106, dX6_orderAll_107, dX6_orderAll_108, dX6_orderAll_111, dX6_orderAll_112, dX6_orderAll_115, dX6_orderAll_116, dX6_orderAll_117, dX6_orderAll_118, dX6_orderAll_121, dX6_orderAll_124, dX6_orderAll_125, dX6_orderAll_128, dX6_orderAll_129, dX6_orderAll_130, dX6_orderAll_131, dX6_orderAll_134, dX6_orderAll_137, xpX6_30, xpX6_49, xpX6_58, xpX6_61, xkb_6, xki_0, xki_1, g62, n_le, hci, cT, hg2, v0, v1, ns, xt_7_49, xtc_7_49, xt_24_26, xtc_24_26, xt_47_m26, xtc_47_m26, xt_53_m51, xtc_53_m51, xt_63_74, xtc_63_74, xt_75_49, xtc_75_49, xt_80_7, xtc_80_7, xt_84_9, xtc_84_9, xt_98_13, xtc_98_13, xt_103_12, xtc_103_12, xt_108_7, xtc_108_7, xt_112_4, xtc_112_4, xt_121_m51, xtc_121_m51, xt_134_m76, xtc_134_m76]
          refine ih (s + 1) (by omega) _ _ _ _ _ (fun q hq => by rw [xu_n (by omega), k2 _ (by omega)]; exact k1 q hq) (hS'.upd (hS2.kept (fun q a b => xu_n (by omega))) (fun i a b => ?_)) (hA.kept (by rw [xu_n (by omega)]; exact k2 _ (by omega))) (xu_s _ _ _) (fun j hj => ?_)
          · by_cases e : i = 13
            · subst e
              exact Or.inr ⟨_, xu_s _ _ _⟩
            · exact Or.inl (by rw [xu_n (by omega)]; exact k2 _ (by omega))
          · simp only [upd]
            by_cases e : j = s
            · subst e; rw [if_pos rfl]
            · rw [if_neg (fun q => e (rk_inj (by omega) hsc q))]
              exact hog j (by omega)
        | succ m2 ih2 =>
          intro t ht f2 u4 k2 hS2
          have g62 : f2 v = some (x6 v i3 i4 (nI c) i14 i15 i16 i17 i18 i19 i21 i22) := by rw [k2 _ (by omega)]; exact g6
          have hti : (nI t).toInt = (t : Int) := nI_int (by omega)
          have nt1 : nI t + 1 = nI (t + 1) := nI_1 t
          have cF2 : ((c : Int) ≤ (t : Int)) = False := eq_false (by omega)
          have n10 : nI (rk (fun j => sz (rdc (xs j) P)) s t) + 1 = nI (rk (fun j => sz (rdc (xs j) P)) s t + 1) := nI_1 _
          have n00 : nI (rk (fun j => sz (rdc (xs j) P)) s t) + 0 = nI (rk (fun j => sz (rdc (xs j) P)) s t) := nI_add _ 0
          by_cases ets : t = s
          · subst ets
            have hr : rk (fun j => sz (rdc (xs j) P)) t (t + 1) = rk (fun j => sz (rdc (xs j) P)) t t := by
              exact rk_no (by omega)
            refine xgo O Rt xplX6_q xclX6_q [58, 70] 60 ?_
            simp (maxSteps := 10000000) (disch := omega) only [↓reduceIte, ↓xrun_s, ↓xck_e, xdo_e, xlg_0, xlg_c, xst1_0, xst1_1, xst1_c, xst2_0, xst2_1, xst2_c, xk2_n, xk2_i, xk2_a, xk2_l, xct_i, xct_a, xct_l, xf4_0, xf4_1, xf4_2, xf4_3, List.contains_cons, List.contains_nil, Bool.or_false, Bool.false_or, Bool.or_self, Bool.true_or, Bool.or_true, cond_true, cond_false, List.set_cons_zero, List.set_cons_succ, List.length_cons, List.length_nil, true_and, and_true, xu_s, xu_u, xeqs, Nat.le_refl, not_true_eq_false, xq_10, xq_01, Int32.reduceAdd, Int32.reduceMul, Int32.reduceSub, Int32.reduceLE, Int32.reduceLT, Int32.reduceToNatClampNeg, Nat.reduceAdd, Nat.reduceMul, Nat.reduceBEq, Nat.reduceLT, Nat.reduceLeDiff, Nat.reduceEqDiff, Nat.zero_add, Bool.false_eq_true, reduceCtorEq, if_false, if_true, not_false_eq_true, true_imp_iff, false_imp_iff, imp_self, ↓xil_e, ↓xll_e, ↓xal_e, ↓xs1i_e, ↓xs2i_e, ↓xs1l_e, ↓xs2l_e, ↓xsil_e, ↓xs1_e, ↓xs2_e, ↓xs1a_e, ↓xsia_e, ↓xsiia_e, ↓xslia_e, ↓xsaia_e, ↓xsva_e, ↓xse1i_e, ↓xse1l_e, ↓xse1a_e, ↓xse0_e, ↓xfv_0, ↓xfv_c, ↓xgf_e, ↓xpf_e, ↓xia_e, ↓xia_n, ↓xba_e, ↓xba_n, ↓xla_e, ↓xla_n, ↓xob_e, ↓xra_e, ↓xno_e, ↓xle_e, ↓xnr_i, ↓xnr_b0, ↓xnr_b1, ↓xnr_n, ↓xdo_e, ↓xkl_0, ↓xe_iconst, ↓xe_bipush, ↓xe_iadd, ↓xe_imul, ↓xe_iload, ↓xe_iload_n, ↓xe_aload_n, ↓xe_istore, ↓xe_istore_n, ↓xe_iinc, ↓xe_goto, ↓xe_getfield, ↓xe_iaload, ↓xe_iastore, ↓xe_return_, ↓xe_if_ne, ↓xe_icmp_ne, ↓xe_if_lt, ↓xe_icmp_ge, ↓xe_invokevirtual, dX6_orderAll_0, dX6_orderAll_1, dX6_orderAll_2, dX6_orderAll_3, dX6_orderAll_4, dX6_orderAll_7, dX6_orderAll_10, dX6_orderAll_11, dX6_orderAll_12, dX6_orderAll_13, dX6_orderAll_16, dX6_orderAll_19, dX6_orderAll_20, dX6_orderAll_21, dX6_orderAll_22, dX6_orderAll_24, dX6_orderAll_27, dX6_orderAll_28, dX6_orderAll_31, dX6_orderAll_33, dX6_orderAll_34, dX6_orderAll_35, dX6_orderAll_36, dX6_orderAll_37, dX6_orderAll_38, dX6_orderAll_41, dX6_orderAll_42, dX6_orderAll_43, dX6_orderAll_44, dX6_orderAll_47, dX6_orderAll_50, dX6_orderAll_53, dX6_orderAll_56, dX6_orderAll_57, dX6_orderAll_58, dX6_orderAll_59, dX6_orderAll_60, dX6_orderAll_63, dX6_orderAll_66, dX6_orderAll_67, dX6_orderAll_68, dX6_orderAll_69, dX6_orderAll_70, dX6_orderAll_71, dX6_orderAll_72, dX6_orderAll_75, dX6_orderAll_78, dX6_orderAll_79, dX6_orderAll_80, dX6_orderAll_83, dX6_orderAll_84, dX6_orderAll_87, dX6_orderAll_88, dX6_orderAll_89, dX6_orderAll_90, dX6_orderAll_93, dX6_orderAll_95, dX6_orderAll_96, dX6_orderAll_98, dX6_orderAll_101, dX6_orderAll_103, dX6_orderAll_106, dX6_orderAll_107, dX6_orderAll_108, dX6_orderAll_111, dX6_orderAll_112, dX6_orderAll_115, dX6_orderAll_116, dX6_orderAll_117, dX6_orderAll_118, dX6_orderAll_121, dX6_orderAll_124, dX6_orderAll_125, dX6_orderAll_128, dX6_orderAll_129, dX6_orderAll_130, dX6_orderAll_131, dX6_orderAll_134, dX6_orderAll_137, xpX6_30, xpX6_49, xpX6_58, xpX6_61, xkb_6, xki_0, xki_1, g62, n_le, hci, hti, cF2, nt1, n00, xt_7_49, xtc_7_49, xt_24_26, xtc_24_26, xt_47_m26, xtc_47_m26, xt_53_m51, xtc_53_m51, xt_63_74, xtc_63_74, xt_75_49, xtc_75_49, xt_80_7, xtc_80_7, xt_84_9, xtc_84_9, xt_98_13, xtc_98_13, xt_103_12, xtc_103_12, xt_108_7, xtc_108_7, xt_112_4, xtc_112_4, xt_121_m51, xtc_121_m51, xt_134_m76, xtc_134_m76]
            have := ih2 (t + 1) (by omega) f2 (some (.int 1)) k2 hS2
            rw [hr] at this
            exact this
          · have hne : (nI t = nI s) = False := eq_false (fun q => ets ((nI_eq (by omega) (by omega)).mp q))
            refine xgo O Rt xplX6_q xclX6_q [58, 70] 60 ?_
            simp (maxSteps := 10000000) (disch := omega) only [↓reduceIte, ↓xrun_s, ↓xck_e, xdo_e, xlg_0, xlg_c, xst1_0, xst1_1, xst1_c, xst2_0, xst2_1, xst2_c, xk2_n, xk2_i, xk2_a, xk2_l, xct_i, xct_a, xct_l, xf4_0, xf4_1, xf4_2, xf4_3, List.contains_cons, List.contains_nil, Bool.or_false, Bool.false_or, Bool.or_self, Bool.true_or, Bool.or_true, cond_true, cond_false, List.set_cons_zero, List.set_cons_succ, List.length_cons, List.length_nil, true_and, and_true, xu_s, xu_u, xeqs, Nat.le_refl, not_true_eq_false, xq_10, xq_01, Int32.reduceAdd, Int32.reduceMul, Int32.reduceSub, Int32.reduceLE, Int32.reduceLT, Int32.reduceToNatClampNeg, Nat.reduceAdd, Nat.reduceMul, Nat.reduceBEq, Nat.reduceLT, Nat.reduceLeDiff, Nat.reduceEqDiff, Nat.zero_add, Bool.false_eq_true, reduceCtorEq, if_false, if_true, not_false_eq_true, true_imp_iff, false_imp_iff, imp_self, ↓xil_e, ↓xll_e, ↓xal_e, ↓xs1i_e, ↓xs2i_e, ↓xs1l_e, ↓xs2l_e, ↓xsil_e, ↓xs1_e, ↓xs2_e, ↓xs1a_e, ↓xsia_e, ↓xsiia_e, ↓xslia_e, ↓xsaia_e, ↓xsva_e, ↓xse1i_e, ↓xse1l_e, ↓xse1a_e, ↓xse0_e, ↓xfv_0, ↓xfv_c, ↓xgf_e, ↓xpf_e, ↓xia_e, ↓xia_n, ↓xba_e, ↓xba_n, ↓xla_e, ↓xla_n, ↓xob_e, ↓xra_e, ↓xno_e, ↓xle_e, ↓xnr_i, ↓xnr_b0, ↓xnr_b1, ↓xnr_n, ↓xdo_e, ↓xkl_0, ↓xe_iconst, ↓xe_bipush, ↓xe_iadd, ↓xe_imul, ↓xe_iload, ↓xe_iload_n, ↓xe_aload_n, ↓xe_istore, ↓xe_istore_n, ↓xe_iinc, ↓xe_goto, ↓xe_getfield, ↓xe_iaload, ↓xe_iastore, ↓xe_return_, ↓xe_if_ne, ↓xe_icmp_ne, ↓xe_if_lt, ↓xe_icmp_ge, ↓xe_invokevirtual, dX6_orderAll_0, dX6_orderAll_1, dX6_orderAll_2, dX6_orderAll_3, dX6_orderAll_4, dX6_orderAll_7, dX6_orderAll_10, dX6_orderAll_11, dX6_orderAll_12, dX6_orderAll_13, dX6_orderAll_16, dX6_orderAll_19, dX6_orderAll_20, dX6_orderAll_21, dX6_orderAll_22, dX6_orderAll_24, dX6_orderAll_27, dX6_orderAll_28, dX6_orderAll_31, dX6_orderAll_33, dX6_orderAll_34, dX6_orderAll_35, dX6_orderAll_36, dX6_orderAll_37, dX6_orderAll_38, dX6_orderAll_41, dX6_orderAll_42, dX6_orderAll_43, dX6_orderAll_44, dX6_orderAll_47, dX6_orderAll_50, dX6_orderAll_53, dX6_orderAll_56, dX6_orderAll_57, dX6_orderAll_58, dX6_orderAll_59, dX6_orderAll_60, dX6_orderAll_63, dX6_orderAll_66, dX6_orderAll_67, dX6_orderAll_68, dX6_orderAll_69, dX6_orderAll_70, dX6_orderAll_71, dX6_orderAll_72, dX6_orderAll_75, dX6_orderAll_78, dX6_orderAll_79, dX6_orderAll_80, dX6_orderAll_83, dX6_orderAll_84, dX6_orderAll_87, dX6_orderAll_88, dX6_orderAll_89, dX6_orderAll_90, dX6_orderAll_93, dX6_orderAll_95, dX6_orderAll_96, dX6_orderAll_98, dX6_orderAll_101, dX6_orderAll_103, dX6_orderAll_106, dX6_orderAll_107, dX6_orderAll_108, dX6_orderAll_111, dX6_orderAll_112, dX6_orderAll_115, dX6_orderAll_116, dX6_orderAll_117, dX6_orderAll_118, dX6_orderAll_121, dX6_orderAll_124, dX6_orderAll_125, dX6_orderAll_128, dX6_orderAll_129, dX6_orderAll_130, dX6_orderAll_131, dX6_orderAll_134, dX6_orderAll_137, xpX6_30, xpX6_49, xpX6_58, xpX6_61, xkb_6, xki_0, xki_1, g62, n_le, hci, hti, cF2, hne, xt_7_49, xtc_7_49, xt_24_26, xtc_24_26, xt_47_m26, xtc_47_m26, xt_53_m51, xtc_53_m51, xt_63_74, xtc_63_74, xt_75_49, xtc_75_49, xt_80_7, xtc_80_7, xt_84_9, xtc_84_9, xt_98_13, xtc_98_13, xt_103_12, xtc_103_12, xt_108_7, xtc_108_7, xt_112_4, xtc_112_4, xt_121_m51, xtc_121_m51, xt_134_m76, xtc_134_m76]
            refine xg_callVi (Qp := fun r f3 => r.toInt = sg (sz (rds xs P t) - sz (rds xs P s)) ∧ (∀ q, q < v + 6 ∨ v + 9 ≤ q → f3 q = f2 q) ∧ Scr f3 v) O dX6_orderAll_90 xl_X6_167 xk_X6_compareReduced (c6_compareReduced _ g62 ((hC.kept (k1 _ (by omega)) (k1 _ (by omega))).kept (k2 _ (by omega)) (k2 _ (by omega))) hS2 (hA.kept (k2 _ (by omega))) hc (by omega) hsc (hbr t (by omega)) (hbr s hsc) (fun r f' q1 q2 q3 => ⟨r, rfl, ⟨q1, q2, q3⟩, rfl⟩)) g62 rfl rfl rfl (Nat.le_of_ble_eq_true rfl) rfl (Nat.le_of_ble_eq_true rfl) (Nat.le_of_ble_eq_true rfl) (Nat.le_of_ble_eq_true rfl) (fun r f3 hq => ?_)
            obtain ⟨q1, q2, q3⟩ := hq
            have k3 : ∀ q, q < v + 6 ∨ v + 9 ≤ q → f3 q = f' q := fun q hq => by rw [q2 q hq]; exact k2 q hq
            by_cases hlt : sz (rdc (xs t) P) < sz (rdc (xs s) P)
            · have hr : rk (fun j => sz (rdc (xs j) P)) s (t + 1) = rk (fun j => sz (rdc (xs j) P)) s t + 1 := by
                simp only [rk]; rw [if_pos (Or.inl hlt)]
              have c1 : (r < 0) = True := eq_true ((n_lt _ _).mpr (by rw [n_0, q1, sg_lt]; show sz (rdc (xs t) P) - sz (rdc (xs s) P) < 0; omega))
              refine xgo O Rt xplX6_q xclX6_q [58, 70] 60 ?_
              simp (maxSteps := 10000000) (disch := omega) only [↓reduceIte, ↓xrun_s, ↓xck_e, xdo_e, xlg_0, xlg_c, xst1_0, xst1_1, xst1_c, xst2_0, xst2_1, xst2_c, xk2_n, xk2_i, xk2_a, xk2_l, xct_i, xct_a, xct_l, xf4_0, xf4_1, xf4_2, xf4_3, List.contains_cons, List.contains_nil, Bool.or_false, Bool.false_or, Bool.or_self, Bool.true_or, Bool.or_true, cond_true, cond_false, List.set_cons_zero, List.set_cons_succ, List.length_cons, List.length_nil, true_and, and_true, xu_s, xu_u, xeqs, Nat.le_refl, not_true_eq_false, xq_10, xq_01, Int32.reduceAdd, Int32.reduceMul, Int32.reduceSub, Int32.reduceLE, Int32.reduceLT, Int32.reduceToNatClampNeg, Nat.reduceAdd, Nat.reduceMul, Nat.reduceBEq, Nat.reduceLT, Nat.reduceLeDiff, Nat.reduceEqDiff, Nat.zero_add, Bool.false_eq_true, reduceCtorEq, if_false, if_true, not_false_eq_true, true_imp_iff, false_imp_iff, imp_self, ↓xil_e, ↓xll_e, ↓xal_e, ↓xs1i_e, ↓xs2i_e, ↓xs1l_e, ↓xs2l_e, ↓xsil_e, ↓xs1_e, ↓xs2_e, ↓xs1a_e, ↓xsia_e, ↓xsiia_e, ↓xslia_e, ↓xsaia_e, ↓xsva_e, ↓xse1i_e, ↓xse1l_e, ↓xse1a_e, ↓xse0_e, ↓xfv_0, ↓xfv_c, ↓xgf_e, ↓xpf_e, ↓xia_e, ↓xia_n, ↓xba_e, ↓xba_n, ↓xla_e, ↓xla_n, ↓xob_e, ↓xra_e, ↓xno_e, ↓xle_e, ↓xnr_i, ↓xnr_b0, ↓xnr_b1, ↓xnr_n, ↓xdo_e, ↓xkl_0, ↓xe_iconst, ↓xe_bipush, ↓xe_iadd, ↓xe_imul, ↓xe_iload, ↓xe_iload_n, ↓xe_aload_n, ↓xe_istore, ↓xe_istore_n, ↓xe_iinc, ↓xe_goto, ↓xe_getfield, ↓xe_iaload, ↓xe_iastore, ↓xe_return_, ↓xe_if_ne, ↓xe_icmp_ne, ↓xe_if_lt, ↓xe_icmp_ge, ↓xe_invokevirtual, dX6_orderAll_0, dX6_orderAll_1, dX6_orderAll_2, dX6_orderAll_3, dX6_orderAll_4, dX6_orderAll_7, dX6_orderAll_10, dX6_orderAll_11, dX6_orderAll_12, dX6_orderAll_13, dX6_orderAll_16, dX6_orderAll_19, dX6_orderAll_20, dX6_orderAll_21, dX6_orderAll_22, dX6_orderAll_24, dX6_orderAll_27, dX6_orderAll_28, dX6_orderAll_31, dX6_orderAll_33, dX6_orderAll_34, dX6_orderAll_35, dX6_orderAll_36, dX6_orderAll_37, dX6_orderAll_38, dX6_orderAll_41, dX6_orderAll_42, dX6_orderAll_43, dX6_orderAll_44, dX6_orderAll_47, dX6_orderAll_50, dX6_orderAll_53, dX6_orderAll_56, dX6_orderAll_57, dX6_orderAll_58, dX6_orderAll_59, dX6_orderAll_60, dX6_orderAll_63, dX6_orderAll_66, dX6_orderAll_67, dX6_orderAll_68, dX6_orderAll_69, dX6_orderAll_70, dX6_orderAll_71, dX6_orderAll_72, dX6_orderAll_75, dX6_orderAll_78, dX6_orderAll_79, dX6_orderAll_80, dX6_orderAll_83, dX6_orderAll_84, dX6_orderAll_87, dX6_orderAll_88, dX6_orderAll_89, dX6_orderAll_90, dX6_orderAll_93, dX6_orderAll_95, dX6_orderAll_96, dX6_orderAll_98, dX6_orderAll_101, dX6_orderAll_103, dX6_orderAll_106, dX6_orderAll_107, dX6_orderAll_108, dX6_orderAll_111, dX6_orderAll_112, dX6_orderAll_115, dX6_orderAll_116, dX6_orderAll_117, dX6_orderAll_118, dX6_orderAll_121, dX6_orderAll_124, dX6_orderAll_125, dX6_orderAll_128, dX6_orderAll_129, dX6_orderAll_130, dX6_orderAll_131, dX6_orderAll_134, dX6_orderAll_137, xpX6_30, xpX6_49, xpX6_58, xpX6_61, xkb_6, xki_0, xki_1, c1, n10, nt1, xt_7_49, xtc_7_49, xt_24_26, xtc_24_26, xt_47_m26, xtc_47_m26, xt_53_m51, xtc_53_m51, xt_63_74, xtc_63_74, xt_75_49, xtc_75_49, xt_80_7, xtc_80_7, xt_84_9, xtc_84_9, xt_98_13, xtc_98_13, xt_103_12, xtc_103_12, xt_108_7, xtc_108_7, xt_112_4, xtc_112_4, xt_121_m51, xtc_121_m51, xt_134_m76, xtc_134_m76]
              have := ih2 (t + 1) (by omega) f3 (some (.int r)) k3 q3
              rw [hr] at this
              exact this
            · have c1 : (r < 0) = False := eq_false (fun y => hlt (by
                have y := (n_lt _ _).mp y
                rw [n_0, q1, sg_lt] at y
                have y : sz (rdc (xs t) P) - sz (rdc (xs s) P) < 0 := y
                omega))
              by_cases heq : sz (rdc (xs t) P) = sz (rdc (xs s) P)
              · have c2 : (r = 0) = True := eq_true (n_eq.mpr (by rw [n_0, q1, sg_eq]; show sz (rdc (xs t) P) - sz (rdc (xs s) P) = 0; omega))
                by_cases hts : t < s
                · have hr : rk (fun j => sz (rdc (xs j) P)) s (t + 1) = rk (fun j => sz (rdc (xs j) P)) s t + 1 := by
                    simp only [rk]; rw [if_pos (Or.inr ⟨heq, hts⟩)]
                  have c3 : ((s : Int) ≤ (t : Int)) = False := eq_false (by omega)
                  refine xgo O Rt xplX6_q xclX6_q [58, 70] 60 ?_
                  simp (maxSteps := 10000000) (disch := omega) only [↓reduceIte, ↓xrun_s, ↓xck_e, xdo_e, xlg_0, xlg_c, xst1_0, xst1_1, xst1_c, xst2_0, xst2_1, xst2_c, xk2_n, xk2_i, xk2_a, xk2_l, xct_i, xct_a, xct_l, xf4_0, xf4_1, xf4_2, xf4_3, List.contains_cons, List.contains_nil, Bool.or_false, Bool.false_or, Bool.or_self, Bool.true_or, Bool.or_true, cond_true, cond_false, List.set_cons_zero, List.set_cons_succ, List.length_cons, List.length_nil, true_and, and_true, xu_s, xu_u, xeqs, Nat.le_refl, not_true_eq_false, xq_10, xq_01, Int32.reduceAdd, Int32.reduceMul, Int32.reduceSub, Int32.reduceLE, Int32.reduceLT, Int32.reduceToNatClampNeg, Nat.reduceAdd, Nat.reduceMul, Nat.reduceBEq, Nat.reduceLT, Nat.reduceLeDiff, Nat.reduceEqDiff, Nat.zero_add, Bool.false_eq_true, reduceCtorEq, if_false, if_true, not_false_eq_true, true_imp_iff, false_imp_iff, imp_self, ↓xil_e, ↓xll_e, ↓xal_e, ↓xs1i_e, ↓xs2i_e, ↓xs1l_e, ↓xs2l_e, ↓xsil_e, ↓xs1_e, ↓xs2_e, ↓xs1a_e, ↓xsia_e, ↓xsiia_e, ↓xslia_e, ↓xsaia_e, ↓xsva_e, ↓xse1i_e, ↓xse1l_e, ↓xse1a_e, ↓xse0_e, ↓xfv_0, ↓xfv_c, ↓xgf_e, ↓xpf_e, ↓xia_e, ↓xia_n, ↓xba_e, ↓xba_n, ↓xla_e, ↓xla_n, ↓xob_e, ↓xra_e, ↓xno_e, ↓xle_e, ↓xnr_i, ↓xnr_b0, ↓xnr_b1, ↓xnr_n, ↓xdo_e, ↓xkl_0, ↓xe_iconst, ↓xe_bipush, ↓xe_iadd, ↓xe_imul, ↓xe_iload, ↓xe_iload_n, ↓xe_aload_n, ↓xe_istore, ↓xe_istore_n, ↓xe_iinc, ↓xe_goto, ↓xe_getfield, ↓xe_iaload, ↓xe_iastore, ↓xe_return_, ↓xe_if_ne, ↓xe_icmp_ne, ↓xe_if_lt, ↓xe_icmp_ge, ↓xe_invokevirtual, dX6_orderAll_0, dX6_orderAll_1, dX6_orderAll_2, dX6_orderAll_3, dX6_orderAll_4, dX6_orderAll_7, dX6_orderAll_10, dX6_orderAll_11, dX6_orderAll_12, dX6_orderAll_13, dX6_orderAll_16, dX6_orderAll_19, dX6_orderAll_20, dX6_orderAll_21, dX6_orderAll_22, dX6_orderAll_24, dX6_orderAll_27, dX6_orderAll_28, dX6_orderAll_31, dX6_orderAll_33, dX6_orderAll_34, dX6_orderAll_35, dX6_orderAll_36, dX6_orderAll_37, dX6_orderAll_38, dX6_orderAll_41, dX6_orderAll_42, dX6_orderAll_43, dX6_orderAll_44, dX6_orderAll_47, dX6_orderAll_50, dX6_orderAll_53, dX6_orderAll_56, dX6_orderAll_57, dX6_orderAll_58, dX6_orderAll_59, dX6_orderAll_60, dX6_orderAll_63, dX6_orderAll_66, dX6_orderAll_67, dX6_orderAll_68, dX6_orderAll_69, dX6_orderAll_70, dX6_orderAll_71, dX6_orderAll_72, dX6_orderAll_75, dX6_orderAll_78, dX6_orderAll_79, dX6_orderAll_80, dX6_orderAll_83, dX6_orderAll_84, dX6_orderAll_87, dX6_orderAll_88, dX6_orderAll_89, dX6_orderAll_90, dX6_orderAll_93, dX6_orderAll_95, dX6_orderAll_96, dX6_orderAll_98, dX6_orderAll_101, dX6_orderAll_103, dX6_orderAll_106, dX6_orderAll_107, dX6_orderAll_108, dX6_orderAll_111, dX6_orderAll_112, dX6_orderAll_115, dX6_orderAll_116, dX6_orderAll_117, dX6_orderAll_118, dX6_orderAll_121, dX6_orderAll_124, dX6_orderAll_125, dX6_orderAll_128, dX6_orderAll_129, dX6_orderAll_130, dX6_orderAll_131, dX6_orderAll_134, dX6_orderAll_137, xpX6_30, xpX6_49, xpX6_58, xpX6_61, xkb_6, xki_0, xki_1, c1, c2, n_le, hti, hsi, c3, n10, nt1, xt_7_49, xtc_7_49, xt_24_26, xtc_24_26, xt_47_m26, xtc_47_m26, xt_53_m51, xtc_53_m51, xt_63_74, xtc_63_74, xt_75_49, xtc_75_49, xt_80_7, xtc_80_7, xt_84_9, xtc_84_9, xt_98_13, xtc_98_13, xt_103_12, xtc_103_12, xt_108_7, xtc_108_7, xt_112_4, xtc_112_4, xt_121_m51, xtc_121_m51, xt_134_m76, xtc_134_m76]
                  have := ih2 (t + 1) (by omega) f3 (some (.int r)) k3 q3
                  rw [hr] at this
                  exact this
                · have hr : rk (fun j => sz (rdc (xs j) P)) s (t + 1) = rk (fun j => sz (rdc (xs j) P)) s t := by
                    exact rk_no (show ¬ (sz (rdc (xs t) P) < sz (rdc (xs s) P) ∨ (sz (rdc (xs t) P) = sz (rdc (xs s) P) ∧ t < s)) by omega)
                  have c3 : ((s : Int) ≤ (t : Int)) = True := eq_true (by omega)
                  refine xgo O Rt xplX6_q xclX6_q [58, 70] 60 ?_
                  simp (maxSteps := 10000000) (disch := omega) only [↓reduceIte, ↓xrun_s, ↓xck_e, xdo_e, xlg_0, xlg_c, xst1_0, xst1_1, xst1_c, xst2_0, xst2_1, xst2_c, xk2_n, xk2_i, xk2_a, xk2_l, xct_i, xct_a, xct_l, xf4_0, xf4_1, xf4_2, xf4_3, List.contains_cons, List.contains_nil, Bool.or_false, Bool.false_or, Bool.or_self, Bool.true_or, Bool.or_true, cond_true, cond_false, List.set_cons_zero, List.set_cons_succ, List.length_cons, List.length_nil, true_and, and_true, xu_s, xu_u, xeqs, Nat.le_refl, not_true_eq_false, xq_10, xq_01, Int32.reduceAdd, Int32.reduceMul, Int32.reduceSub, Int32.reduceLE, Int32.reduceLT, Int32.reduceToNatClampNeg, Nat.reduceAdd, Nat.reduceMul, Nat.reduceBEq, Nat.reduceLT, Nat.reduceLeDiff, Nat.reduceEqDiff, Nat.zero_add, Bool.false_eq_true, reduceCtorEq, if_false, if_true, not_false_eq_true, true_imp_iff, false_imp_iff, imp_self, ↓xil_e, ↓xll_e, ↓xal_e, ↓xs1i_e, ↓xs2i_e, ↓xs1l_e, ↓xs2l_e, ↓xsil_e, ↓xs1_e, ↓xs2_e, ↓xs1a_e, ↓xsia_e, ↓xsiia_e, ↓xslia_e, ↓xsaia_e, ↓xsva_e, ↓xse1i_e, ↓xse1l_e, ↓xse1a_e, ↓xse0_e, ↓xfv_0, ↓xfv_c, ↓xgf_e, ↓xpf_e, ↓xia_e, ↓xia_n, ↓xba_e, ↓xba_n, ↓xla_e, ↓xla_n, ↓xob_e, ↓xra_e, ↓xno_e, ↓xle_e, ↓xnr_i, ↓xnr_b0, ↓xnr_b1, ↓xnr_n, ↓xdo_e, ↓xkl_0, ↓xe_iconst, ↓xe_bipush, ↓xe_iadd, ↓xe_imul, ↓xe_iload, ↓xe_iload_n, ↓xe_aload_n, ↓xe_istore, ↓xe_istore_n, ↓xe_iinc, ↓xe_goto, ↓xe_getfield, ↓xe_iaload, ↓xe_iastore, ↓xe_return_, ↓xe_if_ne, ↓xe_icmp_ne, ↓xe_if_lt, ↓xe_icmp_ge, ↓xe_invokevirtual, dX6_orderAll_0, dX6_orderAll_1, dX6_orderAll_2, dX6_orderAll_3, dX6_orderAll_4, dX6_orderAll_7, dX6_orderAll_10, dX6_orderAll_11, dX6_orderAll_12, dX6_orderAll_13, dX6_orderAll_16, dX6_orderAll_19, dX6_orderAll_20, dX6_orderAll_21, dX6_orderAll_22, dX6_orderAll_24, dX6_orderAll_27, dX6_orderAll_28, dX6_orderAll_31, dX6_orderAll_33, dX6_orderAll_34, dX6_orderAll_35, dX6_orderAll_36, dX6_orderAll_37, dX6_orderAll_38, dX6_orderAll_41, dX6_orderAll_42, dX6_orderAll_43, dX6_orderAll_44, dX6_orderAll_47, dX6_orderAll_50, dX6_orderAll_53, dX6_orderAll_56, dX6_orderAll_57, dX6_orderAll_58, dX6_orderAll_59, dX6_orderAll_60, dX6_orderAll_63, dX6_orderAll_66, dX6_orderAll_67, dX6_orderAll_68, dX6_orderAll_69, dX6_orderAll_70, dX6_orderAll_71, dX6_orderAll_72, dX6_orderAll_75, dX6_orderAll_78, dX6_orderAll_79, dX6_orderAll_80, dX6_orderAll_83, dX6_orderAll_84, dX6_orderAll_87, dX6_orderAll_88, dX6_orderAll_89, dX6_orderAll_90, dX6_orderAll_93, dX6_orderAll_95, dX6_orderAll_96, dX6_orderAll_98, dX6_orderAll_101, dX6_orderAll_103, dX6_orderAll_106, dX6_orderAll_107, dX6_orderAll_108, dX6_orderAll_111, dX6_orderAll_112, dX6_orderAll_115, dX6_orderAll_116, dX6_orderAll_117, dX6_orderAll_118, dX6_orderAll_121, dX6_orderAll_124, dX6_orderAll_125, dX6_orderAll_128, dX6_orderAll_129, dX6_orderAll_130, dX6_orderAll_131, dX6_orderAll_134, dX6_orderAll_137, xpX6_30, xpX6_49, xpX6_58, xpX6_61, xkb_6, xki_0, xki_1, c1, c2, n_le, hti, hsi, c3, n00, nt1, xt_7_49, xtc_7_49, xt_24_26, xtc_24_26, xt_47_m26, xtc_47_m26, xt_53_m51, xtc_53_m51, xt_63_74, xtc_63_74, xt_75_49, xtc_75_49, xt_80_7, xtc_80_7, xt_84_9, xtc_84_9, xt_98_13, xtc_98_13, xt_103_12, xtc_103_12, xt_108_7, xtc_108_7, xt_112_4, xtc_112_4, xt_121_m51, xtc_121_m51, xt_134_m76, xtc_134_m76]
                  have := ih2 (t + 1) (by omega) f3 (some (.int r)) k3 q3
                  rw [hr] at this
                  exact this
              · have c2 : (r = 0) = False := eq_false (fun y => heq (by
                  have y := n_eq.mp y
                  rw [n_0, q1, sg_eq] at y
                  have y : sz (rdc (xs t) P) - sz (rdc (xs s) P) = 0 := y
                  omega))
                have hr : rk (fun j => sz (rdc (xs j) P)) s (t + 1) = rk (fun j => sz (rdc (xs j) P)) s t := by
                  exact rk_no (show ¬ (sz (rdc (xs t) P) < sz (rdc (xs s) P) ∨ (sz (rdc (xs t) P) = sz (rdc (xs s) P) ∧ t < s)) by omega)
                refine xgo O Rt xplX6_q xclX6_q [58, 70] 60 ?_
                simp (maxSteps := 10000000) (disch := omega) only [↓reduceIte, ↓xrun_s, ↓xck_e, xdo_e, xlg_0, xlg_c, xst1_0, xst1_1, xst1_c, xst2_0, xst2_1, xst2_c, xk2_n, xk2_i, xk2_a, xk2_l, xct_i, xct_a, xct_l, xf4_0, xf4_1, xf4_2, xf4_3, List.contains_cons, List.contains_nil, Bool.or_false, Bool.false_or, Bool.or_self, Bool.true_or, Bool.or_true, cond_true, cond_false, List.set_cons_zero, List.set_cons_succ, List.length_cons, List.length_nil, true_and, and_true, xu_s, xu_u, xeqs, Nat.le_refl, not_true_eq_false, xq_10, xq_01, Int32.reduceAdd, Int32.reduceMul, Int32.reduceSub, Int32.reduceLE, Int32.reduceLT, Int32.reduceToNatClampNeg, Nat.reduceAdd, Nat.reduceMul, Nat.reduceBEq, Nat.reduceLT, Nat.reduceLeDiff, Nat.reduceEqDiff, Nat.zero_add, Bool.false_eq_true, reduceCtorEq, if_false, if_true, not_false_eq_true, true_imp_iff, false_imp_iff, imp_self, ↓xil_e, ↓xll_e, ↓xal_e, ↓xs1i_e, ↓xs2i_e, ↓xs1l_e, ↓xs2l_e, ↓xsil_e, ↓xs1_e, ↓xs2_e, ↓xs1a_e, ↓xsia_e, ↓xsiia_e, ↓xslia_e, ↓xsaia_e, ↓xsva_e, ↓xse1i_e, ↓xse1l_e, ↓xse1a_e, ↓xse0_e, ↓xfv_0, ↓xfv_c, ↓xgf_e, ↓xpf_e, ↓xia_e, ↓xia_n, ↓xba_e, ↓xba_n, ↓xla_e, ↓xla_n, ↓xob_e, ↓xra_e, ↓xno_e, ↓xle_e, ↓xnr_i, ↓xnr_b0, ↓xnr_b1, ↓xnr_n, ↓xdo_e, ↓xkl_0, ↓xe_iconst, ↓xe_bipush, ↓xe_iadd, ↓xe_imul, ↓xe_iload, ↓xe_iload_n, ↓xe_aload_n, ↓xe_istore, ↓xe_istore_n, ↓xe_iinc, ↓xe_goto, ↓xe_getfield, ↓xe_iaload, ↓xe_iastore, ↓xe_return_, ↓xe_if_ne, ↓xe_icmp_ne, ↓xe_if_lt, ↓xe_icmp_ge, ↓xe_invokevirtual, dX6_orderAll_0, dX6_orderAll_1, dX6_orderAll_2, dX6_orderAll_3, dX6_orderAll_4, dX6_orderAll_7, dX6_orderAll_10, dX6_orderAll_11, dX6_orderAll_12, dX6_orderAll_13, dX6_orderAll_16, dX6_orderAll_19, dX6_orderAll_20, dX6_orderAll_21, dX6_orderAll_22, dX6_orderAll_24, dX6_orderAll_27, dX6_orderAll_28, dX6_orderAll_31, dX6_orderAll_33, dX6_orderAll_34, dX6_orderAll_35, dX6_orderAll_36, dX6_orderAll_37, dX6_orderAll_38, dX6_orderAll_41, dX6_orderAll_42, dX6_orderAll_43, dX6_orderAll_44, dX6_orderAll_47, dX6_orderAll_50, dX6_orderAll_53, dX6_orderAll_56, dX6_orderAll_57, dX6_orderAll_58, dX6_orderAll_59, dX6_orderAll_60, dX6_orderAll_63, dX6_orderAll_66, dX6_orderAll_67, dX6_orderAll_68, dX6_orderAll_69, dX6_orderAll_70, dX6_orderAll_71, dX6_orderAll_72, dX6_orderAll_75, dX6_orderAll_78, dX6_orderAll_79, dX6_orderAll_80, dX6_orderAll_83, dX6_orderAll_84, dX6_orderAll_87, dX6_orderAll_88, dX6_orderAll_89, dX6_orderAll_90, dX6_orderAll_93, dX6_orderAll_95, dX6_orderAll_96, dX6_orderAll_98, dX6_orderAll_101, dX6_orderAll_103, dX6_orderAll_106, dX6_orderAll_107, dX6_orderAll_108, dX6_orderAll_111, dX6_orderAll_112, dX6_orderAll_115, dX6_orderAll_116, dX6_orderAll_117, dX6_orderAll_118, dX6_orderAll_121, dX6_orderAll_124, dX6_orderAll_125, dX6_orderAll_128, dX6_orderAll_129, dX6_orderAll_130, dX6_orderAll_131, dX6_orderAll_134, dX6_orderAll_137, xpX6_30, xpX6_49, xpX6_58, xpX6_61, xkb_6, xki_0, xki_1, c1, c2, n00, nt1, xt_7_49, xtc_7_49, xt_24_26, xtc_24_26, xt_47_m26, xtc_47_m26, xt_53_m51, xtc_53_m51, xt_63_74, xtc_63_74, xt_75_49, xtc_75_49, xt_80_7, xtc_80_7, xt_84_9, xtc_84_9, xt_98_13, xtc_98_13, xt_103_12, xtc_103_12, xt_108_7, xtc_108_7, xt_112_4, xtc_112_4, xt_121_m51, xtc_121_m51, xt_134_m76, xtc_134_m76]
                have := ih2 (t + 1) (by omega) f3 (some (.int r)) k3 q3
                rw [hr] at this
                exact this
      refine xgo O Rt xplX6_q xclX6_q [70] 40 ?_
      simp (maxSteps := 10000000) (disch := omega) only [↓reduceIte, ↓xrun_s, ↓xck_e, xdo_e, xlg_0, xlg_c, xst1_0, xst1_1, xst1_c, xst2_0, xst2_1, xst2_c, xk2_n, xk2_i, xk2_a, xk2_l, xct_i, xct_a, xct_l, xf4_0, xf4_1, xf4_2, xf4_3, List.contains_cons, List.contains_nil, Bool.or_false, Bool.false_or, Bool.or_self, Bool.true_or, Bool.or_true, cond_true, cond_false, List.set_cons_zero, List.set_cons_succ, List.length_cons, List.length_nil, true_and, and_true, xu_s, xu_u, xeqs, Nat.le_refl, not_true_eq_false, xq_10, xq_01, Int32.reduceAdd, Int32.reduceMul, Int32.reduceSub, Int32.reduceLE, Int32.reduceLT, Int32.reduceToNatClampNeg, Nat.reduceAdd, Nat.reduceMul, Nat.reduceBEq, Nat.reduceLT, Nat.reduceLeDiff, Nat.reduceEqDiff, Nat.zero_add, Bool.false_eq_true, reduceCtorEq, if_false, if_true, not_false_eq_true, true_imp_iff, false_imp_iff, imp_self, ↓xil_e, ↓xll_e, ↓xal_e, ↓xs1i_e, ↓xs2i_e, ↓xs1l_e, ↓xs2l_e, ↓xsil_e, ↓xs1_e, ↓xs2_e, ↓xs1a_e, ↓xsia_e, ↓xsiia_e, ↓xslia_e, ↓xsaia_e, ↓xsva_e, ↓xse1i_e, ↓xse1l_e, ↓xse1a_e, ↓xse0_e, ↓xfv_0, ↓xfv_c, ↓xgf_e, ↓xpf_e, ↓xia_e, ↓xia_n, ↓xba_e, ↓xba_n, ↓xla_e, ↓xla_n, ↓xob_e, ↓xra_e, ↓xno_e, ↓xle_e, ↓xnr_i, ↓xnr_b0, ↓xnr_b1, ↓xnr_n, ↓xdo_e, ↓xkl_0, ↓xe_iconst, ↓xe_bipush, ↓xe_iadd, ↓xe_imul, ↓xe_iload, ↓xe_iload_n, ↓xe_aload_n, ↓xe_istore, ↓xe_istore_n, ↓xe_iinc, ↓xe_goto, ↓xe_getfield, ↓xe_iaload, ↓xe_iastore, ↓xe_return_, ↓xe_if_ne, ↓xe_icmp_ne, ↓xe_if_lt, ↓xe_icmp_ge, ↓xe_invokevirtual, dX6_orderAll_0, dX6_orderAll_1, dX6_orderAll_2, dX6_orderAll_3, dX6_orderAll_4, dX6_orderAll_7, dX6_orderAll_10, dX6_orderAll_11, dX6_orderAll_12, dX6_orderAll_13, dX6_orderAll_16, dX6_orderAll_19, dX6_orderAll_20, dX6_orderAll_21, dX6_orderAll_22, dX6_orderAll_24, dX6_orderAll_27, dX6_orderAll_28, dX6_orderAll_31, dX6_orderAll_33, dX6_orderAll_34, dX6_orderAll_35, dX6_orderAll_36, dX6_orderAll_37, dX6_orderAll_38, dX6_orderAll_41, dX6_orderAll_42, dX6_orderAll_43, dX6_orderAll_44, dX6_orderAll_47, dX6_orderAll_50, dX6_orderAll_53, dX6_orderAll_56, dX6_orderAll_57, dX6_orderAll_58, dX6_orderAll_59, dX6_orderAll_60, dX6_orderAll_63, dX6_orderAll_66, dX6_orderAll_67, dX6_orderAll_68, dX6_orderAll_69, dX6_orderAll_70, dX6_orderAll_71, dX6_orderAll_72, dX6_orderAll_75, dX6_orderAll_78, dX6_orderAll_79, dX6_orderAll_80, dX6_orderAll_83, dX6_orderAll_84, dX6_orderAll_87, dX6_orderAll_88, dX6_orderAll_89, dX6_orderAll_90, dX6_orderAll_93, dX6_orderAll_95, dX6_orderAll_96, dX6_orderAll_98, dX6_orderAll_101, dX6_orderAll_103, dX6_orderAll_106, dX6_orderAll_107, dX6_orderAll_108, dX6_orderAll_111, dX6_orderAll_112, dX6_orderAll_115, dX6_orderAll_116, dX6_orderAll_117, dX6_orderAll_118, dX6_orderAll_121, dX6_orderAll_124, dX6_orderAll_125, dX6_orderAll_128, dX6_orderAll_129, dX6_orderAll_130, dX6_orderAll_131, dX6_orderAll_134, dX6_orderAll_137, xpX6_30, xpX6_49, xpX6_58, xpX6_61, xkb_6, xki_0, xki_1, g6, n_le, hci, hsi, cF, xt_7_49, xtc_7_49, xt_24_26, xtc_24_26, xt_47_m26, xtc_47_m26, xt_53_m51, xtc_53_m51, xt_63_74, xtc_63_74, xt_75_49, xtc_75_49, xt_80_7, xtc_80_7, xt_84_9, xtc_84_9, xt_98_13, xtc_98_13, xt_103_12, xtc_103_12, xt_108_7, xtc_108_7, xt_112_4, xtc_112_4, xt_121_m51, xtc_121_m51, xt_134_m76, xtc_134_m76]
      exact loopC c 0 (by omega) f' _ (fun _ _ => rfl) hS'.1
  have loopA : ∀ m s : Nat, s + m = c → ∀ f' (g : Nat → Int32) u2, (∀ q, q < v + 6 ∨ v + 17 ≤ q → f' q = f q) → RfS f' v → f' (v + 12) = some (xI 150 g) → (∀ j k, j < s → k < 6 → (g (6 * j + k)).toInt = rds xs P j k) → xG X 2 [some (.ref v), some (.int (nI s)), u2, none, none] [] f' (z, 0, 0) := by
    intro m
    induction m with
    | zero =>
      intro s hs f' g u2 k1 hS' hg hg2
      have : s = c := by omega
      subst this
      have g6 : f' v = some (x6 v i3 i4 (nI s) i14 i15 i16 i17 i18 i19 i21 i22) := by rw [k1 _ (by omega)]; exact h6
      have cT : ((s : Int) ≤ (s : Int)) = True := eq_true (Int.le_refl _)
      obtain ⟨og, hog⟩ := hS'.2 13 (by omega) (by omega)
      refine xgo O Rt xplX6_q xclX6_q [2, 21, 58] 30 ?_
      simp (maxSteps := 10000000) (disch := omega) only [↓reduceIte, ↓xrun_s, ↓xck_e, xdo_e, xlg_0, xlg_c, xst1_0, xst1_1, xst1_c, xst2_0, xst2_1, xst2_c, xk2_n, xk2_i, xk2_a, xk2_l, xct_i, xct_a, xct_l, xf4_0, xf4_1, xf4_2, xf4_3, List.contains_cons, List.contains_nil, Bool.or_false, Bool.false_or, Bool.or_self, Bool.true_or, Bool.or_true, cond_true, cond_false, List.set_cons_zero, List.set_cons_succ, List.length_cons, List.length_nil, true_and, and_true, xu_s, xu_u, xeqs, Nat.le_refl, not_true_eq_false, xq_10, xq_01, Int32.reduceAdd, Int32.reduceMul, Int32.reduceSub, Int32.reduceLE, Int32.reduceLT, Int32.reduceToNatClampNeg, Nat.reduceAdd, Nat.reduceMul, Nat.reduceBEq, Nat.reduceLT, Nat.reduceLeDiff, Nat.reduceEqDiff, Nat.zero_add, Bool.false_eq_true, reduceCtorEq, if_false, if_true, not_false_eq_true, true_imp_iff, false_imp_iff, imp_self, ↓xil_e, ↓xll_e, ↓xal_e, ↓xs1i_e, ↓xs2i_e, ↓xs1l_e, ↓xs2l_e, ↓xsil_e, ↓xs1_e, ↓xs2_e, ↓xs1a_e, ↓xsia_e, ↓xsiia_e, ↓xslia_e, ↓xsaia_e, ↓xsva_e, ↓xse1i_e, ↓xse1l_e, ↓xse1a_e, ↓xse0_e, ↓xfv_0, ↓xfv_c, ↓xgf_e, ↓xpf_e, ↓xia_e, ↓xia_n, ↓xba_e, ↓xba_n, ↓xla_e, ↓xla_n, ↓xob_e, ↓xra_e, ↓xno_e, ↓xle_e, ↓xnr_i, ↓xnr_b0, ↓xnr_b1, ↓xnr_n, ↓xdo_e, ↓xkl_0, ↓xe_iconst, ↓xe_bipush, ↓xe_iadd, ↓xe_imul, ↓xe_iload, ↓xe_iload_n, ↓xe_aload_n, ↓xe_istore, ↓xe_istore_n, ↓xe_iinc, ↓xe_goto, ↓xe_getfield, ↓xe_iaload, ↓xe_iastore, ↓xe_return_, ↓xe_if_ne, ↓xe_icmp_ne, ↓xe_if_lt, ↓xe_icmp_ge, ↓xe_invokevirtual, dX6_orderAll_0, dX6_orderAll_1, dX6_orderAll_2, dX6_orderAll_3, dX6_orderAll_4, dX6_orderAll_7, dX6_orderAll_10, dX6_orderAll_11, dX6_orderAll_12, dX6_orderAll_13, dX6_orderAll_16, dX6_orderAll_19, dX6_orderAll_20, dX6_orderAll_21, dX6_orderAll_22, dX6_orderAll_24, dX6_orderAll_27, dX6_orderAll_28, dX6_orderAll_31, dX6_orderAll_33, dX6_orderAll_34, dX6_orderAll_35, dX6_orderAll_36, dX6_orderAll_37, dX6_orderAll_38, dX6_orderAll_41, dX6_orderAll_42, dX6_orderAll_43, dX6_orderAll_44, dX6_orderAll_47, dX6_orderAll_50, dX6_orderAll_53, dX6_orderAll_56, dX6_orderAll_57, dX6_orderAll_58, dX6_orderAll_59, dX6_orderAll_60, dX6_orderAll_63, dX6_orderAll_66, dX6_orderAll_67, dX6_orderAll_68, dX6_orderAll_69, dX6_orderAll_70, dX6_orderAll_71, dX6_orderAll_72, dX6_orderAll_75, dX6_orderAll_78, dX6_orderAll_79, dX6_orderAll_80, dX6_orderAll_83, dX6_orderAll_84, dX6_orderAll_87, dX6_orderAll_88, dX6_orderAll_89, dX6_orderAll_90, dX6_orderAll_93, dX6_orderAll_95, dX6_orderAll_96, dX6_orderAll_98, dX6_orderAll_101, dX6_orderAll_103, dX6_orderAll_106, dX6_orderAll_107, dX6_orderAll_108, dX6_orderAll_111, dX6_orderAll_112, dX6_orderAll_115, dX6_orderAll_116, dX6_orderAll_117, dX6_orderAll_118, dX6_orderAll_121, dX6_orderAll_124, dX6_orderAll_125, dX6_orderAll_128, dX6_orderAll_129, dX6_orderAll_130, dX6_orderAll_131, dX6_orderAll_134, dX6_orderAll_137, xpX6_30, xpX6_49, xpX6_58, xpX6_61, xkb_6, xki_0, xki_1, g6, n_le, hci, cT, xt_7_49, xtc_7_49, xt_24_26, xtc_24_26, xt_47_m26, xtc_47_m26, xt_53_m51, xtc_53_m51, xt_63_74, xtc_63_74, xt_75_49, xtc_75_49, xt_80_7, xtc_80_7, xt_84_9, xtc_84_9, xt_98_13, xtc_98_13, xt_103_12, xtc_103_12, xt_108_7, xtc_108_7, xt_112_4, xtc_112_4, xt_121_m51, xtc_121_m51, xt_134_m76, xtc_134_m76]
      exact loopB s 0 (by omega) f' og _ _ _ k1 hS' ⟨g, hg, hg2⟩ hog (fun j hj => absurd hj (by omega))
    | succ m ih =>
      intro s hs f' g u2 k1 hS' hg hg2
      have hsc : s < c := by omega
      have g6 : f' v = some (x6 v i3 i4 (nI c) i14 i15 i16 i17 i18 i19 i21 i22) := by rw [k1 _ (by omega)]; exact h6
      have hsi : (nI s).toInt = (s : Int) := nI_int (by omega)
      have ns : nI s + 1 = nI (s + 1) := nI_1 s
      have cF : ((c : Int) ≤ (s : Int)) = False := eq_false (by omega)
      refine xgo O Rt xplX6_q xclX6_q [2, 21, 58] 40 ?_
      simp (maxSteps := 10000000) (disch := omega) only [↓reduceIte, ↓xrun_s, ↓xck_e, xdo_e, xlg_0, xlg_c, xst1_0, xst1_1, xst1_c, xst2_0, xst2_1, xst2_c, xk2_n, xk2_i, xk2_a, xk2_l, xct_i, xct_a, xct_l, xf4_0, xf4_1, xf4_2, xf4_3, List.contains_cons, List.contains_nil, Bool.or_false, Bool.false_or, Bool.or_self, Bool.true_or, Bool.or_true, cond_true, cond_false, List.set_cons_zero, List.set_cons_succ, List.length_cons, List.length_nil, true_and, and_true, xu_s, xu_u, xeqs, Nat.le_refl, not_true_eq_false, xq_10, xq_01, Int32.reduceAdd, Int32.reduceMul, Int32.reduceSub, Int32.reduceLE, Int32.reduceLT, Int32.reduceToNatClampNeg, Nat.reduceAdd, Nat.reduceMul, Nat.reduceBEq, Nat.reduceLT, Nat.reduceLeDiff, Nat.reduceEqDiff, Nat.zero_add, Bool.false_eq_true, reduceCtorEq, if_false, if_true, not_false_eq_true, true_imp_iff, false_imp_iff, imp_self, ↓xil_e, ↓xll_e, ↓xal_e, ↓xs1i_e, ↓xs2i_e, ↓xs1l_e, ↓xs2l_e, ↓xsil_e, ↓xs1_e, ↓xs2_e, ↓xs1a_e, ↓xsia_e, ↓xsiia_e, ↓xslia_e, ↓xsaia_e, ↓xsva_e, ↓xse1i_e, ↓xse1l_e, ↓xse1a_e, ↓xse0_e, ↓xfv_0, ↓xfv_c, ↓xgf_e, ↓xpf_e, ↓xia_e, ↓xia_n, ↓xba_e, ↓xba_n, ↓xla_e, ↓xla_n, ↓xob_e, ↓xra_e, ↓xno_e, ↓xle_e, ↓xnr_i, ↓xnr_b0, ↓xnr_b1, ↓xnr_n, ↓xdo_e, ↓xkl_0, ↓xe_iconst, ↓xe_bipush, ↓xe_iadd, ↓xe_imul, ↓xe_iload, ↓xe_iload_n, ↓xe_aload_n, ↓xe_istore, ↓xe_istore_n, ↓xe_iinc, ↓xe_goto, ↓xe_getfield, ↓xe_iaload, ↓xe_iastore, ↓xe_return_, ↓xe_if_ne, ↓xe_icmp_ne, ↓xe_if_lt, ↓xe_icmp_ge, ↓xe_invokevirtual, dX6_orderAll_0, dX6_orderAll_1, dX6_orderAll_2, dX6_orderAll_3, dX6_orderAll_4, dX6_orderAll_7, dX6_orderAll_10, dX6_orderAll_11, dX6_orderAll_12, dX6_orderAll_13, dX6_orderAll_16, dX6_orderAll_19, dX6_orderAll_20, dX6_orderAll_21, dX6_orderAll_22, dX6_orderAll_24, dX6_orderAll_27, dX6_orderAll_28, dX6_orderAll_31, dX6_orderAll_33, dX6_orderAll_34, dX6_orderAll_35, dX6_orderAll_36, dX6_orderAll_37, dX6_orderAll_38, dX6_orderAll_41, dX6_orderAll_42, dX6_orderAll_43, dX6_orderAll_44, dX6_orderAll_47, dX6_orderAll_50, dX6_orderAll_53, dX6_orderAll_56, dX6_orderAll_57, dX6_orderAll_58, dX6_orderAll_59, dX6_orderAll_60, dX6_orderAll_63, dX6_orderAll_66, dX6_orderAll_67, dX6_orderAll_68, dX6_orderAll_69, dX6_orderAll_70, dX6_orderAll_71, dX6_orderAll_72, dX6_orderAll_75, dX6_orderAll_78, dX6_orderAll_79, dX6_orderAll_80, dX6_orderAll_83, dX6_orderAll_84, dX6_orderAll_87, dX6_orderAll_88, dX6_orderAll_89, dX6_orderAll_90, dX6_orderAll_93, dX6_orderAll_95, dX6_orderAll_96, dX6_orderAll_98, dX6_orderAll_101, dX6_orderAll_103, dX6_orderAll_106, dX6_orderAll_107, dX6_orderAll_108, dX6_orderAll_111, dX6_orderAll_112, dX6_orderAll_115, dX6_orderAll_116, dX6_orderAll_117, dX6_orderAll_118, dX6_orderAll_121, dX6_orderAll_124, dX6_orderAll_125, dX6_orderAll_128, dX6_orderAll_129, dX6_orderAll_130, dX6_orderAll_131, dX6_orderAll_134, dX6_orderAll_137, xpX6_30, xpX6_49, xpX6_58, xpX6_61, xkb_6, xki_0, xki_1, g6, n_le, hci, hsi, cF, xt_7_49, xtc_7_49, xt_24_26, xtc_24_26, xt_47_m26, xtc_47_m26, xt_53_m51, xtc_53_m51, xt_63_74, xtc_63_74, xt_75_49, xtc_75_49, xt_80_7, xtc_80_7, xt_84_9, xtc_84_9, xt_98_13, xtc_98_13, xt_103_12, xtc_103_12, xt_108_7, xtc_108_7, xt_112_4, xtc_112_4, xt_121_m51, xtc_121_m51, xt_134_m76, xtc_134_m76]
      refine xg_callVv (Qp := fun f2 => (∀ q, q < v + 6 ∨ v + 10 ≤ q → f2 q = f' q) ∧ Scr f2 v ∧ E6 f2 (v + 9) (rdc (xs s) P)) O dX6_orderAll_16 xl_X6_164 xk_X6_reduced (c6_reduced _ g6 (hC.kept (k1 _ (by omega)) (k1 _ (by omega))) hS'.1 (hX.kept (k1 _ (by omega))) (hP.kept (k1 _ (by omega))) (hS'.2 9 (by omega) (by omega)) hc hsc (hb s hsc) hper (hq s hsc) (fun f' q1 q2 q3 => ⟨rfl, ⟨q1, q2, q3⟩, rfl⟩)) g6 rfl rfl rfl (Nat.le_of_ble_eq_true rfl) rfl (Nat.le_of_ble_eq_true rfl) (Nat.le_of_ble_eq_true rfl) (Nat.le_of_ble_eq_true rfl) (fun f2 hq => ?_)
      rename_i hq0
      obtain ⟨q1, q2, q3⟩ := hq
      have g62 : f2 v = some (x6 v i3 i4 (nI c) i14 i15 i16 i17 i18 i19 i21 i22) := by rw [q1 _ (by omega)]; exact g6
      have hg' : f2 (v + 12) = some (xI 150 g) := by rw [q1 _ (by omega)]; exact hg
      have hS2 : RfS f2 v := hS'.upd q2 (fun i a b => by
        by_cases e : i = 9
        · subst e; exact Or.inr q3.i
        · exact Or.inl (q1 _ (by omega)))
      obtain ⟨ev, e1, e2⟩ := id q3
      have loopK : ∀ m k : Nat, k + m = 6 → ∀ g' : Nat → Int32, (∀ j q, j < s → q < 6 → (g' (6 * j + q)).toInt = rds xs P j q) → (∀ q, q < k → (g' (6 * s + q)).toInt = rds xs P s q) → xG X 21 [some (.ref v), some (.int (nI s)), some (.int (nI k)), none, none] [] (xu f2 (v + 12) (xI 150 g')) (z, 0, 0) := by
        intro m2
        induction m2 with
        | zero =>
          intro k hk g' hgA hgB
          have : k = 6 := by omega
          subst this
          have hti : (nI 6).toInt = 6 := rfl
          have cT : ((6 : Int) ≤ 6) = True := eq_true (Int.le_refl _)
          refine xgo O Rt xplX6_q xclX6_q [2, 21, 58] 40 ?_
          simp (maxSteps := 10000000) (disch := omega) only [↓reduceIte, ↓xrun_s, ↓xck_e, xdo_e, xlg_0, xlg_c, xst1_0, xst1_1, xst1_c, xst2_0, xst2_1, xst2_c, xk2_n, xk2_i, xk2_a, xk2_l, xct_i, xct_a, xct_l, xf4_0, xf4_1, xf4_2, xf4_3, List.contains_cons, List.contains_nil, Bool.or_false, Bool.false_or, Bool.or_self, Bool.true_or, Bool.or_true, cond_true, cond_false, List.set_cons_zero, List.set_cons_succ, List.length_cons, List.length_nil, true_and, and_true, xu_s, xu_u, xeqs, Nat.le_refl, not_true_eq_false, xq_10, xq_01, Int32.reduceAdd, Int32.reduceMul, Int32.reduceSub, Int32.reduceLE, Int32.reduceLT, Int32.reduceToNatClampNeg, Nat.reduceAdd, Nat.reduceMul, Nat.reduceBEq, Nat.reduceLT, Nat.reduceLeDiff, Nat.reduceEqDiff, Nat.zero_add, Bool.false_eq_true, reduceCtorEq, if_false, if_true, not_false_eq_true, true_imp_iff, false_imp_iff, imp_self, ↓xil_e, ↓xll_e, ↓xal_e, ↓xs1i_e, ↓xs2i_e, ↓xs1l_e, ↓xs2l_e, ↓xsil_e, ↓xs1_e, ↓xs2_e, ↓xs1a_e, ↓xsia_e, ↓xsiia_e, ↓xslia_e, ↓xsaia_e, ↓xsva_e, ↓xse1i_e, ↓xse1l_e, ↓xse1a_e, ↓xse0_e, ↓xfv_0, ↓xfv_c, ↓xgf_e, ↓xpf_e, ↓xia_e, ↓xia_n, ↓xba_e, ↓xba_n, ↓xla_e, ↓xla_n, ↓xob_e, ↓xra_e, ↓xno_e, ↓xle_e, ↓xnr_i, ↓xnr_b0, ↓xnr_b1, ↓xnr_n, ↓xdo_e, ↓xkl_0, ↓xe_iconst, ↓xe_bipush, ↓xe_iadd, ↓xe_imul, ↓xe_iload, ↓xe_iload_n, ↓xe_aload_n, ↓xe_istore, ↓xe_istore_n, ↓xe_iinc, ↓xe_goto, ↓xe_getfield, ↓xe_iaload, ↓xe_iastore, ↓xe_return_, ↓xe_if_ne, ↓xe_icmp_ne, ↓xe_if_lt, ↓xe_icmp_ge, ↓xe_invokevirtual, dX6_orderAll_0, dX6_orderAll_1, dX6_orderAll_2, dX6_orderAll_3, dX6_orderAll_4, dX6_orderAll_7, dX6_orderAll_10, dX6_orderAll_11, dX6_orderAll_12, dX6_orderAll_13, dX6_orderAll_16, dX6_orderAll_19, dX6_orderAll_20, dX6_orderAll_21, dX6_orderAll_22, dX6_orderAll_24, dX6_orderAll_27, dX6_orderAll_28, dX6_orderAll_31, dX6_orderAll_33, dX6_orderAll_34, dX6_orderAll_35, dX6_orderAll_36, dX6_orderAll_37, dX6_orderAll_38, dX6_orderAll_41, dX6_orderAll_42, dX6_orderAll_43, dX6_orderAll_44, dX6_orderAll_47, dX6_orderAll_50, dX6_orderAll_53, dX6_orderAll_56, dX6_orderAll_57, dX6_orderAll_58, dX6_orderAll_59, dX6_orderAll_60, dX6_orderAll_63, dX6_orderAll_66, dX6_orderAll_67, dX6_orderAll_68, dX6_orderAll_69, dX6_orderAll_70, dX6_orderAll_71, dX6_orderAll_72, dX6_orderAll_75, dX6_orderAll_78, dX6_orderAll_79, dX6_orderAll_80, dX6_orderAll_83, dX6_orderAll_84, dX6_orderAll_87, dX6_orderAll_88, dX6_orderAll_89, dX6_orderAll_90, dX6_orderAll_93, dX6_orderAll_95, dX6_orderAll_96, dX6_orderAll_98, dX6_orderAll_101, dX6_orderAll_103, dX6_orderAll_106, dX6_orderAll_107, dX6_orderAll_108, dX6_orderAll_111, dX6_orderAll_112, dX6_orderAll_115, dX6_orderAll_116, dX6_orderAll_117, dX6_orderAll_118, dX6_orderAll_121, dX6_orderAll_124, dX6_orderAll_125, dX6_orderAll_128, dX6_orderAll_129, dX6_orderAll_130, dX6_orderAll_131, dX6_orderAll_134, dX6_orderAll_137, xpX6_30, xpX6_49, xpX6_58, xpX6_61, xkb_6, xki_0, xki_1, n_le, six, hti, cT, ns, xt_7_49, xtc_7_49, xt_24_26, xtc_24_26, xt_47_m26, xtc_47_m26, xt_53_m51, xtc_53_m51, xt_63_74, xtc_63_74, xt_75_49, xtc_75_49, xt_80_7, xtc_80_7, xt_84_9, xtc_84_9, xt_98_13, xtc_98_13, xt_103_12, xtc_103_12, xt_108_7, xtc_108_7, xt_112_4, xtc_112_4, xt_121_m51, xtc_121_m51, xt_134_m76, xtc_134_m76]
          refine ih (s + 1) (by omega) _ g' _ (fun q hq => by rw [xu_n (by omega), q1 _ (by omega)]; exact k1 q hq) (hS2.upd (q2.kept (fun q a b => xu_n (by omega))) (fun i a b => ?_)) (xu_s _ _ _) (fun j k hj hk => ?_)
          · by_cases e : i = 12
            · subst e; exact Or.inr ⟨_, xu_s _ _ _⟩
            · exact Or.inl (xu_n (by omega))
          · by_cases e : j = s
            · subst e; exact hgB k hk
            · exact hgA j k (by omega) hk
        | succ m2 ih2 =>
          intro k hk g' hgA hgB
          have hti : (nI k).toInt = (k : Int) := nI_int (by omega)
          have nk : nI k + 1 = nI (k + 1) := nI_1 k
          have v0 : vp_in (nI k) 6 := vp_in_nI (by omega) (by omega)
          have v1 : (nI k).toNatClampNeg = k := nI_clamp (by omega)
          have i1 : (6 : Int32) * nI s = nI (6 * s) := pk_mul 6 s
          have i2 : nI (6 * s) + nI k = nI (6 * s + k) := nI_add _ _
          have v2 : vp_in (nI (6 * s + k)) 150 := vp_in_nI (by omega) (by omega)
          have v3 : (nI (6 * s + k)).toNatClampNeg = 6 * s + k := nI_clamp (by omega)
          have hu : xu f2 (v + 12) (xI 150 g') v = some (x6 v i3 i4 (nI c) i14 i15 i16 i17 i18 i19 i21 i22) := by rw [xu_n (by omega)]; exact g62
          have hu1 : xu f2 (v + 12) (xI 150 g') (v + 9) = some (xI 6 ev) := by rw [xu_n (by omega)]; exact e1
          have cF2 : ((6 : Int) ≤ (k : Int)) = False := eq_false (by omega)
          refine xgo O Rt xplX6_q xclX6_q [2, 21, 58] 40 ?_
          simp (maxSteps := 10000000) (disch := omega) only [↓reduceIte, ↓xrun_s, ↓xck_e, xdo_e, xlg_0, xlg_c, xst1_0, xst1_1, xst1_c, xst2_0, xst2_1, xst2_c, xk2_n, xk2_i, xk2_a, xk2_l, xct_i, xct_a, xct_l, xf4_0, xf4_1, xf4_2, xf4_3, List.contains_cons, List.contains_nil, Bool.or_false, Bool.false_or, Bool.or_self, Bool.true_or, Bool.or_true, cond_true, cond_false, List.set_cons_zero, List.set_cons_succ, List.length_cons, List.length_nil, true_and, and_true, xu_s, xu_u, xeqs, Nat.le_refl, not_true_eq_false, xq_10, xq_01, Int32.reduceAdd, Int32.reduceMul, Int32.reduceSub, Int32.reduceLE, Int32.reduceLT, Int32.reduceToNatClampNeg, Nat.reduceAdd, Nat.reduceMul, Nat.reduceBEq, Nat.reduceLT, Nat.reduceLeDiff, Nat.reduceEqDiff, Nat.zero_add, Bool.false_eq_true, reduceCtorEq, if_false, if_true, not_false_eq_true, true_imp_iff, false_imp_iff, imp_self, ↓xil_e, ↓xll_e, ↓xal_e, ↓xs1i_e, ↓xs2i_e, ↓xs1l_e, ↓xs2l_e, ↓xsil_e, ↓xs1_e, ↓xs2_e, ↓xs1a_e, ↓xsia_e, ↓xsiia_e, ↓xslia_e, ↓xsaia_e, ↓xsva_e, ↓xse1i_e, ↓xse1l_e, ↓xse1a_e, ↓xse0_e, ↓xfv_0, ↓xfv_c, ↓xgf_e, ↓xpf_e, ↓xia_e, ↓xia_n, ↓xba_e, ↓xba_n, ↓xla_e, ↓xla_n, ↓xob_e, ↓xra_e, ↓xno_e, ↓xle_e, ↓xnr_i, ↓xnr_b0, ↓xnr_b1, ↓xnr_n, ↓xdo_e, ↓xkl_0, ↓xe_iconst, ↓xe_bipush, ↓xe_iadd, ↓xe_imul, ↓xe_iload, ↓xe_iload_n, ↓xe_aload_n, ↓xe_istore, ↓xe_istore_n, ↓xe_iinc, ↓xe_goto, ↓xe_getfield, ↓xe_iaload, ↓xe_iastore, ↓xe_return_, ↓xe_if_ne, ↓xe_icmp_ne, ↓xe_if_lt, ↓xe_icmp_ge, ↓xe_invokevirtual, dX6_orderAll_0, dX6_orderAll_1, dX6_orderAll_2, dX6_orderAll_3, dX6_orderAll_4, dX6_orderAll_7, dX6_orderAll_10, dX6_orderAll_11, dX6_orderAll_12, dX6_orderAll_13, dX6_orderAll_16, dX6_orderAll_19, dX6_orderAll_20, dX6_orderAll_21, dX6_orderAll_22, dX6_orderAll_24, dX6_orderAll_27, dX6_orderAll_28, dX6_orderAll_31, dX6_orderAll_33, dX6_orderAll_34, dX6_orderAll_35, dX6_orderAll_36, dX6_orderAll_37, dX6_orderAll_38, dX6_orderAll_41, dX6_orderAll_42, dX6_orderAll_43, dX6_orderAll_44, dX6_orderAll_47, dX6_orderAll_50, dX6_orderAll_53, dX6_orderAll_56, dX6_orderAll_57, dX6_orderAll_58, dX6_orderAll_59, dX6_orderAll_60, dX6_orderAll_63, dX6_orderAll_66, dX6_orderAll_67, dX6_orderAll_68, dX6_orderAll_69, dX6_orderAll_70, dX6_orderAll_71, dX6_orderAll_72, dX6_orderAll_75, dX6_orderAll_78, dX6_orderAll_79, dX6_orderAll_80, dX6_orderAll_83, dX6_orderAll_84, dX6_orderAll_87, dX6_orderAll_88, dX6_orderAll_89, dX6_orderAll_90, dX6_orderAll_93, dX6_orderAll_95, dX6_orderAll_96, dX6_orderAll_98, dX6_orderAll_101, dX6_orderAll_103, dX6_orderAll_106, dX6_orderAll_107, dX6_orderAll_108, dX6_orderAll_111, dX6_orderAll_112, dX6_orderAll_115, dX6_orderAll_116, dX6_orderAll_117, dX6_orderAll_118, dX6_orderAll_121, dX6_orderAll_124, dX6_orderAll_125, dX6_orderAll_128, dX6_orderAll_129, dX6_orderAll_130, dX6_orderAll_131, dX6_orderAll_134, dX6_orderAll_137, xpX6_30, xpX6_49, xpX6_58, xpX6_61, xkb_6, xki_0, xki_1, n_le, six, hti, cF2, hu, hu1, i1, i2, v0, v1, v2, v3, nk, xt_7_49, xtc_7_49, xt_24_26, xtc_24_26, xt_47_m26, xtc_47_m26, xt_53_m51, xtc_53_m51, xt_63_74, xtc_63_74, xt_75_49, xtc_75_49, xt_80_7, xtc_80_7, xt_84_9, xtc_84_9, xt_98_13, xtc_98_13, xt_103_12, xtc_103_12, xt_108_7, xtc_108_7, xt_112_4, xtc_112_4, xt_121_m51, xtc_121_m51, xt_134_m76, xtc_134_m76]
          refine ih2 (k + 1) (by omega) _ (fun j q hj hq => ?_) (fun q hq => ?_)
          · simp only [upd]
            rw [if_neg (by omega)]
            exact hgA j q hj hq
          · simp only [upd]
            by_cases e : q = k
            · subst e; rw [if_pos rfl]; exact e2 q (by omega)
            · rw [if_neg (by omega)]; exact hgB q (by omega)
      have := loopK 6 0 (by omega) g hg2 (fun q hq => absurd hq (by omega))
      rw [xu_id hg'] at this
      refine xgo O Rt xplX6_q xclX6_q [2, 21, 58] 40 ?_
      simp (maxSteps := 10000000) (disch := omega) only [↓reduceIte, ↓xrun_s, ↓xck_e, xdo_e, xlg_0, xlg_c, xst1_0, xst1_1, xst1_c, xst2_0, xst2_1, xst2_c, xk2_n, xk2_i, xk2_a, xk2_l, xct_i, xct_a, xct_l, xf4_0, xf4_1, xf4_2, xf4_3, List.contains_cons, List.contains_nil, Bool.or_false, Bool.false_or, Bool.or_self, Bool.true_or, Bool.or_true, cond_true, cond_false, List.set_cons_zero, List.set_cons_succ, List.length_cons, List.length_nil, true_and, and_true, xu_s, xu_u, xeqs, Nat.le_refl, not_true_eq_false, xq_10, xq_01, Int32.reduceAdd, Int32.reduceMul, Int32.reduceSub, Int32.reduceLE, Int32.reduceLT, Int32.reduceToNatClampNeg, Nat.reduceAdd, Nat.reduceMul, Nat.reduceBEq, Nat.reduceLT, Nat.reduceLeDiff, Nat.reduceEqDiff, Nat.zero_add, Bool.false_eq_true, reduceCtorEq, if_false, if_true, not_false_eq_true, true_imp_iff, false_imp_iff, imp_self, ↓xil_e, ↓xll_e, ↓xal_e, ↓xs1i_e, ↓xs2i_e, ↓xs1l_e, ↓xs2l_e, ↓xsil_e, ↓xs1_e, ↓xs2_e, ↓xs1a_e, ↓xsia_e, ↓xsiia_e, ↓xslia_e, ↓xsaia_e, ↓xsva_e, ↓xse1i_e, ↓xse1l_e, ↓xse1a_e, ↓xse0_e, ↓xfv_0, ↓xfv_c, ↓xgf_e, ↓xpf_e, ↓xia_e, ↓xia_n, ↓xba_e, ↓xba_n, ↓xla_e, ↓xla_n, ↓xob_e, ↓xra_e, ↓xno_e, ↓xle_e, ↓xnr_i, ↓xnr_b0, ↓xnr_b1, ↓xnr_n, ↓xdo_e, ↓xkl_0, ↓xe_iconst, ↓xe_bipush, ↓xe_iadd, ↓xe_imul, ↓xe_iload, ↓xe_iload_n, ↓xe_aload_n, ↓xe_istore, ↓xe_istore_n, ↓xe_iinc, ↓xe_goto, ↓xe_getfield, ↓xe_iaload, ↓xe_iastore, ↓xe_return_, ↓xe_if_ne, ↓xe_icmp_ne, ↓xe_if_lt, ↓xe_icmp_ge, ↓xe_invokevirtual, dX6_orderAll_0, dX6_orderAll_1, dX6_orderAll_2, dX6_orderAll_3, dX6_orderAll_4, dX6_orderAll_7, dX6_orderAll_10, dX6_orderAll_11, dX6_orderAll_12, dX6_orderAll_13, dX6_orderAll_16, dX6_orderAll_19, dX6_orderAll_20, dX6_orderAll_21, dX6_orderAll_22, dX6_orderAll_24, dX6_orderAll_27, dX6_orderAll_28, dX6_orderAll_31, dX6_orderAll_33, dX6_orderAll_34, dX6_orderAll_35, dX6_orderAll_36, dX6_orderAll_37, dX6_orderAll_38, dX6_orderAll_41, dX6_orderAll_42, dX6_orderAll_43, dX6_orderAll_44, dX6_orderAll_47, dX6_orderAll_50, dX6_orderAll_53, dX6_orderAll_56, dX6_orderAll_57, dX6_orderAll_58, dX6_orderAll_59, dX6_orderAll_60, dX6_orderAll_63, dX6_orderAll_66, dX6_orderAll_67, dX6_orderAll_68, dX6_orderAll_69, dX6_orderAll_70, dX6_orderAll_71, dX6_orderAll_72, dX6_orderAll_75, dX6_orderAll_78, dX6_orderAll_79, dX6_orderAll_80, dX6_orderAll_83, dX6_orderAll_84, dX6_orderAll_87, dX6_orderAll_88, dX6_orderAll_89, dX6_orderAll_90, dX6_orderAll_93, dX6_orderAll_95, dX6_orderAll_96, dX6_orderAll_98, dX6_orderAll_101, dX6_orderAll_103, dX6_orderAll_106, dX6_orderAll_107, dX6_orderAll_108, dX6_orderAll_111, dX6_orderAll_112, dX6_orderAll_115, dX6_orderAll_116, dX6_orderAll_117, dX6_orderAll_118, dX6_orderAll_121, dX6_orderAll_124, dX6_orderAll_125, dX6_orderAll_128, dX6_orderAll_129, dX6_orderAll_130, dX6_orderAll_131, dX6_orderAll_134, dX6_orderAll_137, xpX6_30, xpX6_49, xpX6_58, xpX6_61, xkb_6, xki_0, xki_1, xt_7_49, xtc_7_49, xt_24_26, xtc_24_26, xt_47_m26, xtc_47_m26, xt_53_m51, xtc_53_m51, xt_63_74, xtc_63_74, xt_75_49, xtc_75_49, xt_80_7, xtc_80_7, xt_84_9, xtc_84_9, xt_98_13, xtc_98_13, xt_103_12, xtc_103_12, xt_108_7, xtc_108_7, xt_112_4, xtc_112_4, xt_121_m51, xtc_121_m51, xt_134_m76, xtc_134_m76]
      exact this
  obtain ⟨g0, hg0⟩ := hS.2 12 (by omega) (by omega)
  refine xgo O Rt xplX6_q xclX6_q [2, 21, 58] 40 ?_
  simp (maxSteps := 10000000) (disch := omega) only [↓reduceIte, ↓xrun_s, ↓xck_e, xdo_e, xlg_0, xlg_c, xst1_0, xst1_1, xst1_c, xst2_0, xst2_1, xst2_c, xk2_n, xk2_i, xk2_a, xk2_l, xct_i, xct_a, xct_l, xf4_0, xf4_1, xf4_2, xf4_3, List.contains_cons, List.contains_nil, Bool.or_false, Bool.false_or, Bool.or_self, Bool.true_or, Bool.or_true, cond_true, cond_false, List.set_cons_zero, List.set_cons_succ, List.length_cons, List.length_nil, true_and, and_true, xu_s, xu_u, xeqs, Nat.le_refl, not_true_eq_false, xq_10, xq_01, Int32.reduceAdd, Int32.reduceMul, Int32.reduceSub, Int32.reduceLE, Int32.reduceLT, Int32.reduceToNatClampNeg, Nat.reduceAdd, Nat.reduceMul, Nat.reduceBEq, Nat.reduceLT, Nat.reduceLeDiff, Nat.reduceEqDiff, Nat.zero_add, Bool.false_eq_true, reduceCtorEq, if_false, if_true, not_false_eq_true, true_imp_iff, false_imp_iff, imp_self, ↓xil_e, ↓xll_e, ↓xal_e, ↓xs1i_e, ↓xs2i_e, ↓xs1l_e, ↓xs2l_e, ↓xsil_e, ↓xs1_e, ↓xs2_e, ↓xs1a_e, ↓xsia_e, ↓xsiia_e, ↓xslia_e, ↓xsaia_e, ↓xsva_e, ↓xse1i_e, ↓xse1l_e, ↓xse1a_e, ↓xse0_e, ↓xfv_0, ↓xfv_c, ↓xgf_e, ↓xpf_e, ↓xia_e, ↓xia_n, ↓xba_e, ↓xba_n, ↓xla_e, ↓xla_n, ↓xob_e, ↓xra_e, ↓xno_e, ↓xle_e, ↓xnr_i, ↓xnr_b0, ↓xnr_b1, ↓xnr_n, ↓xdo_e, ↓xkl_0, ↓xe_iconst, ↓xe_bipush, ↓xe_iadd, ↓xe_imul, ↓xe_iload, ↓xe_iload_n, ↓xe_aload_n, ↓xe_istore, ↓xe_istore_n, ↓xe_iinc, ↓xe_goto, ↓xe_getfield, ↓xe_iaload, ↓xe_iastore, ↓xe_return_, ↓xe_if_ne, ↓xe_icmp_ne, ↓xe_if_lt, ↓xe_icmp_ge, ↓xe_invokevirtual, dX6_orderAll_0, dX6_orderAll_1, dX6_orderAll_2, dX6_orderAll_3, dX6_orderAll_4, dX6_orderAll_7, dX6_orderAll_10, dX6_orderAll_11, dX6_orderAll_12, dX6_orderAll_13, dX6_orderAll_16, dX6_orderAll_19, dX6_orderAll_20, dX6_orderAll_21, dX6_orderAll_22, dX6_orderAll_24, dX6_orderAll_27, dX6_orderAll_28, dX6_orderAll_31, dX6_orderAll_33, dX6_orderAll_34, dX6_orderAll_35, dX6_orderAll_36, dX6_orderAll_37, dX6_orderAll_38, dX6_orderAll_41, dX6_orderAll_42, dX6_orderAll_43, dX6_orderAll_44, dX6_orderAll_47, dX6_orderAll_50, dX6_orderAll_53, dX6_orderAll_56, dX6_orderAll_57, dX6_orderAll_58, dX6_orderAll_59, dX6_orderAll_60, dX6_orderAll_63, dX6_orderAll_66, dX6_orderAll_67, dX6_orderAll_68, dX6_orderAll_69, dX6_orderAll_70, dX6_orderAll_71, dX6_orderAll_72, dX6_orderAll_75, dX6_orderAll_78, dX6_orderAll_79, dX6_orderAll_80, dX6_orderAll_83, dX6_orderAll_84, dX6_orderAll_87, dX6_orderAll_88, dX6_orderAll_89, dX6_orderAll_90, dX6_orderAll_93, dX6_orderAll_95, dX6_orderAll_96, dX6_orderAll_98, dX6_orderAll_101, dX6_orderAll_103, dX6_orderAll_106, dX6_orderAll_107, dX6_orderAll_108, dX6_orderAll_111, dX6_orderAll_112, dX6_orderAll_115, dX6_orderAll_116, dX6_orderAll_117, dX6_orderAll_118, dX6_orderAll_121, dX6_orderAll_124, dX6_orderAll_125, dX6_orderAll_128, dX6_orderAll_129, dX6_orderAll_130, dX6_orderAll_131, dX6_orderAll_134, dX6_orderAll_137, xpX6_30, xpX6_49, xpX6_58, xpX6_61, xkb_6, xki_0, xki_1, xt_7_49, xtc_7_49, xt_24_26, xtc_24_26, xt_47_m26, xtc_47_m26, xt_53_m51, xtc_53_m51, xt_63_74, xtc_63_74, xt_75_49, xtc_75_49, xt_80_7, xtc_80_7, xt_84_9, xtc_84_9, xt_98_13, xtc_98_13, xt_103_12, xtc_103_12, xt_108_7, xtc_108_7, xt_112_4, xtc_112_4, xt_121_m51, xtc_121_m51, xt_134_m76, xtc_134_m76]
  exact loopA c 0 (by omega) f g0 none (fun _ _ => rfl) hS hg0 (fun j k hj => absurd hj (by omega))
