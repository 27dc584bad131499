theorem xgo {X : xC} {cc : ByteArray} {nL : Nat} {own : String} {hh mc ms : Nat} {ini : Bool} {pl : Nat → Option (Nat × Nat)} {cs : Nat → Option Value} {ret : Option FieldType} {post : Option Value → xH → Nat → Prop} {pc : Nat} {lo : List (Option Value)} {st : List Value} {f : xH} {y : Nat × Nat × Nat} (O : xO X cc nL own hh mc ms ini) (Rt : xRt X ret mc ms post) (hpl : ∀ i q, pl i = some q → xPoolOK own (i, q)) (hcs : ∀ i v, cs i = some v → xCstOK own (i, v)) (sp : List Nat) (n : Nat) (h : xrun X cc own ini pl cs ret mc ms post sp n pc lo st f y) : xG X pc lo st f y :=
  xrun_sound O hpl hcs (fun ty e => by rw [← e]; exact Rt) (fun e => by rw [← e]; exact Rt) sp n pc lo st f y h
theorem xf4_0 : ((0 : Fin 4) : Nat) = 0 := rfl
theorem xf4_1 : ((1 : Fin 4) : Nat) = 1 := rfl
theorem xf4_2 : ((2 : Fin 4) : Nat) = 2 := rfl
theorem xf4_3 : ((3 : Fin 4) : Nat) = 3 := rfl
theorem xst1_0 (u : Option Value) (l : List (Option Value)) (v : Value) : xst1 (u :: l) 0 v = some v :: l := rfl
theorem xst1_1 (u : Option Value) (l : List (Option Value)) (v : Value) : xst1 (u :: l) 1 v = xk2 u :: xst1 l 0 v := rfl
theorem xst1_c (u : Option Value) (l : List (Option Value)) (i : Nat) (v : Value) : xst1 (u :: l) (i + 2) v = u :: xst1 l (i + 1) v := rfl
theorem xst2_0 (u w : Option Value) (l : List (Option Value)) (v : Value) : xst2 (u :: w :: l) 0 v = some v :: none :: l := rfl
theorem xst2_1 (u w : Option Value) (l : List (Option Value)) (v : Value) : xst2 (u :: w :: l) 1 v = xk2 u :: xst2 (w :: l) 0 v := rfl
theorem xst2_c (u : Option Value) (l : List (Option Value)) (i : Nat) (v : Value) : xst2 (u :: l) (i + 2) v = u :: xst2 l (i + 1) v := by cases l <;> rfl
theorem xk2_n : xk2 none = none := rfl
theorem xk2_i (x : Int32) : xk2 (some (.int x)) = some (.int x) := rfl
theorem xk2_a (x : Nat) : xk2 (some (.ref x)) = some (.ref x) := rfl
theorem xk2_l (x : Int64) : xk2 (some (.long x)) = none := rfl
theorem xct_i (x : Int32) : (Value.int x).category = 1 := rfl
theorem xct_a (x : Nat) : (Value.ref x).category = 1 := rfl
theorem xct_l (x : Int64) : (Value.long x).category = 2 := rfl
theorem xeqs {α : Sort _} (a : α) : (a = a) = True := eq_self a
theorem xent_nil (n : Nat) : xent [] n = List.replicate n none := by
  simp [xent, lv_args, List.lookup]
  induction n with
  | zero => rfl
  | succ n ih => simp [List.range_succ, List.replicate_succ', ih]
theorem xq_10 : ((1 : Int32) = 0) = False := eq_false (by decide)
theorem xq_01 : ((0 : Int32) = 1) = False := eq_false (by decide)
theorem vin6_0 : vp_in 0 6 = True := eq_true (by unfold vp_in; decide)
theorem vin6_1 : vp_in 1 6 = True := eq_true (by unfold vp_in; decide)
theorem vin6_2 : vp_in 2 6 = True := eq_true (by unfold vp_in; decide)
theorem vin6_3 : vp_in 3 6 = True := eq_true (by unfold vp_in; decide)
theorem vin6_4 : vp_in 4 6 = True := eq_true (by unfold vp_in; decide)
theorem vin6_5 : vp_in 5 6 = True := eq_true (by unfold vp_in; decide)
theorem xt_1_13 : xtg 1 (13) = 14 := rfl
theorem xtc_1_13 : (((1 : Nat) : Int) + (13) = ((14 : Nat) : Int)) = True := eq_true rfl
theorem xt_1_18 : xtg 1 (18) = 19 := rfl
theorem xtc_1_18 : (((1 : Nat) : Int) + (18) = ((19 : Nat) : Int)) = True := eq_true rfl
theorem xt_2_9 : xtg 2 (9) = 11 := rfl
theorem xtc_2_9 : (((2 : Nat) : Int) + (9) = ((11 : Nat) : Int)) = True := eq_true rfl
theorem xt_2_12 : xtg 2 (12) = 14 := rfl
theorem xtc_2_12 : (((2 : Nat) : Int) + (12) = ((14 : Nat) : Int)) = True := eq_true rfl
theorem xt_2_13 : xtg 2 (13) = 15 := rfl
theorem xtc_2_13 : (((2 : Nat) : Int) + (13) = ((15 : Nat) : Int)) = True := eq_true rfl
theorem xt_3_12 : xtg 3 (12) = 15 := rfl
theorem xtc_3_12 : (((3 : Nat) : Int) + (12) = ((15 : Nat) : Int)) = True := eq_true rfl
theorem xt_3_13 : xtg 3 (13) = 16 := rfl
theorem xtc_3_13 : (((3 : Nat) : Int) + (13) = ((16 : Nat) : Int)) = True := eq_true rfl
theorem xt_3_15 : xtg 3 (15) = 18 := rfl
theorem xtc_3_15 : (((3 : Nat) : Int) + (15) = ((18 : Nat) : Int)) = True := eq_true rfl
theorem xt_3_17 : xtg 3 (17) = 20 := rfl
theorem xtc_3_17 : (((3 : Nat) : Int) + (17) = ((20 : Nat) : Int)) = True := eq_true rfl
theorem xt_3_60 : xtg 3 (60) = 63 := rfl
theorem xtc_3_60 : (((3 : Nat) : Int) + (60) = ((63 : Nat) : Int)) = True := eq_true rfl
theorem xt_3_70 : xtg 3 (70) = 73 := rfl
theorem xtc_3_70 : (((3 : Nat) : Int) + (70) = ((73 : Nat) : Int)) = True := eq_true rfl
theorem xt_3_112 : xtg 3 (112) = 115 := rfl
theorem xtc_3_112 : (((3 : Nat) : Int) + (112) = ((115 : Nat) : Int)) = True := eq_true rfl
theorem xt_4_6 : xtg 4 (6) = 10 := rfl
theorem xtc_4_6 : (((4 : Nat) : Int) + (6) = ((10 : Nat) : Int)) = True := eq_true rfl
theorem xt_4_10 : xtg 4 (10) = 14 := rfl
theorem xtc_4_10 : (((4 : Nat) : Int) + (10) = ((14 : Nat) : Int)) = True := eq_true rfl
theorem xt_4_13 : xtg 4 (13) = 17 := rfl
theorem xtc_4_13 : (((4 : Nat) : Int) + (13) = ((17 : Nat) : Int)) = True := eq_true rfl
theorem xt_4_17 : xtg 4 (17) = 21 := rfl
theorem xtc_4_17 : (((4 : Nat) : Int) + (17) = ((21 : Nat) : Int)) = True := eq_true rfl
theorem xt_4_20 : xtg 4 (20) = 24 := rfl
theorem xtc_4_20 : (((4 : Nat) : Int) + (20) = ((24 : Nat) : Int)) = True := eq_true rfl
theorem xt_4_22 : xtg 4 (22) = 26 := rfl
theorem xtc_4_22 : (((4 : Nat) : Int) + (22) = ((26 : Nat) : Int)) = True := eq_true rfl
theorem xt_5_6 : xtg 5 (6) = 11 := rfl
theorem xtc_5_6 : (((5 : Nat) : Int) + (6) = ((11 : Nat) : Int)) = True := eq_true rfl
theorem xt_5_10 : xtg 5 (10) = 15 := rfl
theorem xtc_5_10 : (((5 : Nat) : Int) + (10) = ((15 : Nat) : Int)) = True := eq_true rfl
theorem xt_5_11 : xtg 5 (11) = 16 := rfl
theorem xtc_5_11 : (((5 : Nat) : Int) + (11) = ((16 : Nat) : Int)) = True := eq_true rfl
theorem xt_5_13 : xtg 5 (13) = 18 := rfl
theorem xtc_5_13 : (((5 : Nat) : Int) + (13) = ((18 : Nat) : Int)) = True := eq_true rfl
theorem xt_5_15 : xtg 5 (15) = 20 := rfl
theorem xtc_5_15 : (((5 : Nat) : Int) + (15) = ((20 : Nat) : Int)) = True := eq_true rfl
theorem xt_5_20 : xtg 5 (20) = 25 := rfl
theorem xtc_5_20 : (((5 : Nat) : Int) + (20) = ((25 : Nat) : Int)) = True := eq_true rfl
theorem xt_5_22 : xtg 5 (22) = 27 := rfl
theorem xtc_5_22 : (((5 : Nat) : Int) + (22) = ((27 : Nat) : Int)) = True := eq_true rfl
theorem xt_5_23 : xtg 5 (23) = 28 := rfl
theorem xtc_5_23 : (((5 : Nat) : Int) + (23) = ((28 : Nat) : Int)) = True := eq_true rfl
theorem xt_5_24 : xtg 5 (24) = 29 := rfl
theorem xtc_5_24 : (((5 : Nat) : Int) + (24) = ((29 : Nat) : Int)) = True := eq_true rfl
theorem xt_5_25 : xtg 5 (25) = 30 := rfl
theorem xtc_5_25 : (((5 : Nat) : Int) + (25) = ((30 : Nat) : Int)) = True := eq_true rfl
theorem xt_5_26 : xtg 5 (26) = 31 := rfl
theorem xtc_5_26 : (((5 : Nat) : Int) + (26) = ((31 : Nat) : Int)) = True := eq_true rfl
theorem xt_5_35 : xtg 5 (35) = 40 := rfl
theorem xtc_5_35 : (((5 : Nat) : Int) + (35) = ((40 : Nat) : Int)) = True := eq_true rfl
theorem xt_5_38 : xtg 5 (38) = 43 := rfl
theorem xtc_5_38 : (((5 : Nat) : Int) + (38) = ((43 : Nat) : Int)) = True := eq_true rfl
theorem xt_5_40 : xtg 5 (40) = 45 := rfl
theorem xtc_5_40 : (((5 : Nat) : Int) + (40) = ((45 : Nat) : Int)) = True := eq_true rfl
theorem xt_6_13 : xtg 6 (13) = 19 := rfl
theorem xtc_6_13 : (((6 : Nat) : Int) + (13) = ((19 : Nat) : Int)) = True := eq_true rfl
theorem xt_6_14 : xtg 6 (14) = 20 := rfl
theorem xtc_6_14 : (((6 : Nat) : Int) + (14) = ((20 : Nat) : Int)) = True := eq_true rfl
theorem xt_7_7 : xtg 7 (7) = 14 := rfl
theorem xtc_7_7 : (((7 : Nat) : Int) + (7) = ((14 : Nat) : Int)) = True := eq_true rfl
theorem xt_7_13 : xtg 7 (13) = 20 := rfl
theorem xtc_7_13 : (((7 : Nat) : Int) + (13) = ((20 : Nat) : Int)) = True := eq_true rfl
theorem xt_7_14 : xtg 7 (14) = 21 := rfl
theorem xtc_7_14 : (((7 : Nat) : Int) + (14) = ((21 : Nat) : Int)) = True := eq_true rfl
theorem xt_7_19 : xtg 7 (19) = 26 := rfl
theorem xtc_7_19 : (((7 : Nat) : Int) + (19) = ((26 : Nat) : Int)) = True := eq_true rfl
theorem xt_7_20 : xtg 7 (20) = 27 := rfl
theorem xtc_7_20 : (((7 : Nat) : Int) + (20) = ((27 : Nat) : Int)) = True := eq_true rfl
theorem xt_7_24 : xtg 7 (24) = 31 := rfl
theorem xtc_7_24 : (((7 : Nat) : Int) + (24) = ((31 : Nat) : Int)) = True := eq_true rfl
theorem xt_7_30 : xtg 7 (30) = 37 := rfl
theorem xtc_7_30 : (((7 : Nat) : Int) + (30) = ((37 : Nat) : Int)) = True := eq_true rfl
theorem xt_7_34 : xtg 7 (34) = 41 := rfl
theorem xtc_7_34 : (((7 : Nat) : Int) + (34) = ((41 : Nat) : Int)) = True := eq_true rfl
theorem xt_7_42 : xtg 7 (42) = 49 := rfl
theorem xtc_7_42 : (((7 : Nat) : Int) + (42) = ((49 : Nat) : Int)) = True := eq_true rfl
theorem xt_7_49 : xtg 7 (49) = 56 := rfl
theorem xtc_7_49 : (((7 : Nat) : Int) + (49) = ((56 : Nat) : Int)) = True := eq_true rfl
theorem xt_7_75 : xtg 7 (75) = 82 := rfl
theorem xtc_7_75 : (((7 : Nat) : Int) + (75) = ((82 : Nat) : Int)) = True := eq_true rfl
theorem xt_8_6 : xtg 8 (6) = 14 := rfl
theorem xtc_8_6 : (((8 : Nat) : Int) + (6) = ((14 : Nat) : Int)) = True := eq_true rfl
theorem xt_8_7 : xtg 8 (7) = 15 := rfl
theorem xtc_8_7 : (((8 : Nat) : Int) + (7) = ((15 : Nat) : Int)) = True := eq_true rfl
theorem xt_9_6 : xtg 9 (6) = 15 := rfl
theorem xtc_9_6 : (((9 : Nat) : Int) + (6) = ((15 : Nat) : Int)) = True := eq_true rfl
theorem xt_9_7 : xtg 9 (7) = 16 := rfl
theorem xtc_9_7 : (((9 : Nat) : Int) + (7) = ((16 : Nat) : Int)) = True := eq_true rfl
theorem xt_9_13 : xtg 9 (13) = 22 := rfl
theorem xtc_9_13 : (((9 : Nat) : Int) + (13) = ((22 : Nat) : Int)) = True := eq_true rfl
theorem xt_9_15 : xtg 9 (15) = 24 := rfl
theorem xtc_9_15 : (((9 : Nat) : Int) + (15) = ((24 : Nat) : Int)) = True := eq_true rfl
theorem xt_9_19 : xtg 9 (19) = 28 := rfl
theorem xtc_9_19 : (((9 : Nat) : Int) + (19) = ((28 : Nat) : Int)) = True := eq_true rfl
theorem xt_9_20 : xtg 9 (20) = 29 := rfl
theorem xtc_9_20 : (((9 : Nat) : Int) + (20) = ((29 : Nat) : Int)) = True := eq_true rfl
theorem xt_9_26 : xtg 9 (26) = 35 := rfl
theorem xtc_9_26 : (((9 : Nat) : Int) + (26) = ((35 : Nat) : Int)) = True := eq_true rfl
theorem xt_9_36 : xtg 9 (36) = 45 := rfl
theorem xtc_9_36 : (((9 : Nat) : Int) + (36) = ((45 : Nat) : Int)) = True := eq_true rfl
theorem xt_9_38 : xtg 9 (38) = 47 := rfl
theorem xtc_9_38 : (((9 : Nat) : Int) + (38) = ((47 : Nat) : Int)) = True := eq_true rfl
theorem xt_9_44 : xtg 9 (44) = 53 := rfl
theorem xtc_9_44 : (((9 : Nat) : Int) + (44) = ((53 : Nat) : Int)) = True := eq_true rfl
theorem xt_10_12 : xtg 10 (12) = 22 := rfl
theorem xtc_10_12 : (((10 : Nat) : Int) + (12) = ((22 : Nat) : Int)) = True := eq_true rfl
theorem xt_10_32 : xtg 10 (32) = 42 := rfl
theorem xtc_10_32 : (((10 : Nat) : Int) + (32) = ((42 : Nat) : Int)) = True := eq_true rfl
theorem xt_11_4 : xtg 11 (4) = 15 := rfl
theorem xtc_11_4 : (((11 : Nat) : Int) + (4) = ((15 : Nat) : Int)) = True := eq_true rfl
theorem xt_11_6 : xtg 11 (6) = 17 := rfl
theorem xtc_11_6 : (((11 : Nat) : Int) + (6) = ((17 : Nat) : Int)) = True := eq_true rfl
theorem xt_11_10 : xtg 11 (10) = 21 := rfl
theorem xtc_11_10 : (((11 : Nat) : Int) + (10) = ((21 : Nat) : Int)) = True := eq_true rfl
theorem xt_11_11 : xtg 11 (11) = 22 := rfl
theorem xtc_11_11 : (((11 : Nat) : Int) + (11) = ((22 : Nat) : Int)) = True := eq_true rfl
theorem xt_11_15 : xtg 11 (15) = 26 := rfl
theorem xtc_11_15 : (((11 : Nat) : Int) + (15) = ((26 : Nat) : Int)) = True := eq_true rfl
theorem xt_11_18 : xtg 11 (18) = 29 := rfl
theorem xtc_11_18 : (((11 : Nat) : Int) + (18) = ((29 : Nat) : Int)) = True := eq_true rfl
theorem xt_12_4 : xtg 12 (4) = 16 := rfl
theorem xtc_12_4 : (((12 : Nat) : Int) + (4) = ((16 : Nat) : Int)) = True := eq_true rfl
theorem xt_12_7 : xtg 12 (7) = 19 := rfl
theorem xtc_12_7 : (((12 : Nat) : Int) + (7) = ((19 : Nat) : Int)) = True := eq_true rfl
theorem xt_12_9 : xtg 12 (9) = 21 := rfl
theorem xtc_12_9 : (((12 : Nat) : Int) + (9) = ((21 : Nat) : Int)) = True := eq_true rfl
theorem xt_13_4 : xtg 13 (4) = 17 := rfl
theorem xtc_13_4 : (((13 : Nat) : Int) + (4) = ((17 : Nat) : Int)) = True := eq_true rfl
theorem xt_13_5 : xtg 13 (5) = 18 := rfl
theorem xtc_13_5 : (((13 : Nat) : Int) + (5) = ((18 : Nat) : Int)) = True := eq_true rfl
theorem xt_13_6 : xtg 13 (6) = 19 := rfl
theorem xtc_13_6 : (((13 : Nat) : Int) + (6) = ((19 : Nat) : Int)) = True := eq_true rfl
theorem xt_13_7 : xtg 13 (7) = 20 := rfl
theorem xtc_13_7 : (((13 : Nat) : Int) + (7) = ((20 : Nat) : Int)) = True := eq_true rfl
theorem xt_13_9 : xtg 13 (9) = 22 := rfl
theorem xtc_13_9 : (((13 : Nat) : Int) + (9) = ((22 : Nat) : Int)) = True := eq_true rfl
theorem xt_13_15 : xtg 13 (15) = 28 := rfl
theorem xtc_13_15 : (((13 : Nat) : Int) + (15) = ((28 : Nat) : Int)) = True := eq_true rfl
theorem xt_13_102 : xtg 13 (102) = 115 := rfl
theorem xtc_13_102 : (((13 : Nat) : Int) + (102) = ((115 : Nat) : Int)) = True := eq_true rfl
theorem xt_14_5 : xtg 14 (5) = 19 := rfl
theorem xtc_14_5 : (((14 : Nat) : Int) + (5) = ((19 : Nat) : Int)) = True := eq_true rfl
theorem xt_14_6 : xtg 14 (6) = 20 := rfl
theorem xtc_14_6 : (((14 : Nat) : Int) + (6) = ((20 : Nat) : Int)) = True := eq_true rfl
theorem xt_14_7 : xtg 14 (7) = 21 := rfl
theorem xtc_14_7 : (((14 : Nat) : Int) + (7) = ((21 : Nat) : Int)) = True := eq_true rfl
theorem xt_14_14 : xtg 14 (14) = 28 := rfl
theorem xtc_14_14 : (((14 : Nat) : Int) + (14) = ((28 : Nat) : Int)) = True := eq_true rfl
theorem xt_14_35 : xtg 14 (35) = 49 := rfl
theorem xtc_14_35 : (((14 : Nat) : Int) + (35) = ((49 : Nat) : Int)) = True := eq_true rfl
theorem xt_14_80 : xtg 14 (80) = 94 := rfl
theorem xtc_14_80 : (((14 : Nat) : Int) + (80) = ((94 : Nat) : Int)) = True := eq_true rfl
theorem xt_14_101 : xtg 14 (101) = 115 := rfl
theorem xtc_14_101 : (((14 : Nat) : Int) + (101) = ((115 : Nat) : Int)) = True := eq_true rfl
theorem xt_15_7 : xtg 15 (7) = 22 := rfl
theorem xtc_15_7 : (((15 : Nat) : Int) + (7) = ((22 : Nat) : Int)) = True := eq_true rfl
theorem xt_15_12 : xtg 15 (12) = 27 := rfl
theorem xtc_15_12 : (((15 : Nat) : Int) + (12) = ((27 : Nat) : Int)) = True := eq_true rfl
theorem xt_15_15 : xtg 15 (15) = 30 := rfl
theorem xtc_15_15 : (((15 : Nat) : Int) + (15) = ((30 : Nat) : Int)) = True := eq_true rfl
theorem xt_15_19 : xtg 15 (19) = 34 := rfl
theorem xtc_15_19 : (((15 : Nat) : Int) + (19) = ((34 : Nat) : Int)) = True := eq_true rfl
theorem xt_15_23 : xtg 15 (23) = 38 := rfl
theorem xtc_15_23 : (((15 : Nat) : Int) + (23) = ((38 : Nat) : Int)) = True := eq_true rfl
theorem xt_15_28 : xtg 15 (28) = 43 := rfl
theorem xtc_15_28 : (((15 : Nat) : Int) + (28) = ((43 : Nat) : Int)) = True := eq_true rfl
theorem xt_15_34 : xtg 15 (34) = 49 := rfl
theorem xtc_15_34 : (((15 : Nat) : Int) + (34) = ((49 : Nat) : Int)) = True := eq_true rfl
theorem xt_16_4 : xtg 16 (4) = 20 := rfl
theorem xtc_16_4 : (((16 : Nat) : Int) + (4) = ((20 : Nat) : Int)) = True := eq_true rfl
theorem xt_16_6 : xtg 16 (6) = 22 := rfl
theorem xtc_16_6 : (((16 : Nat) : Int) + (6) = ((22 : Nat) : Int)) = True := eq_true rfl
theorem xt_16_7 : xtg 16 (7) = 23 := rfl
theorem xtc_16_7 : (((16 : Nat) : Int) + (7) = ((23 : Nat) : Int)) = True := eq_true rfl
theorem xt_16_20 : xtg 16 (20) = 36 := rfl
theorem xtc_16_20 : (((16 : Nat) : Int) + (20) = ((36 : Nat) : Int)) = True := eq_true rfl
theorem xt_16_36 : xtg 16 (36) = 52 := rfl
theorem xtc_16_36 : (((16 : Nat) : Int) + (36) = ((52 : Nat) : Int)) = True := eq_true rfl
theorem xt_17_m12 : xtg 17 (-12) = 5 := rfl
theorem xtc_17_m12 : (((17 : Nat) : Int) + (-12) = ((5 : Nat) : Int)) = True := eq_true rfl
theorem xt_17_4 : xtg 17 (4) = 21 := rfl
theorem xtc_17_4 : (((17 : Nat) : Int) + (4) = ((21 : Nat) : Int)) = True := eq_true rfl
theorem xt_17_5 : xtg 17 (5) = 22 := rfl
theorem xtc_17_5 : (((17 : Nat) : Int) + (5) = ((22 : Nat) : Int)) = True := eq_true rfl
theorem xt_17_6 : xtg 17 (6) = 23 := rfl
theorem xtc_17_6 : (((17 : Nat) : Int) + (6) = ((23 : Nat) : Int)) = True := eq_true rfl
theorem xt_17_8 : xtg 17 (8) = 25 := rfl
theorem xtc_17_8 : (((17 : Nat) : Int) + (8) = ((25 : Nat) : Int)) = True := eq_true rfl
theorem xt_17_15 : xtg 17 (15) = 32 := rfl
theorem xtc_17_15 : (((17 : Nat) : Int) + (15) = ((32 : Nat) : Int)) = True := eq_true rfl
theorem xt_17_50 : xtg 17 (50) = 67 := rfl
theorem xtc_17_50 : (((17 : Nat) : Int) + (50) = ((67 : Nat) : Int)) = True := eq_true rfl
theorem xt_18_6 : xtg 18 (6) = 24 := rfl
theorem xtc_18_6 : (((18 : Nat) : Int) + (6) = ((24 : Nat) : Int)) = True := eq_true rfl
theorem xt_18_9 : xtg 18 (9) = 27 := rfl
theorem xtc_18_9 : (((18 : Nat) : Int) + (9) = ((27 : Nat) : Int)) = True := eq_true rfl
theorem xt_18_12 : xtg 18 (12) = 30 := rfl
theorem xtc_18_12 : (((18 : Nat) : Int) + (12) = ((30 : Nat) : Int)) = True := eq_true rfl
theorem xt_18_41 : xtg 18 (41) = 59 := rfl
theorem xtc_18_41 : (((18 : Nat) : Int) + (41) = ((59 : Nat) : Int)) = True := eq_true rfl
theorem xt_18_42 : xtg 18 (42) = 60 := rfl
theorem xtc_18_42 : (((18 : Nat) : Int) + (42) = ((60 : Nat) : Int)) = True := eq_true rfl
theorem xt_19_4 : xtg 19 (4) = 23 := rfl
theorem xtc_19_4 : (((19 : Nat) : Int) + (4) = ((23 : Nat) : Int)) = True := eq_true rfl
theorem xt_19_6 : xtg 19 (6) = 25 := rfl
theorem xtc_19_6 : (((19 : Nat) : Int) + (6) = ((25 : Nat) : Int)) = True := eq_true rfl
theorem xt_19_25 : xtg 19 (25) = 44 := rfl
theorem xtc_19_25 : (((19 : Nat) : Int) + (25) = ((44 : Nat) : Int)) = True := eq_true rfl
theorem xt_19_53 : xtg 19 (53) = 72 := rfl
theorem xtc_19_53 : (((19 : Nat) : Int) + (53) = ((72 : Nat) : Int)) = True := eq_true rfl
theorem xt_20_4 : xtg 20 (4) = 24 := rfl
theorem xtc_20_4 : (((20 : Nat) : Int) + (4) = ((24 : Nat) : Int)) = True := eq_true rfl
theorem xt_20_5 : xtg 20 (5) = 25 := rfl
theorem xtc_20_5 : (((20 : Nat) : Int) + (5) = ((25 : Nat) : Int)) = True := eq_true rfl
theorem xt_21_m19 : xtg 21 (-19) = 2 := rfl
theorem xtc_21_m19 : (((21 : Nat) : Int) + (-19) = ((2 : Nat) : Int)) = True := eq_true rfl
theorem xt_21_6 : xtg 21 (6) = 27 := rfl
theorem xtc_21_6 : (((21 : Nat) : Int) + (6) = ((27 : Nat) : Int)) = True := eq_true rfl
theorem xt_21_32 : xtg 21 (32) = 53 := rfl
theorem xtc_21_32 : (((21 : Nat) : Int) + (32) = ((53 : Nat) : Int)) = True := eq_true rfl
theorem xt_21_46 : xtg 21 (46) = 67 := rfl
theorem xtc_21_46 : (((21 : Nat) : Int) + (46) = ((67 : Nat) : Int)) = True := eq_true rfl
theorem xt_21_67 : xtg 21 (67) = 88 := rfl
theorem xtc_21_67 : (((21 : Nat) : Int) + (67) = ((88 : Nat) : Int)) = True := eq_true rfl
theorem xt_22_m20 : xtg 22 (-20) = 2 := rfl
theorem xtc_22_m20 : (((22 : Nat) : Int) + (-20) = ((2 : Nat) : Int)) = True := eq_true rfl
theorem xt_22_11 : xtg 22 (11) = 33 := rfl
theorem xtc_22_11 : (((22 : Nat) : Int) + (11) = ((33 : Nat) : Int)) = True := eq_true rfl
theorem xt_23_5 : xtg 23 (5) = 28 := rfl
theorem xtc_23_5 : (((23 : Nat) : Int) + (5) = ((28 : Nat) : Int)) = True := eq_true rfl
theorem xt_23_7 : xtg 23 (7) = 30 := rfl
theorem xtc_23_7 : (((23 : Nat) : Int) + (7) = ((30 : Nat) : Int)) = True := eq_true rfl
theorem xt_23_16 : xtg 23 (16) = 39 := rfl
theorem xtc_23_16 : (((23 : Nat) : Int) + (16) = ((39 : Nat) : Int)) = True := eq_true rfl
theorem xt_23_21 : xtg 23 (21) = 44 := rfl
theorem xtc_23_21 : (((23 : Nat) : Int) + (21) = ((44 : Nat) : Int)) = True := eq_true rfl
theorem xt_24_m22 : xtg 24 (-22) = 2 := rfl
theorem xtc_24_m22 : (((24 : Nat) : Int) + (-22) = ((2 : Nat) : Int)) = True := eq_true rfl
theorem xt_24_5 : xtg 24 (5) = 29 := rfl
theorem xtc_24_5 : (((24 : Nat) : Int) + (5) = ((29 : Nat) : Int)) = True := eq_true rfl
theorem xt_24_13 : xtg 24 (13) = 37 := rfl
theorem xtc_24_13 : (((24 : Nat) : Int) + (13) = ((37 : Nat) : Int)) = True := eq_true rfl
theorem xt_24_14 : xtg 24 (14) = 38 := rfl
theorem xtc_24_14 : (((24 : Nat) : Int) + (14) = ((38 : Nat) : Int)) = True := eq_true rfl
theorem xt_24_26 : xtg 24 (26) = 50 := rfl
theorem xtc_24_26 : (((24 : Nat) : Int) + (26) = ((50 : Nat) : Int)) = True := eq_true rfl
theorem xt_24_39 : xtg 24 (39) = 63 := rfl
theorem xtc_24_39 : (((24 : Nat) : Int) + (39) = ((63 : Nat) : Int)) = True := eq_true rfl
theorem xt_24_50 : xtg 24 (50) = 74 := rfl
theorem xtc_24_50 : (((24 : Nat) : Int) + (50) = ((74 : Nat) : Int)) = True := eq_true rfl
theorem xt_24_73 : xtg 24 (73) = 97 := rfl
theorem xtc_24_73 : (((24 : Nat) : Int) + (73) = ((97 : Nat) : Int)) = True := eq_true rfl
theorem xt_24_593 : xtg 24 (593) = 617 := rfl
theorem xtc_24_593 : (((24 : Nat) : Int) + (593) = ((617 : Nat) : Int)) = True := eq_true rfl
theorem xt_25_m19 : xtg 25 (-19) = 6 := rfl
theorem xtc_25_m19 : (((25 : Nat) : Int) + (-19) = ((6 : Nat) : Int)) = True := eq_true rfl
theorem xt_25_5 : xtg 25 (5) = 30 := rfl
theorem xtc_25_5 : (((25 : Nat) : Int) + (5) = ((30 : Nat) : Int)) = True := eq_true rfl
theorem xt_25_11 : xtg 25 (11) = 36 := rfl
theorem xtc_25_11 : (((25 : Nat) : Int) + (11) = ((36 : Nat) : Int)) = True := eq_true rfl
theorem xt_25_13 : xtg 25 (13) = 38 := rfl
theorem xtc_25_13 : (((25 : Nat) : Int) + (13) = ((38 : Nat) : Int)) = True := eq_true rfl
theorem xt_25_19 : xtg 25 (19) = 44 := rfl
theorem xtc_25_19 : (((25 : Nat) : Int) + (19) = ((44 : Nat) : Int)) = True := eq_true rfl
theorem xt_25_35 : xtg 25 (35) = 60 := rfl
theorem xtc_25_35 : (((25 : Nat) : Int) + (35) = ((60 : Nat) : Int)) = True := eq_true rfl
theorem xt_26_m24 : xtg 26 (-24) = 2 := rfl
theorem xtc_26_m24 : (((26 : Nat) : Int) + (-24) = ((2 : Nat) : Int)) = True := eq_true rfl
theorem xt_26_m22 : xtg 26 (-22) = 4 := rfl
theorem xtc_26_m22 : (((26 : Nat) : Int) + (-22) = ((4 : Nat) : Int)) = True := eq_true rfl
theorem xt_26_7 : xtg 26 (7) = 33 := rfl
theorem xtc_26_7 : (((26 : Nat) : Int) + (7) = ((33 : Nat) : Int)) = True := eq_true rfl
theorem xt_26_62 : xtg 26 (62) = 88 := rfl
theorem xtc_26_62 : (((26 : Nat) : Int) + (62) = ((88 : Nat) : Int)) = True := eq_true rfl
theorem xt_27_m25 : xtg 27 (-25) = 2 := rfl
theorem xtc_27_m25 : (((27 : Nat) : Int) + (-25) = ((2 : Nat) : Int)) = True := eq_true rfl
theorem xt_27_5 : xtg 27 (5) = 32 := rfl
theorem xtc_27_5 : (((27 : Nat) : Int) + (5) = ((32 : Nat) : Int)) = True := eq_true rfl
theorem xt_27_6 : xtg 27 (6) = 33 := rfl
theorem xtc_27_6 : (((27 : Nat) : Int) + (6) = ((33 : Nat) : Int)) = True := eq_true rfl
theorem xt_27_61 : xtg 27 (61) = 88 := rfl
theorem xtc_27_61 : (((27 : Nat) : Int) + (61) = ((88 : Nat) : Int)) = True := eq_true rfl
theorem xt_28_m26 : xtg 28 (-26) = 2 := rfl
theorem xtc_28_m26 : (((28 : Nat) : Int) + (-26) = ((2 : Nat) : Int)) = True := eq_true rfl
theorem xt_28_41 : xtg 28 (41) = 69 := rfl
theorem xtc_28_41 : (((28 : Nat) : Int) + (41) = ((69 : Nat) : Int)) = True := eq_true rfl
theorem xt_29_5 : xtg 29 (5) = 34 := rfl
theorem xtc_29_5 : (((29 : Nat) : Int) + (5) = ((34 : Nat) : Int)) = True := eq_true rfl
theorem xt_29_7 : xtg 29 (7) = 36 := rfl
theorem xtc_29_7 : (((29 : Nat) : Int) + (7) = ((36 : Nat) : Int)) = True := eq_true rfl
theorem xt_29_9 : xtg 29 (9) = 38 := rfl
theorem xtc_29_9 : (((29 : Nat) : Int) + (9) = ((38 : Nat) : Int)) = True := eq_true rfl
theorem xt_29_18 : xtg 29 (18) = 47 := rfl
theorem xtc_29_18 : (((29 : Nat) : Int) + (18) = ((47 : Nat) : Int)) = True := eq_true rfl
theorem xt_30_4 : xtg 30 (4) = 34 := rfl
theorem xtc_30_4 : (((30 : Nat) : Int) + (4) = ((34 : Nat) : Int)) = True := eq_true rfl
theorem xt_30_37 : xtg 30 (37) = 67 := rfl
theorem xtc_30_37 : (((30 : Nat) : Int) + (37) = ((67 : Nat) : Int)) = True := eq_true rfl
theorem xt_30_47 : xtg 30 (47) = 77 := rfl
theorem xtc_30_47 : (((30 : Nat) : Int) + (47) = ((77 : Nat) : Int)) = True := eq_true rfl
theorem xt_31_5 : xtg 31 (5) = 36 := rfl
theorem xtc_31_5 : (((31 : Nat) : Int) + (5) = ((36 : Nat) : Int)) = True := eq_true rfl
theorem xt_31_9 : xtg 31 (9) = 40 := rfl
theorem xtc_31_9 : (((31 : Nat) : Int) + (9) = ((40 : Nat) : Int)) = True := eq_true rfl
theorem xt_31_16 : xtg 31 (16) = 47 := rfl
theorem xtc_31_16 : (((31 : Nat) : Int) + (16) = ((47 : Nat) : Int)) = True := eq_true rfl
theorem xt_32_m27 : xtg 32 (-27) = 5 := rfl
theorem xtc_32_m27 : (((32 : Nat) : Int) + (-27) = ((5 : Nat) : Int)) = True := eq_true rfl
theorem xt_32_5 : xtg 32 (5) = 37 := rfl
theorem xtc_32_5 : (((32 : Nat) : Int) + (5) = ((37 : Nat) : Int)) = True := eq_true rfl
theorem xt_32_12 : xtg 32 (12) = 44 := rfl
theorem xtc_32_12 : (((32 : Nat) : Int) + (12) = ((44 : Nat) : Int)) = True := eq_true rfl
theorem xt_33_m20 : xtg 33 (-20) = 13 := rfl
theorem xtc_33_m20 : (((33 : Nat) : Int) + (-20) = ((13 : Nat) : Int)) = True := eq_true rfl
theorem xt_33_18 : xtg 33 (18) = 51 := rfl
theorem xtc_33_18 : (((33 : Nat) : Int) + (18) = ((51 : Nat) : Int)) = True := eq_true rfl
theorem xt_33_27 : xtg 33 (27) = 60 := rfl
theorem xtc_33_27 : (((33 : Nat) : Int) + (27) = ((60 : Nat) : Int)) = True := eq_true rfl
theorem xt_33_29 : xtg 33 (29) = 62 := rfl
theorem xtc_33_29 : (((33 : Nat) : Int) + (29) = ((62 : Nat) : Int)) = True := eq_true rfl
theorem xt_33_39 : xtg 33 (39) = 72 := rfl
theorem xtc_33_39 : (((33 : Nat) : Int) + (39) = ((72 : Nat) : Int)) = True := eq_true rfl
theorem xt_34_m31 : xtg 34 (-31) = 3 := rfl
theorem xtc_34_m31 : (((34 : Nat) : Int) + (-31) = ((3 : Nat) : Int)) = True := eq_true rfl
theorem xt_34_8 : xtg 34 (8) = 42 := rfl
theorem xtc_34_8 : (((34 : Nat) : Int) + (8) = ((42 : Nat) : Int)) = True := eq_true rfl
theorem xt_34_39 : xtg 34 (39) = 73 := rfl
theorem xtc_34_39 : (((34 : Nat) : Int) + (39) = ((73 : Nat) : Int)) = True := eq_true rfl
theorem xt_35_m17 : xtg 35 (-17) = 18 := rfl
theorem xtc_35_m17 : (((35 : Nat) : Int) + (-17) = ((18 : Nat) : Int)) = True := eq_true rfl
theorem xt_35_5 : xtg 35 (5) = 40 := rfl
theorem xtc_35_5 : (((35 : Nat) : Int) + (5) = ((40 : Nat) : Int)) = True := eq_true rfl
theorem xt_35_8 : xtg 35 (8) = 43 := rfl
theorem xtc_35_8 : (((35 : Nat) : Int) + (8) = ((43 : Nat) : Int)) = True := eq_true rfl
theorem xt_35_33 : xtg 35 (33) = 68 := rfl
theorem xtc_35_33 : (((35 : Nat) : Int) + (33) = ((68 : Nat) : Int)) = True := eq_true rfl
theorem xt_35_40 : xtg 35 (40) = 75 := rfl
theorem xtc_35_40 : (((35 : Nat) : Int) + (40) = ((75 : Nat) : Int)) = True := eq_true rfl
theorem xt_36_9 : xtg 36 (9) = 45 := rfl
theorem xtc_36_9 : (((36 : Nat) : Int) + (9) = ((45 : Nat) : Int)) = True := eq_true rfl
theorem xt_37_m35 : xtg 37 (-35) = 2 := rfl
theorem xtc_37_m35 : (((37 : Nat) : Int) + (-35) = ((2 : Nat) : Int)) = True := eq_true rfl
theorem xt_37_6 : xtg 37 (6) = 43 := rfl
theorem xtc_37_6 : (((37 : Nat) : Int) + (6) = ((43 : Nat) : Int)) = True := eq_true rfl
theorem xt_37_39 : xtg 37 (39) = 76 := rfl
theorem xtc_37_39 : (((37 : Nat) : Int) + (39) = ((76 : Nat) : Int)) = True := eq_true rfl
theorem xt_38_m34 : xtg 38 (-34) = 4 := rfl
theorem xtc_38_m34 : (((38 : Nat) : Int) + (-34) = ((4 : Nat) : Int)) = True := eq_true rfl
theorem xt_38_22 : xtg 38 (22) = 60 := rfl
theorem xtc_38_22 : (((38 : Nat) : Int) + (22) = ((60 : Nat) : Int)) = True := eq_true rfl
theorem xt_39_m37 : xtg 39 (-37) = 2 := rfl
theorem xtc_39_m37 : (((39 : Nat) : Int) + (-37) = ((2 : Nat) : Int)) = True := eq_true rfl
theorem xt_39_m22 : xtg 39 (-22) = 17 := rfl
theorem xtc_39_m22 : (((39 : Nat) : Int) + (-22) = ((17 : Nat) : Int)) = True := eq_true rfl
theorem xt_39_4 : xtg 39 (4) = 43 := rfl
theorem xtc_39_4 : (((39 : Nat) : Int) + (4) = ((43 : Nat) : Int)) = True := eq_true rfl
theorem xt_39_15 : xtg 39 (15) = 54 := rfl
theorem xtc_39_15 : (((39 : Nat) : Int) + (15) = ((54 : Nat) : Int)) = True := eq_true rfl
theorem xt_39_48 : xtg 39 (48) = 87 := rfl
theorem xtc_39_48 : (((39 : Nat) : Int) + (48) = ((87 : Nat) : Int)) = True := eq_true rfl
theorem xt_40_m38 : xtg 40 (-38) = 2 := rfl
theorem xtc_40_m38 : (((40 : Nat) : Int) + (-38) = ((2 : Nat) : Int)) = True := eq_true rfl
theorem xt_40_m30 : xtg 40 (-30) = 10 := rfl
theorem xtc_40_m30 : (((40 : Nat) : Int) + (-30) = ((10 : Nat) : Int)) = True := eq_true rfl
theorem xt_40_17 : xtg 40 (17) = 57 := rfl
theorem xtc_40_17 : (((40 : Nat) : Int) + (17) = ((57 : Nat) : Int)) = True := eq_true rfl
theorem xt_40_22 : xtg 40 (22) = 62 := rfl
theorem xtc_40_22 : (((40 : Nat) : Int) + (22) = ((62 : Nat) : Int)) = True := eq_true rfl
theorem xt_41_m26 : xtg 41 (-26) = 15 := rfl
theorem xtc_41_m26 : (((41 : Nat) : Int) + (-26) = ((15 : Nat) : Int)) = True := eq_true rfl
theorem xt_41_19 : xtg 41 (19) = 60 := rfl
theorem xtc_41_19 : (((41 : Nat) : Int) + (19) = ((60 : Nat) : Int)) = True := eq_true rfl
theorem xt_41_35 : xtg 41 (35) = 76 := rfl
theorem xtc_41_35 : (((41 : Nat) : Int) + (35) = ((76 : Nat) : Int)) = True := eq_true rfl
theorem xt_42_m40 : xtg 42 (-40) = 2 := rfl
theorem xtc_42_m40 : (((42 : Nat) : Int) + (-40) = ((2 : Nat) : Int)) = True := eq_true rfl
theorem xt_42_m37 : xtg 42 (-37) = 5 := rfl
theorem xtc_42_m37 : (((42 : Nat) : Int) + (-37) = ((5 : Nat) : Int)) = True := eq_true rfl
theorem xt_42_m23 : xtg 42 (-23) = 19 := rfl
theorem xtc_42_m23 : (((42 : Nat) : Int) + (-23) = ((19 : Nat) : Int)) = True := eq_true rfl
theorem xt_42_6 : xtg 42 (6) = 48 := rfl
theorem xtc_42_6 : (((42 : Nat) : Int) + (6) = ((48 : Nat) : Int)) = True := eq_true rfl
theorem xt_42_24 : xtg 42 (24) = 66 := rfl
theorem xtc_42_24 : (((42 : Nat) : Int) + (24) = ((66 : Nat) : Int)) = True := eq_true rfl
theorem xt_42_25 : xtg 42 (25) = 67 := rfl
theorem xtc_42_25 : (((42 : Nat) : Int) + (25) = ((67 : Nat) : Int)) = True := eq_true rfl
theorem xt_42_66 : xtg 42 (66) = 108 := rfl
theorem xtc_42_66 : (((42 : Nat) : Int) + (66) = ((108 : Nat) : Int)) = True := eq_true rfl
theorem xt_44_m38 : xtg 44 (-38) = 6 := rfl
theorem xtc_44_m38 : (((44 : Nat) : Int) + (-38) = ((6 : Nat) : Int)) = True := eq_true rfl
theorem xt_44_m14 : xtg 44 (-14) = 30 := rfl
theorem xtc_44_m14 : (((44 : Nat) : Int) + (-14) = ((30 : Nat) : Int)) = True := eq_true rfl
theorem xt_44_17 : xtg 44 (17) = 61 := rfl
theorem xtc_44_17 : (((44 : Nat) : Int) + (17) = ((61 : Nat) : Int)) = True := eq_true rfl
theorem xt_44_38 : xtg 44 (38) = 82 := rfl
theorem xtc_44_38 : (((44 : Nat) : Int) + (38) = ((82 : Nat) : Int)) = True := eq_true rfl
theorem xt_45_5 : xtg 45 (5) = 50 := rfl
theorem xtc_45_5 : (((45 : Nat) : Int) + (5) = ((50 : Nat) : Int)) = True := eq_true rfl
theorem xt_46_m43 : xtg 46 (-43) = 3 := rfl
theorem xtc_46_m43 : (((46 : Nat) : Int) + (-43) = ((3 : Nat) : Int)) = True := eq_true rfl
theorem xt_46_21 : xtg 46 (21) = 67 := rfl
theorem xtc_46_21 : (((46 : Nat) : Int) + (21) = ((67 : Nat) : Int)) = True := eq_true rfl
theorem xt_47_m26 : xtg 47 (-26) = 21 := rfl
theorem xtc_47_m26 : (((47 : Nat) : Int) + (-26) = ((21 : Nat) : Int)) = True := eq_true rfl
theorem xt_47_10 : xtg 47 (10) = 57 := rfl
theorem xtc_47_10 : (((47 : Nat) : Int) + (10) = ((57 : Nat) : Int)) = True := eq_true rfl
theorem xt_48_8 : xtg 48 (8) = 56 := rfl
theorem xtc_48_8 : (((48 : Nat) : Int) + (8) = ((56 : Nat) : Int)) = True := eq_true rfl
theorem xt_49_m37 : xtg 49 (-37) = 12 := rfl
theorem xtc_49_m37 : (((49 : Nat) : Int) + (-37) = ((12 : Nat) : Int)) = True := eq_true rfl
theorem xt_49_11 : xtg 49 (11) = 60 := rfl
theorem xtc_49_11 : (((49 : Nat) : Int) + (11) = ((60 : Nat) : Int)) = True := eq_true rfl
theorem xt_50_m46 : xtg 50 (-46) = 4 := rfl
theorem xtc_50_m46 : (((50 : Nat) : Int) + (-46) = ((4 : Nat) : Int)) = True := eq_true rfl
theorem xt_50_24 : xtg 50 (24) = 74 := rfl
theorem xtc_50_24 : (((50 : Nat) : Int) + (24) = ((74 : Nat) : Int)) = True := eq_true rfl
theorem xt_51_9 : xtg 51 (9) = 60 := rfl
theorem xtc_51_9 : (((51 : Nat) : Int) + (9) = ((60 : Nat) : Int)) = True := eq_true rfl
theorem xt_51_21 : xtg 51 (21) = 72 := rfl
theorem xtc_51_21 : (((51 : Nat) : Int) + (21) = ((72 : Nat) : Int)) = True := eq_true rfl
theorem xt_52_7 : xtg 52 (7) = 59 := rfl
theorem xtc_52_7 : (((52 : Nat) : Int) + (7) = ((59 : Nat) : Int)) = True := eq_true rfl
theorem xt_52_16 : xtg 52 (16) = 68 := rfl
theorem xtc_52_16 : (((52 : Nat) : Int) + (16) = ((68 : Nat) : Int)) = True := eq_true rfl
theorem xt_52_30 : xtg 52 (30) = 82 := rfl
theorem xtc_52_30 : (((52 : Nat) : Int) + (30) = ((82 : Nat) : Int)) = True := eq_true rfl
theorem xt_53_m51 : xtg 53 (-51) = 2 := rfl
theorem xtc_53_m51 : (((53 : Nat) : Int) + (-51) = ((2 : Nat) : Int)) = True := eq_true rfl
theorem xt_53_6 : xtg 53 (6) = 59 := rfl
theorem xtc_53_6 : (((53 : Nat) : Int) + (6) = ((59 : Nat) : Int)) = True := eq_true rfl
theorem xt_53_22 : xtg 53 (22) = 75 := rfl
theorem xtc_53_22 : (((53 : Nat) : Int) + (22) = ((75 : Nat) : Int)) = True := eq_true rfl
theorem xt_54_m18 : xtg 54 (-18) = 36 := rfl
theorem xtc_54_m18 : (((54 : Nat) : Int) + (-18) = ((36 : Nat) : Int)) = True := eq_true rfl
theorem xt_54_7 : xtg 54 (7) = 61 := rfl
theorem xtc_54_7 : (((54 : Nat) : Int) + (7) = ((61 : Nat) : Int)) = True := eq_true rfl
theorem xt_54_27 : xtg 54 (27) = 81 := rfl
theorem xtc_54_27 : (((54 : Nat) : Int) + (27) = ((81 : Nat) : Int)) = True := eq_true rfl
theorem xt_55_12 : xtg 55 (12) = 67 := rfl
theorem xtc_55_12 : (((55 : Nat) : Int) + (12) = ((67 : Nat) : Int)) = True := eq_true rfl
theorem xt_56_m42 : xtg 56 (-42) = 14 := rfl
theorem xtc_56_m42 : (((56 : Nat) : Int) + (-42) = ((14 : Nat) : Int)) = True := eq_true rfl
theorem xt_56_4 : xtg 56 (4) = 60 := rfl
theorem xtc_56_4 : (((56 : Nat) : Int) + (4) = ((60 : Nat) : Int)) = True := eq_true rfl
theorem xt_56_5 : xtg 56 (5) = 61 := rfl
theorem xtc_56_5 : (((56 : Nat) : Int) + (5) = ((61 : Nat) : Int)) = True := eq_true rfl
theorem xt_57_m19 : xtg 57 (-19) = 38 := rfl
theorem xtc_57_m19 : (((57 : Nat) : Int) + (-19) = ((38 : Nat) : Int)) = True := eq_true rfl
theorem xt_57_5 : xtg 57 (5) = 62 := rfl
theorem xtc_57_5 : (((57 : Nat) : Int) + (5) = ((62 : Nat) : Int)) = True := eq_true rfl
theorem xt_57_6 : xtg 57 (6) = 63 := rfl
theorem xtc_57_6 : (((57 : Nat) : Int) + (6) = ((63 : Nat) : Int)) = True := eq_true rfl
theorem xt_57_7 : xtg 57 (7) = 64 := rfl
theorem xtc_57_7 : (((57 : Nat) : Int) + (7) = ((64 : Nat) : Int)) = True := eq_true rfl
theorem xt_57_15 : xtg 57 (15) = 72 := rfl
theorem xtc_57_15 : (((57 : Nat) : Int) + (15) = ((72 : Nat) : Int)) = True := eq_true rfl
theorem xt_58_m18 : xtg 58 (-18) = 40 := rfl
theorem xtc_58_m18 : (((58 : Nat) : Int) + (-18) = ((40 : Nat) : Int)) = True := eq_true rfl
theorem xt_58_11 : xtg 58 (11) = 69 := rfl
theorem xtc_58_11 : (((58 : Nat) : Int) + (11) = ((69 : Nat) : Int)) = True := eq_true rfl
theorem xt_59_m31 : xtg 59 (-31) = 28 := rfl
theorem xtc_59_m31 : (((59 : Nat) : Int) + (-31) = ((28 : Nat) : Int)) = True := eq_true rfl
theorem xt_60_m58 : xtg 60 (-58) = 2 := rfl
theorem xtc_60_m58 : (((60 : Nat) : Int) + (-58) = ((2 : Nat) : Int)) = True := eq_true rfl
theorem xt_60_7 : xtg 60 (7) = 67 := rfl
theorem xtc_60_7 : (((60 : Nat) : Int) + (7) = ((67 : Nat) : Int)) = True := eq_true rfl
theorem xt_61_4 : xtg 61 (4) = 65 := rfl
theorem xtc_61_4 : (((61 : Nat) : Int) + (4) = ((65 : Nat) : Int)) = True := eq_true rfl
theorem xt_61_26 : xtg 61 (26) = 87 := rfl
theorem xtc_61_26 : (((61 : Nat) : Int) + (26) = ((87 : Nat) : Int)) = True := eq_true rfl
theorem xt_62_9 : xtg 62 (9) = 71 := rfl
theorem xtc_62_9 : (((62 : Nat) : Int) + (9) = ((71 : Nat) : Int)) = True := eq_true rfl
theorem xt_62_37 : xtg 62 (37) = 99 := rfl
theorem xtc_62_37 : (((62 : Nat) : Int) + (37) = ((99 : Nat) : Int)) = True := eq_true rfl
theorem xt_63_m24 : xtg 63 (-24) = 39 := rfl
theorem xtc_63_m24 : (((63 : Nat) : Int) + (-24) = ((39 : Nat) : Int)) = True := eq_true rfl
theorem xt_63_9 : xtg 63 (9) = 72 := rfl
theorem xtc_63_9 : (((63 : Nat) : Int) + (9) = ((72 : Nat) : Int)) = True := eq_true rfl
theorem xt_63_12 : xtg 63 (12) = 75 := rfl
theorem xtc_63_12 : (((63 : Nat) : Int) + (12) = ((75 : Nat) : Int)) = True := eq_true rfl
theorem xt_63_74 : xtg 63 (74) = 137 := rfl
theorem xtc_63_74 : (((63 : Nat) : Int) + (74) = ((137 : Nat) : Int)) = True := eq_true rfl
theorem xt_63_92 : xtg 63 (92) = 155 := rfl
theorem xtc_63_92 : (((63 : Nat) : Int) + (92) = ((155 : Nat) : Int)) = True := eq_true rfl
theorem xt_64_m50 : xtg 64 (-50) = 14 := rfl
theorem xtc_64_m50 : (((64 : Nat) : Int) + (-50) = ((14 : Nat) : Int)) = True := eq_true rfl
theorem xt_64_m22 : xtg 64 (-22) = 42 := rfl
theorem xtc_64_m22 : (((64 : Nat) : Int) + (-22) = ((42 : Nat) : Int)) = True := eq_true rfl
theorem xt_64_4 : xtg 64 (4) = 68 := rfl
theorem xtc_64_4 : (((64 : Nat) : Int) + (4) = ((68 : Nat) : Int)) = True := eq_true rfl
theorem xt_65_m38 : xtg 65 (-38) = 27 := rfl
theorem xtc_65_m38 : (((65 : Nat) : Int) + (-38) = ((27 : Nat) : Int)) = True := eq_true rfl
theorem xt_65_m18 : xtg 65 (-18) = 47 := rfl
theorem xtc_65_m18 : (((65 : Nat) : Int) + (-18) = ((47 : Nat) : Int)) = True := eq_true rfl
theorem xt_66_m35 : xtg 66 (-35) = 31 := rfl
theorem xtc_66_m35 : (((66 : Nat) : Int) + (-35) = ((31 : Nat) : Int)) = True := eq_true rfl
theorem xt_66_7 : xtg 66 (7) = 73 := rfl
theorem xtc_66_7 : (((66 : Nat) : Int) + (7) = ((73 : Nat) : Int)) = True := eq_true rfl
theorem xt_67_23 : xtg 67 (23) = 90 := rfl
theorem xtc_67_23 : (((67 : Nat) : Int) + (23) = ((90 : Nat) : Int)) = True := eq_true rfl
theorem xt_68_m23 : xtg 68 (-23) = 45 := rfl
theorem xtc_68_m23 : (((68 : Nat) : Int) + (-23) = ((45 : Nat) : Int)) = True := eq_true rfl
theorem xt_69_5 : xtg 69 (5) = 74 := rfl
theorem xtc_69_5 : (((69 : Nat) : Int) + (5) = ((74 : Nat) : Int)) = True := eq_true rfl
theorem xt_69_13 : xtg 69 (13) = 82 := rfl
theorem xtc_69_13 : (((69 : Nat) : Int) + (13) = ((82 : Nat) : Int)) = True := eq_true rfl
theorem xt_70_m68 : xtg 70 (-68) = 2 := rfl
theorem xtc_70_m68 : (((70 : Nat) : Int) + (-68) = ((2 : Nat) : Int)) = True := eq_true rfl
theorem xt_71_m50 : xtg 71 (-50) = 21 := rfl
theorem xtc_71_m50 : (((71 : Nat) : Int) + (-50) = ((21 : Nat) : Int)) = True := eq_true rfl
theorem xt_71_m24 : xtg 71 (-24) = 47 := rfl
theorem xtc_71_m24 : (((71 : Nat) : Int) + (-24) = ((47 : Nat) : Int)) = True := eq_true rfl
theorem xt_72_m39 : xtg 72 (-39) = 33 := rfl
theorem xtc_72_m39 : (((72 : Nat) : Int) + (-39) = ((33 : Nat) : Int)) = True := eq_true rfl
theorem xt_72_56 : xtg 72 (56) = 128 := rfl
theorem xtc_72_56 : (((72 : Nat) : Int) + (56) = ((128 : Nat) : Int)) = True := eq_true rfl
theorem xt_73_m40 : xtg 73 (-40) = 33 := rfl
theorem xtc_73_m40 : (((73 : Nat) : Int) + (-40) = ((33 : Nat) : Int)) = True := eq_true rfl
theorem xt_74_m47 : xtg 74 (-47) = 27 := rfl
theorem xtc_74_m47 : (((74 : Nat) : Int) + (-47) = ((27 : Nat) : Int)) = True := eq_true rfl
theorem xt_75_7 : xtg 75 (7) = 82 := rfl
theorem xtc_75_7 : (((75 : Nat) : Int) + (7) = ((82 : Nat) : Int)) = True := eq_true rfl
theorem xt_75_12 : xtg 75 (12) = 87 := rfl
theorem xtc_75_12 : (((75 : Nat) : Int) + (12) = ((87 : Nat) : Int)) = True := eq_true rfl
theorem xt_75_49 : xtg 75 (49) = 124 := rfl
theorem xtc_75_49 : (((75 : Nat) : Int) + (49) = ((124 : Nat) : Int)) = True := eq_true rfl
theorem xt_76_8 : xtg 76 (8) = 84 := rfl
theorem xtc_76_8 : (((76 : Nat) : Int) + (8) = ((84 : Nat) : Int)) = True := eq_true rfl
theorem xt_76_12 : xtg 76 (12) = 88 := rfl
theorem xtc_76_12 : (((76 : Nat) : Int) + (12) = ((88 : Nat) : Int)) = True := eq_true rfl
theorem xt_77_12 : xtg 77 (12) = 89 := rfl
theorem xtc_77_12 : (((77 : Nat) : Int) + (12) = ((89 : Nat) : Int)) = True := eq_true rfl
theorem xt_78_m28 : xtg 78 (-28) = 50 := rfl
theorem xtc_78_m28 : (((78 : Nat) : Int) + (-28) = ((50 : Nat) : Int)) = True := eq_true rfl
theorem xt_79_m77 : xtg 79 (-77) = 2 := rfl
theorem xtc_79_m77 : (((79 : Nat) : Int) + (-77) = ((2 : Nat) : Int)) = True := eq_true rfl
theorem xt_79_m75 : xtg 79 (-75) = 4 := rfl
theorem xtc_79_m75 : (((79 : Nat) : Int) + (-75) = ((4 : Nat) : Int)) = True := eq_true rfl
theorem xt_79_m39 : xtg 79 (-39) = 40 := rfl
theorem xtc_79_m39 : (((79 : Nat) : Int) + (-39) = ((40 : Nat) : Int)) = True := eq_true rfl
theorem xt_79_4 : xtg 79 (4) = 83 := rfl
theorem xtc_79_4 : (((79 : Nat) : Int) + (4) = ((83 : Nat) : Int)) = True := eq_true rfl
theorem xt_80_7 : xtg 80 (7) = 87 := rfl
theorem xtc_80_7 : (((80 : Nat) : Int) + (7) = ((87 : Nat) : Int)) = True := eq_true rfl
theorem xt_80_17 : xtg 80 (17) = 97 := rfl
theorem xtc_80_17 : (((80 : Nat) : Int) + (17) = ((97 : Nat) : Int)) = True := eq_true rfl
theorem xt_80_18 : xtg 80 (18) = 98 := rfl
theorem xtc_80_18 : (((80 : Nat) : Int) + (18) = ((98 : Nat) : Int)) = True := eq_true rfl
theorem xt_81_m56 : xtg 81 (-56) = 25 := rfl
theorem xtc_81_m56 : (((81 : Nat) : Int) + (-56) = ((25 : Nat) : Int)) = True := eq_true rfl
theorem xt_81_6 : xtg 81 (6) = 87 := rfl
theorem xtc_81_6 : (((81 : Nat) : Int) + (6) = ((87 : Nat) : Int)) = True := eq_true rfl
theorem xt_81_35 : xtg 81 (35) = 116 := rfl
theorem xtc_81_35 : (((81 : Nat) : Int) + (35) = ((116 : Nat) : Int)) = True := eq_true rfl
theorem xt_82_5 : xtg 82 (5) = 87 := rfl
theorem xtc_82_5 : (((82 : Nat) : Int) + (5) = ((87 : Nat) : Int)) = True := eq_true rfl
theorem xt_82_7 : xtg 82 (7) = 89 := rfl
theorem xtc_82_7 : (((82 : Nat) : Int) + (7) = ((89 : Nat) : Int)) = True := eq_true rfl
theorem xt_83_7 : xtg 83 (7) = 90 := rfl
theorem xtc_83_7 : (((83 : Nat) : Int) + (7) = ((90 : Nat) : Int)) = True := eq_true rfl
theorem xt_84_9 : xtg 84 (9) = 93 := rfl
theorem xtc_84_9 : (((84 : Nat) : Int) + (9) = ((93 : Nat) : Int)) = True := eq_true rfl
theorem xt_85_m68 : xtg 85 (-68) = 17 := rfl
theorem xtc_85_m68 : (((85 : Nat) : Int) + (-68) = ((17 : Nat) : Int)) = True := eq_true rfl
theorem xt_85_m60 : xtg 85 (-60) = 25 := rfl
theorem xtc_85_m60 : (((85 : Nat) : Int) + (-60) = ((25 : Nat) : Int)) = True := eq_true rfl
theorem xt_86_4 : xtg 86 (4) = 90 := rfl
theorem xtc_86_4 : (((86 : Nat) : Int) + (4) = ((90 : Nat) : Int)) = True := eq_true rfl
theorem xt_87_4 : xtg 87 (4) = 91 := rfl
theorem xtc_87_4 : (((87 : Nat) : Int) + (4) = ((91 : Nat) : Int)) = True := eq_true rfl
theorem xt_87_15 : xtg 87 (15) = 102 := rfl
theorem xtc_87_15 : (((87 : Nat) : Int) + (15) = ((102 : Nat) : Int)) = True := eq_true rfl
theorem xt_91_m81 : xtg 91 (-81) = 10 := rfl
theorem xtc_91_m81 : (((91 : Nat) : Int) + (-81) = ((10 : Nat) : Int)) = True := eq_true rfl
theorem xt_91_9 : xtg 91 (9) = 100 := rfl
theorem xtc_91_9 : (((91 : Nat) : Int) + (9) = ((100 : Nat) : Int)) = True := eq_true rfl
theorem xt_94_m73 : xtg 94 (-73) = 21 := rfl
theorem xtc_94_m73 : (((94 : Nat) : Int) + (-73) = ((21 : Nat) : Int)) = True := eq_true rfl
theorem xt_94_16 : xtg 94 (16) = 110 := rfl
theorem xtc_94_16 : (((94 : Nat) : Int) + (16) = ((110 : Nat) : Int)) = True := eq_true rfl
theorem xt_94_62 : xtg 94 (62) = 156 := rfl
theorem xtc_94_62 : (((94 : Nat) : Int) + (62) = ((156 : Nat) : Int)) = True := eq_true rfl
theorem xt_95_6 : xtg 95 (6) = 101 := rfl
theorem xtc_95_6 : (((95 : Nat) : Int) + (6) = ((101 : Nat) : Int)) = True := eq_true rfl
theorem xt_95_33 : xtg 95 (33) = 128 := rfl
theorem xtc_95_33 : (((95 : Nat) : Int) + (33) = ((128 : Nat) : Int)) = True := eq_true rfl
theorem xt_96_m38 : xtg 96 (-38) = 58 := rfl
theorem xtc_96_m38 : (((96 : Nat) : Int) + (-38) = ((58 : Nat) : Int)) = True := eq_true rfl
theorem xt_98_13 : xtg 98 (13) = 111 := rfl
theorem xtc_98_13 : (((98 : Nat) : Int) + (13) = ((111 : Nat) : Int)) = True := eq_true rfl
theorem xt_99_7 : xtg 99 (7) = 106 := rfl
theorem xtc_99_7 : (((99 : Nat) : Int) + (7) = ((106 : Nat) : Int)) = True := eq_true rfl
theorem xt_101_6 : xtg 101 (6) = 107 := rfl
theorem xtc_101_6 : (((101 : Nat) : Int) + (6) = ((107 : Nat) : Int)) = True := eq_true rfl
theorem xt_102_54 : xtg 102 (54) = 156 := rfl
theorem xtc_102_54 : (((102 : Nat) : Int) + (54) = ((156 : Nat) : Int)) = True := eq_true rfl
theorem xt_103_4 : xtg 103 (4) = 107 := rfl
theorem xtc_103_4 : (((103 : Nat) : Int) + (4) = ((107 : Nat) : Int)) = True := eq_true rfl
theorem xt_103_12 : xtg 103 (12) = 115 := rfl
theorem xtc_103_12 : (((103 : Nat) : Int) + (12) = ((115 : Nat) : Int)) = True := eq_true rfl
theorem xt_104_11 : xtg 104 (11) = 115 := rfl
theorem xtc_104_11 : (((104 : Nat) : Int) + (11) = ((115 : Nat) : Int)) = True := eq_true rfl
theorem xt_104_12 : xtg 104 (12) = 116 := rfl
theorem xtc_104_12 : (((104 : Nat) : Int) + (12) = ((116 : Nat) : Int)) = True := eq_true rfl
theorem xt_105_m68 : xtg 105 (-68) = 37 := rfl
theorem xtc_105_m68 : (((105 : Nat) : Int) + (-68) = ((37 : Nat) : Int)) = True := eq_true rfl
theorem xt_107_m105 : xtg 107 (-105) = 2 := rfl
theorem xtc_107_m105 : (((107 : Nat) : Int) + (-105) = ((2 : Nat) : Int)) = True := eq_true rfl
theorem xt_108_7 : xtg 108 (7) = 115 := rfl
theorem xtc_108_7 : (((108 : Nat) : Int) + (7) = ((115 : Nat) : Int)) = True := eq_true rfl
theorem xt_108_41 : xtg 108 (41) = 149 := rfl
theorem xtc_108_41 : (((108 : Nat) : Int) + (41) = ((149 : Nat) : Int)) = True := eq_true rfl
theorem xt_112_m110 : xtg 112 (-110) = 2 := rfl
theorem xtc_112_m110 : (((112 : Nat) : Int) + (-110) = ((2 : Nat) : Int)) = True := eq_true rfl
theorem xt_112_m104 : xtg 112 (-104) = 8 := rfl
theorem xtc_112_m104 : (((112 : Nat) : Int) + (-104) = ((8 : Nat) : Int)) = True := eq_true rfl
theorem xt_112_4 : xtg 112 (4) = 116 := rfl
theorem xtc_112_4 : (((112 : Nat) : Int) + (4) = ((116 : Nat) : Int)) = True := eq_true rfl
theorem xt_113_m35 : xtg 113 (-35) = 78 := rfl
theorem xtc_113_m35 : (((113 : Nat) : Int) + (-35) = ((78 : Nat) : Int)) = True := eq_true rfl
theorem xt_113_15 : xtg 113 (15) = 128 := rfl
theorem xtc_113_15 : (((113 : Nat) : Int) + (15) = ((128 : Nat) : Int)) = True := eq_true rfl
theorem xt_113_20 : xtg 113 (20) = 133 := rfl
theorem xtc_113_20 : (((113 : Nat) : Int) + (20) = ((133 : Nat) : Int)) = True := eq_true rfl
theorem xt_115_16 : xtg 115 (16) = 131 := rfl
theorem xtc_115_16 : (((115 : Nat) : Int) + (16) = ((131 : Nat) : Int)) = True := eq_true rfl
theorem xt_118_48 : xtg 118 (48) = 166 := rfl
theorem xtc_118_48 : (((118 : Nat) : Int) + (48) = ((166 : Nat) : Int)) = True := eq_true rfl
theorem xt_121_m51 : xtg 121 (-51) = 70 := rfl
theorem xtc_121_m51 : (((121 : Nat) : Int) + (-51) = ((70 : Nat) : Int)) = True := eq_true rfl
theorem xt_121_12 : xtg 121 (12) = 133 := rfl
theorem xtc_121_12 : (((121 : Nat) : Int) + (12) = ((133 : Nat) : Int)) = True := eq_true rfl
theorem xt_122_7 : xtg 122 (7) = 129 := rfl
theorem xtc_122_7 : (((122 : Nat) : Int) + (7) = ((129 : Nat) : Int)) = True := eq_true rfl
theorem xt_126_4 : xtg 126 (4) = 130 := rfl
theorem xtc_126_4 : (((126 : Nat) : Int) + (4) = ((130 : Nat) : Int)) = True := eq_true rfl
theorem xt_128_32 : xtg 128 (32) = 160 := rfl
theorem xtc_128_32 : (((128 : Nat) : Int) + (32) = ((160 : Nat) : Int)) = True := eq_true rfl
theorem xt_128_38 : xtg 128 (38) = 166 := rfl
theorem xtc_128_38 : (((128 : Nat) : Int) + (38) = ((166 : Nat) : Int)) = True := eq_true rfl
theorem xt_131_9 : xtg 131 (9) = 140 := rfl
theorem xtc_131_9 : (((131 : Nat) : Int) + (9) = ((140 : Nat) : Int)) = True := eq_true rfl
theorem xt_134_m76 : xtg 134 (-76) = 58 := rfl
theorem xtc_134_m76 : (((134 : Nat) : Int) + (-76) = ((58 : Nat) : Int)) = True := eq_true rfl
theorem xt_134_477 : xtg 134 (477) = 611 := rfl
theorem xtc_134_477 : (((134 : Nat) : Int) + (477) = ((611 : Nat) : Int)) = True := eq_true rfl
theorem xt_137_8 : xtg 137 (8) = 145 := rfl
theorem xtc_137_8 : (((137 : Nat) : Int) + (8) = ((145 : Nat) : Int)) = True := eq_true rfl
theorem xt_139_27 : xtg 139 (27) = 166 := rfl
theorem xtc_139_27 : (((139 : Nat) : Int) + (27) = ((166 : Nat) : Int)) = True := eq_true rfl
theorem xt_146_m42 : xtg 146 (-42) = 104 := rfl
theorem xtc_146_m42 : (((146 : Nat) : Int) + (-42) = ((104 : Nat) : Int)) = True := eq_true rfl
theorem xt_147_464 : xtg 147 (464) = 611 := rfl
theorem xtc_147_464 : (((147 : Nat) : Int) + (464) = ((611 : Nat) : Int)) = True := eq_true rfl
theorem xt_149_7 : xtg 149 (7) = 156 := rfl
theorem xtc_149_7 : (((149 : Nat) : Int) + (7) = ((156 : Nat) : Int)) = True := eq_true rfl
theorem xt_151_19 : xtg 151 (19) = 170 := rfl
theorem xtc_151_19 : (((151 : Nat) : Int) + (19) = ((170 : Nat) : Int)) = True := eq_true rfl
theorem xt_152_m91 : xtg 152 (-91) = 61 := rfl
theorem xtc_152_m91 : (((152 : Nat) : Int) + (-91) = ((61 : Nat) : Int)) = True := eq_true rfl
theorem xt_157_m33 : xtg 157 (-33) = 124 := rfl
theorem xtc_157_m33 : (((157 : Nat) : Int) + (-33) = ((124 : Nat) : Int)) = True := eq_true rfl
theorem xt_157_9 : xtg 157 (9) = 166 := rfl
theorem xtc_157_9 : (((157 : Nat) : Int) + (9) = ((166 : Nat) : Int)) = True := eq_true rfl
theorem xt_160_451 : xtg 160 (451) = 611 := rfl
theorem xtc_160_451 : (((160 : Nat) : Int) + (451) = ((611 : Nat) : Int)) = True := eq_true rfl
theorem xt_163_m48 : xtg 163 (-48) = 115 := rfl
theorem xtc_163_m48 : (((163 : Nat) : Int) + (-48) = ((115 : Nat) : Int)) = True := eq_true rfl
theorem xt_163_m38 : xtg 163 (-38) = 125 := rfl
theorem xtc_163_m38 : (((163 : Nat) : Int) + (-38) = ((125 : Nat) : Int)) = True := eq_true rfl
theorem xt_163_m26 : xtg 163 (-26) = 137 := rfl
theorem xtc_163_m26 : (((163 : Nat) : Int) + (-26) = ((137 : Nat) : Int)) = True := eq_true rfl
theorem xt_173_438 : xtg 173 (438) = 611 := rfl
theorem xtc_173_438 : (((173 : Nat) : Int) + (438) = ((611 : Nat) : Int)) = True := eq_true rfl
theorem xt_176_56 : xtg 176 (56) = 232 := rfl
theorem xtc_176_56 : (((176 : Nat) : Int) + (56) = ((232 : Nat) : Int)) = True := eq_true rfl
theorem xt_178_24 : xtg 178 (24) = 202 := rfl
theorem xtc_178_24 : (((178 : Nat) : Int) + (24) = ((202 : Nat) : Int)) = True := eq_true rfl
theorem xt_181_7 : xtg 181 (7) = 188 := rfl
theorem xtc_181_7 : (((181 : Nat) : Int) + (7) = ((188 : Nat) : Int)) = True := eq_true rfl
theorem xt_185_26 : xtg 185 (26) = 211 := rfl
theorem xtc_185_26 : (((185 : Nat) : Int) + (26) = ((211 : Nat) : Int)) = True := eq_true rfl
theorem xt_186_40 : xtg 186 (40) = 226 := rfl
theorem xtc_186_40 : (((186 : Nat) : Int) + (40) = ((226 : Nat) : Int)) = True := eq_true rfl
theorem xt_190_75 : xtg 190 (75) = 265 := rfl
theorem xtc_190_75 : (((190 : Nat) : Int) + (75) = ((265 : Nat) : Int)) = True := eq_true rfl
theorem xt_199_m31 : xtg 199 (-31) = 168 := rfl
theorem xtc_199_m31 : (((199 : Nat) : Int) + (-31) = ((168 : Nat) : Int)) = True := eq_true rfl
theorem xt_203_7 : xtg 203 (7) = 210 := rfl
theorem xtc_203_7 : (((203 : Nat) : Int) + (7) = ((210 : Nat) : Int)) = True := eq_true rfl
theorem xt_206_405 : xtg 206 (405) = 611 := rfl
theorem xtc_206_405 : (((206 : Nat) : Int) + (405) = ((611 : Nat) : Int)) = True := eq_true rfl
theorem xt_207_4 : xtg 207 (4) = 211 := rfl
theorem xtc_207_4 : (((207 : Nat) : Int) + (4) = ((211 : Nat) : Int)) = True := eq_true rfl
theorem xt_209_56 : xtg 209 (56) = 265 := rfl
theorem xtc_209_56 : (((209 : Nat) : Int) + (56) = ((265 : Nat) : Int)) = True := eq_true rfl
theorem xt_216_26 : xtg 216 (26) = 242 := rfl
theorem xtc_216_26 : (((216 : Nat) : Int) + (26) = ((242 : Nat) : Int)) = True := eq_true rfl
theorem xt_223_m41 : xtg 223 (-41) = 182 := rfl
theorem xtc_223_m41 : (((223 : Nat) : Int) + (-41) = ((182 : Nat) : Int)) = True := eq_true rfl
theorem xt_229_m56 : xtg 229 (-56) = 173 := rfl
theorem xtc_229_m56 : (((229 : Nat) : Int) + (-56) = ((173 : Nat) : Int)) = True := eq_true rfl
theorem xt_239_7 : xtg 239 (7) = 246 := rfl
theorem xtc_239_7 : (((239 : Nat) : Int) + (7) = ((246 : Nat) : Int)) = True := eq_true rfl
theorem xt_239_372 : xtg 239 (372) = 611 := rfl
theorem xtc_239_372 : (((239 : Nat) : Int) + (372) = ((611 : Nat) : Int)) = True := eq_true rfl
theorem xt_262_m80 : xtg 262 (-80) = 182 := rfl
theorem xtc_262_m80 : (((262 : Nat) : Int) + (-80) = ((182 : Nat) : Int)) = True := eq_true rfl
theorem xt_266_9 : xtg 266 (9) = 275 := rfl
theorem xtc_266_9 : (((266 : Nat) : Int) + (9) = ((275 : Nat) : Int)) = True := eq_true rfl
theorem xt_272_12 : xtg 272 (12) = 284 := rfl
theorem xtc_272_12 : (((272 : Nat) : Int) + (12) = ((284 : Nat) : Int)) = True := eq_true rfl
theorem xt_272_339 : xtg 272 (339) = 611 := rfl
theorem xtc_272_339 : (((272 : Nat) : Int) + (339) = ((611 : Nat) : Int)) = True := eq_true rfl
theorem xt_295_316 : xtg 295 (316) = 611 := rfl
theorem xtc_295_316 : (((295 : Nat) : Int) + (316) = ((611 : Nat) : Int)) = True := eq_true rfl
theorem xt_318_293 : xtg 318 (293) = 611 := rfl
theorem xtc_318_293 : (((318 : Nat) : Int) + (293) = ((611 : Nat) : Int)) = True := eq_true rfl
theorem xt_351_260 : xtg 351 (260) = 611 := rfl
theorem xtc_351_260 : (((351 : Nat) : Int) + (260) = ((611 : Nat) : Int)) = True := eq_true rfl
theorem xt_364_247 : xtg 364 (247) = 611 := rfl
theorem xtc_364_247 : (((364 : Nat) : Int) + (247) = ((611 : Nat) : Int)) = True := eq_true rfl
theorem xt_451_160 : xtg 451 (160) = 611 := rfl
theorem xtc_451_160 : (((451 : Nat) : Int) + (160) = ((611 : Nat) : Int)) = True := eq_true rfl
theorem xt_484_127 : xtg 484 (127) = 611 := rfl
theorem xtc_484_127 : (((484 : Nat) : Int) + (127) = ((611 : Nat) : Int)) = True := eq_true rfl
theorem xt_517_94 : xtg 517 (94) = 611 := rfl
theorem xtc_517_94 : (((517 : Nat) : Int) + (94) = ((611 : Nat) : Int)) = True := eq_true rfl
theorem xt_550_61 : xtg 550 (61) = 611 := rfl
theorem xtc_550_61 : (((550 : Nat) : Int) + (61) = ((611 : Nat) : Int)) = True := eq_true rfl
theorem xt_573_38 : xtg 573 (38) = 611 := rfl
theorem xtc_573_38 : (((573 : Nat) : Int) + (38) = ((611 : Nat) : Int)) = True := eq_true rfl
theorem xt_606_5 : xtg 606 (5) = 611 := rfl
theorem xtc_606_5 : (((606 : Nat) : Int) + (5) = ((611 : Nat) : Int)) = True := eq_true rfl
theorem xt_614_m596 : xtg 614 (-596) = 18 := rfl
theorem xtc_614_m596 : (((614 : Nat) : Int) + (-596) = ((18 : Nat) : Int)) = True := eq_true rfl
theorem xft_0_0 (x : Nat) : xfit true RX0 0 0 (.ref x) = True := eq_true ⟨_, rfl, fun _ => ⟨rfl, rfl⟩, tyX0 0, tyX0_ok 0 (by decide), rfl, rfl⟩
theorem xft_0_1 (x : Nat) : xfit true RX0 0 1 (.ref x) = True := eq_true ⟨_, rfl, fun _ => ⟨rfl, rfl⟩, tyX0 1, tyX0_ok 1 (by decide), rfl, rfl⟩
theorem xft_1_0 (x : Nat) : xfit true RX1 1 0 (.ref x) = True := eq_true ⟨_, rfl, fun _ => ⟨rfl, rfl⟩, tyX1 0, tyX1_ok 0 (by decide), rfl, rfl⟩
theorem xft_1_1 (ini : Bool) (own : String) (x : Int64) : xfit ini own 1 1 (.long x) = True := eq_true ⟨_, rfl, fun h => absurd h (by decide), .long, tyX1_ok 1 (by decide), rfl, rfl⟩
theorem xft_1_2 (ini : Bool) (own : String) (x : Int64) : xfit ini own 1 2 (.long x) = True := eq_true ⟨_, rfl, fun h => absurd h (by decide), .long, tyX1_ok 2 (by decide), rfl, rfl⟩
theorem xft_1_3 (ini : Bool) (own : String) (x : Int64) : xfit ini own 1 3 (.long x) = True := eq_true ⟨_, rfl, fun h => absurd h (by decide), .long, tyX1_ok 3 (by decide), rfl, rfl⟩
theorem xft_2_0 (x : Nat) : xfit true RX2 2 0 (.ref x) = True := eq_true ⟨_, rfl, fun _ => ⟨rfl, rfl⟩, tyX2 0, tyX2_ok 0 (by decide), rfl, rfl⟩
theorem xft_2_1 (x : Nat) : xfit true RX2 2 1 (.ref x) = True := eq_true ⟨_, rfl, fun _ => ⟨rfl, rfl⟩, tyX2 1, tyX2_ok 1 (by decide), rfl, rfl⟩
theorem xft_2_2 (x : Nat) : xfit true RX2 2 2 (.ref x) = True := eq_true ⟨_, rfl, fun _ => ⟨rfl, rfl⟩, tyX2 2, tyX2_ok 2 (by decide), rfl, rfl⟩
theorem xft_2_3 (x : Nat) : xfit true RX2 2 3 (.ref x) = True := eq_true ⟨_, rfl, fun _ => ⟨rfl, rfl⟩, tyX2 3, tyX2_ok 3 (by decide), rfl, rfl⟩
theorem xft_2_4 (x : Nat) : xfit true RX2 2 4 (.ref x) = True := eq_true ⟨_, rfl, fun _ => ⟨rfl, rfl⟩, tyX2 4, tyX2_ok 4 (by decide), rfl, rfl⟩
theorem xft_3_0 (x : Nat) : xfit true RX3 3 0 (.ref x) = True := eq_true ⟨_, rfl, fun _ => ⟨rfl, rfl⟩, tyX3 0, tyX3_ok 0 (by decide), rfl, rfl⟩
theorem xft_3_1 (x : Nat) : xfit true RX3 3 1 (.ref x) = True := eq_true ⟨_, rfl, fun _ => ⟨rfl, rfl⟩, tyX3 1, tyX3_ok 1 (by decide), rfl, rfl⟩
theorem xft_3_2 (x : Nat) : xfit true RX3 3 2 (.ref x) = True := eq_true ⟨_, rfl, fun _ => ⟨rfl, rfl⟩, tyX3 2, tyX3_ok 2 (by decide), rfl, rfl⟩
theorem xft_3_3 (x : Nat) : xfit true RX3 3 3 (.ref x) = True := eq_true ⟨_, rfl, fun _ => ⟨rfl, rfl⟩, tyX3 3, tyX3_ok 3 (by decide), rfl, rfl⟩
theorem xft_3_4 (x : Nat) : xfit true RX3 3 4 (.ref x) = True := eq_true ⟨_, rfl, fun _ => ⟨rfl, rfl⟩, tyX3 4, tyX3_ok 4 (by decide), rfl, rfl⟩
theorem xft_3_5 (x : Nat) : xfit true RX3 3 5 (.ref x) = True := eq_true ⟨_, rfl, fun _ => ⟨rfl, rfl⟩, tyX3 5, tyX3_ok 5 (by decide), rfl, rfl⟩
theorem xft_3_6 (x : Nat) : xfit true RX3 3 6 (.ref x) = True := eq_true ⟨_, rfl, fun _ => ⟨rfl, rfl⟩, tyX3 6, tyX3_ok 6 (by decide), rfl, rfl⟩
theorem xft_3_7 (ini : Bool) (own : String) (x : Int32) : xfit ini own 3 7 (.int x) = True := eq_true ⟨_, rfl, fun h => absurd h (by decide), .int, tyX3_ok 7 (by decide), rfl, rfl⟩
theorem xft_4_0 (x : Nat) : xfit true RX4 4 0 (.ref x) = True := eq_true ⟨_, rfl, fun _ => ⟨rfl, rfl⟩, tyX4 0, tyX4_ok 0 (by decide), rfl, rfl⟩
theorem xft_4_1 (x : Nat) : xfit true RX4 4 1 (.ref x) = True := eq_true ⟨_, rfl, fun _ => ⟨rfl, rfl⟩, tyX4 1, tyX4_ok 1 (by decide), rfl, rfl⟩
theorem xft_4_2 (ini : Bool) (own : String) (x : Int32) : xfit ini own 4 2 (.int x) = True := eq_true ⟨_, rfl, fun h => absurd h (by decide), .int, tyX4_ok 2 (by decide), rfl, rfl⟩
theorem xft_4_3 (ini : Bool) (own : String) (x : Int32) : xfit ini own 4 3 (.int x) = True := eq_true ⟨_, rfl, fun h => absurd h (by decide), .int, tyX4_ok 3 (by decide), rfl, rfl⟩
theorem xft_4_4 (ini : Bool) (own : String) (x : Int32) : xfit ini own 4 4 (.int x) = True := eq_true ⟨_, rfl, fun h => absurd h (by decide), .int, tyX4_ok 4 (by decide), rfl, rfl⟩
theorem xft_4_5 (ini : Bool) (own : String) (x : Int32) : xfit ini own 4 5 (.int x) = True := eq_true ⟨_, rfl, fun h => absurd h (by decide), .int, tyX4_ok 5 (by decide), rfl, rfl⟩
theorem xft_4_6 (ini : Bool) (own : String) (x : Int32) : xfit ini own 4 6 (.int x) = True := eq_true ⟨_, rfl, fun h => absurd h (by decide), .int, tyX4_ok 6 (by decide), rfl, rfl⟩
theorem xft_4_7 (ini : Bool) (own : String) (x : Int32) : xfit ini own 4 7 (.int x) = True := eq_true ⟨_, rfl, fun h => absurd h (by decide), .int, tyX4_ok 7 (by decide), rfl, rfl⟩
theorem xft_4_8 (ini : Bool) (own : String) (x : Int32) : xfit ini own 4 8 (.int x) = True := eq_true ⟨_, rfl, fun h => absurd h (by decide), .int, tyX4_ok 8 (by decide), rfl, rfl⟩
theorem xft_5_0 (x : Nat) : xfit true RX5 5 0 (.ref x) = True := eq_true ⟨_, rfl, fun _ => ⟨rfl, rfl⟩, tyX5 0, tyX5_ok 0 (by decide), rfl, rfl⟩
theorem xft_5_1 (x : Nat) : xfit true RX5 5 1 (.ref x) = True := eq_true ⟨_, rfl, fun _ => ⟨rfl, rfl⟩, tyX5 1, tyX5_ok 1 (by decide), rfl, rfl⟩
theorem xft_5_2 (x : Nat) : xfit true RX5 5 2 (.ref x) = True := eq_true ⟨_, rfl, fun _ => ⟨rfl, rfl⟩, tyX5 2, tyX5_ok 2 (by decide), rfl, rfl⟩
theorem xft_5_3 (x : Nat) : xfit true RX5 5 3 (.ref x) = True := eq_true ⟨_, rfl, fun _ => ⟨rfl, rfl⟩, tyX5 3, tyX5_ok 3 (by decide), rfl, rfl⟩
theorem xft_6_0 (x : Nat) : xfit true RX6 6 0 (.ref x) = True := eq_true ⟨_, rfl, fun _ => ⟨rfl, rfl⟩, tyX6 0, tyX6_ok 0 (by decide), rfl, rfl⟩
theorem xft_6_1 (x : Nat) : xfit true RX6 6 1 (.ref x) = True := eq_true ⟨_, rfl, fun _ => ⟨rfl, rfl⟩, tyX6 1, tyX6_ok 1 (by decide), rfl, rfl⟩
theorem xft_6_2 (x : Nat) : xfit true RX6 6 2 (.ref x) = True := eq_true ⟨_, rfl, fun _ => ⟨rfl, rfl⟩, tyX6 2, tyX6_ok 2 (by decide), rfl, rfl⟩
theorem xft_6_3 (ini : Bool) (own : String) (x : Int32) : xfit ini own 6 3 (.int x) = True := eq_true ⟨_, rfl, fun h => absurd h (by decide), .int, tyX6_ok 3 (by decide), rfl, rfl⟩
theorem xft_6_4 (ini : Bool) (own : String) (x : Int32) : xfit ini own 6 4 (.int x) = True := eq_true ⟨_, rfl, fun h => absurd h (by decide), .int, tyX6_ok 4 (by decide), rfl, rfl⟩
theorem xft_6_5 (ini : Bool) (own : String) (x : Int32) : xfit ini own 6 5 (.int x) = True := eq_true ⟨_, rfl, fun h => absurd h (by decide), .int, tyX6_ok 5 (by decide), rfl, rfl⟩
theorem xft_6_6 (x : Nat) : xfit true RX6 6 6 (.ref x) = True := eq_true ⟨_, rfl, fun _ => ⟨rfl, rfl⟩, tyX6 6, tyX6_ok 6 (by decide), rfl, rfl⟩
theorem xft_6_7 (x : Nat) : xfit true RX6 6 7 (.ref x) = True := eq_true ⟨_, rfl, fun _ => ⟨rfl, rfl⟩, tyX6 7, tyX6_ok 7 (by decide), rfl, rfl⟩
theorem xft_6_8 (x : Nat) : xfit true RX6 6 8 (.ref x) = True := eq_true ⟨_, rfl, fun _ => ⟨rfl, rfl⟩, tyX6 8, tyX6_ok 8 (by decide), rfl, rfl⟩
theorem xft_6_9 (x : Nat) : xfit true RX6 6 9 (.ref x) = True := eq_true ⟨_, rfl, fun _ => ⟨rfl, rfl⟩, tyX6 9, tyX6_ok 9 (by decide), rfl, rfl⟩
theorem xft_6_10 (ini : Bool) (own : String) (x : Int32) : xfit ini own 6 10 (.int x) = True := eq_true ⟨_, rfl, fun h => absurd h (by decide), .int, tyX6_ok 10 (by decide), rfl, rfl⟩
theorem xft_6_11 (x : Nat) : xfit true RX6 6 11 (.ref x) = True := eq_true ⟨_, rfl, fun _ => ⟨rfl, rfl⟩, tyX6 11, tyX6_ok 11 (by decide), rfl, rfl⟩
theorem xft_6_12 (x : Nat) : xfit true RX6 6 12 (.ref x) = True := eq_true ⟨_, rfl, fun _ => ⟨rfl, rfl⟩, tyX6 12, tyX6_ok 12 (by decide), rfl, rfl⟩
theorem xft_6_13 (x : Nat) : xfit true RX6 6 13 (.ref x) = True := eq_true ⟨_, rfl, fun _ => ⟨rfl, rfl⟩, tyX6 13, tyX6_ok 13 (by decide), rfl, rfl⟩
theorem xft_6_14 (ini : Bool) (own : String) (x : Int32) : xfit ini own 6 14 (.int x) = True := eq_true ⟨_, rfl, fun h => absurd h (by decide), .int, tyX6_ok 14 (by decide), rfl, rfl⟩
theorem xft_6_15 (ini : Bool) (own : String) (x : Int32) : xfit ini own 6 15 (.int x) = True := eq_true ⟨_, rfl, fun h => absurd h (by decide), .int, tyX6_ok 15 (by decide), rfl, rfl⟩
theorem xft_6_16 (ini : Bool) (own : String) (x : Int32) : xfit ini own 6 16 (.int x) = True := eq_true ⟨_, rfl, fun h => absurd h (by decide), .int, tyX6_ok 16 (by decide), rfl, rfl⟩
theorem xft_6_17 (ini : Bool) (own : String) (x : Int32) : xfit ini own 6 17 (.int x) = True := eq_true ⟨_, rfl, fun h => absurd h (by decide), .int, tyX6_ok 17 (by decide), rfl, rfl⟩
theorem xft_6_18 (ini : Bool) (own : String) (x : Int32) : xfit ini own 6 18 (.int x) = True := eq_true ⟨_, rfl, fun h => absurd h (by decide), .int, tyX6_ok 18 (by decide), rfl, rfl⟩
theorem xft_6_19 (ini : Bool) (own : String) (x : Int32) : xfit ini own 6 19 (.int x) = True := eq_true ⟨_, rfl, fun h => absurd h (by decide), .int, tyX6_ok 19 (by decide), rfl, rfl⟩
theorem xft_6_20 (x : Nat) : xfit true RX6 6 20 (.ref x) = True := eq_true ⟨_, rfl, fun _ => ⟨rfl, rfl⟩, tyX6 20, tyX6_ok 20 (by decide), rfl, rfl⟩
theorem xft_6_21 (ini : Bool) (own : String) (x : Int32) : xfit ini own 6 21 (.int x) = True := eq_true ⟨_, rfl, fun h => absurd h (by decide), .int, tyX6_ok 21 (by decide), rfl, rfl⟩
theorem xft_6_22 (ini : Bool) (own : String) (x : Int32) : xfit ini own 6 22 (.int x) = True := eq_true ⟨_, rfl, fun h => absurd h (by decide), .int, tyX6_ok 22 (by decide), rfl, rfl⟩
theorem xft_6_23 (ini : Bool) (own : String) (x : Int32) : xfit ini own 6 23 (.int x) = True := eq_true ⟨_, rfl, fun h => absurd h (by decide), .int, tyX6_ok 23 (by decide), rfl, rfl⟩
theorem xft_6_24 (ini : Bool) (own : String) (x : Int32) : xfit ini own 6 24 (.int x) = True := eq_true ⟨_, rfl, fun h => absurd h (by decide), .int, tyX6_ok 24 (by decide), rfl, rfl⟩
theorem xft_6_25 (x : Nat) : xfit true RX6 6 25 (.ref x) = True := eq_true ⟨_, rfl, fun _ => ⟨rfl, rfl⟩, tyX6 25, tyX6_ok 25 (by decide), rfl, rfl⟩
theorem xft_6_26 (x : Nat) : xfit true RX6 6 26 (.ref x) = True := eq_true ⟨_, rfl, fun _ => ⟨rfl, rfl⟩, tyX6 26, tyX6_ok 26 (by decide), rfl, rfl⟩
theorem xft_6_27 (x : Nat) : xfit true RX6 6 27 (.ref x) = True := eq_true ⟨_, rfl, fun _ => ⟨rfl, rfl⟩, tyX6 27, tyX6_ok 27 (by decide), rfl, rfl⟩
theorem xft_6_28 (x : Nat) : xfit true RX6 6 28 (.ref x) = True := eq_true ⟨_, rfl, fun _ => ⟨rfl, rfl⟩, tyX6 28, tyX6_ok 28 (by decide), rfl, rfl⟩
theorem xft_6_29 (x : Nat) : xfit true RX6 6 29 (.ref x) = True := eq_true ⟨_, rfl, fun _ => ⟨rfl, rfl⟩, tyX6 29, tyX6_ok 29 (by decide), rfl, rfl⟩
