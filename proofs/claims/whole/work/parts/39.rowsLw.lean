set_option maxRecDepth 20000 in
theorem ggL_addArgument_X3_addArgument : GoodIn wsL_addArgument wsX3_addArgument := goodIn_ca (goodIn_ca (goodIn_r _ [7, 8, 9, 10, 11, 12, 13, 14, 6, 15, 16, 17, 18, 19, 20, 21, 22, 23, 24, 25, 26, 27, 28, 29, 30, 31, 32, 33, 34, 35, 36, 37, 38, 39, 40, 41, 42, 43, 44, 45, 46, 47, 48, 49, 50, 51, 52, 53, 54, 55, 56, 57, 58] (by decide +kernel) (by decide +kernel)) (goodIn_sub (fun _ h => List.mem_cons_of_mem _ (List.mem_append_left _ (List.mem_append_right _ h))) (by decide +kernel))) (goodIn_sub (fun _ h => List.mem_cons_of_mem _ (List.mem_append_right _ h)) (by decide +kernel))
set_option maxRecDepth 20000 in
theorem gL_addArgument_X3_addArgument : GoodIn wsL_addArgument (wsV RL 7 RX3 yX3_addArgument wsX3_addArgument) := goodIn_app (goodIn_of _ (by decide +kernel)) ggL_addArgument_X3_addArgument
theorem dL_addArgument_0 : decode cL_addArgument 0 = .ok (.aload_n 2, 1) := by decide +kernel
theorem dL_addArgument_1 : decode cL_addArgument 1 = .ok (.iconst 0, 1) := by decide +kernel
theorem dL_addArgument_2 : decode cL_addArgument 2 = .ok (.aload_n 0, 1) := by decide +kernel
theorem dL_addArgument_3 : decode cL_addArgument 3 = .ok (.iload_n 1, 1) := by decide +kernel
theorem dL_addArgument_4 : decode cL_addArgument 4 = .ok (.invokevirtual 7, 3) := by decide +kernel
theorem dL_addArgument_7 : decode cL_addArgument 7 = .ok (.i2l, 1) := by decide +kernel
theorem dL_addArgument_8 : decode cL_addArgument 8 = .ok (.lastore, 1) := by decide +kernel
theorem dL_addArgument_9 : decode cL_addArgument 9 = .ok (.goto 9, 3) := by decide +kernel
theorem dL_addArgument_12 : decode cL_addArgument 12 = .ok (.astore_n 3, 1) := by decide +kernel
theorem dL_addArgument_13 : decode cL_addArgument 13 = .ok (.iconst 1, 1) := by decide +kernel
theorem dL_addArgument_14 : decode cL_addArgument 14 = .ok (.ireturn, 1) := by decide +kernel
theorem dL_addArgument_15 : decode cL_addArgument 15 = .ok (.astore_n 3, 1) := by decide +kernel
theorem dL_addArgument_16 : decode cL_addArgument 16 = .ok (.iconst 2, 1) := by decide +kernel
theorem dL_addArgument_17 : decode cL_addArgument 17 = .ok (.ireturn, 1) := by decide +kernel
theorem dL_addArgument_18 : decode cL_addArgument 18 = .ok (.iconst 0, 1) := by decide +kernel
theorem dL_addArgument_19 : decode cL_addArgument 19 = .ok (.ireturn, 1) := by decide +kernel
set_option maxRecDepth 20000 in
theorem ggL_setWeight_X3_setWeight : GoodIn wsL_setWeight wsX3_setWeight := goodIn_ca (goodIn_ca (goodIn_r _ [7, 8, 9, 10, 11, 6, 12, 13, 14, 15, 16, 17, 18, 19, 20, 21, 22, 23, 24, 25, 26, 27, 28, 29, 30, 31, 32, 33, 34, 35, 36, 37, 38, 39, 40, 41, 42, 43, 44, 45, 46, 47, 48, 49, 50, 51, 52, 53, 54, 55, 56, 57, 58, 59, 60, 61, 62, 63] (by decide +kernel) (by decide +kernel)) (goodIn_sub (fun _ h => List.mem_cons_of_mem _ (List.mem_append_left _ (List.mem_append_right _ h))) (by decide +kernel))) (goodIn_sub (fun _ h => List.mem_cons_of_mem _ (List.mem_append_right _ h)) (by decide +kernel))
set_option maxRecDepth 20000 in
theorem gL_setWeight_X3_setWeight : GoodIn wsL_setWeight (wsV RL 17 RX3 yX3_setWeight wsX3_setWeight) := goodIn_app (goodIn_of _ (by decide +kernel)) ggL_setWeight_X3_setWeight
theorem dL_setWeight_0 : decode cL_setWeight 0 = .ok (.aload_n 3, 1) := by decide +kernel
theorem dL_setWeight_1 : decode cL_setWeight 1 = .ok (.iconst 0, 1) := by decide +kernel
theorem dL_setWeight_2 : decode cL_setWeight 2 = .ok (.aload_n 0, 1) := by decide +kernel
theorem dL_setWeight_3 : decode cL_setWeight 3 = .ok (.iload_n 1, 1) := by decide +kernel
theorem dL_setWeight_4 : decode cL_setWeight 4 = .ok (.iload_n 2, 1) := by decide +kernel
theorem dL_setWeight_5 : decode cL_setWeight 5 = .ok (.invokevirtual 17, 3) := by decide +kernel
theorem dL_setWeight_8 : decode cL_setWeight 8 = .ok (.i2l, 1) := by decide +kernel
theorem dL_setWeight_9 : decode cL_setWeight 9 = .ok (.lastore, 1) := by decide +kernel
theorem dL_setWeight_10 : decode cL_setWeight 10 = .ok (.goto 11, 3) := by decide +kernel
theorem dL_setWeight_13 : decode cL_setWeight 13 = .ok (.astore 4, 2) := by decide +kernel
theorem dL_setWeight_15 : decode cL_setWeight 15 = .ok (.iconst 1, 1) := by decide +kernel
theorem dL_setWeight_16 : decode cL_setWeight 16 = .ok (.ireturn, 1) := by decide +kernel
theorem dL_setWeight_17 : decode cL_setWeight 17 = .ok (.astore 4, 2) := by decide +kernel
theorem dL_setWeight_19 : decode cL_setWeight 19 = .ok (.iconst 2, 1) := by decide +kernel
theorem dL_setWeight_20 : decode cL_setWeight 20 = .ok (.ireturn, 1) := by decide +kernel
theorem dL_setWeight_21 : decode cL_setWeight 21 = .ok (.iconst 0, 1) := by decide +kernel
theorem dL_setWeight_22 : decode cL_setWeight 22 = .ok (.ireturn, 1) := by decide +kernel
set_option maxRecDepth 20000 in
theorem ggL_put_X3_put : GoodIn wsL_put wsX3_put := goodIn_ca (goodIn_r _ [6, 7, 8, 9, 10, 5, 11, 12, 13, 14, 15, 16, 17, 18, 19, 20, 21, 22, 23, 24, 25, 26, 27, 28, 29, 30, 31, 32, 33, 34, 35, 36, 37, 38, 39, 40, 41, 42, 43, 44, 45, 46, 47, 48, 49, 50, 51, 52, 53, 54, 55, 56, 57, 58, 59] (by decide +kernel) (by decide +kernel)) (goodIn_sub (fun _ h => List.mem_cons_of_mem _ (List.mem_append_right _ h)) (by decide +kernel))
set_option maxRecDepth 20000 in
theorem gL_put_X3_put : GoodIn wsL_put (wsV RL 23 RX3 yX3_put wsX3_put) := goodIn_app (goodIn_of _ (by decide +kernel)) ggL_put_X3_put
theorem dL_put_0 : decode cL_put 0 = .ok (.aload_n 3, 1) := by decide +kernel
theorem dL_put_1 : decode cL_put 1 = .ok (.iconst 0, 1) := by decide +kernel
theorem dL_put_2 : decode cL_put 2 = .ok (.aload_n 0, 1) := by decide +kernel
theorem dL_put_3 : decode cL_put 3 = .ok (.iload_n 1, 1) := by decide +kernel
theorem dL_put_4 : decode cL_put 4 = .ok (.iload_n 2, 1) := by decide +kernel
theorem dL_put_5 : decode cL_put 5 = .ok (.invokevirtual 23, 3) := by decide +kernel
theorem dL_put_8 : decode cL_put 8 = .ok (.ifCond .eq 7, 3) := by decide +kernel
theorem dL_put_11 : decode cL_put 11 = .ok (.lconst 1, 1) := by decide +kernel
theorem dL_put_12 : decode cL_put 12 = .ok (.goto 4, 3) := by decide +kernel
theorem dL_put_15 : decode cL_put 15 = .ok (.lconst 0, 1) := by decide +kernel
theorem dL_put_16 : decode cL_put 16 = .ok (.lastore, 1) := by decide +kernel
theorem dL_put_17 : decode cL_put 17 = .ok (.goto 7, 3) := by decide +kernel
theorem dL_put_20 : decode cL_put 20 = .ok (.astore 4, 2) := by decide +kernel
theorem dL_put_22 : decode cL_put 22 = .ok (.iconst 1, 1) := by decide +kernel
theorem dL_put_23 : decode cL_put 23 = .ok (.ireturn, 1) := by decide +kernel
theorem dL_put_24 : decode cL_put 24 = .ok (.iconst 0, 1) := by decide +kernel
theorem dL_put_25 : decode cL_put 25 = .ok (.ireturn, 1) := by decide +kernel
set_option maxRecDepth 20000 in
theorem ggL_attack_X3_attack : GoodIn wsL_attack wsX3_attack := goodIn_ca (goodIn_r _ [6, 7, 8, 9, 10, 5, 11, 12, 13, 14, 15, 16, 17, 18, 19, 20, 21, 22, 23, 24, 25, 26, 27, 28, 29, 30, 31, 32, 33, 34, 35, 36, 37, 38, 39, 40, 41, 42, 43, 44, 45, 46, 47, 48, 49, 50, 51, 52, 53, 54, 55, 56, 57, 58, 59, 60, 61] (by decide +kernel) (by decide +kernel)) (goodIn_sub (fun _ h => List.mem_cons_of_mem _ (List.mem_append_right _ h)) (by decide +kernel))
set_option maxRecDepth 20000 in
theorem gL_attack_X3_attack : GoodIn wsL_attack (wsV RL 27 RX3 yX3_attack wsX3_attack) := goodIn_app (goodIn_of _ (by decide +kernel)) ggL_attack_X3_attack
theorem dL_attack_0 : decode cL_attack 0 = .ok (.aload 4, 2) := by decide +kernel
theorem dL_attack_2 : decode cL_attack 2 = .ok (.iconst 0, 1) := by decide +kernel
theorem dL_attack_3 : decode cL_attack 3 = .ok (.aload_n 0, 1) := by decide +kernel
theorem dL_attack_4 : decode cL_attack 4 = .ok (.iload_n 1, 1) := by decide +kernel
theorem dL_attack_5 : decode cL_attack 5 = .ok (.iload_n 2, 1) := by decide +kernel
theorem dL_attack_6 : decode cL_attack 6 = .ok (.iload_n 3, 1) := by decide +kernel
theorem dL_attack_7 : decode cL_attack 7 = .ok (.invokevirtual 27, 3) := by decide +kernel
theorem dL_attack_10 : decode cL_attack 10 = .ok (.ifCond .eq 7, 3) := by decide +kernel
theorem dL_attack_13 : decode cL_attack 13 = .ok (.lconst 1, 1) := by decide +kernel
theorem dL_attack_14 : decode cL_attack 14 = .ok (.goto 4, 3) := by decide +kernel
theorem dL_attack_17 : decode cL_attack 17 = .ok (.lconst 0, 1) := by decide +kernel
theorem dL_attack_18 : decode cL_attack 18 = .ok (.lastore, 1) := by decide +kernel
theorem dL_attack_19 : decode cL_attack 19 = .ok (.goto 7, 3) := by decide +kernel
theorem dL_attack_22 : decode cL_attack 22 = .ok (.astore 5, 2) := by decide +kernel
theorem dL_attack_24 : decode cL_attack 24 = .ok (.iconst 1, 1) := by decide +kernel
theorem dL_attack_25 : decode cL_attack 25 = .ok (.ireturn, 1) := by decide +kernel
theorem dL_attack_26 : decode cL_attack 26 = .ok (.iconst 0, 1) := by decide +kernel
theorem dL_attack_27 : decode cL_attack 27 = .ok (.ireturn, 1) := by decide +kernel
set_option maxRecDepth 20000 in
theorem ggL_setTolerance_X3_setTolerance : GoodIn wsL_setTolerance wsX3_setTolerance := goodIn_ca (goodIn_r _ [6, 7, 8, 9, 10, 11, 12, 5, 13, 14, 15, 16, 17, 18, 19, 20, 21, 22, 23, 24, 25, 26, 27, 28, 29, 30, 31, 32, 33, 34, 35, 36, 37, 38, 39, 40, 41, 42, 43, 44, 45, 46, 47, 48, 49, 50] (by decide +kernel) (by decide +kernel)) (goodIn_sub (fun _ h => List.mem_cons_of_mem _ (List.mem_append_right _ h)) (by decide +kernel))
set_option maxRecDepth 20000 in
theorem gL_setTolerance_X3_setTolerance : GoodIn wsL_setTolerance (wsV RL 31 RX3 yX3_setTolerance wsX3_setTolerance) := goodIn_app (goodIn_of _ (by decide +kernel)) ggL_setTolerance_X3_setTolerance
theorem dL_setTolerance_0 : decode cL_setTolerance 0 = .ok (.aload_n 2, 1) := by decide +kernel
theorem dL_setTolerance_1 : decode cL_setTolerance 1 = .ok (.iconst 0, 1) := by decide +kernel
theorem dL_setTolerance_2 : decode cL_setTolerance 2 = .ok (.aload_n 0, 1) := by decide +kernel
theorem dL_setTolerance_3 : decode cL_setTolerance 3 = .ok (.iload_n 1, 1) := by decide +kernel
theorem dL_setTolerance_4 : decode cL_setTolerance 4 = .ok (.invokevirtual 31, 3) := by decide +kernel
theorem dL_setTolerance_7 : decode cL_setTolerance 7 = .ok (.i2l, 1) := by decide +kernel
theorem dL_setTolerance_8 : decode cL_setTolerance 8 = .ok (.lastore, 1) := by decide +kernel
theorem dL_setTolerance_9 : decode cL_setTolerance 9 = .ok (.goto 6, 3) := by decide +kernel
theorem dL_setTolerance_12 : decode cL_setTolerance 12 = .ok (.astore_n 3, 1) := by decide +kernel
theorem dL_setTolerance_13 : decode cL_setTolerance 13 = .ok (.iconst 1, 1) := by decide +kernel
theorem dL_setTolerance_14 : decode cL_setTolerance 14 = .ok (.ireturn, 1) := by decide +kernel
theorem dL_setTolerance_15 : decode cL_setTolerance 15 = .ok (.iconst 0, 1) := by decide +kernel
theorem dL_setTolerance_16 : decode cL_setTolerance 16 = .ok (.ireturn, 1) := by decide +kernel
set_option maxRecDepth 20000 in
theorem ggL_attackers_X3_attackers : GoodIn wsL_attackers wsX3_attackers := goodIn_ca (goodIn_r _ [6, 7, 8, 9, 10, 5, 11, 12, 13, 14, 15, 16, 17, 18, 19, 20, 21, 22, 23, 24, 25, 26, 27, 28, 29, 30, 31, 32, 33, 34, 35] (by decide +kernel) (by decide +kernel)) (goodIn_sub (fun _ h => List.mem_cons_of_mem _ (List.mem_append_right _ h)) (by decide +kernel))
set_option maxRecDepth 20000 in
theorem gL_attackers_X3_attackers : GoodIn wsL_attackers (wsV RL 34 RX3 yX3_attackers wsX3_attackers) := goodIn_app (goodIn_of _ (by decide +kernel)) ggL_attackers_X3_attackers
theorem dL_attackers_0 : decode cL_attackers 0 = .ok (.aload_n 2, 1) := by decide +kernel
theorem dL_attackers_1 : decode cL_attackers 1 = .ok (.iconst 0, 1) := by decide +kernel
theorem dL_attackers_2 : decode cL_attackers 2 = .ok (.aload_n 0, 1) := by decide +kernel
theorem dL_attackers_3 : decode cL_attackers 3 = .ok (.iload_n 1, 1) := by decide +kernel
theorem dL_attackers_4 : decode cL_attackers 4 = .ok (.invokevirtual 34, 3) := by decide +kernel
theorem dL_attackers_7 : decode cL_attackers 7 = .ok (.i2l, 1) := by decide +kernel
theorem dL_attackers_8 : decode cL_attackers 8 = .ok (.lastore, 1) := by decide +kernel
theorem dL_attackers_9 : decode cL_attackers 9 = .ok (.goto 6, 3) := by decide +kernel
theorem dL_attackers_12 : decode cL_attackers 12 = .ok (.astore_n 3, 1) := by decide +kernel
theorem dL_attackers_13 : decode cL_attackers 13 = .ok (.iconst 1, 1) := by decide +kernel
theorem dL_attackers_14 : decode cL_attackers 14 = .ok (.ireturn, 1) := by decide +kernel
theorem dL_attackers_15 : decode cL_attackers 15 = .ok (.iconst 0, 1) := by decide +kernel
theorem dL_attackers_16 : decode cL_attackers 16 = .ok (.ireturn, 1) := by decide +kernel
set_option maxRecDepth 20000 in
theorem ggL_attacked_X3_attacked : GoodIn wsL_attacked wsX3_attacked := goodIn_ca (goodIn_r _ [6, 7, 8, 9, 10, 5, 11, 12, 13, 14, 15, 16, 17, 18, 19, 20, 21, 22, 23, 24, 25, 26, 27, 28, 29, 30, 31, 32, 33, 34, 35] (by decide +kernel) (by decide +kernel)) (goodIn_sub (fun _ h => List.mem_cons_of_mem _ (List.mem_append_right _ h)) (by decide +kernel))
set_option maxRecDepth 20000 in
theorem gL_attacked_X3_attacked : GoodIn wsL_attacked (wsV RL 37 RX3 yX3_attacked wsX3_attacked) := goodIn_app (goodIn_of _ (by decide +kernel)) ggL_attacked_X3_attacked
theorem dL_attacked_0 : decode cL_attacked 0 = .ok (.aload_n 2, 1) := by decide +kernel
theorem dL_attacked_1 : decode cL_attacked 1 = .ok (.iconst 0, 1) := by decide +kernel
theorem dL_attacked_2 : decode cL_attacked 2 = .ok (.aload_n 0, 1) := by decide +kernel
theorem dL_attacked_3 : decode cL_attacked 3 = .ok (.iload_n 1, 1) := by decide +kernel
theorem dL_attacked_4 : decode cL_attacked 4 = .ok (.invokevirtual 37, 3) := by decide +kernel
theorem dL_attacked_7 : decode cL_attacked 7 = .ok (.i2l, 1) := by decide +kernel
theorem dL_attacked_8 : decode cL_attacked 8 = .ok (.lastore, 1) := by decide +kernel
theorem dL_attacked_9 : decode cL_attacked 9 = .ok (.goto 6, 3) := by decide +kernel
theorem dL_attacked_12 : decode cL_attacked 12 = .ok (.astore_n 3, 1) := by decide +kernel
theorem dL_attacked_13 : decode cL_attacked 13 = .ok (.iconst 1, 1) := by decide +kernel
theorem dL_attacked_14 : decode cL_attacked 14 = .ok (.ireturn, 1) := by decide +kernel
theorem dL_attacked_15 : decode cL_attacked 15 = .ok (.iconst 0, 1) := by decide +kernel
theorem dL_attacked_16 : decode cL_attacked 16 = .ok (.ireturn, 1) := by decide +kernel
set_option maxRecDepth 20000 in
theorem ggL_isFree_X3_isFree : GoodIn wsL_isFree wsX3_isFree := goodIn_ca (goodIn_r _ [6, 7, 8, 9, 10, 11, 5, 12, 13, 14, 15, 16, 17, 18, 19, 20, 21, 22, 23, 24, 25, 26, 27, 28, 29, 30, 31, 32, 33, 34, 35, 36, 37, 38, 39, 40, 41, 42] (by decide +kernel) (by decide +kernel)) (goodIn_sub (fun _ h => List.mem_cons_of_mem _ (List.mem_append_right _ h)) (by decide +kernel))
set_option maxRecDepth 20000 in
theorem gL_isFree_X3_isFree : GoodIn wsL_isFree (wsV RL 40 RX3 yX3_isFree wsX3_isFree) := goodIn_app (goodIn_of _ (by decide +kernel)) ggL_isFree_X3_isFree
theorem dL_isFree_0 : decode cL_isFree 0 = .ok (.aload_n 2, 1) := by decide +kernel
theorem dL_isFree_1 : decode cL_isFree 1 = .ok (.iconst 0, 1) := by decide +kernel
theorem dL_isFree_2 : decode cL_isFree 2 = .ok (.aload_n 0, 1) := by decide +kernel
theorem dL_isFree_3 : decode cL_isFree 3 = .ok (.iload_n 1, 1) := by decide +kernel
theorem dL_isFree_4 : decode cL_isFree 4 = .ok (.invokevirtual 40, 3) := by decide +kernel
theorem dL_isFree_7 : decode cL_isFree 7 = .ok (.ifCond .eq 7, 3) := by decide +kernel
theorem dL_isFree_10 : decode cL_isFree 10 = .ok (.lconst 1, 1) := by decide +kernel
theorem dL_isFree_11 : decode cL_isFree 11 = .ok (.goto 4, 3) := by decide +kernel
theorem dL_isFree_14 : decode cL_isFree 14 = .ok (.lconst 0, 1) := by decide +kernel
theorem dL_isFree_15 : decode cL_isFree 15 = .ok (.lastore, 1) := by decide +kernel
theorem dL_isFree_16 : decode cL_isFree 16 = .ok (.goto 6, 3) := by decide +kernel
theorem dL_isFree_19 : decode cL_isFree 19 = .ok (.astore_n 3, 1) := by decide +kernel
theorem dL_isFree_20 : decode cL_isFree 20 = .ok (.iconst 1, 1) := by decide +kernel
theorem dL_isFree_21 : decode cL_isFree 21 = .ok (.ireturn, 1) := by decide +kernel
theorem dL_isFree_22 : decode cL_isFree 22 = .ok (.iconst 0, 1) := by decide +kernel
theorem dL_isFree_23 : decode cL_isFree 23 = .ok (.ireturn, 1) := by decide +kernel
set_option maxRecDepth 20000 in
theorem ggL_defended_X3_defended : GoodIn wsL_defended wsX3_defended := goodIn_ca (goodIn_r _ [6, 7, 8, 9, 10, 11, 5, 12, 13, 14, 15, 16, 17, 18, 19, 20, 21, 22, 23, 24, 25, 26, 27, 28, 29, 30, 31, 32, 33, 34, 35, 36, 37, 38, 39, 40, 41, 42, 43, 44, 45, 46, 47, 48] (by decide +kernel) (by decide +kernel)) (goodIn_sub (fun _ h => List.mem_cons_of_mem _ (List.mem_append_right _ h)) (by decide +kernel))
set_option maxRecDepth 20000 in
theorem gL_defended_X3_defended : GoodIn wsL_defended (wsV RL 44 RX3 yX3_defended wsX3_defended) := goodIn_app (goodIn_of _ (by decide +kernel)) ggL_defended_X3_defended
theorem dL_defended_0 : decode cL_defended 0 = .ok (.aload_n 2, 1) := by decide +kernel
theorem dL_defended_1 : decode cL_defended 1 = .ok (.iconst 0, 1) := by decide +kernel
theorem dL_defended_2 : decode cL_defended 2 = .ok (.aload_n 0, 1) := by decide +kernel
theorem dL_defended_3 : decode cL_defended 3 = .ok (.iload_n 1, 1) := by decide +kernel
theorem dL_defended_4 : decode cL_defended 4 = .ok (.invokevirtual 44, 3) := by decide +kernel
theorem dL_defended_7 : decode cL_defended 7 = .ok (.i2l, 1) := by decide +kernel
theorem dL_defended_8 : decode cL_defended 8 = .ok (.lastore, 1) := by decide +kernel
theorem dL_defended_9 : decode cL_defended 9 = .ok (.goto 6, 3) := by decide +kernel
theorem dL_defended_12 : decode cL_defended 12 = .ok (.astore_n 3, 1) := by decide +kernel
theorem dL_defended_13 : decode cL_defended 13 = .ok (.iconst 1, 1) := by decide +kernel
theorem dL_defended_14 : decode cL_defended 14 = .ok (.ireturn, 1) := by decide +kernel
theorem dL_defended_15 : decode cL_defended 15 = .ok (.iconst 0, 1) := by decide +kernel
theorem dL_defended_16 : decode cL_defended 16 = .ok (.ireturn, 1) := by decide +kernel
set_option maxRecDepth 20000 in
theorem ggL_isAdmissible_X3_isAdmissible : GoodIn wsL_isAdmissible wsX3_isAdmissible := goodIn_ca (goodIn_r _ [6, 7, 8, 9, 10, 11, 5, 12, 13, 14, 15, 16, 17, 18, 19, 20, 21, 22, 23, 24, 25, 26, 27, 28, 29, 30, 31, 32, 33, 34, 35, 36, 37, 38, 39, 40, 41, 42, 43, 44, 45, 46, 47, 48, 49, 50, 51, 52] (by decide +kernel) (by decide +kernel)) (goodIn_sub (fun _ h => List.mem_cons_of_mem _ (List.mem_append_right _ h)) (by decide +kernel))
set_option maxRecDepth 20000 in
theorem gL_isAdmissible_X3_isAdmissible : GoodIn wsL_isAdmissible (wsV RL 47 RX3 yX3_isAdmissible wsX3_isAdmissible) := goodIn_app (goodIn_of _ (by decide +kernel)) ggL_isAdmissible_X3_isAdmissible
theorem dL_isAdmissible_0 : decode cL_isAdmissible 0 = .ok (.aload_n 2, 1) := by decide +kernel
theorem dL_isAdmissible_1 : decode cL_isAdmissible 1 = .ok (.iconst 0, 1) := by decide +kernel
theorem dL_isAdmissible_2 : decode cL_isAdmissible 2 = .ok (.aload_n 0, 1) := by decide +kernel
theorem dL_isAdmissible_3 : decode cL_isAdmissible 3 = .ok (.iload_n 1, 1) := by decide +kernel
theorem dL_isAdmissible_4 : decode cL_isAdmissible 4 = .ok (.invokevirtual 47, 3) := by decide +kernel
theorem dL_isAdmissible_7 : decode cL_isAdmissible 7 = .ok (.ifCond .eq 7, 3) := by decide +kernel
theorem dL_isAdmissible_10 : decode cL_isAdmissible 10 = .ok (.lconst 1, 1) := by decide +kernel
theorem dL_isAdmissible_11 : decode cL_isAdmissible 11 = .ok (.goto 4, 3) := by decide +kernel
theorem dL_isAdmissible_14 : decode cL_isAdmissible 14 = .ok (.lconst 0, 1) := by decide +kernel
theorem dL_isAdmissible_15 : decode cL_isAdmissible 15 = .ok (.lastore, 1) := by decide +kernel
theorem dL_isAdmissible_16 : decode cL_isAdmissible 16 = .ok (.goto 6, 3) := by decide +kernel
theorem dL_isAdmissible_19 : decode cL_isAdmissible 19 = .ok (.astore_n 3, 1) := by decide +kernel
theorem dL_isAdmissible_20 : decode cL_isAdmissible 20 = .ok (.iconst 1, 1) := by decide +kernel
theorem dL_isAdmissible_21 : decode cL_isAdmissible 21 = .ok (.ireturn, 1) := by decide +kernel
theorem dL_isAdmissible_22 : decode cL_isAdmissible 22 = .ok (.iconst 0, 1) := by decide +kernel
theorem dL_isAdmissible_23 : decode cL_isAdmissible 23 = .ok (.ireturn, 1) := by decide +kernel
set_option maxRecDepth 20000 in
theorem ggL_label_X3_label : GoodIn wsL_label wsX3_label := goodIn_ca (goodIn_ca (goodIn_r _ [7, 8, 9, 10, 11, 12, 6, 13, 14, 15, 16, 17, 18, 19, 20, 21, 22, 23, 24, 25, 26, 27, 28, 29, 30, 31, 32, 33, 34, 35, 36, 37, 38, 39, 40, 41, 42, 43, 44, 45, 46] (by decide +kernel) (by decide +kernel)) (goodIn_sub (fun _ h => List.mem_cons_of_mem _ (List.mem_append_left _ (List.mem_append_right _ h))) (by decide +kernel))) (goodIn_sub (fun _ h => List.mem_cons_of_mem _ (List.mem_append_right _ h)) (by decide +kernel))
set_option maxRecDepth 20000 in
theorem gL_label_X3_label : GoodIn wsL_label (wsV RL 50 RX3 yX3_label wsX3_label) := goodIn_app (goodIn_of _ (by decide +kernel)) ggL_label_X3_label
theorem dL_label_0 : decode cL_label 0 = .ok (.aload_n 3, 1) := by decide +kernel
theorem dL_label_1 : decode cL_label 1 = .ok (.iconst 0, 1) := by decide +kernel
theorem dL_label_2 : decode cL_label 2 = .ok (.aload_n 0, 1) := by decide +kernel
theorem dL_label_3 : decode cL_label 3 = .ok (.iload_n 1, 1) := by decide +kernel
theorem dL_label_4 : decode cL_label 4 = .ok (.iload_n 2, 1) := by decide +kernel
theorem dL_label_5 : decode cL_label 5 = .ok (.invokevirtual 50, 3) := by decide +kernel
theorem dL_label_8 : decode cL_label 8 = .ok (.i2l, 1) := by decide +kernel
theorem dL_label_9 : decode cL_label 9 = .ok (.lastore, 1) := by decide +kernel
theorem dL_label_10 : decode cL_label 10 = .ok (.goto 11, 3) := by decide +kernel
theorem dL_label_13 : decode cL_label 13 = .ok (.astore 4, 2) := by decide +kernel
theorem dL_label_15 : decode cL_label 15 = .ok (.iconst 1, 1) := by decide +kernel
theorem dL_label_16 : decode cL_label 16 = .ok (.ireturn, 1) := by decide +kernel
theorem dL_label_17 : decode cL_label 17 = .ok (.astore 4, 2) := by decide +kernel
theorem dL_label_19 : decode cL_label 19 = .ok (.iconst 2, 1) := by decide +kernel
theorem dL_label_20 : decode cL_label 20 = .ok (.ireturn, 1) := by decide +kernel
theorem dL_label_21 : decode cL_label 21 = .ok (.iconst 0, 1) := by decide +kernel
theorem dL_label_22 : decode cL_label 22 = .ok (.ireturn, 1) := by decide +kernel
set_option maxRecDepth 20000 in
theorem ggL_repair_X3_repair : GoodIn wsL_repair wsX3_repair := goodIn_ca (goodIn_r _ [6, 7, 8, 9, 10, 11, 5, 12, 13, 14, 15, 16, 17, 18, 19, 20, 21, 22, 23, 24, 25, 26, 27, 28, 29, 30, 31, 32, 33, 34, 35, 36, 37, 38, 39, 40, 41, 42, 43, 44, 45, 46, 47, 48, 49, 50, 51, 52, 53, 54, 55, 56, 57, 58, 59, 60, 61, 62, 63, 64, 65, 66, 67, 68, 69, 70, 71, 72, 73, 74, 75, 76, 77, 78, 79, 80, 81] (by decide +kernel) (by decide +kernel)) (goodIn_sub (fun _ h => List.mem_cons_of_mem _ (List.mem_append_right _ h)) (by decide +kernel))
set_option maxRecDepth 20000 in
theorem gL_repair_X3_repair : GoodIn wsL_repair (wsV RL 53 RX3 yX3_repair wsX3_repair) := goodIn_app (goodIn_of _ (by decide +kernel)) ggL_repair_X3_repair
theorem dL_repair_0 : decode cL_repair 0 = .ok (.aload_n 2, 1) := by decide +kernel
theorem dL_repair_1 : decode cL_repair 1 = .ok (.iconst 0, 1) := by decide +kernel
theorem dL_repair_2 : decode cL_repair 2 = .ok (.aload_n 0, 1) := by decide +kernel
theorem dL_repair_3 : decode cL_repair 3 = .ok (.iload_n 1, 1) := by decide +kernel
theorem dL_repair_4 : decode cL_repair 4 = .ok (.invokevirtual 53, 3) := by decide +kernel
theorem dL_repair_7 : decode cL_repair 7 = .ok (.i2l, 1) := by decide +kernel
theorem dL_repair_8 : decode cL_repair 8 = .ok (.lastore, 1) := by decide +kernel
theorem dL_repair_9 : decode cL_repair 9 = .ok (.goto 6, 3) := by decide +kernel
theorem dL_repair_12 : decode cL_repair 12 = .ok (.astore_n 3, 1) := by decide +kernel
theorem dL_repair_13 : decode cL_repair 13 = .ok (.iconst 1, 1) := by decide +kernel
theorem dL_repair_14 : decode cL_repair 14 = .ok (.ireturn, 1) := by decide +kernel
theorem dL_repair_15 : decode cL_repair 15 = .ok (.iconst 0, 1) := by decide +kernel
theorem dL_repair_16 : decode cL_repair 16 = .ok (.ireturn, 1) := by decide +kernel
set_option maxRecDepth 20000 in
theorem ggL_positions_X3_positions : GoodIn wsL_positions wsX3_positions := goodIn_ca (goodIn_r _ [6, 7, 8, 5, 9, 10, 11, 12, 13, 14, 15, 16, 17, 18, 19, 20, 21, 22, 23, 24, 25, 26, 27, 28, 29, 30, 31, 32, 33, 34, 35, 36, 37, 38, 39, 40, 41, 42, 43, 44, 45, 46, 47, 48, 49, 50, 51, 52, 53, 54, 55, 56, 57, 58, 59, 60, 61, 62, 63, 64, 65, 66, 67, 68, 69, 70, 71, 72, 73, 74, 75, 76, 77, 78, 79, 80, 81, 82, 83, 84, 85, 86, 87, 88, 89, 90, 91, 92, 93, 94, 95, 96, 97, 98, 99, 100, 101, 102, 103, 104, 105, 106, 107, 108, 109, 110, 111, 112, 113, 114, 115, 116, 117, 118, 119, 120, 121, 122, 123, 124, 125, 126, 127, 128, 129, 130, 131, 132, 133, 134, 135, 136, 137, 138, 139, 140, 141, 142, 143, 144, 145, 146, 147, 148, 149, 150, 151, 152, 153, 154, 155, 156, 157, 158, 159, 160, 161] (by decide +kernel) (by decide +kernel)) (goodIn_sub (fun _ h => List.mem_cons_of_mem _ (List.mem_append_right _ h)) (by decide +kernel))
set_option maxRecDepth 20000 in
theorem gL_positions_X3_positions : GoodIn wsL_positions (wsV RL 56 RX3 yX3_positions wsX3_positions) := goodIn_app (goodIn_of _ (by decide +kernel)) ggL_positions_X3_positions
theorem dL_positions_0 : decode cL_positions 0 = .ok (.aload_n 2, 1) := by decide +kernel
theorem dL_positions_1 : decode cL_positions 1 = .ok (.iconst 0, 1) := by decide +kernel
theorem dL_positions_2 : decode cL_positions 2 = .ok (.aload_n 0, 1) := by decide +kernel
theorem dL_positions_3 : decode cL_positions 3 = .ok (.iload_n 1, 1) := by decide +kernel
theorem dL_positions_4 : decode cL_positions 4 = .ok (.invokevirtual 56, 3) := by decide +kernel
theorem dL_positions_7 : decode cL_positions 7 = .ok (.i2l, 1) := by decide +kernel
theorem dL_positions_8 : decode cL_positions 8 = .ok (.lastore, 1) := by decide +kernel
theorem dL_positions_9 : decode cL_positions 9 = .ok (.goto 6, 3) := by decide +kernel
theorem dL_positions_12 : decode cL_positions 12 = .ok (.astore_n 3, 1) := by decide +kernel
theorem dL_positions_13 : decode cL_positions 13 = .ok (.iconst 1, 1) := by decide +kernel
theorem dL_positions_14 : decode cL_positions 14 = .ok (.ireturn, 1) := by decide +kernel
theorem dL_positions_15 : decode cL_positions 15 = .ok (.iconst 0, 1) := by decide +kernel
theorem dL_positions_16 : decode cL_positions 16 = .ok (.ireturn, 1) := by decide +kernel
set_option maxRecDepth 20000 in
theorem ggL_position_X3_position : GoodIn wsL_position wsX3_position := goodIn_ca (goodIn_r _ [6, 7, 8, 9, 10, 5, 11, 12, 13, 14, 15, 16, 17, 18, 19, 20, 21, 22, 23, 24, 25, 26, 27, 28, 29, 30, 31, 32, 33, 34, 35, 36, 37, 38, 39, 40, 41, 42, 43, 44, 45, 46, 47, 48, 49, 50, 51, 52, 53, 54, 55, 56, 57, 58, 59, 60, 61, 62, 63, 64, 65, 66, 67, 68, 69, 70, 71, 72, 73, 74, 75, 76, 77, 78, 79, 80, 81, 82, 83, 84, 85, 86, 87, 88, 89, 90, 91, 92, 93, 94, 95, 96, 97, 98, 99, 100, 101, 102, 103, 104, 105, 106, 107, 108, 109, 110, 111, 112, 113, 114, 115, 116, 117, 118, 119, 120, 121, 122, 123, 124, 125, 126, 127, 128, 129, 130, 131, 132, 133, 134, 135, 136, 137, 138, 139, 140, 141, 142, 143, 144, 145, 146, 147, 148, 149, 150, 151, 152, 153, 154, 155, 156, 157, 158, 159, 160, 161, 162] (by decide +kernel) (by decide +kernel)) (goodIn_sub (fun _ h => List.mem_cons_of_mem _ (List.mem_append_right _ h)) (by decide +kernel))
set_option maxRecDepth 20000 in
theorem gL_position_X3_position : GoodIn wsL_position (wsV RL 59 RX3 yX3_position wsX3_position) := goodIn_app (goodIn_of _ (by decide +kernel)) ggL_position_X3_position
theorem dL_position_0 : decode cL_position 0 = .ok (.aload_n 3, 1) := by decide +kernel
theorem dL_position_1 : decode cL_position 1 = .ok (.iconst 0, 1) := by decide +kernel
theorem dL_position_2 : decode cL_position 2 = .ok (.aload_n 0, 1) := by decide +kernel
theorem dL_position_3 : decode cL_position 3 = .ok (.iload_n 1, 1) := by decide +kernel
theorem dL_position_4 : decode cL_position 4 = .ok (.iload_n 2, 1) := by decide +kernel
theorem dL_position_5 : decode cL_position 5 = .ok (.invokevirtual 59, 3) := by decide +kernel
theorem dL_position_8 : decode cL_position 8 = .ok (.i2l, 1) := by decide +kernel
theorem dL_position_9 : decode cL_position 9 = .ok (.lastore, 1) := by decide +kernel
theorem dL_position_10 : decode cL_position 10 = .ok (.goto 7, 3) := by decide +kernel
theorem dL_position_13 : decode cL_position 13 = .ok (.astore 4, 2) := by decide +kernel
theorem dL_position_15 : decode cL_position 15 = .ok (.iconst 1, 1) := by decide +kernel
theorem dL_position_16 : decode cL_position 16 = .ok (.ireturn, 1) := by decide +kernel
theorem dL_position_17 : decode cL_position 17 = .ok (.iconst 0, 1) := by decide +kernel
theorem dL_position_18 : decode cL_position 18 = .ok (.ireturn, 1) := by decide +kernel
set_option maxRecDepth 20000 in
theorem ggL_accepted_X3_accepted : GoodIn wsL_accepted wsX3_accepted := goodIn_ca (goodIn_r _ [6, 7, 8, 9, 5, 10, 11, 12, 13, 14, 15, 16, 17, 18, 19, 20, 21, 22, 23, 24, 25, 26, 27, 28, 29, 30, 31, 32, 33, 34, 35, 36, 37, 38, 39, 40, 41, 42, 43, 44, 45, 46, 47, 48, 49, 50, 51, 52, 53, 54, 55, 56, 57, 58, 59, 60, 61, 62, 63, 64, 65, 66, 67, 68, 69, 70, 71, 72, 73, 74, 75, 76, 77, 78, 79, 80, 81, 82, 83, 84, 85, 86, 87, 88, 89, 90, 91, 92, 93, 94, 95, 96, 97, 98, 99, 100, 101, 102, 103, 104, 105, 106, 107, 108, 109, 110, 111, 112, 113, 114, 115, 116, 117, 118, 119, 120, 121, 122, 123, 124, 125, 126, 127, 128, 129, 130, 131, 132, 133, 134, 135, 136, 137, 138, 139, 140, 141, 142, 143, 144, 145, 146, 147, 148, 149, 150, 151, 152, 153, 154, 155, 156, 157, 158, 159, 160, 161, 162, 163, 164, 165, 166] (by decide +kernel) (by decide +kernel)) (goodIn_sub (fun _ h => List.mem_cons_of_mem _ (List.mem_append_right _ h)) (by decide +kernel))
set_option maxRecDepth 20000 in
theorem gL_accepted_X3_accepted : GoodIn wsL_accepted (wsV RL 62 RX3 yX3_accepted wsX3_accepted) := goodIn_app (goodIn_of _ (by decide +kernel)) ggL_accepted_X3_accepted
theorem dL_accepted_0 : decode cL_accepted 0 = .ok (.aload_n 3, 1) := by decide +kernel
theorem dL_accepted_1 : decode cL_accepted 1 = .ok (.iconst 0, 1) := by decide +kernel
theorem dL_accepted_2 : decode cL_accepted 2 = .ok (.aload_n 0, 1) := by decide +kernel
theorem dL_accepted_3 : decode cL_accepted 3 = .ok (.iload_n 1, 1) := by decide +kernel
theorem dL_accepted_4 : decode cL_accepted 4 = .ok (.iload_n 2, 1) := by decide +kernel
theorem dL_accepted_5 : decode cL_accepted 5 = .ok (.invokevirtual 62, 3) := by decide +kernel
theorem dL_accepted_8 : decode cL_accepted 8 = .ok (.i2l, 1) := by decide +kernel
theorem dL_accepted_9 : decode cL_accepted 9 = .ok (.lastore, 1) := by decide +kernel
theorem dL_accepted_10 : decode cL_accepted 10 = .ok (.goto 7, 3) := by decide +kernel
theorem dL_accepted_13 : decode cL_accepted 13 = .ok (.astore 4, 2) := by decide +kernel
theorem dL_accepted_15 : decode cL_accepted 15 = .ok (.iconst 1, 1) := by decide +kernel
theorem dL_accepted_16 : decode cL_accepted 16 = .ok (.ireturn, 1) := by decide +kernel
theorem dL_accepted_17 : decode cL_accepted 17 = .ok (.iconst 0, 1) := by decide +kernel
theorem dL_accepted_18 : decode cL_accepted 18 = .ok (.ireturn, 1) := by decide +kernel
set_option maxRecDepth 20000 in
theorem ggL_heaviest_X3_heaviest : GoodIn wsL_heaviest wsX3_heaviest := goodIn_ca (goodIn_r _ [6, 7, 8, 5, 9, 10, 11, 12, 13, 14, 15, 16, 17, 18, 19, 20, 21, 22, 23, 24, 25, 26, 27, 28, 29, 30, 31, 32, 33, 34, 35, 36, 37, 38, 39, 40, 41, 42, 43, 44, 45, 46, 47, 48, 49, 50, 51, 52, 53, 54, 55, 56, 57, 58, 59, 60, 61, 62, 63, 64, 65, 66, 67, 68, 69, 70, 71, 72, 73, 74, 75, 76, 77, 78, 79, 80, 81, 82, 83, 84, 85, 86, 87, 88, 89, 90, 91, 92, 93, 94, 95, 96, 97, 98, 99, 100, 101, 102, 103, 104, 105, 106, 107, 108, 109, 110, 111, 112, 113, 114, 115, 116, 117, 118, 119, 120, 121, 122, 123, 124, 125, 126, 127, 128, 129, 130, 131, 132, 133, 134, 135, 136, 137, 138, 139, 140, 141, 142, 143, 144, 145, 146, 147, 148, 149, 150, 151, 152, 153, 154, 155, 156, 157, 158, 159, 160, 161, 162, 163, 164, 165, 166, 167, 168, 169, 170] (by decide +kernel) (by decide +kernel)) (goodIn_sub (fun _ h => List.mem_cons_of_mem _ (List.mem_append_right _ h)) (by decide +kernel))
set_option maxRecDepth 20000 in
theorem gL_heaviest_X3_heaviest : GoodIn wsL_heaviest (wsV RL 66 RX3 yX3_heaviest wsX3_heaviest) := goodIn_app (goodIn_of _ (by decide +kernel)) ggL_heaviest_X3_heaviest
theorem dL_heaviest_0 : decode cL_heaviest 0 = .ok (.aload_n 2, 1) := by decide +kernel
theorem dL_heaviest_1 : decode cL_heaviest 1 = .ok (.iconst 0, 1) := by decide +kernel
theorem dL_heaviest_2 : decode cL_heaviest 2 = .ok (.aload_n 0, 1) := by decide +kernel
theorem dL_heaviest_3 : decode cL_heaviest 3 = .ok (.iload_n 1, 1) := by decide +kernel
theorem dL_heaviest_4 : decode cL_heaviest 4 = .ok (.invokevirtual 66, 3) := by decide +kernel
theorem dL_heaviest_7 : decode cL_heaviest 7 = .ok (.i2l, 1) := by decide +kernel
theorem dL_heaviest_8 : decode cL_heaviest 8 = .ok (.lastore, 1) := by decide +kernel
theorem dL_heaviest_9 : decode cL_heaviest 9 = .ok (.goto 6, 3) := by decide +kernel
theorem dL_heaviest_12 : decode cL_heaviest 12 = .ok (.astore_n 3, 1) := by decide +kernel
theorem dL_heaviest_13 : decode cL_heaviest 13 = .ok (.iconst 1, 1) := by decide +kernel
theorem dL_heaviest_14 : decode cL_heaviest 14 = .ok (.ireturn, 1) := by decide +kernel
theorem dL_heaviest_15 : decode cL_heaviest 15 = .ok (.iconst 0, 1) := by decide +kernel
theorem dL_heaviest_16 : decode cL_heaviest 16 = .ok (.ireturn, 1) := by decide +kernel
set_option maxRecDepth 20000 in
theorem ggL_support_X3_support : GoodIn wsL_support wsX3_support := goodIn_ca (goodIn_r _ [6, 7, 8, 9, 5, 10, 11, 12, 13, 14, 15, 16, 17, 18, 19, 20, 21, 22, 23, 24, 25, 26, 27, 28, 29, 30, 31, 32, 33, 34, 35, 36, 37, 38, 39, 40, 41, 42, 43, 44, 45, 46, 47, 48, 49, 50, 51, 52, 53, 54, 55, 56, 57, 58, 59, 60, 61, 62, 63, 64, 65, 66, 67, 68, 69, 70, 71, 72, 73, 74, 75, 76, 77, 78, 79, 80, 81, 82, 83, 84, 85, 86, 87, 88, 89, 90, 91, 92, 93, 94, 95, 96, 97, 98, 99, 100, 101, 102, 103, 104, 105, 106, 107, 108, 109, 110, 111, 112, 113, 114, 115, 116, 117, 118, 119, 120, 121, 122, 123, 124, 125, 126, 127, 128, 129, 130, 131, 132, 133, 134, 135, 136, 137, 138, 139, 140, 141, 142, 143, 144, 145, 146, 147, 148, 149, 150, 151, 152, 153, 154, 155, 156, 157, 158, 159, 160, 161, 162, 163, 164, 165] (by decide +kernel) (by decide +kernel)) (goodIn_sub (fun _ h => List.mem_cons_of_mem _ (List.mem_append_right _ h)) (by decide +kernel))
set_option maxRecDepth 20000 in
theorem gL_support_X3_support : GoodIn wsL_support (wsV RL 69 RX3 yX3_support wsX3_support) := goodIn_app (goodIn_of _ (by decide +kernel)) ggL_support_X3_support
theorem dL_support_0 : decode cL_support 0 = .ok (.aload_n 2, 1) := by decide +kernel
theorem dL_support_1 : decode cL_support 1 = .ok (.iconst 0, 1) := by decide +kernel
theorem dL_support_2 : decode cL_support 2 = .ok (.aload_n 0, 1) := by decide +kernel
theorem dL_support_3 : decode cL_support 3 = .ok (.iload_n 1, 1) := by decide +kernel
theorem dL_support_4 : decode cL_support 4 = .ok (.invokevirtual 69, 3) := by decide +kernel
theorem dL_support_7 : decode cL_support 7 = .ok (.dastore, 1) := by decide +kernel
theorem dL_support_8 : decode cL_support 8 = .ok (.goto 6, 3) := by decide +kernel
theorem dL_support_11 : decode cL_support 11 = .ok (.astore_n 3, 1) := by decide +kernel
theorem dL_support_12 : decode cL_support 12 = .ok (.iconst 1, 1) := by decide +kernel
theorem dL_support_13 : decode cL_support 13 = .ok (.ireturn, 1) := by decide +kernel
theorem dL_support_14 : decode cL_support 14 = .ok (.iconst 0, 1) := by decide +kernel
theorem dL_support_15 : decode cL_support 15 = .ok (.ireturn, 1) := by decide +kernel
set_option maxRecDepth 20000 in
theorem ggL_round_X3_round : GoodIn wsL_round wsX3_round := goodIn_ca (goodIn_r _ [6, 7, 8, 9, 10, 5, 11, 12, 13, 14, 15, 16, 17, 18, 19, 20, 21, 22, 23, 24, 25, 26, 27, 28, 29, 30, 31, 32, 33, 34, 35, 36, 37, 38, 39, 40, 41, 42, 43, 44, 45, 46, 47, 48] (by decide +kernel) (by decide +kernel)) (goodIn_sub (fun _ h => List.mem_cons_of_mem _ (List.mem_append_right _ h)) (by decide +kernel))
set_option maxRecDepth 20000 in
theorem gL_round_X3_round : GoodIn wsL_round (wsV RL 73 RX3 yX3_round wsX3_round) := goodIn_app (goodIn_of _ (by decide +kernel)) ggL_round_X3_round
theorem dL_round_0 : decode cL_round 0 = .ok (.aload_n 2, 1) := by decide +kernel
theorem dL_round_1 : decode cL_round 1 = .ok (.iconst 0, 1) := by decide +kernel
theorem dL_round_2 : decode cL_round 2 = .ok (.aload_n 0, 1) := by decide +kernel
theorem dL_round_3 : decode cL_round 3 = .ok (.iload_n 1, 1) := by decide +kernel
theorem dL_round_4 : decode cL_round 4 = .ok (.invokevirtual 73, 3) := by decide +kernel
theorem dL_round_7 : decode cL_round 7 = .ok (.i2l, 1) := by decide +kernel
theorem dL_round_8 : decode cL_round 8 = .ok (.lastore, 1) := by decide +kernel
theorem dL_round_9 : decode cL_round 9 = .ok (.goto 6, 3) := by decide +kernel
theorem dL_round_12 : decode cL_round 12 = .ok (.astore_n 3, 1) := by decide +kernel
theorem dL_round_13 : decode cL_round 13 = .ok (.iconst 1, 1) := by decide +kernel
theorem dL_round_14 : decode cL_round 14 = .ok (.ireturn, 1) := by decide +kernel
theorem dL_round_15 : decode cL_round 15 = .ok (.iconst 0, 1) := by decide +kernel
theorem dL_round_16 : decode cL_round 16 = .ok (.ireturn, 1) := by decide +kernel
set_option maxRecDepth 20000 in
theorem ggL_wins_X3_wins : GoodIn wsL_wins wsX3_wins := goodIn_ca (goodIn_r _ [6, 7, 8, 9, 10, 11, 5, 12, 13, 14, 15, 16, 17, 18, 19, 20, 21, 22, 23, 24, 25, 26, 27, 28, 29, 30, 31, 32, 33, 34, 35, 36, 37, 38, 39, 40, 41, 42, 43, 44, 45, 46, 47, 48] (by decide +kernel) (by decide +kernel)) (goodIn_sub (fun _ h => List.mem_cons_of_mem _ (List.mem_append_right _ h)) (by decide +kernel))
set_option maxRecDepth 20000 in
theorem gL_wins_X3_wins : GoodIn wsL_wins (wsV RL 76 RX3 yX3_wins wsX3_wins) := goodIn_app (goodIn_of _ (by decide +kernel)) ggL_wins_X3_wins
theorem dL_wins_0 : decode cL_wins 0 = .ok (.aload_n 2, 1) := by decide +kernel
theorem dL_wins_1 : decode cL_wins 1 = .ok (.iconst 0, 1) := by decide +kernel
theorem dL_wins_2 : decode cL_wins 2 = .ok (.aload_n 0, 1) := by decide +kernel
theorem dL_wins_3 : decode cL_wins 3 = .ok (.iload_n 1, 1) := by decide +kernel
theorem dL_wins_4 : decode cL_wins 4 = .ok (.invokevirtual 76, 3) := by decide +kernel
theorem dL_wins_7 : decode cL_wins 7 = .ok (.ifCond .eq 7, 3) := by decide +kernel
theorem dL_wins_10 : decode cL_wins 10 = .ok (.lconst 1, 1) := by decide +kernel
theorem dL_wins_11 : decode cL_wins 11 = .ok (.goto 4, 3) := by decide +kernel
theorem dL_wins_14 : decode cL_wins 14 = .ok (.lconst 0, 1) := by decide +kernel
theorem dL_wins_15 : decode cL_wins 15 = .ok (.lastore, 1) := by decide +kernel
theorem dL_wins_16 : decode cL_wins 16 = .ok (.goto 6, 3) := by decide +kernel
theorem dL_wins_19 : decode cL_wins 19 = .ok (.astore_n 3, 1) := by decide +kernel
theorem dL_wins_20 : decode cL_wins 20 = .ok (.iconst 1, 1) := by decide +kernel
theorem dL_wins_21 : decode cL_wins 21 = .ok (.ireturn, 1) := by decide +kernel
theorem dL_wins_22 : decode cL_wins 22 = .ok (.iconst 0, 1) := by decide +kernel
theorem dL_wins_23 : decode cL_wins 23 = .ok (.ireturn, 1) := by decide +kernel
set_option maxRecDepth 20000 in
theorem ggL_silence_X3_silence : GoodIn wsL_silence wsX3_silence := goodIn_ca (goodIn_r _ [6, 7, 8, 9, 10, 11, 5, 12, 13, 14, 15, 16, 17, 18, 19, 20, 21, 22, 23, 24, 25, 26, 27, 28, 29, 30, 31, 32, 33, 34, 35, 36, 37, 38, 39, 40, 41, 42, 43, 44, 45, 46, 47, 48, 49, 50, 51, 52, 53, 54, 55, 56, 57, 58, 59, 60, 61, 62] (by decide +kernel) (by decide +kernel)) (goodIn_sub (fun _ h => List.mem_cons_of_mem _ (List.mem_append_right _ h)) (by decide +kernel))
set_option maxRecDepth 20000 in
theorem gL_silence_X3_silence : GoodIn wsL_silence (wsV RL 79 RX3 yX3_silence wsX3_silence) := goodIn_app (goodIn_of _ (by decide +kernel)) ggL_silence_X3_silence
theorem dL_silence_0 : decode cL_silence 0 = .ok (.aload_n 2, 1) := by decide +kernel
theorem dL_silence_1 : decode cL_silence 1 = .ok (.iconst 0, 1) := by decide +kernel
theorem dL_silence_2 : decode cL_silence 2 = .ok (.aload_n 0, 1) := by decide +kernel
theorem dL_silence_3 : decode cL_silence 3 = .ok (.iload_n 1, 1) := by decide +kernel
theorem dL_silence_4 : decode cL_silence 4 = .ok (.invokevirtual 79, 3) := by decide +kernel
theorem dL_silence_7 : decode cL_silence 7 = .ok (.i2l, 1) := by decide +kernel
theorem dL_silence_8 : decode cL_silence 8 = .ok (.lastore, 1) := by decide +kernel
theorem dL_silence_9 : decode cL_silence 9 = .ok (.goto 6, 3) := by decide +kernel
theorem dL_silence_12 : decode cL_silence 12 = .ok (.astore_n 3, 1) := by decide +kernel
theorem dL_silence_13 : decode cL_silence 13 = .ok (.iconst 1, 1) := by decide +kernel
theorem dL_silence_14 : decode cL_silence 14 = .ok (.ireturn, 1) := by decide +kernel
theorem dL_silence_15 : decode cL_silence 15 = .ok (.iconst 0, 1) := by decide +kernel
theorem dL_silence_16 : decode cL_silence 16 = .ok (.ireturn, 1) := by decide +kernel
set_option maxRecDepth 20000 in
theorem ggL_tolerable_X3_tolerable : GoodIn wsL_tolerable wsX3_tolerable := goodIn_ca (goodIn_r _ [6, 7, 8, 9, 10, 11, 12, 13, 5, 14, 15, 16, 17, 18, 19, 20, 21, 22, 23, 24, 25, 26, 27, 28, 29, 30, 31, 32, 33, 34, 35, 36, 37, 38, 39, 40, 41, 42, 43, 44, 45, 46, 47, 48, 49, 50, 51, 52, 53, 54, 55, 56, 57, 58, 59, 60, 61, 62] (by decide +kernel) (by decide +kernel)) (goodIn_sub (fun _ h => List.mem_cons_of_mem _ (List.mem_append_right _ h)) (by decide +kernel))
set_option maxRecDepth 20000 in
theorem gL_tolerable_X3_tolerable : GoodIn wsL_tolerable (wsV RL 82 RX3 yX3_tolerable wsX3_tolerable) := goodIn_app (goodIn_of _ (by decide +kernel)) ggL_tolerable_X3_tolerable
theorem dL_tolerable_0 : decode cL_tolerable 0 = .ok (.aload_n 2, 1) := by decide +kernel
theorem dL_tolerable_1 : decode cL_tolerable 1 = .ok (.iconst 0, 1) := by decide +kernel
theorem dL_tolerable_2 : decode cL_tolerable 2 = .ok (.aload_n 0, 1) := by decide +kernel
theorem dL_tolerable_3 : decode cL_tolerable 3 = .ok (.iload_n 1, 1) := by decide +kernel
theorem dL_tolerable_4 : decode cL_tolerable 4 = .ok (.invokevirtual 82, 3) := by decide +kernel
theorem dL_tolerable_7 : decode cL_tolerable 7 = .ok (.i2l, 1) := by decide +kernel
theorem dL_tolerable_8 : decode cL_tolerable 8 = .ok (.lastore, 1) := by decide +kernel
theorem dL_tolerable_9 : decode cL_tolerable 9 = .ok (.goto 6, 3) := by decide +kernel
theorem dL_tolerable_12 : decode cL_tolerable 12 = .ok (.astore_n 3, 1) := by decide +kernel
theorem dL_tolerable_13 : decode cL_tolerable 13 = .ok (.iconst 1, 1) := by decide +kernel
theorem dL_tolerable_14 : decode cL_tolerable 14 = .ok (.ireturn, 1) := by decide +kernel
theorem dL_tolerable_15 : decode cL_tolerable 15 = .ok (.iconst 0, 1) := by decide +kernel
theorem dL_tolerable_16 : decode cL_tolerable 16 = .ok (.ireturn, 1) := by decide +kernel
set_option maxRecDepth 20000 in
theorem ggL_leads_X3_leads : GoodIn wsL_leads wsX3_leads := goodIn_ca (goodIn_r _ [6, 7, 8, 9, 10, 5, 11, 12, 13, 14, 15, 16, 17, 18, 19, 20, 21, 22, 23, 24, 25, 26, 27, 28, 29, 30, 31, 32, 33, 34, 35, 36, 37, 38, 39, 40, 41, 42] (by decide +kernel) (by decide +kernel)) (goodIn_sub (fun _ h => List.mem_cons_of_mem _ (List.mem_append_right _ h)) (by decide +kernel))
set_option maxRecDepth 20000 in
theorem gL_leads_X3_leads : GoodIn wsL_leads (wsV RL 85 RX3 yX3_leads wsX3_leads) := goodIn_app (goodIn_of _ (by decide +kernel)) ggL_leads_X3_leads
theorem dL_leads_0 : decode cL_leads 0 = .ok (.aload_n 3, 1) := by decide +kernel
theorem dL_leads_1 : decode cL_leads 1 = .ok (.iconst 0, 1) := by decide +kernel
theorem dL_leads_2 : decode cL_leads 2 = .ok (.aload_n 0, 1) := by decide +kernel
theorem dL_leads_3 : decode cL_leads 3 = .ok (.iload_n 1, 1) := by decide +kernel
theorem dL_leads_4 : decode cL_leads 4 = .ok (.iload_n 2, 1) := by decide +kernel
theorem dL_leads_5 : decode cL_leads 5 = .ok (.invokevirtual 85, 3) := by decide +kernel
theorem dL_leads_8 : decode cL_leads 8 = .ok (.ifCond .eq 7, 3) := by decide +kernel
theorem dL_leads_11 : decode cL_leads 11 = .ok (.lconst 1, 1) := by decide +kernel
theorem dL_leads_12 : decode cL_leads 12 = .ok (.goto 4, 3) := by decide +kernel
theorem dL_leads_15 : decode cL_leads 15 = .ok (.lconst 0, 1) := by decide +kernel
theorem dL_leads_16 : decode cL_leads 16 = .ok (.lastore, 1) := by decide +kernel
theorem dL_leads_17 : decode cL_leads 17 = .ok (.goto 7, 3) := by decide +kernel
theorem dL_leads_20 : decode cL_leads 20 = .ok (.astore 4, 2) := by decide +kernel
theorem dL_leads_22 : decode cL_leads 22 = .ok (.iconst 1, 1) := by decide +kernel
theorem dL_leads_23 : decode cL_leads 23 = .ok (.ireturn, 1) := by decide +kernel
theorem dL_leads_24 : decode cL_leads 24 = .ok (.iconst 0, 1) := by decide +kernel
theorem dL_leads_25 : decode cL_leads 25 = .ok (.ireturn, 1) := by decide +kernel
set_option maxRecDepth 20000 in
theorem ggL_law_X3_init : GoodIn wsL_law wsX3_init := goodIn_r _ [10, 11, 12, 13, 14, 15, 16, 17, 18, 19, 20, 21, 22, 23, 24, 25, 26, 27, 28, 29, 30, 31, 32, 33, 34, 35, 36, 37, 38, 39, 40, 41, 42, 43, 44, 45, 46, 47, 48, 49, 50, 51, 52, 53, 54, 55, 56, 57, 58, 59, 60, 669, 670, 671, 672, 673, 674, 675, 676, 677, 692, 693, 694, 695, 696, 697, 698, 699, 700, 701, 702, 703, 704, 705, 706, 707] (by decide +kernel) (by decide +kernel)
set_option maxRecDepth 20000 in
theorem gL_law_X3_init : GoodIn wsL_law (wsX3_init) := ggL_law_X3_init
set_option maxRecDepth 20000 in
theorem ggL_law_X4_init : GoodIn wsL_law wsX4_init := goodIn_r _ [63, 64, 12, 13, 14, 65, 66, 67, 68, 69, 70, 71, 72, 73, 74, 75, 76, 77, 678, 679, 680, 681, 682, 683, 684, 685, 686, 687, 688, 689, 690, 691] (by decide +kernel) (by decide +kernel)
set_option maxRecDepth 20000 in
theorem gL_law_X4_init : GoodIn wsL_law (wsX4_init) := ggL_law_X4_init
