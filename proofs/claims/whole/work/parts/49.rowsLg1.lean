set_option maxRecDepth 20000 in
theorem ggL_law_L_addArgument : GoodIn wsL_law wsL_addArgument := goodIn_ca (goodIn_ca (goodIn_r _ [81, 82, 83, 84, 85, 86, 2, 87, 88, 89, 26, 15, 27, 90, 91, 92, 93, 94, 95, 96, 97, 98, 99, 100, 101, 20, 16, 28, 29, 102, 103, 104, 19, 105, 36, 37, 34, 35, 106, 107, 108, 109, 110, 111, 112, 113, 669, 670, 671, 672, 673, 674, 675, 676, 677, 692, 693, 694, 695] (by decide +kernel) (by decide +kernel)) (goodIn_sub (fun _ h => List.mem_append_left _ (List.mem_append_left _ (List.mem_append_right _ h))) (by decide +kernel))) (goodIn_sub (fun _ h => List.mem_append_left _ (List.mem_append_right _ h)) (by decide +kernel))
set_option maxRecDepth 20000 in
theorem gL_law_L_addArgument : GoodIn wsL_law (va_wsS RL 93 yL_addArgument wsL_addArgument) := goodIn_app (goodIn_of _ (by decide +kernel)) ggL_law_L_addArgument
set_option maxRecDepth 20000 in
theorem ggL_law_X4_addArgument : GoodIn wsL_law wsX4_addArgument := goodIn_r _ [117, 118, 119, 65, 120, 121, 122, 5, 123, 124, 125, 126, 127, 128, 129, 130, 131, 132, 678, 679, 680, 681, 682, 683, 684, 685, 686, 687, 688, 689, 690, 691] (by decide +kernel) (by decide +kernel)
set_option maxRecDepth 20000 in
theorem gL_law_X4_addArgument : GoodIn wsL_law (wsV RL 98 RX4 yX4_addArgument wsX4_addArgument) := goodIn_app (goodIn_of _ (by decide +kernel)) ggL_law_X4_addArgument
set_option maxRecDepth 20000 in
theorem ggL_law_X4_thrown : GoodIn wsL_law wsX4_thrown := goodIn_r _ [136, 118, 678, 679, 680, 681, 682, 683, 684, 685, 686, 687, 688, 689, 690, 691] (by decide +kernel) (by decide +kernel)
set_option maxRecDepth 20000 in
theorem gL_law_X4_thrown : GoodIn wsL_law (wsV RL 99 RX4 yX4_thrown wsX4_thrown) := goodIn_app (goodIn_of _ (by decide +kernel)) ggL_law_X4_thrown
set_option maxRecDepth 20000 in
theorem ggL_law_L_setWeight : GoodIn wsL_law wsL_setWeight := goodIn_ca (goodIn_ca (goodIn_r _ [139, 140, 82, 141, 142, 143, 2, 144, 15, 145, 146, 147, 148, 149, 150, 26, 90, 91, 92, 93, 94, 151, 106, 107, 95, 96, 97, 98, 99, 100, 101, 20, 16, 27, 28, 29, 102, 103, 104, 19, 105, 36, 37, 34, 35, 108, 109, 110, 111, 112, 113, 669, 670, 671, 672, 673, 674, 675, 676, 677, 692, 693, 694, 695] (by decide +kernel) (by decide +kernel)) (goodIn_sub (fun _ h => List.mem_append_right _ h) (by decide +kernel))) (goodIn_sub (fun _ h => List.mem_append_left _ (List.mem_append_right _ h)) (by decide +kernel))
set_option maxRecDepth 20000 in
theorem gL_law_L_setWeight : GoodIn wsL_law (va_wsS RL 103 yL_setWeight wsL_setWeight) := goodIn_app (goodIn_of _ (by decide +kernel)) ggL_law_L_setWeight
set_option maxRecDepth 20000 in
theorem ggL_law_X4_setWeight : GoodIn wsL_law wsX4_setWeight := goodIn_r _ [155, 118, 65, 156, 157, 158, 5, 159, 119, 124, 125, 126, 127, 121, 122, 123, 128, 129, 130, 131, 132, 678, 679, 680, 681, 682, 683, 684, 685, 686, 687, 688, 689, 690, 691] (by decide +kernel) (by decide +kernel)
set_option maxRecDepth 20000 in
theorem gL_law_X4_setWeight : GoodIn wsL_law (wsV RL 106 RX4 yX4_setWeight wsX4_setWeight) := goodIn_app (goodIn_of _ (by decide +kernel)) ggL_law_X4_setWeight
set_option maxRecDepth 20000 in
theorem ggL_law_L_put : GoodIn wsL_law wsL_put := goodIn_ca (goodIn_r _ [162, 140, 163, 164, 165, 2, 166, 27, 145, 146, 147, 148, 149, 150, 26, 167, 108, 109, 168, 169, 170, 98, 99, 100, 101, 20, 15, 16, 28, 29, 102, 103, 104, 19, 105, 36, 37, 34, 35, 96, 97, 106, 107, 110, 111, 112, 113, 669, 670, 671, 672, 673, 674, 675, 676, 677, 692, 693, 694, 695] (by decide +kernel) (by decide +kernel)) (goodIn_sub (fun _ h => List.mem_append_right _ h) (by decide +kernel))
set_option maxRecDepth 20000 in
theorem gL_law_L_put : GoodIn wsL_law (va_wsS RL 107 yL_put wsL_put) := goodIn_app (goodIn_of _ (by decide +kernel)) ggL_law_L_put
set_option maxRecDepth 20000 in
theorem ggL_law_X4_put : GoodIn wsL_law wsX4_put := goodIn_r _ [174, 118, 120, 156, 157, 158, 5, 159, 119, 175, 176, 177, 128, 129, 130, 131, 132, 678, 679, 680, 681, 682, 683, 684, 685, 686, 687, 688, 689, 690, 691] (by decide +kernel) (by decide +kernel)
set_option maxRecDepth 20000 in
theorem gL_law_X4_put : GoodIn wsL_law (wsV RL 110 RX4 yX4_put wsX4_put) := goodIn_app (goodIn_of _ (by decide +kernel)) ggL_law_X4_put
set_option maxRecDepth 20000 in
theorem ggL_law_L_attack : GoodIn wsL_law wsL_attack := goodIn_ca (goodIn_r _ [180, 140, 181, 182, 183, 2, 184, 16, 145, 146, 147, 148, 149, 150, 26, 151, 106, 107, 168, 169, 170, 95, 96, 97, 98, 99, 100, 101, 20, 15, 27, 28, 29, 102, 103, 104, 19, 105, 36, 37, 34, 35, 108, 109, 110, 111, 112, 113, 167, 669, 670, 671, 672, 673, 674, 675, 676, 677, 692, 693, 694, 695] (by decide +kernel) (by decide +kernel)) (goodIn_sub (fun _ h => List.mem_append_right _ h) (by decide +kernel))
set_option maxRecDepth 20000 in
theorem gL_law_L_attack : GoodIn wsL_law (va_wsS RL 111 yL_attack wsL_attack) := goodIn_app (goodIn_of _ (by decide +kernel)) ggL_law_L_attack
set_option maxRecDepth 20000 in
theorem ggL_law_X4_attack : GoodIn wsL_law wsX4_attack := goodIn_r _ [188, 118, 66, 156, 157, 158, 5, 159, 119, 175, 176, 177, 128, 129, 130, 131, 132, 678, 679, 680, 681, 682, 683, 684, 685, 686, 687, 688, 689, 690, 691] (by decide +kernel) (by decide +kernel)
set_option maxRecDepth 20000 in
theorem gL_law_X4_attack : GoodIn wsL_law (wsV RL 114 RX4 yX4_attack wsX4_attack) := goodIn_app (goodIn_of _ (by decide +kernel)) ggL_law_X4_attack
set_option maxRecDepth 20000 in
theorem ggL_law_L_setTolerance : GoodIn wsL_law wsL_setTolerance := goodIn_ca (goodIn_r _ [191, 82, 192, 193, 194, 2, 195, 93, 94, 28, 98, 99, 100, 101, 20, 15, 16, 27, 29, 102, 103, 104, 19, 105, 36, 37, 34, 35, 96, 97, 106, 107, 108, 109, 110, 111, 112, 113, 669, 670, 671, 672, 673, 674, 675, 676, 677, 692, 693, 694, 695] (by decide +kernel) (by decide +kernel)) (goodIn_sub (fun _ h => List.mem_append_left _ (List.mem_append_right _ h)) (by decide +kernel))
set_option maxRecDepth 20000 in
theorem gL_law_L_setTolerance : GoodIn wsL_law (va_wsS RL 115 yL_setTolerance wsL_setTolerance) := goodIn_app (goodIn_of _ (by decide +kernel)) ggL_law_L_setTolerance
set_option maxRecDepth 20000 in
theorem ggL_law_X4_setTolerance : GoodIn wsL_law wsX4_setTolerance := goodIn_r _ [199, 118, 67, 124, 125, 126, 5, 127, 128, 129, 130, 131, 132, 678, 679, 680, 681, 682, 683, 684, 685, 686, 687, 688, 689, 690, 691] (by decide +kernel) (by decide +kernel)
set_option maxRecDepth 20000 in
theorem gL_law_X4_setTolerance : GoodIn wsL_law (wsV RL 117 RX4 yX4_setTolerance wsX4_setTolerance) := goodIn_app (goodIn_of _ (by decide +kernel)) ggL_law_X4_setTolerance
set_option maxRecDepth 20000 in
theorem ggL_law_X3_argumentCount : GoodIn wsL_law wsX3_argumentCount := goodIn_r _ [203, 26, 669, 670, 671, 672, 673, 674, 675, 676, 677] (by decide +kernel) (by decide +kernel)
set_option maxRecDepth 20000 in
theorem gL_law_X3_argumentCount : GoodIn wsL_law (wsV RL 118 RX3 yX3_argumentCount wsX3_argumentCount) := goodIn_app (goodIn_of _ (by decide +kernel)) ggL_law_X3_argumentCount
set_option maxRecDepth 20000 in
theorem ggL_law_X4_argumentCount : GoodIn wsL_law wsX4_argumentCount := goodIn_r _ [207, 118, 119, 678, 679, 680, 681, 682, 683, 684, 685, 686, 687, 688, 689, 690, 691] (by decide +kernel) (by decide +kernel)
set_option maxRecDepth 20000 in
theorem gL_law_X4_argumentCount : GoodIn wsL_law (wsV RL 121 RX4 yX4_argumentCount wsX4_argumentCount) := goodIn_app (goodIn_of _ (by decide +kernel)) ggL_law_X4_argumentCount
set_option maxRecDepth 20000 in
theorem ggL_law_X3_debate : GoodIn wsL_law wsX3_debate := goodIn_r _ [211, 27, 669, 670, 671, 672, 673, 674, 675, 676, 677] (by decide +kernel) (by decide +kernel)
set_option maxRecDepth 20000 in
theorem gL_law_X3_debate : GoodIn wsL_law (wsV RL 122 RX3 yX3_debate wsX3_debate) := goodIn_app (goodIn_of _ (by decide +kernel)) ggL_law_X3_debate
set_option maxRecDepth 20000 in
theorem ggL_law_X4_debate : GoodIn wsL_law wsX4_debate := goodIn_r _ [215, 118, 120, 678, 679, 680, 681, 682, 683, 684, 685, 686, 687, 688, 689, 690, 691] (by decide +kernel) (by decide +kernel)
set_option maxRecDepth 20000 in
theorem gL_law_X4_debate : GoodIn wsL_law (wsV RL 125 RX4 yX4_debate wsX4_debate) := goodIn_app (goodIn_of _ (by decide +kernel)) ggL_law_X4_debate
set_option maxRecDepth 20000 in
theorem ggL_law_L_attackers : GoodIn wsL_law wsL_attackers := goodIn_ca (goodIn_r _ [218, 140, 219, 220, 221, 2, 222, 20, 145, 146, 147, 148, 149, 150, 26, 223, 224, 225, 19, 226, 34, 106, 107, 669, 670, 671, 672, 673, 674, 675, 676, 677, 692, 693, 694, 695] (by decide +kernel) (by decide +kernel)) (goodIn_sub (fun _ h => List.mem_append_right _ h) (by decide +kernel))
set_option maxRecDepth 20000 in
theorem gL_law_L_attackers : GoodIn wsL_law (va_wsS RL 126 yL_attackers wsL_attackers) := goodIn_app (goodIn_of _ (by decide +kernel)) ggL_law_L_attackers
set_option maxRecDepth 20000 in
theorem ggL_law_X4_attackers : GoodIn wsL_law wsX4_attackers := goodIn_r _ [230, 118, 156, 157, 158, 5, 159, 119, 231, 232, 233, 234, 235, 236, 237, 238, 120, 66, 65, 67, 175, 176, 177, 124, 125, 126, 127, 678, 679, 680, 681, 682, 683, 684, 685, 686, 687, 688, 689, 690, 691] (by decide +kernel) (by decide +kernel)
set_option maxRecDepth 20000 in
theorem gL_law_X4_attackers : GoodIn wsL_law (wsV RL 128 RX4 yX4_attackers wsX4_attackers) := goodIn_app (goodIn_of _ (by decide +kernel)) ggL_law_X4_attackers
set_option maxRecDepth 20000 in
theorem ggL_law_L_attacked : GoodIn wsL_law wsL_attacked := goodIn_ca (goodIn_r _ [241, 140, 242, 243, 244, 2, 245, 20, 145, 146, 147, 148, 149, 150, 26, 246, 247, 248, 19, 249, 35, 106, 107, 669, 670, 671, 672, 673, 674, 675, 676, 677, 692, 693, 694, 695] (by decide +kernel) (by decide +kernel)) (goodIn_sub (fun _ h => List.mem_append_right _ h) (by decide +kernel))
set_option maxRecDepth 20000 in
theorem gL_law_L_attacked : GoodIn wsL_law (va_wsS RL 129 yL_attacked wsL_attacked) := goodIn_app (goodIn_of _ (by decide +kernel)) ggL_law_L_attacked
set_option maxRecDepth 20000 in
theorem ggL_law_X4_attacked : GoodIn wsL_law wsX4_attacked := goodIn_r _ [253, 118, 156, 157, 158, 5, 159, 119, 254, 255, 256, 257, 235, 236, 237, 238, 120, 66, 65, 67, 175, 176, 177, 124, 125, 126, 127, 678, 679, 680, 681, 682, 683, 684, 685, 686, 687, 688, 689, 690, 691] (by decide +kernel) (by decide +kernel)
set_option maxRecDepth 20000 in
theorem gL_law_X4_attacked : GoodIn wsL_law (wsV RL 131 RX4 yX4_attacked wsX4_attacked) := goodIn_app (goodIn_of _ (by decide +kernel)) ggL_law_X4_attacked
set_option maxRecDepth 20000 in
theorem ggL_law_X3_attackCount : GoodIn wsL_law wsX3_attackCount := goodIn_r _ [261, 26, 20, 223, 224, 225, 19, 226, 34, 106, 2, 107, 262, 263, 264, 265, 266, 267, 268, 669, 670, 671, 672, 673, 674, 675, 676, 677, 692, 693, 694, 695] (by decide +kernel) (by decide +kernel)
set_option maxRecDepth 20000 in
theorem gL_law_X3_attackCount : GoodIn wsL_law (wsV RL 132 RX3 yX3_attackCount wsX3_attackCount) := goodIn_app (goodIn_of _ (by decide +kernel)) ggL_law_X3_attackCount
set_option maxRecDepth 20000 in
theorem ggL_law_X4_attackCount : GoodIn wsL_law wsX4_attackCount := goodIn_r _ [272, 118, 119, 254, 255, 256, 5, 257, 235, 236, 237, 238, 120, 66, 65, 67, 175, 176, 177, 273, 263, 264, 265, 266, 267, 268, 678, 679, 680, 681, 682, 683, 684, 685, 686, 687, 688, 689, 690, 691] (by decide +kernel) (by decide +kernel)
set_option maxRecDepth 20000 in
theorem gL_law_X4_attackCount : GoodIn wsL_law (wsV RL 135 RX4 yX4_attackCount wsX4_attackCount) := goodIn_app (goodIn_of _ (by decide +kernel)) ggL_law_X4_attackCount
set_option maxRecDepth 20000 in
theorem ggL_law_L_isFree : GoodIn wsL_law wsL_isFree := goodIn_ca (goodIn_r _ [276, 82, 277, 278, 279, 2, 280, 20, 27, 281, 282, 283, 284, 93, 94, 26, 285, 286, 287, 19, 288, 289, 290, 291, 292, 35, 108, 109, 106, 107, 669, 670, 671, 672, 673, 674, 675, 676, 677, 692, 693, 694, 695] (by decide +kernel) (by decide +kernel)) (goodIn_sub (fun _ h => List.mem_append_left _ (List.mem_append_right _ h)) (by decide +kernel))
set_option maxRecDepth 20000 in
theorem gL_law_L_isFree : GoodIn wsL_law (va_wsS RL 136 yL_isFree wsL_isFree) := goodIn_app (goodIn_of _ (by decide +kernel)) ggL_law_L_isFree
set_option maxRecDepth 20000 in
theorem ggL_law_X4_isFree : GoodIn wsL_law wsX4_isFree := goodIn_r _ [296, 118, 120, 297, 298, 299, 5, 300, 119, 301, 302, 303, 304, 70, 71, 231, 232, 233, 234, 235, 236, 237, 238, 66, 65, 67, 175, 176, 177, 254, 255, 256, 257, 305, 306, 307, 308, 309, 310, 311, 312, 678, 679, 680, 681, 682, 683, 684, 685, 686, 687, 688, 689, 690, 691] (by decide +kernel) (by decide +kernel)
set_option maxRecDepth 20000 in
theorem gL_law_X4_isFree : GoodIn wsL_law (wsV RL 138 RX4 yX4_isFree wsX4_isFree) := goodIn_app (goodIn_of _ (by decide +kernel)) ggL_law_X4_isFree
set_option maxRecDepth 20000 in
theorem ggL_law_L_defended : GoodIn wsL_law wsL_defended := goodIn_ca (goodIn_r _ [315, 82, 316, 317, 318, 2, 319, 20, 27, 281, 282, 283, 284, 93, 94, 26, 320, 321, 322, 19, 323, 36, 289, 290, 291, 292, 35, 108, 109, 106, 107, 324, 325, 326, 327, 34, 669, 670, 671, 672, 673, 674, 675, 676, 677, 692, 693, 694, 695] (by decide +kernel) (by decide +kernel)) (goodIn_sub (fun _ h => List.mem_append_left _ (List.mem_append_right _ h)) (by decide +kernel))
set_option maxRecDepth 20000 in
theorem gL_law_L_defended : GoodIn wsL_law (va_wsS RL 139 yL_defended wsL_defended) := goodIn_app (goodIn_of _ (by decide +kernel)) ggL_law_L_defended
set_option maxRecDepth 20000 in
theorem ggL_law_X4_defended : GoodIn wsL_law wsX4_defended := goodIn_r _ [331, 118, 120, 297, 298, 299, 5, 300, 119, 124, 125, 126, 127, 301, 302, 303, 304, 70, 71, 231, 232, 233, 234, 235, 236, 237, 238, 66, 65, 67, 175, 176, 177, 254, 255, 256, 257, 332, 333, 334, 335, 309, 310, 311, 312, 678, 679, 680, 681, 682, 683, 684, 685, 686, 687, 688, 689, 690, 691] (by decide +kernel) (by decide +kernel)
set_option maxRecDepth 20000 in
theorem gL_law_X4_defended : GoodIn wsL_law (wsV RL 141 RX4 yX4_defended wsX4_defended) := goodIn_app (goodIn_of _ (by decide +kernel)) ggL_law_X4_defended
set_option maxRecDepth 20000 in
theorem ggL_law_L_isAdmissible : GoodIn wsL_law wsL_isAdmissible := goodIn_ca (goodIn_r _ [338, 82, 339, 340, 341, 2, 342, 27, 20, 281, 282, 283, 284, 93, 94, 26, 285, 286, 287, 19, 288, 289, 290, 291, 292, 35, 108, 109, 106, 107, 320, 321, 322, 323, 36, 324, 325, 326, 327, 34, 669, 670, 671, 672, 673, 674, 675, 676, 677, 692, 693, 694, 695] (by decide +kernel) (by decide +kernel)) (goodIn_sub (fun _ h => List.mem_append_left _ (List.mem_append_right _ h)) (by decide +kernel))
set_option maxRecDepth 20000 in
theorem gL_law_L_isAdmissible : GoodIn wsL_law (va_wsS RL 142 yL_isAdmissible wsL_isAdmissible) := goodIn_app (goodIn_of _ (by decide +kernel)) ggL_law_L_isAdmissible
set_option maxRecDepth 20000 in
theorem ggL_law_X4_isAdmissible : GoodIn wsL_law wsX4_isAdmissible := goodIn_r _ [346, 118, 120, 297, 298, 299, 5, 300, 119, 301, 302, 303, 304, 70, 71, 231, 232, 233, 234, 235, 236, 237, 238, 66, 65, 67, 175, 176, 177, 254, 255, 256, 257, 347, 348, 349, 350, 305, 306, 307, 308, 309, 310, 311, 312, 332, 333, 334, 335, 678, 679, 680, 681, 682, 683, 684, 685, 686, 687, 688, 689, 690, 691] (by decide +kernel) (by decide +kernel)
set_option maxRecDepth 20000 in
theorem gL_law_X4_isAdmissible : GoodIn wsL_law (wsV RL 144 RX4 yX4_isAdmissible wsX4_isAdmissible) := goodIn_app (goodIn_of _ (by decide +kernel)) ggL_law_X4_isAdmissible
set_option maxRecDepth 20000 in
theorem ggL_law_L_label : GoodIn wsL_law wsL_label := goodIn_ca (goodIn_ca (goodIn_r _ [353, 140, 82, 354, 355, 356, 2, 357, 27, 20, 145, 146, 147, 148, 149, 150, 26, 281, 282, 283, 284, 93, 94, 167, 108, 109, 223, 224, 225, 19, 226, 34, 106, 107, 669, 670, 671, 672, 673, 674, 675, 676, 677, 692, 693, 694, 695] (by decide +kernel) (by decide +kernel)) (goodIn_sub (fun _ h => List.mem_append_right _ h) (by decide +kernel))) (goodIn_sub (fun _ h => List.mem_append_left _ (List.mem_append_right _ h)) (by decide +kernel))
set_option maxRecDepth 20000 in
theorem gL_law_L_label : GoodIn wsL_law (va_wsS RL 145 yL_label wsL_label) := goodIn_app (goodIn_of _ (by decide +kernel)) ggL_law_L_label
set_option maxRecDepth 20000 in
theorem ggL_law_X4_label : GoodIn wsL_law wsX4_label := goodIn_r _ [361, 118, 120, 156, 157, 158, 5, 159, 119, 124, 125, 126, 127, 297, 298, 299, 300, 301, 302, 303, 304, 70, 71, 231, 232, 233, 234, 235, 236, 237, 238, 66, 65, 67, 175, 176, 177, 254, 255, 256, 257, 309, 310, 311, 312, 678, 679, 680, 681, 682, 683, 684, 685, 686, 687, 688, 689, 690, 691] (by decide +kernel) (by decide +kernel)
set_option maxRecDepth 20000 in
theorem gL_law_X4_label : GoodIn wsL_law (wsV RL 147 RX4 yX4_label wsX4_label) := goodIn_app (goodIn_of _ (by decide +kernel)) ggL_law_X4_label
