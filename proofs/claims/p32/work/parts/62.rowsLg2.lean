set_option maxRecDepth 20000 in
theorem ggL_law_X3_positions : GoodIn wsL_law wsX3_positions := goodIn_ca (goodIn_r _ [259, 129, 130, 2, 131, 106, 107, 132, 133, 134, 135, 24, 20, 15, 136, 137, 138, 19, 139, 41, 40, 42, 47, 44, 45, 46, 140, 141, 142, 14, 143, 31, 144, 145, 146, 147, 148, 149, 150, 151, 43, 152, 153, 154, 39, 155, 55, 156, 157, 158, 159, 48, 49, 90, 91, 160, 161, 162, 163, 29, 92, 93, 164, 165, 166, 167, 54, 80, 81, 168, 169, 170, 171, 32, 172, 173, 174, 175, 176, 177, 178, 179, 30, 180, 181, 182, 183, 184, 185, 186, 187, 188, 189, 190, 191, 192, 193, 194, 195, 196, 197, 198, 199, 200, 201, 202, 203, 204, 205, 206, 207, 208, 209, 210, 211, 212, 213, 214, 215, 216, 217, 218, 219, 220, 221, 222, 223, 224, 225, 226, 227, 228, 305, 306, 307, 308, 309, 310, 311, 312, 313, 318, 319, 320, 321, 322, 323, 324, 325, 326, 327, 314, 315, 316, 317, 328, 329] (by decide +kernel) (by decide +kernel)) (goodIn_sub (fun _ h => List.mem_append_right _ h) (by decide +kernel))
set_option maxRecDepth 20000 in
theorem gL_law_X3_positions : GoodIn wsL_law (wsV RL 73 RX3 yX3_positions wsX3_positions) := goodIn_app (goodIn_of _ (by decide +kernel)) ggL_law_X3_positions
set_option maxRecDepth 20000 in
theorem ggL_law_X3_label : GoodIn wsL_law wsX3_label := goodIn_ca (goodIn_ca (goodIn_r _ [263, 22, 15, 102, 103, 104, 2, 105, 106, 107, 21, 247, 248, 249, 250, 77, 78, 112, 92, 93, 264, 181, 182, 14, 183, 29, 90, 91, 305, 306, 307, 308, 309, 310, 311, 312, 313, 314, 315, 316, 317] (by decide +kernel) (by decide +kernel)) (goodIn_sub (fun _ h => List.mem_append_right _ h) (by decide +kernel))) (goodIn_sub (fun _ h => List.mem_append_left _ (List.mem_append_right _ h)) (by decide +kernel))
set_option maxRecDepth 20000 in
theorem gL_law_X3_label : GoodIn wsL_law (wsV RL 76 RX3 yX3_label wsX3_label) := goodIn_app (goodIn_of _ (by decide +kernel)) ggL_law_X3_label
set_option maxRecDepth 20000 in
theorem ggL_law_X3_wins : GoodIn wsL_law wsX3_wins := goodIn_ca (goodIn_r _ [268, 15, 22, 102, 103, 104, 2, 105, 106, 107, 21, 269, 185, 186, 14, 187, 188, 189, 190, 191, 30, 92, 93, 90, 91, 192, 161, 162, 163, 29, 112, 305, 306, 307, 308, 309, 310, 311, 312, 313, 314, 315, 316, 317] (by decide +kernel) (by decide +kernel)) (goodIn_sub (fun _ h => List.mem_append_right _ h) (by decide +kernel))
set_option maxRecDepth 20000 in
theorem gL_law_X3_wins : GoodIn wsL_law (wsV RL 79 RX3 yX3_wins wsX3_wins) := goodIn_app (goodIn_of _ (by decide +kernel)) ggL_law_X3_wins
set_option maxRecDepth 20000 in
theorem ggL_law_X3_round : GoodIn wsL_law wsX3_round := goodIn_ca (goodIn_r _ [273, 15, 102, 103, 104, 2, 105, 106, 107, 21, 255, 224, 225, 14, 226, 31, 188, 189, 190, 191, 30, 92, 93, 90, 91, 192, 161, 162, 163, 29, 112, 305, 306, 307, 308, 309, 310, 311, 312, 313, 314, 315, 316, 317] (by decide +kernel) (by decide +kernel)) (goodIn_sub (fun _ h => List.mem_append_right _ h) (by decide +kernel))
set_option maxRecDepth 20000 in
theorem gL_law_X3_round : GoodIn wsL_law (wsV RL 82 RX3 yX3_round wsX3_round) := goodIn_app (goodIn_of _ (by decide +kernel)) ggL_law_X3_round
set_option maxRecDepth 20000 in
theorem ggL_law_X3_silence : GoodIn wsL_law wsX3_silence := goodIn_ca (goodIn_r _ [277, 22, 15, 102, 103, 104, 2, 105, 106, 107, 21, 112, 92, 93, 264, 181, 182, 14, 183, 29, 90, 91, 109, 110, 111, 278, 279, 280, 281, 282, 283, 284, 269, 185, 186, 187, 188, 189, 190, 191, 30, 192, 161, 162, 163, 305, 306, 307, 308, 309, 310, 311, 312, 313, 314, 315, 316, 317] (by decide +kernel) (by decide +kernel)) (goodIn_sub (fun _ h => List.mem_append_right _ h) (by decide +kernel))
set_option maxRecDepth 20000 in
theorem gL_law_X3_silence : GoodIn wsL_law (wsV RL 85 RX3 yX3_silence wsX3_silence) := goodIn_app (goodIn_of _ (by decide +kernel)) ggL_law_X3_silence
set_option maxRecDepth 20000 in
theorem ggL_law_X3_support : GoodIn wsL_law wsX3_support := goodIn_ca (goodIn_r _ [288, 102, 103, 104, 2, 105, 106, 107, 21, 132, 133, 134, 135, 24, 20, 15, 136, 137, 138, 19, 139, 41, 40, 42, 47, 44, 45, 46, 140, 141, 142, 14, 143, 31, 144, 145, 146, 147, 148, 149, 150, 151, 43, 152, 153, 154, 39, 155, 55, 156, 157, 158, 159, 48, 49, 90, 91, 160, 161, 162, 163, 29, 92, 93, 164, 165, 166, 167, 54, 80, 81, 168, 169, 170, 171, 32, 172, 173, 174, 175, 176, 177, 178, 179, 30, 180, 181, 182, 183, 184, 185, 186, 187, 188, 189, 190, 191, 192, 193, 194, 195, 196, 197, 198, 199, 200, 201, 202, 203, 204, 205, 206, 207, 208, 209, 210, 211, 212, 213, 214, 215, 216, 217, 218, 219, 220, 221, 222, 223, 224, 225, 226, 227, 228, 229, 112, 305, 306, 307, 308, 309, 310, 311, 312, 313, 318, 319, 320, 321, 322, 323, 324, 325, 326, 327, 314, 315, 316, 317, 328, 329] (by decide +kernel) (by decide +kernel)) (goodIn_sub (fun _ h => List.mem_append_right _ h) (by decide +kernel))
set_option maxRecDepth 20000 in
theorem gL_law_X3_support : GoodIn wsL_law (wsV RL 88 RX3 yX3_support wsX3_support) := goodIn_app (goodIn_of _ (by decide +kernel)) ggL_law_X3_support
set_option maxRecDepth 20000 in
theorem ggL_law_X3_attackers : GoodIn wsL_law wsX3_attackers := goodIn_ca (goodIn_r _ [292, 15, 102, 103, 104, 2, 105, 106, 107, 21, 264, 181, 182, 14, 183, 29, 90, 91, 305, 306, 307, 308, 309, 310, 311, 312, 313, 314, 315, 316, 317] (by decide +kernel) (by decide +kernel)) (goodIn_sub (fun _ h => List.mem_append_right _ h) (by decide +kernel))
set_option maxRecDepth 20000 in
theorem gL_law_X3_attackers : GoodIn wsL_law (wsV RL 92 RX3 yX3_attackers wsX3_attackers) := goodIn_app (goodIn_of _ (by decide +kernel)) ggL_law_X3_attackers
set_option maxRecDepth 20000 in
theorem ggL_law_X3_odd : GoodIn wsL_law wsX3_odd := goodIn_r _ [296, 297, 298, 299, 2, 300, 21, 15, 301, 302, 303, 14, 304, 30, 90, 91, 188, 189, 190, 191, 92, 93, 112, 109, 110, 111, 305, 306, 307, 308, 309, 310, 311, 312, 313, 314, 315, 316, 317] (by decide +kernel) (by decide +kernel)
set_option maxRecDepth 20000 in
theorem gL_law_X3_odd : GoodIn wsL_law (wsV RL 95 RX3 yX3_odd wsX3_odd) := goodIn_app (goodIn_of _ (by decide +kernel)) ggL_law_X3_odd
