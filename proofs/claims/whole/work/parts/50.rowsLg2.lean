set_option maxRecDepth 20000 in
theorem ggL_law_L_repair : GoodIn wsL_law wsL_repair := goodIn_ca (goodIn_r _ [364, 82, 365, 366, 367, 2, 368, 27, 20, 281, 282, 283, 284, 93, 94, 26, 285, 286, 287, 19, 288, 289, 290, 291, 292, 35, 108, 109, 106, 107, 369, 370, 371, 372, 15, 167, 223, 224, 225, 226, 34, 262, 263, 264, 265, 266, 267, 268, 246, 247, 248, 249, 151, 168, 169, 170, 373, 374, 375, 376, 377, 321, 322, 323, 36, 324, 325, 326, 327, 669, 670, 671, 672, 673, 674, 675, 676, 677, 692, 693, 694, 695] (by decide +kernel) (by decide +kernel)) (goodIn_sub (fun _ h => List.mem_append_left _ (List.mem_append_right _ h)) (by decide +kernel))
set_option maxRecDepth 20000 in
theorem gL_law_L_repair : GoodIn wsL_law (va_wsS RL 148 yL_repair wsL_repair) := goodIn_app (goodIn_of _ (by decide +kernel)) ggL_law_L_repair
set_option maxRecDepth 20000 in
theorem ggL_law_X4_repair : GoodIn wsL_law wsX4_repair := goodIn_r _ [381, 118, 120, 119, 70, 71, 65, 297, 298, 299, 5, 300, 124, 125, 126, 127, 301, 302, 303, 304, 231, 232, 233, 234, 235, 236, 237, 238, 66, 67, 175, 176, 177, 254, 255, 256, 257, 305, 306, 307, 308, 309, 310, 311, 312, 273, 263, 264, 265, 266, 267, 268, 332, 333, 334, 335, 678, 679, 680, 681, 682, 683, 684, 685, 686, 687, 688, 689, 690, 691] (by decide +kernel) (by decide +kernel)
set_option maxRecDepth 20000 in
theorem gL_law_X4_repair : GoodIn wsL_law (wsV RL 150 RX4 yX4_repair wsX4_repair) := goodIn_app (goodIn_of _ (by decide +kernel)) ggL_law_X4_repair
set_option maxRecDepth 20000 in
theorem ggL_law_L_positions : GoodIn wsL_law wsL_positions := goodIn_ca (goodIn_r _ [384, 140, 385, 386, 387, 2, 388, 389, 390, 391, 149, 150, 392, 393, 394, 395, 29, 25, 20, 396, 397, 398, 24, 399, 46, 45, 47, 52, 49, 50, 51, 400, 401, 402, 19, 403, 36, 404, 405, 406, 407, 408, 409, 410, 411, 48, 412, 413, 414, 44, 415, 60, 416, 417, 418, 419, 53, 54, 106, 107, 420, 325, 326, 327, 34, 108, 109, 421, 422, 423, 424, 59, 96, 97, 425, 426, 427, 428, 37, 429, 430, 431, 432, 433, 247, 248, 249, 35, 434, 224, 225, 226, 435, 436, 437, 438, 289, 290, 291, 292, 324, 439, 440, 441, 442, 443, 444, 445, 446, 447, 448, 449, 450, 451, 452, 453, 454, 455, 456, 457, 458, 459, 460, 461, 462, 463, 464, 465, 374, 375, 376, 377, 321, 322, 323, 466, 467, 669, 670, 671, 672, 673, 674, 675, 676, 677, 696, 697, 698, 699, 700, 701, 702, 703, 704, 705, 692, 693, 694, 695, 706, 707] (by decide +kernel) (by decide +kernel)) (goodIn_sub (fun _ h => List.mem_append_right _ h) (by decide +kernel))
set_option maxRecDepth 20000 in
theorem gL_law_L_positions : GoodIn wsL_law (va_wsS RL 151 yL_positions wsL_positions) := goodIn_app (goodIn_of _ (by decide +kernel)) ggL_law_L_positions
set_option maxRecDepth 20000 in
theorem ggL_law_X4_positions : GoodIn wsL_law wsX4_positions := goodIn_r _ [471, 68, 472, 473, 474, 5, 475, 118, 476, 477, 478, 479, 132, 119, 73, 120, 74, 301, 302, 303, 304, 70, 71, 231, 232, 233, 234, 235, 236, 237, 238, 66, 65, 67, 175, 176, 177, 254, 255, 256, 257, 347, 348, 349, 350, 305, 306, 307, 308, 309, 310, 311, 312, 332, 333, 334, 335, 480, 481, 482, 483, 69, 484, 485, 486, 487, 488, 489, 490, 491, 273, 263, 264, 265, 266, 267, 268, 492, 493, 494, 495, 678, 679, 680, 681, 682, 683, 684, 685, 686, 687, 688, 689, 690, 691] (by decide +kernel) (by decide +kernel)
set_option maxRecDepth 20000 in
theorem gL_law_X4_positions : GoodIn wsL_law (wsV RL 153 RX4 yX4_positions wsX4_positions) := goodIn_app (goodIn_of _ (by decide +kernel)) ggL_law_X4_positions
set_option maxRecDepth 20000 in
theorem ggL_law_L_position : GoodIn wsL_law wsL_position := goodIn_ca (goodIn_r _ [498, 140, 499, 500, 501, 2, 502, 149, 150, 389, 390, 391, 392, 393, 394, 395, 29, 25, 20, 396, 397, 398, 24, 399, 46, 45, 47, 52, 49, 50, 51, 400, 401, 402, 19, 403, 36, 404, 405, 406, 407, 408, 409, 410, 411, 48, 412, 413, 414, 44, 415, 60, 416, 417, 418, 419, 53, 54, 106, 107, 420, 325, 326, 327, 34, 108, 109, 421, 422, 423, 424, 59, 96, 97, 425, 426, 427, 428, 37, 429, 430, 431, 432, 433, 247, 248, 249, 35, 434, 224, 225, 226, 435, 436, 437, 438, 289, 290, 291, 292, 324, 439, 440, 441, 442, 443, 444, 445, 446, 447, 448, 449, 450, 451, 452, 453, 454, 455, 456, 457, 458, 459, 460, 461, 462, 463, 464, 465, 374, 375, 376, 377, 321, 322, 323, 466, 467, 503, 669, 670, 671, 672, 673, 674, 675, 676, 677, 696, 697, 698, 699, 700, 701, 702, 703, 704, 705, 692, 693, 694, 695, 706, 707] (by decide +kernel) (by decide +kernel)) (goodIn_sub (fun _ h => List.mem_append_right _ h) (by decide +kernel))
set_option maxRecDepth 20000 in
theorem gL_law_L_position : GoodIn wsL_law (va_wsS RL 154 yL_position wsL_position) := goodIn_app (goodIn_of _ (by decide +kernel)) ggL_law_L_position
set_option maxRecDepth 20000 in
theorem ggL_law_X4_position : GoodIn wsL_law wsX4_position := goodIn_r _ [507, 68, 69, 472, 473, 474, 5, 475, 118, 476, 477, 478, 479, 132, 119, 73, 120, 74, 301, 302, 303, 304, 70, 71, 231, 232, 233, 234, 235, 236, 237, 238, 66, 65, 67, 175, 176, 177, 254, 255, 256, 257, 347, 348, 349, 350, 305, 306, 307, 308, 309, 310, 311, 312, 332, 333, 334, 335, 480, 481, 482, 483, 484, 485, 486, 487, 488, 489, 490, 491, 273, 263, 264, 265, 266, 267, 268, 492, 493, 494, 495, 124, 125, 126, 127, 678, 679, 680, 681, 682, 683, 684, 685, 686, 687, 688, 689, 690, 691] (by decide +kernel) (by decide +kernel)
set_option maxRecDepth 20000 in
theorem gL_law_X4_position : GoodIn wsL_law (wsV RL 156 RX4 yX4_position wsX4_position) := goodIn_app (goodIn_of _ (by decide +kernel)) ggL_law_X4_position
set_option maxRecDepth 20000 in
theorem ggL_law_L_accepted : GoodIn wsL_law wsL_accepted := goodIn_ca (goodIn_r _ [510, 140, 511, 512, 513, 2, 514, 27, 389, 390, 391, 149, 150, 392, 393, 394, 395, 29, 25, 20, 396, 397, 398, 24, 399, 46, 45, 47, 52, 49, 50, 51, 400, 401, 402, 19, 403, 36, 404, 405, 406, 407, 408, 409, 410, 411, 48, 412, 413, 414, 44, 415, 60, 416, 417, 418, 419, 53, 54, 106, 107, 420, 325, 326, 327, 34, 108, 109, 421, 422, 423, 424, 59, 96, 97, 425, 426, 427, 428, 37, 429, 430, 431, 432, 433, 247, 248, 249, 35, 434, 224, 225, 226, 435, 436, 437, 438, 289, 290, 291, 292, 324, 439, 440, 441, 442, 443, 444, 445, 446, 447, 448, 449, 450, 451, 452, 453, 454, 455, 456, 457, 458, 459, 460, 461, 462, 463, 464, 465, 374, 375, 376, 377, 321, 322, 323, 466, 515, 516, 517, 518, 519, 669, 670, 671, 672, 673, 674, 675, 676, 677, 696, 697, 698, 699, 700, 701, 702, 703, 704, 705, 692, 693, 694, 695, 706, 707] (by decide +kernel) (by decide +kernel)) (goodIn_sub (fun _ h => List.mem_append_right _ h) (by decide +kernel))
set_option maxRecDepth 20000 in
theorem gL_law_L_accepted : GoodIn wsL_law (va_wsS RL 157 yL_accepted wsL_accepted) := goodIn_app (goodIn_of _ (by decide +kernel)) ggL_law_L_accepted
set_option maxRecDepth 20000 in
theorem ggL_law_X4_accepted : GoodIn wsL_law wsX4_accepted := goodIn_r _ [523, 120, 68, 69, 472, 473, 474, 5, 475, 118, 476, 477, 478, 479, 132, 119, 73, 74, 301, 302, 303, 304, 70, 71, 231, 232, 233, 234, 235, 236, 237, 238, 66, 65, 67, 175, 176, 177, 254, 255, 256, 257, 347, 348, 349, 350, 305, 306, 307, 308, 309, 310, 311, 312, 332, 333, 334, 335, 480, 481, 482, 483, 484, 485, 486, 487, 488, 489, 490, 491, 273, 263, 264, 265, 266, 267, 268, 492, 493, 494, 495, 678, 679, 680, 681, 682, 683, 684, 685, 686, 687, 688, 689, 690, 691] (by decide +kernel) (by decide +kernel)
set_option maxRecDepth 20000 in
theorem gL_law_X4_accepted : GoodIn wsL_law (wsV RL 159 RX4 yX4_accepted wsX4_accepted) := goodIn_app (goodIn_of _ (by decide +kernel)) ggL_law_X4_accepted
set_option maxRecDepth 20000 in
theorem ggL_law_L_heaviest : GoodIn wsL_law wsL_heaviest := goodIn_ca (goodIn_r _ [526, 140, 527, 528, 529, 2, 530, 389, 390, 391, 149, 150, 392, 393, 394, 395, 29, 25, 20, 396, 397, 398, 24, 399, 46, 45, 47, 52, 49, 50, 51, 400, 401, 402, 19, 403, 36, 404, 405, 406, 407, 408, 409, 410, 411, 48, 412, 413, 414, 44, 415, 60, 416, 417, 418, 419, 53, 54, 106, 107, 420, 325, 326, 327, 34, 108, 109, 421, 422, 423, 424, 59, 96, 97, 425, 426, 427, 428, 37, 429, 430, 431, 432, 433, 247, 248, 249, 35, 434, 224, 225, 226, 435, 436, 437, 438, 289, 290, 291, 292, 324, 439, 440, 441, 442, 443, 444, 445, 446, 447, 448, 449, 450, 451, 452, 453, 454, 455, 456, 457, 458, 459, 460, 461, 462, 463, 464, 465, 374, 375, 376, 377, 321, 322, 323, 466, 467, 503, 531, 532, 533, 534, 26, 15, 167, 151, 669, 670, 671, 672, 673, 674, 675, 676, 677, 696, 697, 698, 699, 700, 701, 702, 703, 704, 705, 692, 693, 694, 695, 706, 707] (by decide +kernel) (by decide +kernel)) (goodIn_sub (fun _ h => List.mem_append_right _ h) (by decide +kernel))
set_option maxRecDepth 20000 in
theorem gL_law_L_heaviest : GoodIn wsL_law (va_wsS RL 160 yL_heaviest wsL_heaviest) := goodIn_app (goodIn_of _ (by decide +kernel)) ggL_law_L_heaviest
set_option maxRecDepth 20000 in
theorem ggL_law_X4_heaviest : GoodIn wsL_law wsX4_heaviest := goodIn_r _ [538, 68, 69, 472, 473, 474, 5, 475, 118, 476, 477, 478, 479, 132, 119, 73, 120, 74, 301, 302, 303, 304, 70, 71, 231, 232, 233, 234, 235, 236, 237, 238, 66, 65, 67, 175, 176, 177, 254, 255, 256, 257, 347, 348, 349, 350, 305, 306, 307, 308, 309, 310, 311, 312, 332, 333, 334, 335, 480, 481, 482, 483, 484, 485, 486, 487, 488, 489, 490, 491, 273, 263, 264, 265, 266, 267, 268, 492, 493, 494, 495, 539, 540, 541, 542, 678, 679, 680, 681, 682, 683, 684, 685, 686, 687, 688, 689, 690, 691] (by decide +kernel) (by decide +kernel)
set_option maxRecDepth 20000 in
theorem gL_law_X4_heaviest : GoodIn wsL_law (wsV RL 162 RX4 yX4_heaviest wsX4_heaviest) := goodIn_app (goodIn_of _ (by decide +kernel)) ggL_law_X4_heaviest
set_option maxRecDepth 20000 in
theorem ggL_law_L_support : GoodIn wsL_law wsL_support := goodIn_ca (goodIn_r _ [545, 140, 546, 547, 548, 2, 549, 145, 146, 147, 148, 149, 150, 26, 392, 393, 394, 395, 29, 25, 20, 396, 397, 398, 24, 399, 46, 45, 47, 52, 49, 50, 51, 400, 401, 402, 19, 403, 36, 404, 405, 406, 407, 408, 409, 410, 411, 48, 412, 413, 414, 44, 415, 60, 416, 417, 418, 419, 53, 54, 106, 107, 420, 325, 326, 327, 34, 108, 109, 421, 422, 423, 424, 59, 96, 97, 425, 426, 427, 428, 37, 429, 430, 431, 432, 433, 247, 248, 249, 35, 434, 224, 225, 226, 435, 436, 437, 438, 289, 290, 291, 292, 324, 439, 440, 441, 442, 443, 444, 445, 446, 447, 448, 449, 450, 451, 452, 453, 454, 455, 456, 457, 458, 459, 460, 461, 462, 463, 464, 465, 374, 375, 376, 377, 321, 322, 323, 466, 467, 503, 167, 669, 670, 671, 672, 673, 674, 675, 676, 677, 696, 697, 698, 699, 700, 701, 702, 703, 704, 705, 692, 693, 694, 695, 706, 707] (by decide +kernel) (by decide +kernel)) (goodIn_sub (fun _ h => List.mem_append_right _ h) (by decide +kernel))
set_option maxRecDepth 20000 in
theorem gL_law_L_support : GoodIn wsL_law (va_wsS RL 163 yL_support wsL_support) := goodIn_app (goodIn_of _ (by decide +kernel)) ggL_law_L_support
set_option maxRecDepth 20000 in
theorem ggL_law_X4_support : GoodIn wsL_law wsX4_support := goodIn_r _ [553, 118, 68, 69, 156, 157, 158, 5, 159, 119, 476, 477, 478, 479, 132, 73, 120, 74, 301, 302, 303, 304, 70, 71, 231, 232, 233, 234, 235, 236, 237, 238, 66, 65, 67, 175, 176, 177, 254, 255, 256, 257, 347, 348, 349, 350, 305, 306, 307, 308, 309, 310, 311, 312, 332, 333, 334, 335, 480, 481, 482, 483, 484, 485, 486, 487, 488, 489, 490, 491, 273, 263, 264, 265, 266, 267, 268, 492, 493, 494, 495, 678, 679, 680, 681, 682, 683, 684, 685, 686, 687, 688, 689, 690, 691] (by decide +kernel) (by decide +kernel)
set_option maxRecDepth 20000 in
theorem gL_law_X4_support : GoodIn wsL_law (wsV RL 166 RX4 yX4_support wsX4_support) := goodIn_app (goodIn_of _ (by decide +kernel)) ggL_law_X4_support
set_option maxRecDepth 20000 in
theorem ggL_law_L_round : GoodIn wsL_law wsL_round := goodIn_ca (goodIn_r _ [556, 140, 557, 558, 559, 2, 560, 20, 145, 146, 147, 148, 149, 150, 26, 320, 321, 322, 19, 323, 36, 289, 290, 291, 292, 35, 108, 109, 106, 107, 324, 325, 326, 327, 34, 167, 669, 670, 671, 672, 673, 674, 675, 676, 677, 692, 693, 694, 695] (by decide +kernel) (by decide +kernel)) (goodIn_sub (fun _ h => List.mem_append_right _ h) (by decide +kernel))
set_option maxRecDepth 20000 in
theorem gL_law_L_round : GoodIn wsL_law (va_wsS RL 167 yL_round wsL_round) := goodIn_app (goodIn_of _ (by decide +kernel)) ggL_law_L_round
set_option maxRecDepth 20000 in
theorem ggL_law_X4_round : GoodIn wsL_law wsX4_round := goodIn_r _ [564, 118, 156, 157, 158, 5, 159, 119, 124, 125, 126, 127, 301, 302, 303, 304, 70, 71, 231, 232, 233, 234, 235, 236, 237, 238, 120, 66, 65, 67, 175, 176, 177, 254, 255, 256, 257, 488, 489, 490, 491, 332, 333, 334, 335, 309, 310, 311, 312, 678, 679, 680, 681, 682, 683, 684, 685, 686, 687, 688, 689, 690, 691] (by decide +kernel) (by decide +kernel)
set_option maxRecDepth 20000 in
theorem gL_law_X4_round : GoodIn wsL_law (wsV RL 169 RX4 yX4_round wsX4_round) := goodIn_app (goodIn_of _ (by decide +kernel)) ggL_law_X4_round
set_option maxRecDepth 20000 in
theorem ggL_law_X3_rounds : GoodIn wsL_law wsX3_rounds := goodIn_r _ [568, 20, 320, 321, 322, 19, 323, 36, 289, 290, 291, 292, 35, 108, 2, 109, 106, 107, 324, 325, 326, 327, 34, 669, 670, 671, 672, 673, 674, 675, 676, 677, 692, 693, 694, 695] (by decide +kernel) (by decide +kernel)
set_option maxRecDepth 20000 in
theorem gL_law_X3_rounds : GoodIn wsL_law (wsV RL 170 RX3 yX3_rounds wsX3_rounds) := goodIn_app (goodIn_of _ (by decide +kernel)) ggL_law_X3_rounds
set_option maxRecDepth 20000 in
theorem ggL_law_X4_rounds : GoodIn wsL_law wsX4_rounds := goodIn_r _ [572, 118, 301, 302, 303, 5, 304, 119, 70, 71, 231, 232, 233, 234, 235, 236, 237, 238, 120, 66, 65, 67, 175, 176, 177, 254, 255, 256, 257, 488, 489, 490, 491, 332, 333, 334, 335, 309, 310, 311, 312, 678, 679, 680, 681, 682, 683, 684, 685, 686, 687, 688, 689, 690, 691] (by decide +kernel) (by decide +kernel)
set_option maxRecDepth 20000 in
theorem gL_law_X4_rounds : GoodIn wsL_law (wsV RL 173 RX4 yX4_rounds wsX4_rounds) := goodIn_app (goodIn_of _ (by decide +kernel)) ggL_law_X4_rounds
set_option maxRecDepth 20000 in
theorem ggL_law_L_wins : GoodIn wsL_law wsL_wins := goodIn_ca (goodIn_r _ [575, 140, 576, 577, 578, 2, 579, 20, 27, 145, 146, 147, 148, 149, 150, 26, 580, 436, 437, 19, 438, 289, 290, 291, 292, 35, 108, 109, 106, 107, 324, 325, 326, 327, 34, 167, 669, 670, 671, 672, 673, 674, 675, 676, 677, 692, 693, 694, 695] (by decide +kernel) (by decide +kernel)) (goodIn_sub (fun _ h => List.mem_append_right _ h) (by decide +kernel))
set_option maxRecDepth 20000 in
theorem gL_law_L_wins : GoodIn wsL_law (va_wsS RL 174 yL_wins wsL_wins) := goodIn_app (goodIn_of _ (by decide +kernel)) ggL_law_L_wins
set_option maxRecDepth 20000 in
theorem ggL_law_X4_wins : GoodIn wsL_law wsX4_wins := goodIn_r _ [584, 118, 120, 77, 156, 157, 158, 5, 159, 119, 175, 176, 177, 301, 302, 303, 304, 70, 71, 231, 232, 233, 234, 235, 236, 237, 238, 66, 65, 67, 254, 255, 256, 257, 585, 586, 587, 588, 678, 679, 680, 681, 682, 683, 684, 685, 686, 687, 688, 689, 690, 691] (by decide +kernel) (by decide +kernel)
set_option maxRecDepth 20000 in
theorem gL_law_X4_wins : GoodIn wsL_law (wsV RL 176 RX4 yX4_wins wsX4_wins) := goodIn_app (goodIn_of _ (by decide +kernel)) ggL_law_X4_wins
set_option maxRecDepth 20000 in
theorem ggL_law_L_silence : GoodIn wsL_law wsL_silence := goodIn_ca (goodIn_r _ [591, 140, 592, 593, 594, 2, 595, 27, 20, 145, 146, 147, 148, 149, 150, 26, 167, 108, 109, 223, 224, 225, 19, 226, 34, 106, 107, 168, 169, 170, 262, 263, 264, 265, 266, 267, 268, 580, 436, 437, 438, 289, 290, 291, 292, 35, 324, 325, 326, 327, 669, 670, 671, 672, 673, 674, 675, 676, 677, 692, 693, 694, 695] (by decide +kernel) (by decide +kernel)) (goodIn_sub (fun _ h => List.mem_append_right _ h) (by decide +kernel))
set_option maxRecDepth 20000 in
theorem gL_law_L_silence : GoodIn wsL_law (va_wsS RL 177 yL_silence wsL_silence) := goodIn_app (goodIn_of _ (by decide +kernel)) ggL_law_L_silence
set_option maxRecDepth 20000 in
theorem ggL_law_X4_silence : GoodIn wsL_law wsX4_silence := goodIn_r _ [599, 118, 120, 119, 156, 157, 158, 5, 159, 124, 125, 126, 127, 175, 176, 177, 273, 263, 264, 265, 266, 267, 268, 301, 302, 303, 304, 70, 71, 231, 232, 233, 234, 235, 236, 237, 238, 66, 65, 67, 254, 255, 256, 257, 488, 489, 490, 491, 332, 333, 334, 335, 309, 310, 311, 312, 678, 679, 680, 681, 682, 683, 684, 685, 686, 687, 688, 689, 690, 691] (by decide +kernel) (by decide +kernel)
set_option maxRecDepth 20000 in
theorem gL_law_X4_silence : GoodIn wsL_law (wsV RL 179 RX4 yX4_silence wsX4_silence) := goodIn_app (goodIn_of _ (by decide +kernel)) ggL_law_X4_silence
set_option maxRecDepth 20000 in
theorem ggL_law_L_tolerable : GoodIn wsL_law wsL_tolerable := goodIn_ca (goodIn_r _ [602, 140, 603, 604, 605, 2, 606, 21, 15, 16, 27, 145, 146, 147, 148, 149, 150, 26, 102, 103, 104, 19, 105, 36, 37, 34, 35, 96, 97, 106, 107, 108, 109, 110, 111, 112, 113, 580, 436, 437, 438, 289, 290, 291, 292, 324, 325, 326, 327, 167, 669, 670, 671, 672, 673, 674, 675, 676, 677, 692, 693, 694, 695] (by decide +kernel) (by decide +kernel)) (goodIn_sub (fun _ h => List.mem_append_right _ h) (by decide +kernel))
set_option maxRecDepth 20000 in
theorem gL_law_L_tolerable : GoodIn wsL_law (va_wsS RL 180 yL_tolerable wsL_tolerable) := goodIn_app (goodIn_of _ (by decide +kernel)) ggL_law_L_tolerable
set_option maxRecDepth 20000 in
theorem ggL_law_X4_tolerable : GoodIn wsL_law wsX4_tolerable := goodIn_r _ [610, 118, 67, 156, 157, 158, 5, 159, 119, 124, 125, 126, 127, 301, 302, 303, 304, 70, 71, 231, 232, 233, 234, 235, 236, 237, 238, 120, 66, 65, 175, 176, 177, 254, 255, 256, 257, 488, 489, 490, 491, 332, 333, 334, 335, 309, 310, 311, 312, 678, 679, 680, 681, 682, 683, 684, 685, 686, 687, 688, 689, 690, 691] (by decide +kernel) (by decide +kernel)
set_option maxRecDepth 20000 in
theorem gL_law_X4_tolerable : GoodIn wsL_law (wsV RL 182 RX4 yX4_tolerable wsX4_tolerable) := goodIn_app (goodIn_of _ (by decide +kernel)) ggL_law_X4_tolerable
set_option maxRecDepth 20000 in
theorem ggL_law_L_leads : GoodIn wsL_law wsL_leads := goodIn_ca (goodIn_r _ [613, 140, 614, 615, 616, 2, 617, 20, 145, 146, 147, 148, 149, 150, 26, 618, 619, 620, 19, 621, 35, 106, 107, 289, 290, 291, 292, 108, 109, 167, 669, 670, 671, 672, 673, 674, 675, 676, 677, 692, 693, 694, 695] (by decide +kernel) (by decide +kernel)) (goodIn_sub (fun _ h => List.mem_append_right _ h) (by decide +kernel))
set_option maxRecDepth 20000 in
theorem gL_law_L_leads : GoodIn wsL_law (va_wsS RL 183 yL_leads wsL_leads) := goodIn_app (goodIn_of _ (by decide +kernel)) ggL_law_L_leads
set_option maxRecDepth 20000 in
theorem ggL_law_X4_leads : GoodIn wsL_law wsX4_leads := goodIn_r _ [625, 118, 156, 157, 158, 5, 159, 119, 301, 302, 303, 304, 70, 71, 231, 232, 233, 234, 235, 236, 237, 238, 120, 66, 65, 67, 175, 176, 177, 254, 255, 256, 257, 626, 627, 628, 629, 309, 310, 311, 312, 678, 679, 680, 681, 682, 683, 684, 685, 686, 687, 688, 689, 690, 691] (by decide +kernel) (by decide +kernel)
set_option maxRecDepth 20000 in
theorem gL_law_X4_leads : GoodIn wsL_law (wsV RL 185 RX4 yX4_leads wsX4_leads) := goodIn_app (goodIn_of _ (by decide +kernel)) ggL_law_X4_leads
set_option maxRecDepth 20000 in
theorem ggL_law_X3_even : GoodIn wsL_law wsX3_even := goodIn_r _ [633, 634, 635, 636, 2, 637, 26, 20, 618, 619, 620, 19, 621, 35, 106, 107, 289, 290, 291, 292, 108, 109, 167, 168, 169, 170, 669, 670, 671, 672, 673, 674, 675, 676, 677, 692, 693, 694, 695] (by decide +kernel) (by decide +kernel)
set_option maxRecDepth 20000 in
theorem gL_law_X3_even : GoodIn wsL_law (wsV RL 186 RX3 yX3_even wsX3_even) := goodIn_app (goodIn_of _ (by decide +kernel)) ggL_law_X3_even
set_option maxRecDepth 20000 in
theorem ggL_law_X4_even : GoodIn wsL_law wsX4_even := goodIn_r _ [641, 118, 642, 643, 644, 5, 645, 119, 301, 302, 303, 304, 70, 71, 231, 232, 233, 234, 235, 236, 237, 238, 120, 66, 65, 67, 175, 176, 177, 254, 255, 256, 257, 626, 627, 628, 629, 309, 310, 311, 312, 678, 679, 680, 681, 682, 683, 684, 685, 686, 687, 688, 689, 690, 691] (by decide +kernel) (by decide +kernel)
set_option maxRecDepth 20000 in
theorem gL_law_X4_even : GoodIn wsL_law (wsV RL 189 RX4 yX4_even wsX4_even) := goodIn_app (goodIn_of _ (by decide +kernel)) ggL_law_X4_even
set_option maxRecDepth 20000 in
theorem ggL_law_X3_odd : GoodIn wsL_law wsX3_odd := goodIn_r _ [649, 634, 635, 636, 2, 637, 26, 20, 618, 619, 620, 19, 621, 35, 106, 107, 289, 290, 291, 292, 108, 109, 167, 168, 169, 170, 669, 670, 671, 672, 673, 674, 675, 676, 677, 692, 693, 694, 695] (by decide +kernel) (by decide +kernel)
set_option maxRecDepth 20000 in
theorem gL_law_X3_odd : GoodIn wsL_law (wsV RL 190 RX3 yX3_odd wsX3_odd) := goodIn_app (goodIn_of _ (by decide +kernel)) ggL_law_X3_odd
set_option maxRecDepth 20000 in
theorem ggL_law_X4_odd : GoodIn wsL_law wsX4_odd := goodIn_r _ [653, 118, 642, 643, 644, 5, 645, 119, 301, 302, 303, 304, 70, 71, 231, 232, 233, 234, 235, 236, 237, 238, 120, 66, 65, 67, 175, 176, 177, 254, 255, 256, 257, 626, 627, 628, 629, 309, 310, 311, 312, 678, 679, 680, 681, 682, 683, 684, 685, 686, 687, 688, 689, 690, 691] (by decide +kernel) (by decide +kernel)
set_option maxRecDepth 20000 in
theorem gL_law_X4_odd : GoodIn wsL_law (wsV RL 193 RX4 yX4_odd wsX4_odd) := goodIn_app (goodIn_of _ (by decide +kernel)) ggL_law_X4_odd
set_option maxRecDepth 20000 in
theorem ggL_law_X3_digest : GoodIn wsL_law wsX3_digest := goodIn_r _ [657, 658, 26, 15, 27, 20, 28, 659, 660, 2, 661, 662, 151, 106, 107, 167, 108, 109, 223, 224, 225, 19, 226, 34, 392, 393, 394, 395, 29, 25, 396, 397, 398, 24, 399, 46, 45, 47, 52, 49, 50, 51, 400, 401, 402, 403, 36, 404, 405, 406, 407, 408, 409, 410, 411, 48, 412, 413, 414, 44, 415, 60, 416, 417, 418, 419, 53, 54, 420, 325, 326, 327, 421, 422, 423, 424, 59, 96, 97, 425, 426, 427, 428, 37, 429, 430, 431, 432, 433, 247, 248, 249, 35, 434, 435, 436, 437, 438, 289, 290, 291, 292, 324, 439, 440, 441, 442, 443, 444, 445, 446, 447, 448, 449, 450, 451, 452, 453, 454, 455, 456, 457, 458, 459, 460, 461, 462, 463, 464, 465, 374, 375, 376, 377, 321, 322, 323, 466, 467, 503, 669, 670, 671, 672, 673, 674, 675, 676, 677, 692, 693, 694, 695, 696, 697, 698, 699, 700, 701, 702, 703, 704, 705, 706, 707] (by decide +kernel) (by decide +kernel)
set_option maxRecDepth 20000 in
theorem gL_law_X3_digest : GoodIn wsL_law (wsV RL 194 RX3 yX3_digest wsX3_digest) := goodIn_app (goodIn_of _ (by decide +kernel)) ggL_law_X3_digest
set_option maxRecDepth 20000 in
theorem ggL_law_X4_digest : GoodIn wsL_law wsX4_digest := goodIn_r _ [666, 118, 667, 119, 668, 65, 120, 67, 68, 69, 476, 477, 478, 5, 479, 132, 73, 74, 301, 302, 303, 304, 70, 71, 231, 232, 233, 234, 235, 236, 237, 238, 66, 175, 176, 177, 254, 255, 256, 257, 347, 348, 349, 350, 305, 306, 307, 308, 309, 310, 311, 312, 332, 333, 334, 335, 480, 481, 482, 483, 484, 485, 486, 487, 488, 489, 490, 491, 273, 263, 264, 265, 266, 267, 268, 492, 493, 494, 495, 678, 679, 680, 681, 682, 683, 684, 685, 686, 687, 688, 689, 690, 691] (by decide +kernel) (by decide +kernel)
set_option maxRecDepth 20000 in
theorem gL_law_X4_digest : GoodIn wsL_law (wsV RL 198 RX4 yX4_digest wsX4_digest) := goodIn_app (goodIn_of _ (by decide +kernel)) ggL_law_X4_digest
