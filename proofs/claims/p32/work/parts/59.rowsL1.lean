/-! the law's words lie in the tables -/
set_option maxRecDepth 20000 in
theorem in_wsL_law0_r1 : ∀ w ∈ wsL_law0_r1, w ∈ lw_tbl := fun w h => (goodIn_r (big := lw_tbl) wsL_law0_r1 [24, 25, 13, 51, 26, 27, 28, 29, 30, 31, 102, 103, 32, 33, 14, 104, 105, 52, 53, 15, 106, 107, 108, 109] (by decide +kernel) (by decide +kernel) w h).1
set_option maxRecDepth 20000 in
theorem in_wsL_law0_r2 : ∀ w ∈ wsL_law0_r2, w ∈ lw_tbl := fun w h => (goodIn_r (big := lw_tbl) wsL_law0_r2 [110, 34, 35, 36, 37, 38, 39, 40, 41, 54, 55, 56, 57, 58, 59, 16, 71, 72, 73, 74, 75, 76, 77, 78] (by decide +kernel) (by decide +kernel) w h).1
set_option maxRecDepth 20000 in
theorem in_wsL_law0_r3 : ∀ w ∈ wsL_law0_r3, w ∈ lw_tbl := fun w h => (goodIn_r (big := lw_tbl) wsL_law0_r3 [79, 80, 60, 61, 62, 63, 64, 65, 416, 417, 12, 418, 419, 420, 421, 422, 423, 424, 425, 426, 427, 428, 429, 430] (by decide +kernel) (by decide +kernel) w h).1
set_option maxRecDepth 20000 in
theorem in_wsL_law0_r4 : ∀ w ∈ wsL_law0_r4, w ∈ lw_tbl := fun w h => (goodIn_r (big := lw_tbl) wsL_law0_r4 [435, 21, 431, 432, 433, 225, 20, 451, 308, 309, 452, 454, 10, 455, 456, 457, 458, 459, 215, 216, 250, 251, 461, 463] (by decide +kernel) (by decide +kernel) w h).1
set_option maxRecDepth 20000 in
theorem in_wsL_law0_r5 : ∀ w ∈ wsL_law0_r5, w ∈ lw_tbl := fun w h => (goodIn_r (big := lw_tbl) wsL_law0_r5 [11, 464, 465, 466, 467, 468, 138, 140, 0, 141, 142, 22, 469, 395, 396, 397, 264, 470, 471, 472, 473, 474, 475, 476] (by decide +kernel) (by decide +kernel) w h).1
set_option maxRecDepth 20000 in
theorem in_wsL_law0_r6 : ∀ w ∈ wsL_law0_r6, w ∈ lw_tbl := fun w h => (goodIn_r (big := lw_tbl) wsL_law0_r6 [477, 479, 480, 481, 482, 363, 364, 365, 366, 269, 270, 271, 273, 275, 3, 276, 277, 278, 279, 280, 281, 282, 283, 284] (by decide +kernel) (by decide +kernel) w h).1
set_option maxRecDepth 20000 in
theorem in_wsL_law0_r7 : ∀ w ∈ wsL_law0_r7, w ∈ lw_tbl := fun w h => (goodIn_r (big := lw_tbl) wsL_law0_r7 [285, 287, 4, 288, 289, 290, 291, 292, 293, 294, 295, 296, 297, 299, 5, 300, 302, 257, 258, 259, 303, 304, 305, 306] (by decide +kernel) (by decide +kernel) w h).1
set_option maxRecDepth 20000 in
theorem in_wsL_law0_r8 : ∀ w ∈ wsL_law0_r8, w ∈ lw_tbl := fun w h => (goodIn_r (big := lw_tbl) wsL_law0_r8 [310, 311, 312, 313, 315, 317, 6, 318, 319, 320, 321, 322, 324, 211, 212, 213, 325, 326, 327, 328, 245, 246, 247, 248] (by decide +kernel) (by decide +kernel) w h).1
set_option maxRecDepth 20000 in
theorem in_wsL_law0_r9 : ∀ w ∈ wsL_law0_r9, w ∈ lw_tbl := fun w h => (goodIn_r (big := lw_tbl) wsL_law0_r9 [256, 329, 330, 331, 332, 333, 334, 335, 336, 337, 338, 339, 341, 343, 7, 344, 345, 347, 8, 348, 349, 350, 351, 352] (by decide +kernel) (by decide +kernel) w h).1
set_option maxRecDepth 20000 in
theorem in_wsL_law0_r10 : ∀ w ∈ wsL_law0_r10, w ∈ lw_tbl := fun w h => (goodIn_r (big := lw_tbl) wsL_law0_r10 [353, 354, 355, 356, 357, 358, 359, 360, 253, 254, 255, 361, 362, 368, 130, 131, 132, 133, 369, 370, 371, 372, 373, 374] (by decide +kernel) (by decide +kernel) w h).1
set_option maxRecDepth 20000 in
theorem in_wsL_law0_r11 : ∀ w ∈ wsL_law0_r11, w ∈ lw_tbl := fun w h => (goodIn_r (big := lw_tbl) wsL_law0_r11 [375, 376, 377, 217, 218, 219, 220, 221, 223, 2, 224, 241, 242, 243, 244, 252, 265, 266, 267, 268, 260, 261, 262, 263] (by decide +kernel) (by decide +kernel) w h).1
set_option maxRecDepth 20000 in
theorem in_wsL_law0_r12 : ∀ w ∈ wsL_law0_r12, w ∈ lw_tbl := fun w h => (goodIn_r (big := lw_tbl) wsL_law0_r12 [210, 386, 387, 388, 389, 390, 382, 383, 384, 385, 391, 392, 393, 394, 398, 399, 23, 400, 401, 402, 403, 378, 379, 380] (by decide +kernel) (by decide +kernel) w h).1
set_option maxRecDepth 20000 in
theorem in_wsL_law0_r13 : ∀ w ∈ wsL_law0_r13, w ∈ lw_tbl := fun w h => (goodIn_r (big := lw_tbl) wsL_law0_r13 [381, 134, 135, 136, 137, 404, 405, 406, 407, 408, 410, 9, 411, 412, 413, 414, 415] (by decide +kernel) (by decide +kernel) w h).1
set_option maxRecDepth 20000 in
theorem tb_wsX30 : ∀ w ∈ wsX30, w ∈ lw_tbl := by decide +kernel
set_option maxRecDepth 20000 in
theorem tb_wsX00 : ∀ w ∈ wsX00, w ∈ lw_tbl := by decide +kernel
set_option maxRecDepth 20000 in
theorem tb_wsX10 : ∀ w ∈ wsX10, w ∈ lw_tbl := by decide +kernel
set_option maxRecDepth 20000 in
theorem tb_wsX20 : ∀ w ∈ wsX20, w ∈ lw_tbl := by decide +kernel
theorem wsL_law_in0 : ∀ w ∈ wsL_law0, w ∈ lw_tbl := fun w h => (List.mem_append.mp h).elim (fun h => (List.mem_append.mp h).elim (fun h => (List.mem_append.mp h).elim (fun h => (List.mem_append.mp h).elim (fun h => (List.mem_append.mp h).elim (fun h => (List.mem_append.mp h).elim (fun h => in_wsL_law0_r1 w h) (fun h => (List.mem_append.mp h).elim (fun h => in_wsL_law0_r2 w h) (fun h => (List.mem_append.mp h).elim (fun h => in_wsL_law0_r3 w h) (fun h => (List.mem_append.mp h).elim (fun h => in_wsL_law0_r4 w h) (fun h => (List.mem_append.mp h).elim (fun h => in_wsL_law0_r5 w h) (fun h => (List.mem_append.mp h).elim (fun h => in_wsL_law0_r6 w h) (fun h => (List.mem_append.mp h).elim (fun h => in_wsL_law0_r7 w h) (fun h => (List.mem_append.mp h).elim (fun h => in_wsL_law0_r8 w h) (fun h => (List.mem_append.mp h).elim (fun h => in_wsL_law0_r9 w h) (fun h => (List.mem_append.mp h).elim (fun h => in_wsL_law0_r10 w h) (fun h => (List.mem_append.mp h).elim (fun h => in_wsL_law0_r11 w h) (fun h => (List.mem_append.mp h).elim (fun h => in_wsL_law0_r12 w h) (fun h => in_wsL_law0_r13 w h))))))))))))) (fun h => tb_wsX30 w h)) (fun h => tb_wsX00 w h)) (fun h => tb_wsX10 w h)) (fun h => tb_wsX20 w h)) (fun h => nomatch h)
