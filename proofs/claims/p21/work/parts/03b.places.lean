theorem fd_app {a b big : List Cond} (ha : ∀ w ∈ a, w ∈ big) (hb : ∀ w ∈ b, w ∈ big) : ∀ w ∈ a ++ b, w ∈ big := fun w h => (List.mem_append.mp h).elim (ha w) (hb w)
set_option maxRecDepth 20000 in
theorem in_wsL_law0_r1 : ∀ w ∈ wsL_law0_r1, w ∈ lw_tbl := fun w h => (fd_gp wsL_law0_r1 [2, 16, 20, 5, 0, 1, 8, 9, 10, 11, 12, 13, 14, 15, 6, 18, 19, 22, 23, 17, 21, 3, 4, 7] [39, 0, 0, 8, 10, 0, 0, 0, 0, 0, 0, 0, 0, 0, 33, 1, 0, 14, 0, 170, 0, 739, 0, 296] (by decide +kernel) (by eq_refl) (by decide +kernel) w h).1
set_option maxRecDepth 20000 in
theorem in_wsL_law0_r2 : ∀ w ∈ wsL_law0_r2, w ∈ lw_tbl := fun w h => (fd_gp wsL_law0_r2 [0, 4, 8, 12, 16, 19, 20, 21, 23, 22, 2, 3, 6, 7, 10, 11, 14, 15, 1, 5, 9, 13, 17, 18] [42, 0, 3, 0, 0, 22, 0, 0, 0, 27, 34, 0, 88, 0, 11, 0, 17, 0, 34, 0, 0, 0, 0, 0] (by decide +kernel) (by eq_refl) (by decide +kernel) w h).1
set_option maxRecDepth 20000 in
theorem in_wsL_law0_r3 : ∀ w ∈ wsL_law0_r3, w ∈ lw_tbl := fun w h => (fd_gp wsL_law0_r3 [22, 0, 1, 2, 3, 5, 4, 6, 7, 8, 9, 10, 11, 12, 13, 14, 15, 16, 17, 18, 19, 20, 21, 23] [44, 31, 0, 0, 0, 0, 24, 3, 0, 0, 0, 0, 11, 0, 0, 0, 0, 10, 0, 0, 0, 0, 0, 63] (by decide +kernel) (by eq_refl) (by decide +kernel) w h).1
set_option maxRecDepth 20000 in
theorem in_wsL_law0_r4 : ∀ w ∈ wsL_law0_r4, w ∈ lw_tbl := fun w h => (fd_gp wsL_law0_r4 [2, 6, 12, 13, 14, 15, 16, 17, 18, 19, 20, 0, 1, 21, 22, 23, 5, 4, 9, 10, 11, 3, 7, 8] [45, 0, 100, 0, 0, 0, 0, 0, 0, 0, 0, 16, 0, 1, 0, 0, 1, 24, 1, 0, 0, 1, 0, 0] (by decide +kernel) (by eq_refl) (by decide +kernel) w h).1
set_option maxRecDepth 20000 in
theorem in_wsL_law0_r5 : ∀ w ∈ wsL_law0_r5, w ∈ lw_tbl := fun w h => (fd_gp wsL_law0_r5 [0, 4, 5, 6, 1, 2, 3, 7, 8, 9, 10, 11, 12, 13, 14, 15, 16, 17, 18, 19, 20, 21, 22, 23] [178, 2, 0, 0, 10, 0, 0, 34, 0, 0, 0, 9, 0, 0, 0, 0, 14, 0, 0, 0, 0, 0, 0, 0] (by decide +kernel) (by eq_refl) (by decide +kernel) w h).1
set_option maxRecDepth 20000 in
theorem in_wsL_law0_r6 : ∀ w ∈ wsL_law0_r6, w ∈ lw_tbl := fun w h => (fd_gp wsL_law0_r6 [0, 1, 2, 3, 4, 5, 6, 7, 8, 9, 10, 11, 12, 13, 14, 15, 16, 17, 18, 19, 20, 21, 22, 23] [271, 0, 764, 0, 0, 0, 6, 0, 0, 0, 2, 0, 2, 0, 0, 0, 0, 2, 0, 0, 0, 0, 0, 0] (by decide +kernel) (by eq_refl) (by decide +kernel) w h).1
set_option maxRecDepth 20000 in
theorem in_wsL_law0_r7 : ∀ w ∈ wsL_law0_r7, w ∈ lw_tbl := fun w h => (fd_gp wsL_law0_r7 [10, 11, 12, 13, 14, 15, 16, 17, 18, 19, 20, 21, 0, 22, 23, 1, 2, 3, 4, 5, 6, 7, 8, 9] [1041, 0, 0, 0, 1, 4, 0, 2, 0, 5, 0, 10, 0, 0, 0, 0, 0, 1, 0, 0, 0, 0, 0, 0] (by decide +kernel) (by eq_refl) (by decide +kernel) w h).1
set_option maxRecDepth 20000 in
theorem in_wsL_law0_r8 : ∀ w ∈ wsL_law0_r8, w ∈ lw_tbl := fun w h => (fd_gp wsL_law0_r8 [3, 11, 21, 16, 18, 19, 20, 1, 2, 4, 5, 6, 7, 8, 9, 12, 13, 14, 15, 17, 10, 22, 23, 0] [38, 15, 26, 0, 257, 0, 0, 194, 0, 0, 0, 0, 0, 0, 0, 0, 0, 0, 0, 0, 0, 67, 0, 460] (by decide +kernel) (by eq_refl) (by decide +kernel) w h).1
set_option maxRecDepth 20000 in
theorem in_wsL_law0_r9 : ∀ w ∈ wsL_law0_r9, w ∈ lw_tbl := fun w h => (fd_gp wsL_law0_r9 [9, 21, 0, 1, 11, 12, 13, 14, 15, 16, 17, 18, 19, 22, 23, 20, 6, 2, 3, 4, 5, 7, 8, 10] [24, 31, 563, 0, 0, 0, 0, 0, 0, 0, 0, 0, 0, 0, 1, 22, 388, 133, 0, 0, 0, 0, 1, 0] (by decide +kernel) (by eq_refl) (by decide +kernel) w h).1
set_option maxRecDepth 20000 in
theorem in_wsL_law0_r10 : ∀ w ∈ wsL_law0_r10, w ∈ lw_tbl := fun w h => (fd_gp wsL_law0_r10 [14, 0, 3, 16, 12, 13, 15, 1, 4, 5, 6, 7, 2, 8, 9, 10, 11, 17, 18, 19, 20, 21, 22, 23] [3, 5, 45, 302, 10, 1, 0, 261, 0, 0, 0, 0, 0, 32, 0, 0, 0, 511, 0, 0, 0, 0, 0, 0] (by decide +kernel) (by eq_refl) (by decide +kernel) w h).1
set_option maxRecDepth 20000 in
theorem in_wsL_law0_r11 : ∀ w ∈ wsL_law0_r11, w ∈ lw_tbl := fun w h => (fd_gp wsL_law0_r11 [11, 8, 9, 10, 0, 1, 2, 3, 4, 5, 6, 7, 12, 13, 14, 15, 20, 21, 22, 23, 16, 17, 18, 19] [114, 283, 0, 0, 275, 0, 0, 0, 0, 0, 0, 0, 1, 0, 0, 0, 0, 0, 0, 0, 501, 0, 0, 0] (by decide +kernel) (by eq_refl) (by decide +kernel) w h).1
set_option maxRecDepth 20000 in
theorem in_wsL_law0_r12 : ∀ w ∈ wsL_law0_r12, w ∈ lw_tbl := fun w h => (fd_gp wsL_law0_r12 [7, 0, 1, 2, 3, 4, 5, 6, 12, 13, 14, 15, 16, 17, 18, 19, 20, 21, 22, 23, 8, 9, 10, 11] [83, 609, 0, 0, 1, 0, 0, 0, 0, 0, 0, 0, 0, 0, 0, 0, 0, 0, 0, 0, 485, 0, 0, 0] (by decide +kernel) (by eq_refl) (by decide +kernel) w h).1
set_option maxRecDepth 20000 in
theorem in_wsL_law0_r13 : ∀ w ∈ wsL_law0_r13, w ∈ lw_tbl := fun w h => (fd_gp wsL_law0_r13 [20, 21, 22, 19, 0, 1, 2, 3, 8, 9, 10, 11, 12, 13, 14, 15, 16, 17, 18, 4, 5, 6, 7, 23] [390, 0, 0, 16, 304, 0, 0, 0, 0, 0, 0, 0, 0, 0, 0, 0, 0, 0, 0, 473, 0, 0, 0, 0] (by decide +kernel) (by eq_refl) (by decide +kernel) w h).1
set_option maxRecDepth 20000 in
theorem in_wsL_law0_r14 : ∀ w ∈ wsL_law0_r14, w ∈ lw_tbl := fun w h => (fd_gp wsL_law0_r14 [5, 9, 17, 19, 20, 21, 22, 23, 0, 1, 2, 3, 4, 6, 7, 8, 10, 11, 12, 13, 14, 15, 16, 18] [25, 0, 0, 701, 0, 0, 0, 0, 473, 0, 0, 0, 1, 0, 0, 1, 0, 0, 0, 0, 0, 0, 1, 0] (by decide +kernel) (by eq_refl) (by decide +kernel) w h).1
set_option maxRecDepth 20000 in
theorem in_wsL_law0_r15 : ∀ w ∈ wsL_law0_r15, w ∈ lw_tbl := fun w h => (fd_gp wsL_law0_r15 [4, 22, 23, 0, 1, 2, 3, 5, 6, 7, 8, 9, 14, 15, 16, 17, 18, 19, 20, 21, 10, 11, 12, 13] [10, 333, 0, 388, 0, 0, 1, 0, 1, 0, 0, 0, 0, 0, 0, 0, 0, 0, 0, 0, 473, 0, 0, 0] (by decide +kernel) (by eq_refl) (by decide +kernel) w h).1
set_option maxRecDepth 20000 in
theorem in_wsL_law0_r16 : ∀ w ∈ wsL_law0_r16, w ∈ lw_tbl := fun w h => (fd_gp wsL_law0_r16 [15, 23, 8, 1, 0, 6, 7, 9, 2, 3, 4, 5, 10, 11, 12, 13, 14, 16, 17, 18, 19, 20, 21, 22] [11, 0, 44, 72, 215, 19, 0, 0, 385, 0, 0, 0, 0, 0, 0, 0, 1, 0, 1, 0, 0, 0, 0, 1] (by decide +kernel) (by eq_refl) (by decide +kernel) w h).1
set_option maxRecDepth 20000 in
theorem in_wsL_law0_r17 : ∀ w ∈ wsL_law0_r17, w ∈ lw_tbl := fun w h => (fd_gp wsL_law0_r17 [22, 7, 20, 21, 23, 0, 9, 10, 11, 12, 13, 14, 15, 16, 17, 18, 19, 1, 2, 3, 4, 5, 6, 8] [1, 26, 306, 1, 0, 434, 0, 0, 0, 0, 0, 0, 0, 0, 0, 0, 0, 445, 0, 0, 0, 0, 1, 0] (by decide +kernel) (by eq_refl) (by decide +kernel) w h).1
set_option maxRecDepth 20000 in
theorem in_wsL_law0_r18 : ∀ w ∈ wsL_law0_r18, w ∈ lw_tbl := fun w h => (fd_gp wsL_law0_r18 [8, 0, 1, 6, 7, 9, 10, 11, 12, 13, 14, 15, 16, 17, 18, 19, 20, 21, 23, 22, 2, 3, 4, 5] [2, 336, 3, 3, 1, 0, 0, 0, 0, 0, 0, 0, 0, 1, 0, 0, 0, 0, 0, 0, 420, 0, 0, 0] (by decide +kernel) (by eq_refl) (by decide +kernel) w h).1
set_option maxRecDepth 20000 in
theorem in_wsL_law0_r19 : ∀ w ∈ wsL_law0_r19, w ∈ lw_tbl := fun w h => (fd_gp wsL_law0_r19 [0, 1, 2, 3, 4, 5, 6, 7, 8, 9, 10, 11, 12, 13, 14, 15, 16, 17, 18, 19, 20, 21, 22, 23] [58, 314, 0, 0, 0, 0, 0, 0, 0, 0, 0, 0, 0, 16, 0, 0, 0, 0, 0, 0, 0, 829, 0, 0] (by decide +kernel) (by eq_refl) (by decide +kernel) w h).1
set_option maxRecDepth 20000 in
theorem in_wsL_law0_r20 : ∀ w ∈ wsL_law0_r20, w ∈ lw_tbl := fun w h => (fd_gp wsL_law0_r20 [19, 3, 7, 9, 10, 11, 12, 13, 14, 15, 16, 17, 18, 20, 21, 22, 23, 0, 1, 2, 4, 5, 6, 8] [0, 28, 0, 288, 0, 0, 0, 0, 0, 0, 0, 0, 1, 0, 0, 0, 0, 907, 0, 1, 0, 0, 1, 0] (by decide +kernel) (by eq_refl) (by decide +kernel) w h).1
set_option maxRecDepth 20000 in
theorem in_wsL_law0_r21 : ∀ w ∈ wsL_law0_r21, w ∈ lw_tbl := fun w h => (fd_gp wsL_law0_r21 [4, 1, 11, 12, 13, 0, 2, 3, 5, 6, 7, 8, 9, 10, 14, 15, 16, 17, 18, 19, 20, 21, 22, 23] [4, 151, 27, 0, 0, 147, 50, 1, 0, 0, 3, 0, 0, 0, 0, 12, 0, 0, 0, 0, 0, 0, 0, 6] (by decide +kernel) (by eq_refl) (by decide +kernel) w h).1
set_option maxRecDepth 20000 in
theorem in_wsL_law0_r22 : ∀ w ∈ wsL_law0_r22, w ∈ lw_tbl := fun w h => (fd_gp wsL_law0_r22 [2, 0, 1, 3, 4, 5, 6, 7, 8, 9, 10, 11, 12, 13, 14, 15, 16, 17, 18, 19, 20, 21, 22, 23] [59, 358, 0, 0, 0, 0, 0, 1, 0, 0, 0, 0, 0, 0, 0, 0, 0, 0, 0, 0, 0, 0, 0, 0] (by decide +kernel) (by eq_refl) (by decide +kernel) w h).1
set_option maxRecDepth 20000 in
theorem in_wsL_law0_r23 : ∀ w ∈ wsL_law0_r23, w ∈ lw_tbl := fun w h => (fd_gp wsL_law0_r23 [18, 0, 1, 2, 3, 4, 5, 6, 7, 8, 9, 10, 11, 12, 13, 14, 15, 16, 17, 19, 20, 21, 22, 23] [5, 436, 0, 0, 0, 0, 0, 0, 0, 0, 0, 0, 0, 0, 0, 0, 0, 0, 1, 0, 0, 0, 0, 0] (by decide +kernel) (by eq_refl) (by decide +kernel) w h).1
set_option maxRecDepth 20000 in
theorem in_wsL_law0_r24 : ∀ w ∈ wsL_law0_r24, w ∈ lw_tbl := fun w h => (fd_gp wsL_law0_r24 [3, 19, 0, 1, 2, 4, 5, 6, 7, 8, 9, 10, 11, 12, 13, 14, 15, 16, 17, 18, 20, 21, 22, 23] [6, 0, 458, 0, 1, 0, 0, 0, 0, 0, 0, 0, 0, 0, 0, 0, 0, 0, 0, 1, 0, 0, 0, 0] (by decide +kernel) (by eq_refl) (by decide +kernel) w h).1
set_option maxRecDepth 20000 in
theorem in_wsL_law0_r25 : ∀ w ∈ wsL_law0_r25, w ∈ lw_tbl := fun w h => (fd_gp wsL_law0_r25 [22, 0, 1, 2, 3, 4, 5, 6, 7, 8, 9, 10, 11, 12, 13, 14, 15, 16, 17, 18, 19, 20, 21, 23] [31, 458, 0, 0, 0, 0, 0, 0, 0, 0, 0, 0, 0, 0, 0, 0, 0, 744, 0, 0, 0, 0, 1, 0] (by decide +kernel) (by eq_refl) (by decide +kernel) w h).1
set_option maxRecDepth 20000 in
theorem in_wsL_law0_r26 : ∀ w ∈ wsL_law0_r26, w ∈ lw_tbl := fun w h => (fd_gp wsL_law0_r26 [5, 12, 16, 18, 19, 20, 21, 22, 23, 0, 1, 2, 3, 4, 6, 7, 8, 9, 10, 11, 13, 14, 15, 17] [32, 0, 0, 755, 0, 0, 0, 0, 0, 275, 0, 0, 184, 1, 0, 0, 0, 0, 0, 1, 0, 0, 1, 0] (by decide +kernel) (by eq_refl) (by decide +kernel) w h).1
set_option maxRecDepth 20000 in
theorem in_wsL_law0_r27 : ∀ w ∈ wsL_law0_r27, w ∈ lw_tbl := fun w h => (fd_gp wsL_law0_r27 [3, 7, 0, 1, 2, 4, 5, 6, 8, 9, 10, 11, 12, 13, 14, 15, 16, 17, 18, 19, 20, 21, 22, 23] [13, 0, 781, 1, 1, 0, 2, 1, 0, 0, 0, 0, 0, 0, 0, 0, 0, 0, 0, 0, 0, 0, 0, 0] (by decide +kernel) (by eq_refl) (by decide +kernel) w h).1
set_option maxRecDepth 20000 in
theorem in_wsL_law0_r28 : ∀ w ∈ wsL_law0_r28, w ∈ lw_tbl := fun w h => (fd_gp wsL_law0_r28 [14, 0, 5, 6, 7, 8, 9, 10, 11, 12, 13, 15, 16, 17, 18, 19, 20, 21, 22, 23, 1, 2, 3, 4] [15, 807, 0, 0, 0, 0, 0, 0, 0, 1, 1, 0, 0, 0, 0, 0, 0, 0, 0, 0, 429, 0, 0, 0] (by decide +kernel) (by eq_refl) (by decide +kernel) w h).1
set_option maxRecDepth 20000 in
theorem in_wsL_law0_r29 : ∀ w ∈ wsL_law0_r29, w ∈ lw_tbl := fun w h => (fd_gp wsL_law0_r29 [0, 1, 2, 3, 4, 5, 6, 7, 8, 9, 10, 11, 16, 17, 18, 19, 20, 21, 22, 23, 12, 13, 14, 15] [844, 0, 0, 0, 0, 0, 0, 0, 0, 0, 0, 0, 0, 0, 0, 0, 0, 0, 0, 0, 413, 0, 0, 0] (by decide +kernel) (by eq_refl) (by decide +kernel) w h).1
set_option maxRecDepth 20000 in
theorem in_wsL_law0_r30 : ∀ w ∈ wsL_law0_r30, w ∈ lw_tbl := fun w h => (fd_gp wsL_law0_r30 [10, 7, 0, 1, 2, 3, 4, 5, 6, 8, 9, 11, 12, 13, 14, 15, 20, 21, 22, 23, 16, 17, 18, 19] [16, 218, 628, 0, 0, 0, 0, 0, 0, 0, 1, 0, 0, 0, 0, 0, 0, 0, 0, 0, 398, 0, 0, 0] (by decide +kernel) (by eq_refl) (by decide +kernel) w h).1
set_option maxRecDepth 20000 in
theorem in_wsL_law0_r31 : ∀ w ∈ wsL_law0_r31, w ∈ lw_tbl := fun w h => (fd_gp wsL_law0_r31 [22, 23, 0, 1, 2, 3, 4, 5, 6, 11, 12, 13, 14, 15, 16, 17, 18, 19, 20, 21, 7, 8, 9, 10] [249, 0, 632, 0, 0, 0, 0, 0, 0, 0, 0, 0, 0, 0, 0, 0, 1, 0, 0, 0, 383, 0, 0, 0] (by decide +kernel) (by eq_refl) (by decide +kernel) w h).1
set_option maxRecDepth 20000 in
theorem in_wsL_law0_r32 : ∀ w ∈ wsL_law0_r32, w ∈ lw_tbl := fun w h => (fd_gp wsL_law0_r32 [13, 4, 5, 6, 7, 8, 9, 10, 11, 12, 14, 15, 16, 17, 18, 19, 20, 21, 22, 23, 0, 1, 2, 3] [17, 884, 0, 0, 0, 0, 0, 0, 0, 1, 0, 0, 0, 0, 0, 1, 0, 0, 0, 1, 365, 0, 0, 0] (by decide +kernel) (by eq_refl) (by decide +kernel) w h).1
set_option maxRecDepth 20000 in
theorem in_wsL_law0_r33 : ∀ w ∈ wsL_law0_r33, w ∈ lw_tbl := fun w h => (fd_gp wsL_law0_r33 [20, 0, 1, 2, 7, 8, 9, 10, 11, 12, 13, 14, 15, 16, 17, 18, 19, 21, 23, 22, 3, 4, 5, 6] [18, 905, 0, 0, 0, 0, 0, 0, 0, 0, 0, 1, 0, 0, 0, 0, 1, 0, 0, 2, 346, 0, 0, 0] (by decide +kernel) (by eq_refl) (by decide +kernel) w h).1
set_option maxRecDepth 20000 in
theorem in_wsL_law0_r34 : ∀ w ∈ wsL_law0_r34, w ∈ lw_tbl := fun w h => (fd_gp wsL_law0_r34 [12, 0, 1, 2, 3, 4, 5, 14, 15, 16, 17, 18, 19, 20, 21, 22, 23, 6, 7, 8, 9, 10, 11, 13] [35, 908, 0, 1, 0, 0, 0, 0, 0, 0, 0, 0, 0, 0, 0, 0, 0, 336, 0, 0, 0, 0, 1, 0] (by decide +kernel) (by eq_refl) (by decide +kernel) w h).1
set_option maxRecDepth 20000 in
theorem in_wsL_law0_r35 : ∀ w ∈ wsL_law0_r35, w ∈ lw_tbl := fun w h => (fd_gp wsL_law0_r35 [11, 1, 0, 2, 3, 4, 5, 6, 7, 8, 9, 10, 12, 17, 18, 19, 20, 21, 22, 23, 13, 14, 15, 16] [19, 253, 687, 1, 0, 0, 1, 0, 0, 0, 0, 1, 0, 0, 0, 0, 0, 0, 0, 0, 323, 0, 0, 0] (by decide +kernel) (by eq_refl) (by decide +kernel) w h).1
set_option maxRecDepth 20000 in
theorem in_wsL_law0_r36 : ∀ w ∈ wsL_law0_r36, w ∈ lw_tbl := fun w h => (fd_gp wsL_law0_r36 [10, 14, 18, 22, 7, 0, 1, 2, 3, 4, 5, 6, 8, 9, 11, 12, 13, 15, 16, 17, 19, 20, 21, 23] [20, 0, 0, 0, 250, 707, 0, 0, 1, 0, 0, 0, 0, 1, 0, 0, 1, 0, 0, 1, 0, 0, 1, 0] (by decide +kernel) (by eq_refl) (by decide +kernel) w h).1
set_option maxRecDepth 20000 in
theorem in_wsL_law0_r37 : ∀ w ∈ wsL_law0_r37, w ∈ lw_tbl := fun w h => (fd_gp wsL_law0_r37 [7, 14, 0, 16, 17, 18, 19, 20, 21, 22, 23, 1, 2, 3, 4, 5, 6, 8, 9, 10, 11, 12, 13, 15] [36, 0, 968, 0, 0, 0, 0, 0, 0, 0, 0, 294, 0, 0, 0, 0, 1, 0, 0, 0, 0, 0, 1, 0] (by decide +kernel) (by eq_refl) (by decide +kernel) w h).1
set_option maxRecDepth 20000 in
theorem in_wsL_law0_r38 : ∀ w ∈ wsL_law0_r38, w ∈ lw_tbl := fun w h => (fd_gp wsL_law0_r38 [0, 1, 2, 3, 12, 13, 14, 15, 16, 17, 18, 19, 20, 21, 22, 23, 8, 9, 10, 11, 4, 5, 6, 7] [1015, 0, 0, 0, 0, 0, 0, 0, 0, 0, 0, 0, 0, 0, 0, 0, 144, 0, 0, 0, 145, 0, 0, 0] (by decide +kernel) (by eq_refl) (by decide +kernel) w h).1
set_option maxRecDepth 20000 in
theorem in_wsL_law0_r39 : ∀ w ∈ wsL_law0_r39, w ∈ lw_tbl := fun w h => (fd_gp wsL_law0_r39 [7, 8, 9, 10, 11, 12, 13, 14, 15, 16, 17, 18, 19, 20, 21, 22, 23, 0, 1, 2, 3, 4, 5, 6] [506, 0, 0, 0, 0, 0, 0, 0, 0, 0, 0, 0, 0, 0, 0, 0, 0, 508, 0, 0, 294, 0, 0, 0] (by decide +kernel) (by eq_refl) (by decide +kernel) w h).1
set_option maxRecDepth 20000 in
theorem in_wsL_law0_r40 : ∀ w ∈ wsL_law0_r40, w ∈ lw_tbl := fun w h => (fd_gp wsL_law0_r40 [5, 0, 1, 2, 3, 4, 6, 7, 8, 9, 10, 11, 12, 13, 14, 15] [60, 462, 0, 0, 0, 0, 0, 0, 0, 0, 0, 0, 0, 0, 0, 795] (by decide +kernel) (by eq_refl) (by decide +kernel) w h).1
set_option maxRecDepth 20000 in
theorem in_wsX100 : ∀ w ∈ wsX100, w ∈ lw_tbl := fun w h => (fd_gp wsX100 [0, 1, 2, 3, 4, 5, 6, 7] [302, 1, 1, 1, 1, 1, 1, 1] (by decide +kernel) (by eq_refl) (by decide +kernel) w h).1
set_option maxRecDepth 20000 in
theorem in_wsX110 : ∀ w ∈ wsX110, w ∈ lw_tbl := fun w h => (fd_gp wsX110 [0, 1, 2, 3, 4, 5, 6, 7, 8, 9, 10, 11, 12, 13, 14, 15, 16, 17, 18, 19, 20, 21, 22, 23, 24, 25, 26, 27, 28, 29, 30, 31, 32, 33, 34, 35, 36, 37, 38, 39, 40, 41, 42] [1088, 1, 1, 1, 1, 1, 1, 1, 1, 1, 1, 1, 1, 1, 1, 1, 1, 1, 1, 1, 1, 1, 1, 1, 1, 1, 1, 1, 1, 1, 1, 1, 1, 1, 1, 1, 1, 1, 1, 1, 1, 1, 1] (by decide +kernel) (by eq_refl) (by decide +kernel) w h).1
set_option maxRecDepth 20000 in
theorem in_wsX20 : ∀ w ∈ wsX20, w ∈ lw_tbl := fun w h => (fd_gp wsX20 [0, 1, 2, 3, 4, 5, 6, 7, 8] [84, 1, 1, 1, 1, 1, 1, 1, 1] (by decide +kernel) (by eq_refl) (by decide +kernel) w h).1
set_option maxRecDepth 20000 in
theorem in_wsX50 : ∀ w ∈ wsX50, w ∈ lw_tbl := fun w h => (fd_gp wsX50 [0, 1, 2] [115, 1, 1] (by decide +kernel) (by eq_refl) (by decide +kernel) w h).1
set_option maxRecDepth 20000 in
theorem in_wsX40 : ∀ w ∈ wsX40, w ∈ lw_tbl := fun w h => (fd_gp wsX40 [0, 1, 2] [131, 1, 1] (by decide +kernel) (by eq_refl) (by decide +kernel) w h).1
set_option maxRecDepth 20000 in
theorem in_wsX30 : ∀ w ∈ wsX30, w ∈ lw_tbl := fun w h => (fd_gp wsX30 [0, 1, 2, 3, 4, 5, 6] [213, 1, 1, 1, 1, 1, 1] (by decide +kernel) (by eq_refl) (by decide +kernel) w h).1
set_option maxRecDepth 20000 in
theorem in_wsX70 : ∀ w ∈ wsX70, w ∈ lw_tbl := fun w h => (fd_gp wsX70 [0, 1] [236, 1] (by decide +kernel) (by eq_refl) (by decide +kernel) w h).1
set_option maxRecDepth 20000 in
theorem in_wsX10 : ∀ w ∈ wsX10, w ∈ lw_tbl := fun w h => (fd_gp wsX10 [0, 1, 2, 3] [251, 1, 1, 1] (by decide +kernel) (by eq_refl) (by decide +kernel) w h).1
set_option maxRecDepth 20000 in
theorem in_wsX60 : ∀ w ∈ wsX60, w ∈ lw_tbl := fun w h => (fd_gp wsX60 [0, 1, 2, 3, 4, 5, 6, 7, 8] [275, 1, 1, 1, 1, 1, 1, 1, 1] (by decide +kernel) (by eq_refl) (by decide +kernel) w h).1
set_option maxRecDepth 20000 in
theorem in_wsX80 : ∀ w ∈ wsX80, w ∈ lw_tbl := fun w h => (fd_gp wsX80 [0, 1, 2, 3, 4, 5, 6] [157, 1, 1, 1, 1, 1, 1] (by decide +kernel) (by eq_refl) (by decide +kernel) w h).1
set_option maxRecDepth 20000 in
theorem in_wsX00 : ∀ w ∈ wsX00, w ∈ lw_tbl := fun w h => (fd_gp wsX00 [0, 1, 2] [197, 1, 1] (by decide +kernel) (by eq_refl) (by decide +kernel) w h).1
set_option maxRecDepth 20000 in
theorem in_wsX90 : ∀ w ∈ wsX90, w ∈ lw_tbl := fun w h => (fd_gp wsX90 [0, 1, 2] [187, 1, 1] (by decide +kernel) (by eq_refl) (by decide +kernel) w h).1
/-- the law's words, in the order of wsL_law -/
noncomputable def fd_wl : List Cond := wsL_law0_r1 ++ (wsL_law0_r2 ++ (wsL_law0_r3 ++ (wsL_law0_r4 ++ (wsL_law0_r5 ++ (wsL_law0_r6 ++ (wsL_law0_r7 ++ (wsL_law0_r8 ++ (wsL_law0_r9 ++ (wsL_law0_r10 ++ (wsL_law0_r11 ++ (wsL_law0_r12 ++ (wsL_law0_r13 ++ (wsL_law0_r14 ++ (wsL_law0_r15 ++ (wsL_law0_r16 ++ (wsL_law0_r17 ++ (wsL_law0_r18 ++ (wsL_law0_r19 ++ (wsL_law0_r20 ++ (wsL_law0_r21 ++ (wsL_law0_r22 ++ (wsL_law0_r23 ++ (wsL_law0_r24 ++ (wsL_law0_r25 ++ (wsL_law0_r26 ++ (wsL_law0_r27 ++ (wsL_law0_r28 ++ (wsL_law0_r29 ++ (wsL_law0_r30 ++ (wsL_law0_r31 ++ (wsL_law0_r32 ++ (wsL_law0_r33 ++ (wsL_law0_r34 ++ (wsL_law0_r35 ++ (wsL_law0_r36 ++ (wsL_law0_r37 ++ (wsL_law0_r38 ++ (wsL_law0_r39 ++ (wsL_law0_r40 ++ (wsX100 ++ (wsX110 ++ (wsX20 ++ (wsX50 ++ (wsX40 ++ (wsX30 ++ (wsX70 ++ (wsX10 ++ (wsX60 ++ (wsX80 ++ (wsX00 ++ (wsX90 ++ ((vx_atS RX10 75 "java/lang/IllegalStateException" ["java/lang/RuntimeException", "java/lang/Exception"]).filter goodWord ++ ((vx_atS RX10 91 "java/lang/IllegalArgumentException" ["java/lang/RuntimeException", "java/lang/Exception"]).filter goodWord ++ ((vx_atS RX10 118 "java/lang/IndexOutOfBoundsException" ["java/lang/RuntimeException", "java/lang/Exception"]).filter goodWord))))))))))))))))))))))))))))))))))))))))))))))))))))))
theorem in_at0 : ∀ w ∈ (vx_atS RX10 75 "java/lang/IllegalStateException" ["java/lang/RuntimeException", "java/lang/Exception"]).filter goodWord, w ∈ lw_tbl := by decide +kernel
theorem in_at1 : ∀ w ∈ (vx_atS RX10 91 "java/lang/IllegalArgumentException" ["java/lang/RuntimeException", "java/lang/Exception"]).filter goodWord, w ∈ lw_tbl := by decide +kernel
theorem in_at2 : ∀ w ∈ (vx_atS RX10 118 "java/lang/IndexOutOfBoundsException" ["java/lang/RuntimeException", "java/lang/Exception"]).filter goodWord, w ∈ lw_tbl := by decide +kernel
theorem fd_wl_in : ∀ w ∈ fd_wl, w ∈ lw_tbl := fd_app in_wsL_law0_r1 (fd_app in_wsL_law0_r2 (fd_app in_wsL_law0_r3 (fd_app in_wsL_law0_r4 (fd_app in_wsL_law0_r5 (fd_app in_wsL_law0_r6 (fd_app in_wsL_law0_r7 (fd_app in_wsL_law0_r8 (fd_app in_wsL_law0_r9 (fd_app in_wsL_law0_r10 (fd_app in_wsL_law0_r11 (fd_app in_wsL_law0_r12 (fd_app in_wsL_law0_r13 (fd_app in_wsL_law0_r14 (fd_app in_wsL_law0_r15 (fd_app in_wsL_law0_r16 (fd_app in_wsL_law0_r17 (fd_app in_wsL_law0_r18 (fd_app in_wsL_law0_r19 (fd_app in_wsL_law0_r20 (fd_app in_wsL_law0_r21 (fd_app in_wsL_law0_r22 (fd_app in_wsL_law0_r23 (fd_app in_wsL_law0_r24 (fd_app in_wsL_law0_r25 (fd_app in_wsL_law0_r26 (fd_app in_wsL_law0_r27 (fd_app in_wsL_law0_r28 (fd_app in_wsL_law0_r29 (fd_app in_wsL_law0_r30 (fd_app in_wsL_law0_r31 (fd_app in_wsL_law0_r32 (fd_app in_wsL_law0_r33 (fd_app in_wsL_law0_r34 (fd_app in_wsL_law0_r35 (fd_app in_wsL_law0_r36 (fd_app in_wsL_law0_r37 (fd_app in_wsL_law0_r38 (fd_app in_wsL_law0_r39 (fd_app in_wsL_law0_r40 (fd_app in_wsX100 (fd_app in_wsX110 (fd_app in_wsX20 (fd_app in_wsX50 (fd_app in_wsX40 (fd_app in_wsX30 (fd_app in_wsX70 (fd_app in_wsX10 (fd_app in_wsX60 (fd_app in_wsX80 (fd_app in_wsX00 (fd_app in_wsX90 (fd_app in_at0 (fd_app in_at1 (in_at2))))))))))))))))))))))))))))))))))))))))))))))))))))))
