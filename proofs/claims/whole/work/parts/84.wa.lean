theorem lwi_wsL_law_r1 : ∀ w ∈ wsL_law_r1, w ∈ lw_tbl := fun w h => (goodIn_p wsL_law_r1 [95, 98] (by decide +kernel) (by decide +kernel) w h).1
theorem lwi_wsL_law_r2 : ∀ w ∈ wsL_law_r2, w ∈ lw_tbl := fun w h => (goodIn_p wsL_law_r2 [103, 139] (by decide +kernel) (by decide +kernel) w h).1
theorem lwi_wsL_law_r3 : ∀ w ∈ wsL_law_r3, w ∈ lw_tbl := fun w h => (goodIn_p wsL_law_r3 [150, 240, 260] (by decide +kernel) (by decide +kernel) w h).1
theorem lwi_wsL_law_r4 : ∀ w ∈ wsL_law_r4, w ∈ lw_tbl := fun w h => (goodIn_p wsL_law_r4 [263, 266, 1112] (by decide +kernel) (by decide +kernel) w h).1
theorem lwi_wsL_law_r5 : ∀ w ∈ wsL_law_r5, w ∈ lw_tbl := fun w h => (goodIn_p wsL_law_r5 [304, 307, 1208, 1211, 311] (by decide +kernel) (by decide +kernel) w h).1
theorem lwi_wsL_law_r6 : ∀ w ∈ wsL_law_r6, w ∈ lw_tbl := fun w h => (goodIn_p wsL_law_r6 [315, 318, 324, 328, 391] (by decide +kernel) (by decide +kernel) w h).1
theorem lwi_wsL_law_r7 : ∀ w ∈ wsL_law_r7, w ∈ lw_tbl := fun w h => (goodIn_p wsL_law_r7 [331, 340, 344, 348, 354] (by decide +kernel) (by decide +kernel) w h).1
theorem lwi_wsL_law_r8 : ∀ w ∈ wsL_law_r8, w ∈ lw_tbl := fun w h => (goodIn_p wsL_law_r8 [358, 361, 364, 369, 372, 375, 378] (by decide +kernel) (by decide +kernel) w h).1
theorem lwi_wsL_law_r9 : ∀ w ∈ wsL_law_r9, w ∈ lw_tbl := fun w h => (goodIn_p wsL_law_r9 [382, 396, 400, 404, 408] (by decide +kernel) (by decide +kernel) w h).1
theorem lwi_wsL_law_r10 : ∀ w ∈ wsL_law_r10, w ∈ lw_tbl := fun w h => (goodIn_p wsL_law_r10 [412, 415, 420, 423, 429, 432] (by decide +kernel) (by decide +kernel) w h).1
theorem lwi_wsL_law_r11 : ∀ w ∈ wsL_law_r11, w ∈ lw_tbl := fun w h => (goodIn_p wsL_law_r11 [435, 438, 441, 444, 447, 450, 454] (by decide +kernel) (by decide +kernel) w h).1
theorem lwi_wsL_law_r12 : ∀ w ∈ wsL_law_r12, w ∈ lw_tbl := fun w h => (goodIn_p wsL_law_r12 [459, 463, 467, 476, 471, 482] (by decide +kernel) (by decide +kernel) w h).1
theorem lwi_wsL_law_r13 : ∀ w ∈ wsL_law_r13, w ∈ lw_tbl := fun w h => (goodIn_p wsL_law_r13 [488, 495, 500, 504, 1215] (by decide +kernel) (by decide +kernel) w h).1
theorem lwi_wsL_law_r14 : ∀ w ∈ wsL_law_r14, w ∈ lw_tbl := fun w h => (goodIn_p wsL_law_r14 [1219, 1223, 1228, 1232] (by decide +kernel) (by decide +kernel) w h).1
theorem lwi_wsL_law_r15 : ∀ w ∈ wsL_law_r15, w ∈ lw_tbl := fun w h => (goodIn_p wsL_law_r15 [1238, 1242, 1246, 1258, 1250, 1254] (by decide +kernel) (by decide +kernel) w h).1
theorem lwi_wsL_law_r16 : ∀ w ∈ wsL_law_r16, w ∈ lw_tbl := fun w h => (goodIn_p wsL_law_r16 [1263, 1269, 1275, 509, 513, 1280] (by decide +kernel) (by decide +kernel) w h).1
theorem lwi_wsL_law_r17 : ∀ w ∈ wsL_law_r17, w ∈ lw_tbl := fun w h => (goodIn_p wsL_law_r17 [1283, 517, 1287, 521, 1291, 525] (by decide +kernel) (by decide +kernel) w h).1
