theorem lwi_wsL_law_r18 : ∀ w ∈ wsL_law_r18, w ∈ lw_tbl := fun w h => (goodIn_p wsL_law_r18 [1295, 1299, 529, 532] (by decide +kernel) (by decide +kernel) w h).1
theorem lwi_wsL_law_r19 : ∀ w ∈ wsL_law_r19, w ∈ lw_tbl := fun w h => (goodIn_p wsL_law_r19 [537, 540] (by decide +kernel) (by decide +kernel) w h).1
theorem lwi_wsL_law_r20 : ∀ w ∈ wsL_law_r20, w ∈ lw_tbl := fun w h => (goodIn_p wsL_law_r20 [580, 591, 602, 613, 624] (by decide +kernel) (by decide +kernel) w h).1
theorem lwi_wsL_law_r21 : ∀ w ∈ wsL_law_r21, w ∈ lw_tbl := fun w h => (goodIn_p wsL_law_r21 [642, 1303, 646] (by decide +kernel) (by decide +kernel) w h).1
theorem lwi_wsL_law_r22 : ∀ w ∈ wsL_law_r22, w ∈ lw_tbl := fun w h => (goodIn_p wsL_law_r22 [650, 1307, 1311, 654, 657, 661] (by decide +kernel) (by decide +kernel) w h).1
theorem lwi_wsL_law_r23 : ∀ w ∈ wsL_law_r23, w ∈ lw_tbl := fun w h => (goodIn_p wsL_law_r23 [665, 672, 678] (by decide +kernel) (by decide +kernel) w h).1
theorem lwi_wsL_law_r24 : ∀ w ∈ wsL_law_r24, w ∈ lw_tbl := fun w h => (goodIn_p wsL_law_r24 [683, 687, 691, 695, 698] (by decide +kernel) (by decide +kernel) w h).1
theorem lwi_wsL_law_r25 : ∀ w ∈ wsL_law_r25, w ∈ lw_tbl := fun w h => (goodIn_p wsL_law_r25 [716, 708, 712, 720] (by decide +kernel) (by decide +kernel) w h).1
theorem lwi_wsL_law_r26 : ∀ w ∈ wsL_law_r26, w ∈ lw_tbl := fun w h => (goodIn_p wsL_law_r26 [735, 728, 733] (by decide +kernel) (by decide +kernel) w h).1
theorem lwi_wsL_law_r27 : ∀ w ∈ wsL_law_r27, w ∈ lw_tbl := fun w h => (goodIn_p wsL_law_r27 [748, 744, 761] (by decide +kernel) (by decide +kernel) w h).1
theorem lwi_wsL_law_r28 : ∀ w ∈ wsL_law_r28, w ∈ lw_tbl := fun w h => (goodIn_p wsL_law_r28 [759, 774, 770] (by decide +kernel) (by decide +kernel) w h).1
theorem lwi_wsL_law_r29 : ∀ w ∈ wsL_law_r29, w ∈ lw_tbl := fun w h => (goodIn_p wsL_law_r29 [778, 782, 786, 1315, 1318] (by decide +kernel) (by decide +kernel) w h).1
theorem lwi_wsL_law_r30 : ∀ w ∈ wsL_law_r30, w ∈ lw_tbl := fun w h => (goodIn_p wsL_law_r30 [1322, 1326, 1330, 1335, 1339] (by decide +kernel) (by decide +kernel) w h).1
theorem lwi_wsL_law_r31 : ∀ w ∈ wsL_law_r31, w ∈ lw_tbl := fun w h => (goodIn_p wsL_law_r31 [1343, 1347, 1351, 1355, 1359] (by decide +kernel) (by decide +kernel) w h).1
theorem lwi_wsL_law_r32 : ∀ w ∈ wsL_law_r32, w ∈ lw_tbl := fun w h => (goodIn_p wsL_law_r32 [790, 1363, 795, 799, 1367] (by decide +kernel) (by decide +kernel) w h).1
theorem lwi_wsL_law_r33 : ∀ w ∈ wsL_law_r33, w ∈ lw_tbl := fun w h => (goodIn_p wsL_law_r33 [1371, 1375, 806, 810, 814] (by decide +kernel) (by decide +kernel) w h).1
