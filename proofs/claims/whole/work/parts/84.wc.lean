theorem lwi_wsL_law_r34 : ∀ w ∈ wsL_law_r34, w ∈ lw_tbl := fun w h => (goodIn_p wsL_law_r34 [1379, 1383, 1387, 820, 1391, 824, 827] (by decide +kernel) (by decide +kernel) w h).1
theorem lwi_wsL_law_r35 : ∀ w ∈ wsL_law_r35, w ∈ lw_tbl := fun w h => (goodIn_p wsL_law_r35 [834, 838, 1395, 1399, 1402] (by decide +kernel) (by decide +kernel) w h).1
theorem lwi_wsL_law_r36 : ∀ w ∈ wsL_law_r36, w ∈ lw_tbl := fun w h => (goodIn_p wsL_law_r36 [1406, 1410, 843, 1414, 848] (by decide +kernel) (by decide +kernel) w h).1
theorem lwi_wsL_law_r37 : ∀ w ∈ wsL_law_r37, w ∈ lw_tbl := fun w h => (goodIn_p wsL_law_r37 [852, 1418, 1422, 856, 1426, 860] (by decide +kernel) (by decide +kernel) w h).1
theorem lwi_wsL_law_r38 : ∀ w ∈ wsL_law_r38, w ∈ lw_tbl := fun w h => (goodIn_p wsL_law_r38 [864, 868, 1430, 1435, 872, 1439] (by decide +kernel) (by decide +kernel) w h).1
theorem lwi_wsL_law_r39 : ∀ w ∈ wsL_law_r39, w ∈ lw_tbl := fun w h => (goodIn_p wsL_law_r39 [876, 1443, 880, 884] (by decide +kernel) (by decide +kernel) w h).1
theorem lwi_wsL_law_r40 : ∀ w ∈ wsL_law_r40, w ∈ lw_tbl := fun w h => (goodIn_p wsL_law_r40 [891, 1000, 895, 905, 908, 917] (by decide +kernel) (by decide +kernel) w h).1
theorem lwi_wsL_law_r41 : ∀ w ∈ wsL_law_r41, w ∈ lw_tbl := fun w h => (goodIn_p wsL_law_r41 [920, 934, 938, 942, 946] (by decide +kernel) (by decide +kernel) w h).1
theorem lwi_wsL_law_r42 : ∀ w ∈ wsL_law_r42, w ∈ lw_tbl := fun w h => (goodIn_p wsL_law_r42 [949, 954, 957, 979] (by decide +kernel) (by decide +kernel) w h).1
theorem lwi_wsL_law_r43 : ∀ w ∈ wsL_law_r43, w ∈ lw_tbl := fun w h => (goodIn_p wsL_law_r43 [993, 1024, 1010] (by decide +kernel) (by decide +kernel) w h).1
theorem lwi_wsL_law_r44 : ∀ w ∈ wsL_law_r44, w ∈ lw_tbl := fun w h => (goodIn_p wsL_law_r44 [1019, 1052, 1033] (by decide +kernel) (by decide +kernel) w h).1
theorem lwi_wsL_law_r45 : ∀ w ∈ wsL_law_r45, w ∈ lw_tbl := fun w h => (goodIn_p wsL_law_r45 [1045, 1447, 1451, 1454] (by decide +kernel) (by decide +kernel) w h).1
theorem lwi_wsL_law_r46 : ∀ w ∈ wsL_law_r46, w ∈ lw_tbl := fun w h => (goodIn_p wsL_law_r46 [1458, 1462, 1466, 1470, 1474, 1478] (by decide +kernel) (by decide +kernel) w h).1
theorem lwi_wsL_law_r47 : ∀ w ∈ wsL_law_r47, w ∈ lw_tbl := fun w h => (goodIn_p wsL_law_r47 [1057, 1062, 1065, 1070, 1075] (by decide +kernel) (by decide +kernel) w h).1
theorem lwi_wsL_law_r48 : ∀ w ∈ wsL_law_r48, w ∈ lw_tbl := fun w h => (goodIn_p wsL_law_r48 [1482, 1079, 1090] (by decide +kernel) (by decide +kernel) w h).1
theorem lwi_wsL_law_r49 : ∀ w ∈ wsL_law_r49, w ∈ lw_tbl := fun w h => (goodIn_p wsL_law_r49 [1486, 1094, 1098, 1490, 1103] (by decide +kernel) (by decide +kernel) w h).1
