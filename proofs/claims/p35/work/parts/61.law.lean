set_option maxRecDepth 20000 in
theorem lwi_r37 : ∀ w ∈ wsL_law_r37, w ∈ lw_tbl := fun w h => (goodIn_p wsL_law_r37 [1594, 1598, 882, 1603, 886] (by decide +kernel) (by decide +kernel) w h).1
set_option maxRecDepth 20000 in
theorem lwi_r38 : ∀ w ∈ wsL_law_r38, w ∈ lw_tbl := fun w h => (goodIn_p wsL_law_r38 [890, 894, 1607, 1611, 899] (by decide +kernel) (by decide +kernel) w h).1
set_option maxRecDepth 20000 in
theorem lwi_r39 : ∀ w ∈ wsL_law_r39, w ∈ lw_tbl := fun w h => (goodIn_p wsL_law_r39 [1615, 1619, 904, 908, 912] (by decide +kernel) (by decide +kernel) w h).1
set_option maxRecDepth 20000 in
theorem lwi_r40 : ∀ w ∈ wsL_law_r40, w ∈ lw_tbl := fun w h => (goodIn_p wsL_law_r40 [916, 1623, 920, 925, 928, 1631] (by decide +kernel) (by decide +kernel) w h).1
set_option maxRecDepth 20000 in
theorem lwi_r41 : ∀ w ∈ wsL_law_r41, w ∈ lw_tbl := fun w h => (goodIn_p wsL_law_r41 [1635, 934, 1639, 938, 1643, 942] (by decide +kernel) (by decide +kernel) w h).1
set_option maxRecDepth 20000 in
theorem lwi_r42 : ∀ w ∈ wsL_law_r42, w ∈ lw_tbl := fun w h => (goodIn_p wsL_law_r42 [1647, 946, 950, 1627] (by decide +kernel) (by decide +kernel) w h).1
set_option maxRecDepth 20000 in
theorem lwi_r43 : ∀ w ∈ wsL_law_r43, w ∈ lw_tbl := fun w h => (goodIn_p wsL_law_r43 [955, 1651, 961] (by decide +kernel) (by decide +kernel) w h).1
set_option maxRecDepth 20000 in
theorem lwi_r44 : ∀ w ∈ wsL_law_r44, w ∈ lw_tbl := fun w h => (goodIn_p wsL_law_r44 [965, 970, 974, 979] (by decide +kernel) (by decide +kernel) w h).1
set_option maxRecDepth 20000 in
theorem lwi_r45 : ∀ w ∈ wsL_law_r45, w ∈ lw_tbl := fun w h => (goodIn_p wsL_law_r45 [985, 989, 1657, 1661, 1665] (by decide +kernel) (by decide +kernel) w h).1
set_option maxRecDepth 20000 in
theorem lwi_r46 : ∀ w ∈ wsL_law_r46, w ∈ lw_tbl := fun w h => (goodIn_p wsL_law_r46 [995, 999, 1004, 1009] (by decide +kernel) (by decide +kernel) w h).1
set_option maxRecDepth 20000 in
theorem lwi_r47 : ∀ w ∈ wsL_law_r47, w ∈ lw_tbl := fun w h => (goodIn_p wsL_law_r47 [1669, 1674, 1015, 1678, 1682, 1686] (by decide +kernel) (by decide +kernel) w h).1
set_option maxRecDepth 20000 in
theorem lwi_r48 : ∀ w ∈ wsL_law_r48, w ∈ lw_tbl := fun w h => (goodIn_p wsL_law_r48 [1690, 1694, 1019, 1024, 1030] (by decide +kernel) (by decide +kernel) w h).1
set_option maxRecDepth 20000 in
theorem lwi_r49 : ∀ w ∈ wsL_law_r49, w ∈ lw_tbl := fun w h => (goodIn_p wsL_law_r49 [1035, 1698, 1042, 1046] (by decide +kernel) (by decide +kernel) w h).1
set_option maxRecDepth 20000 in
theorem lwi_r50 : ∀ w ∈ wsL_law_r50, w ∈ lw_tbl := fun w h => (goodIn_p wsL_law_r50 [1051, 1054, 1058, 1063, 1068, 1702] (by decide +kernel) (by decide +kernel) w h).1
set_option maxRecDepth 20000 in
theorem lwi_r51 : ∀ w ∈ wsL_law_r51, w ∈ lw_tbl := fun w h => (goodIn_p wsL_law_r51 [1706, 1072, 1710, 1076, 1080] (by decide +kernel) (by decide +kernel) w h).1
set_option maxRecDepth 20000 in
theorem lwi_r52 : ∀ w ∈ wsL_law_r52, w ∈ lw_tbl := fun w h => (goodIn_p wsL_law_r52 [1086, 1093, 1097, 1101] (by decide +kernel) (by decide +kernel) w h).1
set_option maxRecDepth 20000 in
theorem lwi_r53 : ∀ w ∈ wsL_law_r53, w ∈ lw_tbl := fun w h => (goodIn_p wsL_law_r53 [1716, 1720, 1724, 1728, 1105] (by decide +kernel) (by decide +kernel) w h).1
set_option maxRecDepth 20000 in
theorem lwi_r54 : ∀ w ∈ wsL_law_r54, w ∈ lw_tbl := fun w h => (goodIn_p wsL_law_r54 [1109, 1732, 1113, 1117, 1736, 1740] (by decide +kernel) (by decide +kernel) w h).1
set_option maxRecDepth 20000 in
theorem lwi_r55 : ∀ w ∈ wsL_law_r55, w ∈ lw_tbl := fun w h => (goodIn_p wsL_law_r55 [1121, 1744, 1125, 1129, 1748, 1134] (by decide +kernel) (by decide +kernel) w h).1
set_option maxRecDepth 20000 in
theorem lwi_r56 : ∀ w ∈ wsL_law_r56, w ∈ lw_tbl := fun w h => (goodIn_p wsL_law_r56 [1752, 1138, 1141, 1757, 1145, 1761] (by decide +kernel) (by decide +kernel) w h).1
set_option maxRecDepth 20000 in
theorem lwi_r57 : ∀ w ∈ wsL_law_r57, w ∈ lw_tbl := fun w h => (goodIn_p wsL_law_r57 [1149, 1153, 1156, 1765] (by decide +kernel) (by decide +kernel) w h).1
set_option maxRecDepth 20000 in
theorem lwi_r58 : ∀ w ∈ wsL_law_r58, w ∈ lw_tbl := fun w h => (goodIn_p wsL_law_r58 [1771, 1775, 1163, 1167, 1783] (by decide +kernel) (by decide +kernel) w h).1
set_option maxRecDepth 20000 in
theorem lwi_r59 : ∀ w ∈ wsL_law_r59, w ∈ lw_tbl := fun w h => (goodIn_p wsL_law_r59 [1171, 1175, 1787, 1179, 1792] (by decide +kernel) (by decide +kernel) w h).1
set_option maxRecDepth 20000 in
theorem lwi_wsX110 : ∀ w ∈ wsX110, w ∈ lw_tbl := fun w h => (goodIn_p wsX110 [] (by decide +kernel) (by decide +kernel) w h).1
set_option maxRecDepth 20000 in
theorem lwi_wsX120 : ∀ w ∈ wsX120, w ∈ lw_tbl := fun w h => (goodIn_p wsX120 [] (by decide +kernel) (by decide +kernel) w h).1
set_option maxRecDepth 20000 in
theorem lwi_wsX70 : ∀ w ∈ wsX70, w ∈ lw_tbl := fun w h => (goodIn_p wsX70 [] (by decide +kernel) (by decide +kernel) w h).1
set_option maxRecDepth 20000 in
theorem lwi_wsX90 : ∀ w ∈ wsX90, w ∈ lw_tbl := fun w h => (goodIn_p wsX90 [] (by decide +kernel) (by decide +kernel) w h).1
set_option maxRecDepth 20000 in
theorem lwi_wsX40 : ∀ w ∈ wsX40, w ∈ lw_tbl := fun w h => (goodIn_p wsX40 [] (by decide +kernel) (by decide +kernel) w h).1
set_option maxRecDepth 20000 in
theorem lwi_wsX10 : ∀ w ∈ wsX10, w ∈ lw_tbl := fun w h => (goodIn_p wsX10 [] (by decide +kernel) (by decide +kernel) w h).1
set_option maxRecDepth 20000 in
theorem lwi_wsX80 : ∀ w ∈ wsX80, w ∈ lw_tbl := fun w h => (goodIn_p wsX80 [] (by decide +kernel) (by decide +kernel) w h).1
set_option maxRecDepth 20000 in
theorem lwi_wsX50 : ∀ w ∈ wsX50, w ∈ lw_tbl := fun w h => (goodIn_p wsX50 [] (by decide +kernel) (by decide +kernel) w h).1
set_option maxRecDepth 20000 in
theorem lwi_wsX100 : ∀ w ∈ wsX100, w ∈ lw_tbl := fun w h => (goodIn_p wsX100 [] (by decide +kernel) (by decide +kernel) w h).1
set_option maxRecDepth 20000 in
theorem lwi_wsX20 : ∀ w ∈ wsX20, w ∈ lw_tbl := fun w h => (goodIn_p wsX20 [] (by decide +kernel) (by decide +kernel) w h).1
set_option maxRecDepth 20000 in
theorem lwi_wsX60 : ∀ w ∈ wsX60, w ∈ lw_tbl := fun w h => (goodIn_p wsX60 [] (by decide +kernel) (by decide +kernel) w h).1
set_option maxRecDepth 20000 in
theorem lwi_wsX00 : ∀ w ∈ wsX00, w ∈ lw_tbl := fun w h => (goodIn_p wsX00 [] (by decide +kernel) (by decide +kernel) w h).1
set_option maxRecDepth 20000 in
theorem lwi_wsX30 : ∀ w ∈ wsX30, w ∈ lw_tbl := fun w h => (goodIn_p wsX30 [] (by decide +kernel) (by decide +kernel) w h).1
theorem wsL_law_in : ∀ w ∈ wsL_law, w ∈ lw_tbl := by
  unfold wsL_law
  exact (List.forall_mem_append.mpr ⟨(List.forall_mem_append.mpr ⟨(List.forall_mem_append.mpr ⟨(List.forall_mem_append.mpr ⟨(List.forall_mem_append.mpr ⟨(List.forall_mem_append.mpr ⟨(List.forall_mem_append.mpr ⟨(List.forall_mem_append.mpr ⟨(List.forall_mem_append.mpr ⟨(List.forall_mem_append.mpr ⟨(List.forall_mem_append.mpr ⟨(List.forall_mem_append.mpr ⟨(List.forall_mem_append.mpr ⟨(List.forall_mem_append.mpr ⟨(List.forall_mem_append.mpr ⟨lwi_r1, (List.forall_mem_append.mpr ⟨lwi_r2, (List.forall_mem_append.mpr ⟨lwi_r3, (List.forall_mem_append.mpr ⟨lwi_r4, (List.forall_mem_append.mpr ⟨lwi_r5, (List.forall_mem_append.mpr ⟨lwi_r6, (List.forall_mem_append.mpr ⟨lwi_r7, (List.forall_mem_append.mpr ⟨lwi_r8, (List.forall_mem_append.mpr ⟨lwi_r9, (List.forall_mem_append.mpr ⟨lwi_r10, (List.forall_mem_append.mpr ⟨lwi_r11, (List.forall_mem_append.mpr ⟨lwi_r12, (List.forall_mem_append.mpr ⟨lwi_r13, (List.forall_mem_append.mpr ⟨lwi_r14, (List.forall_mem_append.mpr ⟨lwi_r15, (List.forall_mem_append.mpr ⟨lwi_r16, (List.forall_mem_append.mpr ⟨lwi_r17, (List.forall_mem_append.mpr ⟨lwi_r18, (List.forall_mem_append.mpr ⟨lwi_r19, (List.forall_mem_append.mpr ⟨lwi_r20, (List.forall_mem_append.mpr ⟨lwi_r21, (List.forall_mem_append.mpr ⟨lwi_r22, (List.forall_mem_append.mpr ⟨lwi_r23, (List.forall_mem_append.mpr ⟨lwi_r24, (List.forall_mem_append.mpr ⟨lwi_r25, (List.forall_mem_append.mpr ⟨lwi_r26, (List.forall_mem_append.mpr ⟨lwi_r27, (List.forall_mem_append.mpr ⟨lwi_r28, (List.forall_mem_append.mpr ⟨lwi_r29, (List.forall_mem_append.mpr ⟨lwi_r30, (List.forall_mem_append.mpr ⟨lwi_r31, (List.forall_mem_append.mpr ⟨lwi_r32, (List.forall_mem_append.mpr ⟨lwi_r33, (List.forall_mem_append.mpr ⟨lwi_r34, (List.forall_mem_append.mpr ⟨lwi_r35, (List.forall_mem_append.mpr ⟨lwi_r36, (List.forall_mem_append.mpr ⟨lwi_r37, (List.forall_mem_append.mpr ⟨lwi_r38, (List.forall_mem_append.mpr ⟨lwi_r39, (List.forall_mem_append.mpr ⟨lwi_r40, (List.forall_mem_append.mpr ⟨lwi_r41, (List.forall_mem_append.mpr ⟨lwi_r42, (List.forall_mem_append.mpr ⟨lwi_r43, (List.forall_mem_append.mpr ⟨lwi_r44, (List.forall_mem_append.mpr ⟨lwi_r45, (List.forall_mem_append.mpr ⟨lwi_r46, (List.forall_mem_append.mpr ⟨lwi_r47, (List.forall_mem_append.mpr ⟨lwi_r48, (List.forall_mem_append.mpr ⟨lwi_r49, (List.forall_mem_append.mpr ⟨lwi_r50, (List.forall_mem_append.mpr ⟨lwi_r51, (List.forall_mem_append.mpr ⟨lwi_r52, (List.forall_mem_append.mpr ⟨lwi_r53, (List.forall_mem_append.mpr ⟨lwi_r54, (List.forall_mem_append.mpr ⟨lwi_r55, (List.forall_mem_append.mpr ⟨lwi_r56, (List.forall_mem_append.mpr ⟨lwi_r57, (List.forall_mem_append.mpr ⟨lwi_r58, lwi_r59⟩)⟩)⟩)⟩)⟩)⟩)⟩)⟩)⟩)⟩)⟩)⟩)⟩)⟩)⟩)⟩)⟩)⟩)⟩)⟩)⟩)⟩)⟩)⟩)⟩)⟩)⟩)⟩)⟩)⟩)⟩)⟩)⟩)⟩)⟩)⟩)⟩)⟩)⟩)⟩)⟩)⟩)⟩)⟩)⟩)⟩)⟩)⟩)⟩)⟩)⟩)⟩)⟩)⟩)⟩)⟩)⟩)⟩), lwi_wsX110⟩), lwi_wsX120⟩), lwi_wsX70⟩), lwi_wsX90⟩), lwi_wsX40⟩), lwi_wsX10⟩), lwi_wsX80⟩), lwi_wsX50⟩), lwi_wsX100⟩), lwi_wsX20⟩), lwi_wsX60⟩), lwi_wsX00⟩), lwi_wsX30⟩), fun _ h => by cases h⟩)
