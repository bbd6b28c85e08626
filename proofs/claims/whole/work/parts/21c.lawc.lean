set_option maxRecDepth 100000 in
theorem pgb_1214 : am_chk 0 1214 bq_0_1214 = true := by decide +kernel
set_option maxRecDepth 100000 in
theorem pgb_1237 : am_chk 0 1237 bq_0_1237 = true := by decide +kernel
set_option maxRecDepth 100000 in
theorem pgb_1270 : am_chk 0 1270 bq_0_1270 = true := by decide +kernel
set_option maxRecDepth 100000 in
theorem pgb_1303 : am_chk 0 1303 bq_0_1303 = true := by decide +kernel
set_option maxRecDepth 100000 in
theorem pgb_1321 : am_chk 0 1321 bq_0_1321 = true := by decide +kernel
set_option maxRecDepth 100000 in
theorem pgb_1322 : am_chk 0 1322 bq_0_1322 = true := by decide +kernel
set_option maxRecDepth 100000 in
theorem pgb_1343 : am_chk 0 1343 bq_0_1343 = true := by decide +kernel
set_option maxRecDepth 100000 in
theorem pgb_1344 : am_chk 0 1344 bq_0_1344 = true := by decide +kernel
set_option maxRecDepth 100000 in
theorem pgb_1352 : am_chk 0 1352 bq_0_1352 = true := by decide +kernel
set_option maxRecDepth 100000 in
theorem pgb_1375 : am_chk 0 1375 bq_0_1375 = true := by decide +kernel
set_option maxRecDepth 100000 in
theorem pgb_1388 : am_chk 0 1388 bq_0_1388 = true := by decide +kernel
set_option maxRecDepth 100000 in
theorem pgb_1421 : am_chk 0 1421 bq_0_1421 = true := by decide +kernel
set_option maxRecDepth 100000 in
theorem pgb_1454 : am_chk 0 1454 bq_0_1454 = true := by decide +kernel
set_option maxRecDepth 100000 in
theorem pgb_1487 : am_chk 0 1487 bq_0_1487 = true := by decide +kernel
set_option maxRecDepth 100000 in
theorem pgb_1510 : am_chk 0 1510 bq_0_1510 = true := by decide +kernel
set_option maxRecDepth 100000 in
theorem pgb_1553 : am_chk 0 1553 bq_0_1553 = true := by decide +kernel
set_option maxRecDepth 100000 in
theorem pgb_1576 : am_chk 0 1576 bq_0_1576 = true := by decide +kernel
set_option maxRecDepth 100000 in
theorem pgb_1599 : am_chk 0 1599 bq_0_1599 = true := by decide +kernel
set_option maxRecDepth 100000 in
theorem pgb_1642 : am_chk 0 1642 bq_0_1642 = true := by decide +kernel
set_option maxRecDepth 100000 in
theorem pgb_1655 : am_chk 0 1655 bq_0_1655 = true := by decide +kernel
set_option maxRecDepth 100000 in
theorem pgb_1668 : am_chk 0 1668 bq_0_1668 = true := by decide +kernel
set_option maxRecDepth 100000 in
theorem pgb_1691 : am_chk 0 1691 bq_0_1691 = true := by decide +kernel
set_option maxRecDepth 100000 in
theorem pgb_1704 : am_chk 0 1704 bq_0_1704 = true := by decide +kernel
set_option maxRecDepth 100000 in
theorem pgb_1705 : am_chk 0 1705 bq_0_1705 = true := by decide +kernel
set_option maxRecDepth 100000 in
theorem pgb_1721 : am_chk 0 1721 bq_0_1721 = true := by decide +kernel
set_option maxRecDepth 100000 in
theorem pgb_1722 : am_chk 0 1722 bq_0_1722 = true := by decide +kernel
set_option maxRecDepth 100000 in
theorem pgb_1730 : am_chk 0 1730 bq_0_1730 = true := by decide +kernel
set_option maxRecDepth 100000 in
theorem pgb_1743 : am_chk 0 1743 bq_0_1743 = true := by decide +kernel
set_option maxRecDepth 100000 in
theorem pgb_1766 : am_chk 0 1766 bq_0_1766 = true := by decide +kernel
set_option maxRecDepth 100000 in
theorem pgb_1779 : am_chk 0 1779 bq_0_1779 = true := by decide +kernel
set_option maxRecDepth 100000 in
theorem pgb_1792 : am_chk 0 1792 bq_0_1792 = true := by decide +kernel
set_option maxRecDepth 100000 in
theorem pgb_1815 : am_chk 0 1815 bq_0_1815 = true := by decide +kernel
set_option maxRecDepth 100000 in
theorem pgb_1821 : am_chk 0 1821 bq_0_1821 = true := by decide +kernel
theorem pg_0 : (tb_0.all fun q => am_chk 0 q.1 q.2) = true := by simp only [tb_0, List.all_cons, List.all_nil, Bool.and_true, pgb_0, pgb_18, pgb_276, pgb_299, pgb_342, pgb_375, pgb_438, pgb_461, pgb_474, pgb_497, pgb_520, pgb_553, pgb_576, pgb_599, pgb_622, pgb_645, pgb_678, pgb_691, pgb_724, pgb_757, pgb_780, pgb_823, pgb_846, pgb_879, pgb_912, pgb_945, pgb_958, pgb_959, pgb_975, pgb_976, pgb_984, pgb_1007, pgb_1020, pgb_1053, pgb_1076, pgb_1099, pgb_1122, pgb_1155, pgb_1188, pgb_1201, pgb_1214, pgb_1237, pgb_1270, pgb_1303, pgb_1321, pgb_1322, pgb_1343, pgb_1344, pgb_1352, pgb_1375, pgb_1388, pgb_1421, pgb_1454, pgb_1487, pgb_1510, pgb_1553, pgb_1576, pgb_1599, pgb_1642, pgb_1655, pgb_1668, pgb_1691, pgb_1704, pgb_1705, pgb_1721, pgb_1722, pgb_1730, pgb_1743, pgb_1766, pgb_1779, pgb_1792, pgb_1815, pgb_1821]
