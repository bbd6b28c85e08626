theorem tt_0 : am_tab 0 = tb_0 := rfl
theorem bk_0_0 : am_B 0 0 = bq_0_0 := by unfold am_B; rw [tt_0]; rfl
theorem bk_0_18 : am_B 0 18 = bq_0_18 := by unfold am_B; rw [tt_0]; rfl
theorem bk_0_276 : am_B 0 276 = bq_0_276 := by unfold am_B; rw [tt_0]; rfl
theorem bk_0_299 : am_B 0 299 = bq_0_299 := by unfold am_B; rw [tt_0]; rfl
theorem bk_0_342 : am_B 0 342 = bq_0_342 := by unfold am_B; rw [tt_0]; rfl
theorem bk_0_375 : am_B 0 375 = bq_0_375 := by unfold am_B; rw [tt_0]; rfl
theorem bk_0_438 : am_B 0 438 = bq_0_438 := by unfold am_B; rw [tt_0]; rfl
theorem bk_0_461 : am_B 0 461 = bq_0_461 := by unfold am_B; rw [tt_0]; rfl
theorem bk_0_474 : am_B 0 474 = bq_0_474 := by unfold am_B; rw [tt_0]; rfl
theorem bk_0_497 : am_B 0 497 = bq_0_497 := by unfold am_B; rw [tt_0]; rfl
theorem bk_0_520 : am_B 0 520 = bq_0_520 := by unfold am_B; rw [tt_0]; rfl
theorem bk_0_553 : am_B 0 553 = bq_0_553 := by unfold am_B; rw [tt_0]; rfl
theorem bk_0_576 : am_B 0 576 = bq_0_576 := by unfold am_B; rw [tt_0]; rfl
theorem bk_0_599 : am_B 0 599 = bq_0_599 := by unfold am_B; rw [tt_0]; rfl
theorem bk_0_622 : am_B 0 622 = bq_0_622 := by unfold am_B; rw [tt_0]; rfl
theorem bk_0_645 : am_B 0 645 = bq_0_645 := by unfold am_B; rw [tt_0]; rfl
theorem bk_0_678 : am_B 0 678 = bq_0_678 := by unfold am_B; rw [tt_0]; rfl
theorem bk_0_691 : am_B 0 691 = bq_0_691 := by unfold am_B; rw [tt_0]; rfl
theorem bk_0_724 : am_B 0 724 = bq_0_724 := by unfold am_B; rw [tt_0]; rfl
theorem bk_0_757 : am_B 0 757 = bq_0_757 := by unfold am_B; rw [tt_0]; rfl
theorem bk_0_780 : am_B 0 780 = bq_0_780 := by unfold am_B; rw [tt_0]; rfl
theorem bk_0_823 : am_B 0 823 = bq_0_823 := by unfold am_B; rw [tt_0]; rfl
theorem bk_0_846 : am_B 0 846 = bq_0_846 := by unfold am_B; rw [tt_0]; rfl
theorem bk_0_879 : am_B 0 879 = bq_0_879 := by unfold am_B; rw [tt_0]; rfl
theorem bk_0_912 : am_B 0 912 = bq_0_912 := by unfold am_B; rw [tt_0]; rfl
theorem bk_0_945 : am_B 0 945 = bq_0_945 := by unfold am_B; rw [tt_0]; rfl
theorem bk_0_958 : am_B 0 958 = bq_0_958 := by unfold am_B; rw [tt_0]; rfl
theorem bk_0_959 : am_B 0 959 = bq_0_959 := by unfold am_B; rw [tt_0]; rfl
theorem bk_0_975 : am_B 0 975 = bq_0_975 := by unfold am_B; rw [tt_0]; rfl
theorem bk_0_976 : am_B 0 976 = bq_0_976 := by unfold am_B; rw [tt_0]; rfl
theorem bk_0_984 : am_B 0 984 = bq_0_984 := by unfold am_B; rw [tt_0]; rfl
theorem bk_0_1007 : am_B 0 1007 = bq_0_1007 := by unfold am_B; rw [tt_0]; rfl
theorem bk_0_1020 : am_B 0 1020 = bq_0_1020 := by unfold am_B; rw [tt_0]; rfl
theorem bk_0_1053 : am_B 0 1053 = bq_0_1053 := by unfold am_B; rw [tt_0]; rfl
theorem bk_0_1076 : am_B 0 1076 = bq_0_1076 := by unfold am_B; rw [tt_0]; rfl
theorem bk_0_1099 : am_B 0 1099 = bq_0_1099 := by unfold am_B; rw [tt_0]; rfl
theorem bk_0_1122 : am_B 0 1122 = bq_0_1122 := by unfold am_B; rw [tt_0]; rfl
theorem bk_0_1155 : am_B 0 1155 = bq_0_1155 := by unfold am_B; rw [tt_0]; rfl
theorem bk_0_1188 : am_B 0 1188 = bq_0_1188 := by unfold am_B; rw [tt_0]; rfl
theorem bk_0_1201 : am_B 0 1201 = bq_0_1201 := by unfold am_B; rw [tt_0]; rfl
theorem bk_0_1214 : am_B 0 1214 = bq_0_1214 := by unfold am_B; rw [tt_0]; rfl
theorem bk_0_1237 : am_B 0 1237 = bq_0_1237 := by unfold am_B; rw [tt_0]; rfl
theorem bk_0_1270 : am_B 0 1270 = bq_0_1270 := by unfold am_B; rw [tt_0]; rfl
theorem bk_0_1303 : am_B 0 1303 = bq_0_1303 := by unfold am_B; rw [tt_0]; rfl
theorem bk_0_1321 : am_B 0 1321 = bq_0_1321 := by unfold am_B; rw [tt_0]; rfl
theorem bk_0_1322 : am_B 0 1322 = bq_0_1322 := by unfold am_B; rw [tt_0]; rfl
theorem bk_0_1343 : am_B 0 1343 = bq_0_1343 := by unfold am_B; rw [tt_0]; rfl
theorem bk_0_1344 : am_B 0 1344 = bq_0_1344 := by unfold am_B; rw [tt_0]; rfl
theorem bk_0_1352 : am_B 0 1352 = bq_0_1352 := by unfold am_B; rw [tt_0]; rfl
theorem bk_0_1375 : am_B 0 1375 = bq_0_1375 := by unfold am_B; rw [tt_0]; rfl
theorem bk_0_1388 : am_B 0 1388 = bq_0_1388 := by unfold am_B; rw [tt_0]; rfl
theorem bk_0_1421 : am_B 0 1421 = bq_0_1421 := by unfold am_B; rw [tt_0]; rfl
theorem bk_0_1454 : am_B 0 1454 = bq_0_1454 := by unfold am_B; rw [tt_0]; rfl
theorem bk_0_1487 : am_B 0 1487 = bq_0_1487 := by unfold am_B; rw [tt_0]; rfl
theorem bk_0_1510 : am_B 0 1510 = bq_0_1510 := by unfold am_B; rw [tt_0]; rfl
theorem bk_0_1553 : am_B 0 1553 = bq_0_1553 := by unfold am_B; rw [tt_0]; rfl
theorem bk_0_1576 : am_B 0 1576 = bq_0_1576 := by unfold am_B; rw [tt_0]; rfl
theorem bk_0_1599 : am_B 0 1599 = bq_0_1599 := by unfold am_B; rw [tt_0]; rfl
theorem bk_0_1642 : am_B 0 1642 = bq_0_1642 := by unfold am_B; rw [tt_0]; rfl
theorem bk_0_1655 : am_B 0 1655 = bq_0_1655 := by unfold am_B; rw [tt_0]; rfl
theorem bk_0_1668 : am_B 0 1668 = bq_0_1668 := by unfold am_B; rw [tt_0]; rfl
theorem bk_0_1691 : am_B 0 1691 = bq_0_1691 := by unfold am_B; rw [tt_0]; rfl
theorem bk_0_1704 : am_B 0 1704 = bq_0_1704 := by unfold am_B; rw [tt_0]; rfl
theorem bk_0_1705 : am_B 0 1705 = bq_0_1705 := by unfold am_B; rw [tt_0]; rfl
theorem bk_0_1721 : am_B 0 1721 = bq_0_1721 := by unfold am_B; rw [tt_0]; rfl
theorem bk_0_1722 : am_B 0 1722 = bq_0_1722 := by unfold am_B; rw [tt_0]; rfl
theorem bk_0_1730 : am_B 0 1730 = bq_0_1730 := by unfold am_B; rw [tt_0]; rfl
theorem bk_0_1743 : am_B 0 1743 = bq_0_1743 := by unfold am_B; rw [tt_0]; rfl
theorem bk_0_1766 : am_B 0 1766 = bq_0_1766 := by unfold am_B; rw [tt_0]; rfl
theorem bk_0_1779 : am_B 0 1779 = bq_0_1779 := by unfold am_B; rw [tt_0]; rfl
theorem bk_0_1792 : am_B 0 1792 = bq_0_1792 := by unfold am_B; rw [tt_0]; rfl
theorem bk_0_1815 : am_B 0 1815 = bq_0_1815 := by unfold am_B; rw [tt_0]; rfl
theorem bk_0_1821 : am_B 0 1821 = bq_0_1821 := by unfold am_B; rw [tt_0]; rfl
theorem en_0 {d : Nat} {v0 : Nat} {M : am_M} : am_call d 0 [.ref v0] M = am_run d 0 bq_0_0 [some (.ref v0), none, none, none] [] M := by unfold am_call; rw [bk_0_0]; rfl
theorem mx_0 : am_mx 0 = 4 := rfl
theorem tt_1 : am_tab 1 = tb_1 := rfl
theorem bk_1_0 : am_B 1 0 = bq_1_0 := by unfold am_B; rw [tt_1]; rfl
theorem bk_1_113 : am_B 1 113 = bq_1_113 := by unfold am_B; rw [tt_1]; rfl
theorem bk_1_141 : am_B 1 141 = bq_1_141 := by unfold am_B; rw [tt_1]; rfl
theorem en_1 {d : Nat} {v0 : Nat} {M : am_M} : am_call d 1 [.ref v0] M = am_run d 1 bq_1_0 [some (.ref v0), none] [] M := by unfold am_call; rw [bk_1_0]; rfl
theorem mx_1 : am_mx 1 = 2 := rfl
theorem tt_2 : am_tab 2 = tb_2 := rfl
theorem bk_2_0 : am_B 2 0 = bq_2_0 := by unfold am_B; rw [tt_2]; rfl
theorem bk_2_150 : am_B 2 150 = bq_2_150 := by unfold am_B; rw [tt_2]; rfl
theorem bk_2_172 : am_B 2 172 = bq_2_172 := by unfold am_B; rw [tt_2]; rfl
theorem bk_2_174 : am_B 2 174 = bq_2_174 := by unfold am_B; rw [tt_2]; rfl
theorem bk_2_197 : am_B 2 197 = bq_2_197 := by unfold am_B; rw [tt_2]; rfl
theorem en_2 {d : Nat} {v0 : Nat} {M : am_M} : am_call d 2 [.ref v0] M = am_run d 2 bq_2_0 [some (.ref v0), none] [] M := by unfold am_call; rw [bk_2_0]; rfl
theorem mx_2 : am_mx 2 = 2 := rfl
theorem tt_3 : am_tab 3 = tb_3 := rfl
theorem bk_3_0 : am_B 3 0 = bq_3_0 := by unfold am_B; rw [tt_3]; rfl
theorem en_3 {d : Nat} {v0 : Nat} {v1 : Int32} {M : am_M} : am_call d 3 [.ref v0, .int v1] M = am_run d 3 bq_3_0 [some (.ref v0), some (.int v1)] [] M := by unfold am_call; rw [bk_3_0]; rfl
theorem mx_3 : am_mx 3 = 2 := rfl
theorem tt_4 : am_tab 4 = tb_4 := rfl
theorem bk_4_0 : am_B 4 0 = bq_4_0 := by unfold am_B; rw [tt_4]; rfl
theorem bk_4_21 : am_B 4 21 = bq_4_21 := by unfold am_B; rw [tt_4]; rfl
theorem bk_4_23 : am_B 4 23 = bq_4_23 := by unfold am_B; rw [tt_4]; rfl
theorem en_4 {d : Nat} {v0 : Nat} {v1 : Int32} {M : am_M} : am_call d 4 [.ref v0, .int v1] M = am_run d 4 bq_4_0 [some (.ref v0), some (.int v1)] [] M := by unfold am_call; rw [bk_4_0]; rfl
theorem mx_4 : am_mx 4 = 2 := rfl
theorem tt_5 : am_tab 5 = tb_5 := rfl
theorem bk_5_0 : am_B 5 0 = bq_5_0 := by unfold am_B; rw [tt_5]; rfl
theorem bk_5_32 : am_B 5 32 = bq_5_32 := by unfold am_B; rw [tt_5]; rfl
theorem bk_5_34 : am_B 5 34 = bq_5_34 := by unfold am_B; rw [tt_5]; rfl
theorem bk_5_47 : am_B 5 47 = bq_5_47 := by unfold am_B; rw [tt_5]; rfl
theorem en_5 {d : Nat} {v0 : Nat} {v1 : Int32} {v2 : Int32} {v3 : Int32} {M : am_M} : am_call d 5 [.ref v0, .int v1, .int v2, .int v3] M = am_run d 5 bq_5_0 [some (.ref v0), some (.int v1), some (.int v2), some (.int v3), none] [] M := by unfold am_call; rw [bk_5_0]; rfl
theorem mx_5 : am_mx 5 = 5 := rfl
theorem tt_6 : am_tab 6 = tb_6 := rfl
theorem bk_6_0 : am_B 6 0 = bq_6_0 := by unfold am_B; rw [tt_6]; rfl
theorem bk_6_32 : am_B 6 32 = bq_6_32 := by unfold am_B; rw [tt_6]; rfl
theorem bk_6_34 : am_B 6 34 = bq_6_34 := by unfold am_B; rw [tt_6]; rfl
theorem en_6 {d : Nat} {v0 : Nat} {v1 : Int32} {v2 : Int32} {v3 : Int32} {M : am_M} : am_call d 6 [.ref v0, .int v1, .int v2, .int v3] M = am_run d 6 bq_6_0 [some (.ref v0), some (.int v1), some (.int v2), some (.int v3)] [] M := by unfold am_call; rw [bk_6_0]; rfl
theorem mx_6 : am_mx 6 = 4 := rfl
theorem tt_7 : am_tab 7 = tb_7 := rfl
theorem bk_7_0 : am_B 7 0 = bq_7_0 := by unfold am_B; rw [tt_7]; rfl
theorem bk_7_24 : am_B 7 24 = bq_7_24 := by unfold am_B; rw [tt_7]; rfl
theorem bk_7_26 : am_B 7 26 = bq_7_26 := by unfold am_B; rw [tt_7]; rfl
theorem en_7 {d : Nat} {v0 : Nat} {v1 : Int32} {v2 : Int32} {M : am_M} : am_call d 7 [.ref v0, .int v1, .int v2] M = am_run d 7 bq_7_0 [some (.ref v0), some (.int v1), some (.int v2)] [] M := by unfold am_call; rw [bk_7_0]; rfl
theorem mx_7 : am_mx 7 = 3 := rfl
theorem tt_8 : am_tab 8 = tb_8 := rfl
theorem bk_8_0 : am_B 8 0 = bq_8_0 := by unfold am_B; rw [tt_8]; rfl
theorem bk_8_18 : am_B 8 18 = bq_8_18 := by unfold am_B; rw [tt_8]; rfl
theorem bk_8_20 : am_B 8 20 = bq_8_20 := by unfold am_B; rw [tt_8]; rfl
theorem en_8 {d : Nat} {v0 : Nat} {v1 : Int32} {v2 : Int32} {M : am_M} : am_call d 8 [.ref v0, .int v1, .int v2] M = am_run d 8 bq_8_0 [some (.ref v0), some (.int v1), some (.int v2)] [] M := by unfold am_call; rw [bk_8_0]; rfl
theorem mx_8 : am_mx 8 = 3 := rfl
theorem tt_9 : am_tab 9 = tb_9 := rfl
theorem bk_9_0 : am_B 9 0 = bq_9_0 := by unfold am_B; rw [tt_9]; rfl
theorem bk_9_18 : am_B 9 18 = bq_9_18 := by unfold am_B; rw [tt_9]; rfl
theorem en_9 {d : Nat} {v0 : Nat} {v1 : Int32} {v2 : Int32} {v3 : Int32} {v4 : Int32} {v5 : Int32} {M : am_M} : am_call d 9 [.ref v0, .int v1, .int v2, .int v3, .int v4, .int v5] M = am_run d 9 bq_9_0 [some (.ref v0), some (.int v1), some (.int v2), some (.int v3), some (.int v4), some (.int v5)] [] M := by unfold am_call; rw [bk_9_0]; rfl
theorem mx_9 : am_mx 9 = 6 := rfl
theorem tt_10 : am_tab 10 = tb_10 := rfl
theorem bk_10_0 : am_B 10 0 = bq_10_0 := by unfold am_B; rw [tt_10]; rfl
theorem bk_10_15 : am_B 10 15 = bq_10_15 := by unfold am_B; rw [tt_10]; rfl
theorem en_10 {d : Nat} {v0 : Nat} {v1 : Int32} {v2 : Int32} {v3 : Int32} {v4 : Int32} {v5 : Int32} {M : am_M} : am_call d 10 [.ref v0, .int v1, .int v2, .int v3, .int v4, .int v5] M = am_run d 10 bq_10_0 [some (.ref v0), some (.int v1), some (.int v2), some (.int v3), some (.int v4), some (.int v5)] [] M := by unfold am_call; rw [bk_10_0]; rfl
theorem mx_10 : am_mx 10 = 6 := rfl
theorem tt_11 : am_tab 11 = tb_11 := rfl
theorem bk_11_0 : am_B 11 0 = bq_11_0 := by unfold am_B; rw [tt_11]; rfl
theorem bk_11_17 : am_B 11 17 = bq_11_17 := by unfold am_B; rw [tt_11]; rfl
theorem en_11 {d : Nat} {v0 : Nat} {v1 : Int32} {M : am_M} : am_call d 11 [.ref v0, .int v1] M = am_run d 11 bq_11_0 [some (.ref v0), some (.int v1)] [] M := by unfold am_call; rw [bk_11_0]; rfl
theorem mx_11 : am_mx 11 = 2 := rfl
theorem tt_12 : am_tab 12 = tb_12 := rfl
theorem bk_12_0 : am_B 12 0 = bq_12_0 := by unfold am_B; rw [tt_12]; rfl
theorem bk_12_14 : am_B 12 14 = bq_12_14 := by unfold am_B; rw [tt_12]; rfl
theorem en_12 {d : Nat} {v0 : Nat} {v1 : Int32} {M : am_M} : am_call d 12 [.ref v0, .int v1] M = am_run d 12 bq_12_0 [some (.ref v0), some (.int v1)] [] M := by unfold am_call; rw [bk_12_0]; rfl
theorem mx_12 : am_mx 12 = 2 := rfl
theorem tt_13 : am_tab 13 = tb_13 := rfl
theorem bk_13_0 : am_B 13 0 = bq_13_0 := by unfold am_B; rw [tt_13]; rfl
theorem bk_13_19 : am_B 13 19 = bq_13_19 := by unfold am_B; rw [tt_13]; rfl
theorem bk_13_47 : am_B 13 47 = bq_13_47 := by unfold am_B; rw [tt_13]; rfl
theorem en_13 {d : Nat} {v0 : Nat} {M : am_M} : am_call d 13 [.ref v0] M = am_run d 13 bq_13_0 [some (.ref v0), none, none] [] M := by unfold am_call; rw [bk_13_0]; rfl
theorem mx_13 : am_mx 13 = 3 := rfl
theorem tt_14 : am_tab 14 = tb_14 := rfl
theorem bk_14_0 : am_B 14 0 = bq_14_0 := by unfold am_B; rw [tt_14]; rfl
theorem bk_14_12 : am_B 14 12 = bq_14_12 := by unfold am_B; rw [tt_14]; rfl
theorem bk_14_32 : am_B 14 32 = bq_14_32 := by unfold am_B; rw [tt_14]; rfl
theorem bk_14_36 : am_B 14 36 = bq_14_36 := by unfold am_B; rw [tt_14]; rfl
theorem bk_14_53 : am_B 14 53 = bq_14_53 := by unfold am_B; rw [tt_14]; rfl
theorem en_14 {d : Nat} {v0 : Nat} {M : am_M} : am_call d 14 [.ref v0] M = am_run d 14 bq_14_0 [some (.ref v0)] [] M := by unfold am_call; rw [bk_14_0]; rfl
theorem mx_14 : am_mx 14 = 1 := rfl
theorem tt_15 : am_tab 15 = tb_15 := rfl
theorem bk_15_0 : am_B 15 0 = bq_15_0 := by unfold am_B; rw [tt_15]; rfl
theorem bk_15_28 : am_B 15 28 = bq_15_28 := by unfold am_B; rw [tt_15]; rfl
theorem bk_15_36 : am_B 15 36 = bq_15_36 := by unfold am_B; rw [tt_15]; rfl
theorem bk_15_44 : am_B 15 44 = bq_15_44 := by unfold am_B; rw [tt_15]; rfl
theorem en_15 {d : Nat} {v0 : Nat} {v1 : Int32} {M : am_M} : am_call d 15 [.ref v0, .int v1] M = am_run d 15 bq_15_0 [some (.ref v0), some (.int v1)] [] M := by unfold am_call; rw [bk_15_0]; rfl
theorem mx_15 : am_mx 15 = 2 := rfl
theorem tt_16 : am_tab 16 = tb_16 := rfl
theorem bk_16_0 : am_B 16 0 = bq_16_0 := by unfold am_B; rw [tt_16]; rfl
theorem bk_16_11 : am_B 16 11 = bq_16_11 := by unfold am_B; rw [tt_16]; rfl
theorem bk_16_23 : am_B 16 23 = bq_16_23 := by unfold am_B; rw [tt_16]; rfl
theorem bk_16_24 : am_B 16 24 = bq_16_24 := by unfold am_B; rw [tt_16]; rfl
theorem en_16 {d : Nat} {v0 : Nat} {v1 : Int32} {M : am_M} : am_call d 16 [.ref v0, .int v1] M = am_run d 16 bq_16_0 [some (.ref v0), some (.int v1)] [] M := by unfold am_call; rw [bk_16_0]; rfl
theorem mx_16 : am_mx 16 = 2 := rfl
theorem tt_17 : am_tab 17 = tb_17 := rfl
theorem bk_17_0 : am_B 17 0 = bq_17_0 := by unfold am_B; rw [tt_17]; rfl
theorem bk_17_15 : am_B 17 15 = bq_17_15 := by unfold am_B; rw [tt_17]; rfl
theorem en_17 {d : Nat} {v0 : Nat} {v1 : Int32} {M : am_M} : am_call d 17 [.ref v0, .int v1] M = am_run d 17 bq_17_0 [some (.ref v0), some (.int v1)] [] M := by unfold am_call; rw [bk_17_0]; rfl
theorem mx_17 : am_mx 17 = 2 := rfl
theorem tt_18 : am_tab 18 = tb_18 := rfl
theorem bk_18_0 : am_B 18 0 = bq_18_0 := by unfold am_B; rw [tt_18]; rfl
theorem bk_18_18 : am_B 18 18 = bq_18_18 := by unfold am_B; rw [tt_18]; rfl
theorem en_18 {d : Nat} {v0 : Nat} {v1 : Int32} {M : am_M} : am_call d 18 [.ref v0, .int v1] M = am_run d 18 bq_18_0 [some (.ref v0), some (.int v1)] [] M := by unfold am_call; rw [bk_18_0]; rfl
theorem mx_18 : am_mx 18 = 2 := rfl
theorem tt_19 : am_tab 19 = tb_19 := rfl
theorem bk_19_0 : am_B 19 0 = bq_19_0 := by unfold am_B; rw [tt_19]; rfl
theorem bk_19_21 : am_B 19 21 = bq_19_21 := by unfold am_B; rw [tt_19]; rfl
theorem bk_19_25 : am_B 19 25 = bq_19_25 := by unfold am_B; rw [tt_19]; rfl
theorem en_19 {d : Nat} {v0 : Nat} {v1 : Int32} {v2 : Int32} {M : am_M} : am_call d 19 [.ref v0, .int v1, .int v2] M = am_run d 19 bq_19_0 [some (.ref v0), some (.int v1), some (.int v2)] [] M := by unfold am_call; rw [bk_19_0]; rfl
theorem mx_19 : am_mx 19 = 3 := rfl
theorem tt_20 : am_tab 20 = tb_20 := rfl
theorem bk_20_0 : am_B 20 0 = bq_20_0 := by unfold am_B; rw [tt_20]; rfl
theorem bk_20_15 : am_B 20 15 = bq_20_15 := by unfold am_B; rw [tt_20]; rfl
theorem bk_20_19 : am_B 20 19 = bq_20_19 := by unfold am_B; rw [tt_20]; rfl
theorem en_20 {d : Nat} {v0 : Nat} {v1 : Int32} {v2 : Int32} {M : am_M} : am_call d 20 [.ref v0, .int v1, .int v2] M = am_run d 20 bq_20_0 [some (.ref v0), some (.int v1), some (.int v2)] [] M := by unfold am_call; rw [bk_20_0]; rfl
theorem mx_20 : am_mx 20 = 3 := rfl
theorem tt_21 : am_tab 21 = tb_21 := rfl
theorem bk_21_0 : am_B 21 0 = bq_21_0 := by unfold am_B; rw [tt_21]; rfl
theorem bk_21_10 : am_B 21 10 = bq_21_10 := by unfold am_B; rw [tt_21]; rfl
theorem en_21 {d : Nat} {v0 : Nat} {v1 : Int32} {M : am_M} : am_call d 21 [.ref v0, .int v1] M = am_run d 21 bq_21_0 [some (.ref v0), some (.int v1)] [] M := by unfold am_call; rw [bk_21_0]; rfl
theorem mx_21 : am_mx 21 = 2 := rfl
theorem tt_22 : am_tab 22 = tb_22 := rfl
theorem bk_22_0 : am_B 22 0 = bq_22_0 := by unfold am_B; rw [tt_22]; rfl
theorem bk_22_15 : am_B 22 15 = bq_22_15 := by unfold am_B; rw [tt_22]; rfl
theorem bk_22_17 : am_B 22 17 = bq_22_17 := by unfold am_B; rw [tt_22]; rfl
theorem en_22 {d : Nat} {v0 : Nat} {v1 : Int32} {M : am_M} : am_call d 22 [.ref v0, .int v1] M = am_run d 22 bq_22_0 [some (.ref v0), some (.int v1)] [] M := by unfold am_call; rw [bk_22_0]; rfl
theorem mx_22 : am_mx 22 = 2 := rfl
theorem tt_23 : am_tab 23 = tb_23 := rfl
theorem bk_23_0 : am_B 23 0 = bq_23_0 := by unfold am_B; rw [tt_23]; rfl
theorem bk_23_10 : am_B 23 10 = bq_23_10 := by unfold am_B; rw [tt_23]; rfl
theorem en_23 {d : Nat} {v0 : Nat} {v1 : Int32} {M : am_M} : am_call d 23 [.ref v0, .int v1] M = am_run d 23 bq_23_0 [some (.ref v0), some (.int v1)] [] M := by unfold am_call; rw [bk_23_0]; rfl
theorem mx_23 : am_mx 23 = 2 := rfl
theorem tt_24 : am_tab 24 = tb_24 := rfl
theorem bk_24_0 : am_B 24 0 = bq_24_0 := by unfold am_B; rw [tt_24]; rfl
theorem bk_24_15 : am_B 24 15 = bq_24_15 := by unfold am_B; rw [tt_24]; rfl
theorem bk_24_17 : am_B 24 17 = bq_24_17 := by unfold am_B; rw [tt_24]; rfl
theorem en_24 {d : Nat} {v0 : Nat} {v1 : Int32} {M : am_M} : am_call d 24 [.ref v0, .int v1] M = am_run d 24 bq_24_0 [some (.ref v0), some (.int v1)] [] M := by unfold am_call; rw [bk_24_0]; rfl
theorem mx_24 : am_mx 24 = 2 := rfl
theorem tt_25 : am_tab 25 = tb_25 := rfl
theorem bk_25_0 : am_B 25 0 = bq_25_0 := by unfold am_B; rw [tt_25]; rfl
theorem bk_25_28 : am_B 25 28 = bq_25_28 := by unfold am_B; rw [tt_25]; rfl
theorem bk_25_30 : am_B 25 30 = bq_25_30 := by unfold am_B; rw [tt_25]; rfl
theorem en_25 {d : Nat} {v0 : Nat} {v1 : Int32} {M : am_M} : am_call d 25 [.ref v0, .int v1] M = am_run d 25 bq_25_0 [some (.ref v0), some (.int v1)] [] M := by unfold am_call; rw [bk_25_0]; rfl
theorem mx_25 : am_mx 25 = 2 := rfl
theorem tt_26 : am_tab 26 = tb_26 := rfl
theorem bk_26_0 : am_B 26 0 = bq_26_0 := by unfold am_B; rw [tt_26]; rfl
theorem bk_26_40 : am_B 26 40 = bq_26_40 := by unfold am_B; rw [tt_26]; rfl
theorem bk_26_41 : am_B 26 41 = bq_26_41 := by unfold am_B; rw [tt_26]; rfl
theorem en_26 {d : Nat} {v0 : Nat} {v1 : Int32} {M : am_M} : am_call d 26 [.ref v0, .int v1] M = am_run d 26 bq_26_0 [some (.ref v0), some (.int v1)] [] M := by unfold am_call; rw [bk_26_0]; rfl
theorem mx_26 : am_mx 26 = 2 := rfl
theorem tt_27 : am_tab 27 = tb_27 := rfl
theorem bk_27_0 : am_B 27 0 = bq_27_0 := by unfold am_B; rw [tt_27]; rfl
theorem bk_27_11 : am_B 27 11 = bq_27_11 := by unfold am_B; rw [tt_27]; rfl
theorem bk_27_20 : am_B 27 20 = bq_27_20 := by unfold am_B; rw [tt_27]; rfl
theorem bk_27_55 : am_B 27 55 = bq_27_55 := by unfold am_B; rw [tt_27]; rfl
theorem bk_27_61 : am_B 27 61 = bq_27_61 := by unfold am_B; rw [tt_27]; rfl
theorem en_27 {d : Nat} {v0 : Nat} {v1 : Int32} {M : am_M} : am_call d 27 [.ref v0, .int v1] M = am_run d 27 bq_27_0 [some (.ref v0), some (.int v1), none, none] [] M := by unfold am_call; rw [bk_27_0]; rfl
theorem mx_27 : am_mx 27 = 4 := rfl
theorem tt_28 : am_tab 28 = tb_28 := rfl
theorem bk_28_0 : am_B 28 0 = bq_28_0 := by unfold am_B; rw [tt_28]; rfl
theorem bk_28_19 : am_B 28 19 = bq_28_19 := by unfold am_B; rw [tt_28]; rfl
theorem bk_28_21 : am_B 28 21 = bq_28_21 := by unfold am_B; rw [tt_28]; rfl
theorem bk_28_55 : am_B 28 55 = bq_28_55 := by unfold am_B; rw [tt_28]; rfl
theorem bk_28_61 : am_B 28 61 = bq_28_61 := by unfold am_B; rw [tt_28]; rfl
theorem en_28 {d : Nat} {v0 : Nat} {v1 : Int32} {M : am_M} : am_call d 28 [.ref v0, .int v1] M = am_run d 28 bq_28_0 [some (.ref v0), some (.int v1), none] [] M := by unfold am_call; rw [bk_28_0]; rfl
theorem mx_28 : am_mx 28 = 3 := rfl
theorem tt_29 : am_tab 29 = tb_29 := rfl
theorem bk_29_0 : am_B 29 0 = bq_29_0 := by unfold am_B; rw [tt_29]; rfl
theorem bk_29_21 : am_B 29 21 = bq_29_21 := by unfold am_B; rw [tt_29]; rfl
theorem bk_29_23 : am_B 29 23 = bq_29_23 := by unfold am_B; rw [tt_29]; rfl
theorem bk_29_49 : am_B 29 49 = bq_29_49 := by unfold am_B; rw [tt_29]; rfl
theorem bk_29_64 : am_B 29 64 = bq_29_64 := by unfold am_B; rw [tt_29]; rfl
theorem en_29 {d : Nat} {v0 : Nat} {v1 : Int32} {v2 : Int32} {M : am_M} : am_call d 29 [.ref v0, .int v1, .int v2] M = am_run d 29 bq_29_0 [some (.ref v0), some (.int v1), some (.int v2), none] [] M := by unfold am_call; rw [bk_29_0]; rfl
theorem mx_29 : am_mx 29 = 4 := rfl
theorem tt_30 : am_tab 30 = tb_30 := rfl
theorem bk_30_0 : am_B 30 0 = bq_30_0 := by unfold am_B; rw [tt_30]; rfl
theorem bk_30_21 : am_B 30 21 = bq_30_21 := by unfold am_B; rw [tt_30]; rfl
theorem bk_30_23 : am_B 30 23 = bq_30_23 := by unfold am_B; rw [tt_30]; rfl
theorem bk_30_43 : am_B 30 43 = bq_30_43 := by unfold am_B; rw [tt_30]; rfl
theorem bk_30_73 : am_B 30 73 = bq_30_73 := by unfold am_B; rw [tt_30]; rfl
theorem en_30 {d : Nat} {v0 : Nat} {v1 : Int32} {v2 : Int32} {M : am_M} : am_call d 30 [.ref v0, .int v1, .int v2] M = am_run d 30 bq_30_0 [some (.ref v0), some (.int v1), some (.int v2), none, none] [] M := by unfold am_call; rw [bk_30_0]; rfl
theorem mx_30 : am_mx 30 = 5 := rfl
theorem tt_31 : am_tab 31 = tb_31 := rfl
theorem bk_31_0 : am_B 31 0 = bq_31_0 := by unfold am_B; rw [tt_31]; rfl
theorem bk_31_20 : am_B 31 20 = bq_31_20 := by unfold am_B; rw [tt_31]; rfl
theorem bk_31_21 : am_B 31 21 = bq_31_21 := by unfold am_B; rw [tt_31]; rfl
theorem en_31 {d : Nat} {v0 : Nat} {M : am_M} : am_call d 31 [.ref v0] M = am_run d 31 bq_31_0 [some (.ref v0)] [] M := by unfold am_call; rw [bk_31_0]; rfl
theorem mx_31 : am_mx 31 = 1 := rfl
theorem tt_32 : am_tab 32 = tb_32 := rfl
theorem bk_32_0 : am_B 32 0 = bq_32_0 := by unfold am_B; rw [tt_32]; rfl
theorem bk_32_11 : am_B 32 11 = bq_32_11 := by unfold am_B; rw [tt_32]; rfl
theorem bk_32_37 : am_B 32 37 = bq_32_37 := by unfold am_B; rw [tt_32]; rfl
theorem bk_32_66 : am_B 32 66 = bq_32_66 := by unfold am_B; rw [tt_32]; rfl
theorem bk_32_68 : am_B 32 68 = bq_32_68 := by unfold am_B; rw [tt_32]; rfl
theorem bk_32_101 : am_B 32 101 = bq_32_101 := by unfold am_B; rw [tt_32]; rfl
theorem en_32 {d : Nat} {v0 : Nat} {M : am_M} : am_call d 32 [.ref v0] M = am_run d 32 bq_32_0 [some (.ref v0), none, none] [] M := by unfold am_call; rw [bk_32_0]; rfl
theorem mx_32 : am_mx 32 = 3 := rfl
theorem tt_33 : am_tab 33 = tb_33 := rfl
theorem bk_33_0 : am_B 33 0 = bq_33_0 := by unfold am_B; rw [tt_33]; rfl
theorem bk_33_19 : am_B 33 19 = bq_33_19 := by unfold am_B; rw [tt_33]; rfl
theorem bk_33_52 : am_B 33 52 = bq_33_52 := by unfold am_B; rw [tt_33]; rfl
theorem bk_33_59 : am_B 33 59 = bq_33_59 := by unfold am_B; rw [tt_33]; rfl
theorem bk_33_66 : am_B 33 66 = bq_33_66 := by unfold am_B; rw [tt_33]; rfl
theorem bk_33_78 : am_B 33 78 = bq_33_78 := by unfold am_B; rw [tt_33]; rfl
theorem bk_33_84 : am_B 33 84 = bq_33_84 := by unfold am_B; rw [tt_33]; rfl
theorem en_33 {d : Nat} {v0 : Nat} {v1 : Int32} {v2 : Int32} {M : am_M} : am_call d 33 [.ref v0, .int v1, .int v2] M = am_run d 33 bq_33_0 [some (.ref v0), some (.int v1), some (.int v2), none] [] M := by unfold am_call; rw [bk_33_0]; rfl
theorem mx_33 : am_mx 33 = 4 := rfl
theorem tt_34 : am_tab 34 = tb_34 := rfl
theorem bk_34_0 : am_B 34 0 = bq_34_0 := by unfold am_B; rw [tt_34]; rfl
theorem bk_34_11 : am_B 34 11 = bq_34_11 := by unfold am_B; rw [tt_34]; rfl
theorem bk_34_19 : am_B 34 19 = bq_34_19 := by unfold am_B; rw [tt_34]; rfl
theorem bk_34_29 : am_B 34 29 = bq_34_29 := by unfold am_B; rw [tt_34]; rfl
theorem bk_34_55 : am_B 34 55 = bq_34_55 := by unfold am_B; rw [tt_34]; rfl
theorem bk_34_71 : am_B 34 71 = bq_34_71 := by unfold am_B; rw [tt_34]; rfl
theorem bk_34_77 : am_B 34 77 = bq_34_77 := by unfold am_B; rw [tt_34]; rfl
theorem bk_34_83 : am_B 34 83 = bq_34_83 := by unfold am_B; rw [tt_34]; rfl
theorem bk_34_99 : am_B 34 99 = bq_34_99 := by unfold am_B; rw [tt_34]; rfl
theorem bk_34_116 : am_B 34 116 = bq_34_116 := by unfold am_B; rw [tt_34]; rfl
theorem bk_34_125 : am_B 34 125 = bq_34_125 := by unfold am_B; rw [tt_34]; rfl
theorem bk_34_135 : am_B 34 135 = bq_34_135 := by unfold am_B; rw [tt_34]; rfl
theorem bk_34_137 : am_B 34 137 = bq_34_137 := by unfold am_B; rw [tt_34]; rfl
theorem en_34 {d : Nat} {v0 : Nat} {v1 : Int32} {v2 : Int32} {M : am_M} : am_call d 34 [.ref v0, .int v1, .int v2] M = am_run d 34 bq_34_0 [some (.ref v0), some (.int v1), some (.int v2), none, none, none, none] [] M := by unfold am_call; rw [bk_34_0]; rfl
theorem mx_34 : am_mx 34 = 7 := rfl
theorem tt_35 : am_tab 35 = tb_35 := rfl
theorem bk_35_0 : am_B 35 0 = bq_35_0 := by unfold am_B; rw [tt_35]; rfl
theorem bk_35_28 : am_B 35 28 = bq_35_28 := by unfold am_B; rw [tt_35]; rfl
theorem bk_35_31 : am_B 35 31 = bq_35_31 := by unfold am_B; rw [tt_35]; rfl
theorem en_35 {d : Nat} {v0 : Nat} {v1 : Int32} {v2 : Int32} {M : am_M} : am_call d 35 [.ref v0, .int v1, .int v2] M = am_run d 35 bq_35_0 [some (.ref v0), some (.int v1), some (.int v2)] [] M := by unfold am_call; rw [bk_35_0]; rfl
theorem mx_35 : am_mx 35 = 3 := rfl
theorem tt_36 : am_tab 36 = tb_36 := rfl
theorem bk_36_0 : am_B 36 0 = bq_36_0 := by unfold am_B; rw [tt_36]; rfl
theorem bk_36_25 : am_B 36 25 = bq_36_25 := by unfold am_B; rw [tt_36]; rfl
theorem bk_36_27 : am_B 36 27 = bq_36_27 := by unfold am_B; rw [tt_36]; rfl
theorem en_36 {d : Nat} {v0 : Nat} {v1 : Int32} {v2 : Int32} {M : am_M} : am_call d 36 [.ref v0, .int v1, .int v2] M = am_run d 36 bq_36_0 [some (.ref v0), some (.int v1), some (.int v2)] [] M := by unfold am_call; rw [bk_36_0]; rfl
theorem mx_36 : am_mx 36 = 3 := rfl
theorem tt_37 : am_tab 37 = tb_37 := rfl
theorem bk_37_0 : am_B 37 0 = bq_37_0 := by unfold am_B; rw [tt_37]; rfl
theorem bk_37_22 : am_B 37 22 = bq_37_22 := by unfold am_B; rw [tt_37]; rfl
theorem bk_37_23 : am_B 37 23 = bq_37_23 := by unfold am_B; rw [tt_37]; rfl
theorem en_37 {d : Nat} {v0 : Nat} {v1 : Int32} {M : am_M} : am_call d 37 [.ref v0, .int v1] M = am_run d 37 bq_37_0 [some (.ref v0), some (.int v1)] [] M := by unfold am_call; rw [bk_37_0]; rfl
theorem mx_37 : am_mx 37 = 2 := rfl
theorem tt_38 : am_tab 38 = tb_38 := rfl
theorem bk_38_0 : am_B 38 0 = bq_38_0 := by unfold am_B; rw [tt_38]; rfl
theorem bk_38_15 : am_B 38 15 = bq_38_15 := by unfold am_B; rw [tt_38]; rfl
theorem bk_38_16 : am_B 38 16 = bq_38_16 := by unfold am_B; rw [tt_38]; rfl
theorem en_38 {d : Nat} {v0 : Nat} {v1 : Int32} {M : am_M} : am_call d 38 [.ref v0, .int v1] M = am_run d 38 bq_38_0 [some (.ref v0), some (.int v1)] [] M := by unfold am_call; rw [bk_38_0]; rfl
theorem mx_38 : am_mx 38 = 2 := rfl
theorem tt_39 : am_tab 39 = tb_39 := rfl
theorem bk_39_0 : am_B 39 0 = bq_39_0 := by unfold am_B; rw [tt_39]; rfl
theorem bk_39_11 : am_B 39 11 = bq_39_11 := by unfold am_B; rw [tt_39]; rfl
theorem bk_39_40 : am_B 39 40 = bq_39_40 := by unfold am_B; rw [tt_39]; rfl
theorem bk_39_53 : am_B 39 53 = bq_39_53 := by unfold am_B; rw [tt_39]; rfl
theorem bk_39_66 : am_B 39 66 = bq_39_66 := by unfold am_B; rw [tt_39]; rfl
theorem bk_39_90 : am_B 39 90 = bq_39_90 := by unfold am_B; rw [tt_39]; rfl
theorem en_39 {d : Nat} {v0 : Nat} {v1 : Int32} {v2 : Int32} {v3 : Int32} {M : am_M} : am_call d 39 [.ref v0, .int v1, .int v2, .int v3] M = am_run d 39 bq_39_0 [some (.ref v0), some (.int v1), some (.int v2), some (.int v3)] [] M := by unfold am_call; rw [bk_39_0]; rfl
theorem mx_39 : am_mx 39 = 4 := rfl
theorem tt_40 : am_tab 40 = tb_40 := rfl
theorem bk_40_0 : am_B 40 0 = bq_40_0 := by unfold am_B; rw [tt_40]; rfl
theorem bk_40_11 : am_B 40 11 = bq_40_11 := by unfold am_B; rw [tt_40]; rfl
theorem bk_40_24 : am_B 40 24 = bq_40_24 := by unfold am_B; rw [tt_40]; rfl
theorem bk_40_38 : am_B 40 38 = bq_40_38 := by unfold am_B; rw [tt_40]; rfl
theorem bk_40_52 : am_B 40 52 = bq_40_52 := by unfold am_B; rw [tt_40]; rfl
theorem bk_40_53 : am_B 40 53 = bq_40_53 := by unfold am_B; rw [tt_40]; rfl
theorem en_40 {d : Nat} {v0 : Nat} {v1 : Int32} {v2 : Int32} {v3 : Int32} {M : am_M} : am_call d 40 [.ref v0, .int v1, .int v2, .int v3] M = am_run d 40 bq_40_0 [some (.ref v0), some (.int v1), some (.int v2), some (.int v3)] [] M := by unfold am_call; rw [bk_40_0]; rfl
theorem mx_40 : am_mx 40 = 4 := rfl
theorem tt_41 : am_tab 41 = tb_41 := rfl
theorem bk_41_0 : am_B 41 0 = bq_41_0 := by unfold am_B; rw [tt_41]; rfl
theorem bk_41_36 : am_B 41 36 = bq_41_36 := by unfold am_B; rw [tt_41]; rfl
theorem bk_41_47 : am_B 41 47 = bq_41_47 := by unfold am_B; rw [tt_41]; rfl
theorem bk_41_58 : am_B 41 58 = bq_41_58 := by unfold am_B; rw [tt_41]; rfl
theorem bk_41_69 : am_B 41 69 = bq_41_69 := by unfold am_B; rw [tt_41]; rfl
theorem bk_41_74 : am_B 41 74 = bq_41_74 := by unfold am_B; rw [tt_41]; rfl
theorem bk_41_79 : am_B 41 79 = bq_41_79 := by unfold am_B; rw [tt_41]; rfl
theorem en_41 {d : Nat} {v0 : Nat} {v1 : Int32} {M : am_M} : am_call d 41 [.ref v0, .int v1] M = am_run d 41 bq_41_0 [some (.ref v0), some (.int v1)] [] M := by unfold am_call; rw [bk_41_0]; rfl
theorem mx_41 : am_mx 41 = 2 := rfl
theorem tt_42 : am_tab 42 = tb_42 := rfl
theorem bk_42_0 : am_B 42 0 = bq_42_0 := by unfold am_B; rw [tt_42]; rfl
theorem bk_42_19 : am_B 42 19 = bq_42_19 := by unfold am_B; rw [tt_42]; rfl
theorem bk_42_26 : am_B 42 26 = bq_42_26 := by unfold am_B; rw [tt_42]; rfl
theorem bk_42_50 : am_B 42 50 = bq_42_50 := by unfold am_B; rw [tt_42]; rfl
theorem bk_42_51 : am_B 42 51 = bq_42_51 := by unfold am_B; rw [tt_42]; rfl
theorem bk_42_68 : am_B 42 68 = bq_42_68 := by unfold am_B; rw [tt_42]; rfl
theorem bk_42_77 : am_B 42 77 = bq_42_77 := by unfold am_B; rw [tt_42]; rfl
theorem bk_42_86 : am_B 42 86 = bq_42_86 := by unfold am_B; rw [tt_42]; rfl
theorem bk_42_89 : am_B 42 89 = bq_42_89 := by unfold am_B; rw [tt_42]; rfl
theorem en_42 {d : Nat} {v0 : Nat} {v1 : Int32} {M : am_M} : am_call d 42 [.ref v0, .int v1] M = am_run d 42 bq_42_0 [some (.ref v0), some (.int v1), none, none, none] [] M := by unfold am_call; rw [bk_42_0]; rfl
theorem mx_42 : am_mx 42 = 5 := rfl
theorem tt_43 : am_tab 43 = tb_43 := rfl
theorem bk_43_0 : am_B 43 0 = bq_43_0 := by unfold am_B; rw [tt_43]; rfl
theorem bk_43_18 : am_B 43 18 = bq_43_18 := by unfold am_B; rw [tt_43]; rfl
theorem bk_43_41 : am_B 43 41 = bq_43_41 := by unfold am_B; rw [tt_43]; rfl
theorem bk_43_44 : am_B 43 44 = bq_43_44 := by unfold am_B; rw [tt_43]; rfl
theorem en_43 {d : Nat} {v0 : Nat} {v1 : Int32} {v2 : Int32} {M : am_M} : am_call d 43 [.ref v0, .int v1, .int v2] M = am_run d 43 bq_43_0 [some (.ref v0), some (.int v1), some (.int v2), none] [] M := by unfold am_call; rw [bk_43_0]; rfl
theorem mx_43 : am_mx 43 = 4 := rfl
theorem tt_44 : am_tab 44 = tb_44 := rfl
theorem bk_44_0 : am_B 44 0 = bq_44_0 := by unfold am_B; rw [tt_44]; rfl
theorem bk_44_13 : am_B 44 13 = bq_44_13 := by unfold am_B; rw [tt_44]; rfl
theorem bk_44_48 : am_B 44 48 = bq_44_48 := by unfold am_B; rw [tt_44]; rfl
theorem bk_44_50 : am_B 44 50 = bq_44_50 := by unfold am_B; rw [tt_44]; rfl
theorem en_44 {d : Nat} {v0 : Nat} {v1 : Int32} {v2 : Int32} {M : am_M} : am_call d 44 [.ref v0, .int v1, .int v2] M = am_run d 44 bq_44_0 [some (.ref v0), some (.int v1), some (.int v2)] [] M := by unfold am_call; rw [bk_44_0]; rfl
theorem mx_44 : am_mx 44 = 3 := rfl
theorem tt_45 : am_tab 45 = tb_45 := rfl
theorem bk_45_0 : am_B 45 0 = bq_45_0 := by unfold am_B; rw [tt_45]; rfl
theorem bk_45_17 : am_B 45 17 = bq_45_17 := by unfold am_B; rw [tt_45]; rfl
theorem bk_45_19 : am_B 45 19 = bq_45_19 := by unfold am_B; rw [tt_45]; rfl
theorem bk_45_58 : am_B 45 58 = bq_45_58 := by unfold am_B; rw [tt_45]; rfl
theorem bk_45_84 : am_B 45 84 = bq_45_84 := by unfold am_B; rw [tt_45]; rfl
theorem en_45 {d : Nat} {v0 : Nat} {v1 : Int32} {v2 : Int32} {M : am_M} : am_call d 45 [.ref v0, .int v1, .int v2] M = am_run d 45 bq_45_0 [some (.ref v0), some (.int v1), some (.int v2), none, none, none] [] M := by unfold am_call; rw [bk_45_0]; rfl
theorem mx_45 : am_mx 45 = 6 := rfl
theorem tt_46 : am_tab 46 = tb_46 := rfl
theorem bk_46_0 : am_B 46 0 = bq_46_0 := by unfold am_B; rw [tt_46]; rfl
theorem bk_46_17 : am_B 46 17 = bq_46_17 := by unfold am_B; rw [tt_46]; rfl
theorem bk_46_19 : am_B 46 19 = bq_46_19 := by unfold am_B; rw [tt_46]; rfl
theorem bk_46_25 : am_B 46 25 = bq_46_25 := by unfold am_B; rw [tt_46]; rfl
theorem bk_46_47 : am_B 46 47 = bq_46_47 := by unfold am_B; rw [tt_46]; rfl
theorem bk_46_53 : am_B 46 53 = bq_46_53 := by unfold am_B; rw [tt_46]; rfl
theorem en_46 {d : Nat} {v0 : Nat} {v1 : Int32} {v2 : Int32} {M : am_M} : am_call d 46 [.ref v0, .int v1, .int v2] M = am_run d 46 bq_46_0 [some (.ref v0), some (.int v1), some (.int v2), none] [] M := by unfold am_call; rw [bk_46_0]; rfl
theorem mx_46 : am_mx 46 = 4 := rfl
theorem tt_47 : am_tab 47 = tb_47 := rfl
theorem bk_47_0 : am_B 47 0 = bq_47_0 := by unfold am_B; rw [tt_47]; rfl
theorem bk_47_21 : am_B 47 21 = bq_47_21 := by unfold am_B; rw [tt_47]; rfl
theorem bk_47_25 : am_B 47 25 = bq_47_25 := by unfold am_B; rw [tt_47]; rfl
theorem en_47 {d : Nat} {v0 : Nat} {v1 : Int32} {v2 : Int32} {M : am_M} : am_call d 47 [.ref v0, .int v1, .int v2] M = am_run d 47 bq_47_0 [some (.ref v0), some (.int v1), some (.int v2)] [] M := by unfold am_call; rw [bk_47_0]; rfl
theorem mx_47 : am_mx 47 = 3 := rfl
theorem tt_48 : am_tab 48 = tb_48 := rfl
theorem bk_48_0 : am_B 48 0 = bq_48_0 := by unfold am_B; rw [tt_48]; rfl
theorem bk_48_24 : am_B 48 24 = bq_48_24 := by unfold am_B; rw [tt_48]; rfl
theorem bk_48_27 : am_B 48 27 = bq_48_27 := by unfold am_B; rw [tt_48]; rfl
theorem en_48 {d : Nat} {v0 : Nat} {v1 : Int32} {v2 : Int32} {M : am_M} : am_call d 48 [.ref v0, .int v1, .int v2] M = am_run d 48 bq_48_0 [some (.ref v0), some (.int v1), some (.int v2)] [] M := by unfold am_call; rw [bk_48_0]; rfl
theorem mx_48 : am_mx 48 = 3 := rfl
theorem tt_49 : am_tab 49 = tb_49 := rfl
theorem bk_49_0 : am_B 49 0 = bq_49_0 := by unfold am_B; rw [tt_49]; rfl
theorem bk_49_8 : am_B 49 8 = bq_49_8 := by unfold am_B; rw [tt_49]; rfl
theorem bk_49_9 : am_B 49 9 = bq_49_9 := by unfold am_B; rw [tt_49]; rfl
theorem en_49 {d : Nat} {v0 : Nat} {v1 : Int32} {M : am_M} : am_call d 49 [.ref v0, .int v1] M = am_run d 49 bq_49_0 [some (.ref v0), some (.int v1), none] [] M := by unfold am_call; rw [bk_49_0]; rfl
theorem mx_49 : am_mx 49 = 3 := rfl
theorem tt_50 : am_tab 50 = tb_50 := rfl
theorem bk_50_0 : am_B 50 0 = bq_50_0 := by unfold am_B; rw [tt_50]; rfl
theorem bk_50_15 : am_B 50 15 = bq_50_15 := by unfold am_B; rw [tt_50]; rfl
theorem bk_50_19 : am_B 50 19 = bq_50_19 := by unfold am_B; rw [tt_50]; rfl
theorem en_50 {d : Nat} {v0 : Nat} {v1 : Int32} {M : am_M} : am_call d 50 [.ref v0, .int v1] M = am_run d 50 bq_50_0 [some (.ref v0), some (.int v1)] [] M := by unfold am_call; rw [bk_50_0]; rfl
theorem mx_50 : am_mx 50 = 2 := rfl
theorem tt_51 : am_tab 51 = tb_51 := rfl
theorem bk_51_0 : am_B 51 0 = bq_51_0 := by unfold am_B; rw [tt_51]; rfl
theorem bk_51_16 : am_B 51 16 = bq_51_16 := by unfold am_B; rw [tt_51]; rfl
theorem en_51 {d : Nat} {v0 : Nat} {v1 : Int32} {M : am_M} : am_call d 51 [.ref v0, .int v1] M = am_run d 51 bq_51_0 [some (.ref v0), some (.int v1)] [] M := by unfold am_call; rw [bk_51_0]; rfl
theorem mx_51 : am_mx 51 = 2 := rfl
theorem tt_52 : am_tab 52 = tb_52 := rfl
theorem bk_52_0 : am_B 52 0 = bq_52_0 := by unfold am_B; rw [tt_52]; rfl
theorem bk_52_10 : am_B 52 10 = bq_52_10 := by unfold am_B; rw [tt_52]; rfl
theorem en_52 {d : Nat} {v0 : Nat} {v1 : Int32} {M : am_M} : am_call d 52 [.ref v0, .int v1] M = am_run d 52 bq_52_0 [some (.ref v0), some (.int v1)] [] M := by unfold am_call; rw [bk_52_0]; rfl
theorem mx_52 : am_mx 52 = 2 := rfl
theorem tt_53 : am_tab 53 = tb_53 := rfl
theorem bk_53_0 : am_B 53 0 = bq_53_0 := by unfold am_B; rw [tt_53]; rfl
theorem en_53 {d : Nat} {v0 : Nat} {M : am_M} : am_call d 53 [.ref v0] M = am_run d 53 bq_53_0 [some (.ref v0)] [] M := by unfold am_call; rw [bk_53_0]; rfl
theorem mx_53 : am_mx 53 = 1 := rfl
theorem tt_54 : am_tab 54 = tb_54 := rfl
theorem bk_54_0 : am_B 54 0 = bq_54_0 := by unfold am_B; rw [tt_54]; rfl
theorem en_54 {d : Nat} {v0 : Nat} {M : am_M} : am_call d 54 [.ref v0] M = am_run d 54 bq_54_0 [some (.ref v0)] [] M := by unfold am_call; rw [bk_54_0]; rfl
theorem mx_54 : am_mx 54 = 1 := rfl
theorem tt_55 : am_tab 55 = tb_55 := rfl
theorem bk_55_0 : am_B 55 0 = bq_55_0 := by unfold am_B; rw [tt_55]; rfl
theorem bk_55_21 : am_B 55 21 = bq_55_21 := by unfold am_B; rw [tt_55]; rfl
theorem bk_55_23 : am_B 55 23 = bq_55_23 := by unfold am_B; rw [tt_55]; rfl
theorem bk_55_39 : am_B 55 39 = bq_55_39 := by unfold am_B; rw [tt_55]; rfl
theorem bk_55_67 : am_B 55 67 = bq_55_67 := by unfold am_B; rw [tt_55]; rfl
theorem bk_55_73 : am_B 55 73 = bq_55_73 := by unfold am_B; rw [tt_55]; rfl
theorem en_55 {d : Nat} {v0 : Nat} {v1 : Int32} {v2 : Int32} {M : am_M} : am_call d 55 [.ref v0, .int v1, .int v2] M = am_run d 55 bq_55_0 [some (.ref v0), some (.int v1), some (.int v2), none, none] [] M := by unfold am_call; rw [bk_55_0]; rfl
theorem mx_55 : am_mx 55 = 5 := rfl
theorem tt_56 : am_tab 56 = tb_56 := rfl
theorem bk_56_0 : am_B 56 0 = bq_56_0 := by unfold am_B; rw [tt_56]; rfl
theorem bk_56_15 : am_B 56 15 = bq_56_15 := by unfold am_B; rw [tt_56]; rfl
theorem bk_56_17 : am_B 56 17 = bq_56_17 := by unfold am_B; rw [tt_56]; rfl
theorem bk_56_19 : am_B 56 19 = bq_56_19 := by unfold am_B; rw [tt_56]; rfl
theorem bk_56_46 : am_B 56 46 = bq_56_46 := by unfold am_B; rw [tt_56]; rfl
theorem bk_56_52 : am_B 56 52 = bq_56_52 := by unfold am_B; rw [tt_56]; rfl
theorem en_56 {d : Nat} {v0 : Nat} {v1 : Int32} {v2 : Int32} {M : am_M} : am_call d 56 [.ref v0, .int v1, .int v2] M = am_run d 56 bq_56_0 [some (.ref v0), some (.int v1), some (.int v2), none] [] M := by unfold am_call; rw [bk_56_0]; rfl
theorem mx_56 : am_mx 56 = 4 := rfl
theorem tt_57 : am_tab 57 = tb_57 := rfl
theorem bk_57_0 : am_B 57 0 = bq_57_0 := by unfold am_B; rw [tt_57]; rfl
theorem bk_57_16 : am_B 57 16 = bq_57_16 := by unfold am_B; rw [tt_57]; rfl
theorem bk_57_20 : am_B 57 20 = bq_57_20 := by unfold am_B; rw [tt_57]; rfl
theorem bk_57_49 : am_B 57 49 = bq_57_49 := by unfold am_B; rw [tt_57]; rfl
theorem bk_57_55 : am_B 57 55 = bq_57_55 := by unfold am_B; rw [tt_57]; rfl
theorem en_57 {d : Nat} {v0 : Nat} {v1 : Int32} {M : am_M} : am_call d 57 [.ref v0, .int v1] M = am_run d 57 bq_57_0 [some (.ref v0), some (.int v1), none, none] [] M := by unfold am_call; rw [bk_57_0]; rfl
theorem mx_57 : am_mx 57 = 4 := rfl
theorem tt_58 : am_tab 58 = tb_58 := rfl
theorem bk_58_0 : am_B 58 0 = bq_58_0 := by unfold am_B; rw [tt_58]; rfl
theorem bk_58_10 : am_B 58 10 = bq_58_10 := by unfold am_B; rw [tt_58]; rfl
theorem bk_58_18 : am_B 58 18 = bq_58_18 := by unfold am_B; rw [tt_58]; rfl
theorem bk_58_43 : am_B 58 43 = bq_58_43 := by unfold am_B; rw [tt_58]; rfl
theorem bk_58_49 : am_B 58 49 = bq_58_49 := by unfold am_B; rw [tt_58]; rfl
theorem en_58 {d : Nat} {v0 : Nat} {v1 : Int32} {M : am_M} : am_call d 58 [.ref v0, .int v1] M = am_run d 58 bq_58_0 [some (.ref v0), some (.int v1), none, none] [] M := by unfold am_call; rw [bk_58_0]; rfl
theorem mx_58 : am_mx 58 = 4 := rfl
theorem tt_59 : am_tab 59 = tb_59 := rfl
theorem bk_59_0 : am_B 59 0 = bq_59_0 := by unfold am_B; rw [tt_59]; rfl
theorem bk_59_16 : am_B 59 16 = bq_59_16 := by unfold am_B; rw [tt_59]; rfl
theorem bk_59_23 : am_B 59 23 = bq_59_23 := by unfold am_B; rw [tt_59]; rfl
theorem bk_59_57 : am_B 59 57 = bq_59_57 := by unfold am_B; rw [tt_59]; rfl
theorem bk_59_63 : am_B 59 63 = bq_59_63 := by unfold am_B; rw [tt_59]; rfl
theorem en_59 {d : Nat} {v0 : Nat} {v1 : Int32} {M : am_M} : am_call d 59 [.ref v0, .int v1] M = am_run d 59 bq_59_0 [some (.ref v0), some (.int v1), none, none, none, none] [] M := by unfold am_call; rw [bk_59_0]; rfl
theorem mx_59 : am_mx 59 = 6 := rfl
theorem tt_60 : am_tab 60 = tb_60 := rfl
theorem bk_60_0 : am_B 60 0 = bq_60_0 := by unfold am_B; rw [tt_60]; rfl
theorem bk_60_10 : am_B 60 10 = bq_60_10 := by unfold am_B; rw [tt_60]; rfl
theorem bk_60_14 : am_B 60 14 = bq_60_14 := by unfold am_B; rw [tt_60]; rfl
theorem bk_60_35 : am_B 60 35 = bq_60_35 := by unfold am_B; rw [tt_60]; rfl
theorem bk_60_41 : am_B 60 41 = bq_60_41 := by unfold am_B; rw [tt_60]; rfl
theorem bk_60_46 : am_B 60 46 = bq_60_46 := by unfold am_B; rw [tt_60]; rfl
theorem bk_60_52 : am_B 60 52 = bq_60_52 := by unfold am_B; rw [tt_60]; rfl
theorem en_60 {d : Nat} {v0 : Nat} {v1 : Int32} {M : am_M} : am_call d 60 [.ref v0, .int v1] M = am_run d 60 bq_60_0 [some (.ref v0), some (.int v1), none, none] [] M := by unfold am_call; rw [bk_60_0]; rfl
theorem mx_60 : am_mx 60 = 4 := rfl
theorem tt_61 : am_tab 61 = tb_61 := rfl
theorem bk_61_0 : am_B 61 0 = bq_61_0 := by unfold am_B; rw [tt_61]; rfl
theorem bk_61_12 : am_B 61 12 = bq_61_12 := by unfold am_B; rw [tt_61]; rfl
theorem bk_61_16 : am_B 61 16 = bq_61_16 := by unfold am_B; rw [tt_61]; rfl
theorem bk_61_25 : am_B 61 25 = bq_61_25 := by unfold am_B; rw [tt_61]; rfl
theorem bk_61_62 : am_B 61 62 = bq_61_62 := by unfold am_B; rw [tt_61]; rfl
theorem bk_61_68 : am_B 61 68 = bq_61_68 := by unfold am_B; rw [tt_61]; rfl
theorem bk_61_74 : am_B 61 74 = bq_61_74 := by unfold am_B; rw [tt_61]; rfl
theorem en_61 {d : Nat} {v0 : Nat} {v1 : Int32} {M : am_M} : am_call d 61 [.ref v0, .int v1] M = am_run d 61 bq_61_0 [some (.ref v0), some (.int v1), none, none, none] [] M := by unfold am_call; rw [bk_61_0]; rfl
theorem mx_61 : am_mx 61 = 5 := rfl
theorem tt_62 : am_tab 62 = tb_62 := rfl
theorem bk_62_0 : am_B 62 0 = bq_62_0 := by unfold am_B; rw [tt_62]; rfl
theorem bk_62_12 : am_B 62 12 = bq_62_12 := by unfold am_B; rw [tt_62]; rfl
theorem bk_62_16 : am_B 62 16 = bq_62_16 := by unfold am_B; rw [tt_62]; rfl
theorem bk_62_25 : am_B 62 25 = bq_62_25 := by unfold am_B; rw [tt_62]; rfl
theorem bk_62_51 : am_B 62 51 = bq_62_51 := by unfold am_B; rw [tt_62]; rfl
theorem bk_62_52 : am_B 62 52 = bq_62_52 := by unfold am_B; rw [tt_62]; rfl
theorem bk_62_60 : am_B 62 60 = bq_62_60 := by unfold am_B; rw [tt_62]; rfl
theorem bk_62_66 : am_B 62 66 = bq_62_66 := by unfold am_B; rw [tt_62]; rfl
theorem en_62 {d : Nat} {v0 : Nat} {v1 : Int32} {M : am_M} : am_call d 62 [.ref v0, .int v1] M = am_run d 62 bq_62_0 [some (.ref v0), some (.int v1), none, none, none] [] M := by unfold am_call; rw [bk_62_0]; rfl
theorem mx_62 : am_mx 62 = 5 := rfl
theorem tt_63 : am_tab 63 = tb_63 := rfl
theorem bk_63_0 : am_B 63 0 = bq_63_0 := by unfold am_B; rw [tt_63]; rfl
theorem bk_63_11 : am_B 63 11 = bq_63_11 := by unfold am_B; rw [tt_63]; rfl
theorem bk_63_42 : am_B 63 42 = bq_63_42 := by unfold am_B; rw [tt_63]; rfl
theorem bk_63_64 : am_B 63 64 = bq_63_64 := by unfold am_B; rw [tt_63]; rfl
theorem bk_63_70 : am_B 63 70 = bq_63_70 := by unfold am_B; rw [tt_63]; rfl
theorem en_63 {d : Nat} {v0 : Nat} {v1 : Int32} {v2 : Int32} {M : am_M} : am_call d 63 [.ref v0, .int v1, .int v2] M = am_run d 63 bq_63_0 [some (.ref v0), some (.int v1), some (.int v2), none, none] [] M := by unfold am_call; rw [bk_63_0]; rfl
theorem mx_63 : am_mx 63 = 5 := rfl
theorem tt_64 : am_tab 64 = tb_64 := rfl
theorem bk_64_0 : am_B 64 0 = bq_64_0 := by unfold am_B; rw [tt_64]; rfl
theorem bk_64_11 : am_B 64 11 = bq_64_11 := by unfold am_B; rw [tt_64]; rfl
theorem bk_64_27 : am_B 64 27 = bq_64_27 := by unfold am_B; rw [tt_64]; rfl
theorem bk_64_51 : am_B 64 51 = bq_64_51 := by unfold am_B; rw [tt_64]; rfl
theorem bk_64_67 : am_B 64 67 = bq_64_67 := by unfold am_B; rw [tt_64]; rfl
theorem bk_64_68 : am_B 64 68 = bq_64_68 := by unfold am_B; rw [tt_64]; rfl
theorem en_64 {d : Nat} {v0 : Nat} {v1 : Int32} {v2 : Int32} {M : am_M} : am_call d 64 [.ref v0, .int v1, .int v2] M = am_run d 64 bq_64_0 [some (.ref v0), some (.int v1), some (.int v2), none] [] M := by unfold am_call; rw [bk_64_0]; rfl
theorem mx_64 : am_mx 64 = 4 := rfl
theorem tt_65 : am_tab 65 = tb_65 := rfl
theorem bk_65_0 : am_B 65 0 = bq_65_0 := by unfold am_B; rw [tt_65]; rfl
theorem bk_65_16 : am_B 65 16 = bq_65_16 := by unfold am_B; rw [tt_65]; rfl
theorem bk_65_35 : am_B 65 35 = bq_65_35 := by unfold am_B; rw [tt_65]; rfl
theorem bk_65_39 : am_B 65 39 = bq_65_39 := by unfold am_B; rw [tt_65]; rfl
theorem bk_65_40 : am_B 65 40 = bq_65_40 := by unfold am_B; rw [tt_65]; rfl
theorem bk_65_54 : am_B 65 54 = bq_65_54 := by unfold am_B; rw [tt_65]; rfl
theorem bk_65_57 : am_B 65 57 = bq_65_57 := by unfold am_B; rw [tt_65]; rfl
theorem en_65 {d : Nat} {v0 : Nat} {v1 : Int32} {v2 : Int32} {M : am_M} : am_call d 65 [.ref v0, .int v1, .int v2] M = am_run d 65 bq_65_0 [some (.ref v0), some (.int v1), some (.int v2), none] [] M := by unfold am_call; rw [bk_65_0]; rfl
theorem mx_65 : am_mx 65 = 4 := rfl
theorem tt_66 : am_tab 66 = tb_66 := rfl
theorem bk_66_0 : am_B 66 0 = bq_66_0 := by unfold am_B; rw [tt_66]; rfl
theorem bk_66_14 : am_B 66 14 = bq_66_14 := by unfold am_B; rw [tt_66]; rfl
theorem bk_66_50 : am_B 66 50 = bq_66_50 := by unfold am_B; rw [tt_66]; rfl
theorem bk_66_53 : am_B 66 53 = bq_66_53 := by unfold am_B; rw [tt_66]; rfl
theorem en_66 {d : Nat} {v0 : Nat} {v1 : Int32} {v2 : Int32} {M : am_M} : am_call d 66 [.ref v0, .int v1, .int v2] M = am_run d 66 bq_66_0 [some (.ref v0), some (.int v1), some (.int v2)] [] M := by unfold am_call; rw [bk_66_0]; rfl
theorem mx_66 : am_mx 66 = 3 := rfl
theorem tt_67 : am_tab 67 = tb_67 := rfl
theorem bk_67_0 : am_B 67 0 = bq_67_0 := by unfold am_B; rw [tt_67]; rfl
theorem bk_67_4 : am_B 67 4 = bq_67_4 := by unfold am_B; rw [tt_67]; rfl
theorem bk_67_24 : am_B 67 24 = bq_67_24 := by unfold am_B; rw [tt_67]; rfl
theorem bk_67_30 : am_B 67 30 = bq_67_30 := by unfold am_B; rw [tt_67]; rfl
theorem en_67 {d : Nat} {v0 : Nat} {M : am_M} : am_call d 67 [.ref v0] M = am_run d 67 bq_67_0 [some (.ref v0), none, none] [] M := by unfold am_call; rw [bk_67_0]; rfl
theorem mx_67 : am_mx 67 = 3 := rfl
theorem tt_68 : am_tab 68 = tb_68 := rfl
theorem bk_68_0 : am_B 68 0 = bq_68_0 := by unfold am_B; rw [tt_68]; rfl
theorem en_68 {d : Nat} {v0 : Nat} {M : am_M} : am_call d 68 [.ref v0] M = am_run d 68 bq_68_0 [some (.ref v0)] [] M := by unfold am_call; rw [bk_68_0]; rfl
theorem mx_68 : am_mx 68 = 1 := rfl
theorem tt_69 : am_tab 69 = tb_69 := rfl
theorem bk_69_0 : am_B 69 0 = bq_69_0 := by unfold am_B; rw [tt_69]; rfl
theorem bk_69_15 : am_B 69 15 = bq_69_15 := by unfold am_B; rw [tt_69]; rfl
theorem bk_69_23 : am_B 69 23 = bq_69_23 := by unfold am_B; rw [tt_69]; rfl
theorem bk_69_50 : am_B 69 50 = bq_69_50 := by unfold am_B; rw [tt_69]; rfl
theorem bk_69_56 : am_B 69 56 = bq_69_56 := by unfold am_B; rw [tt_69]; rfl
theorem en_69 {d : Nat} {v0 : Nat} {M : am_M} : am_call d 69 [.ref v0] M = am_run d 69 bq_69_0 [some (.ref v0), none, none, none, none, none] [] M := by unfold am_call; rw [bk_69_0]; rfl
theorem mx_69 : am_mx 69 = 6 := rfl
theorem tt_70 : am_tab 70 = tb_70 := rfl
theorem bk_70_0 : am_B 70 0 = bq_70_0 := by unfold am_B; rw [tt_70]; rfl
theorem bk_70_13 : am_B 70 13 = bq_70_13 := by unfold am_B; rw [tt_70]; rfl
theorem bk_70_17 : am_B 70 17 = bq_70_17 := by unfold am_B; rw [tt_70]; rfl
theorem bk_70_37 : am_B 70 37 = bq_70_37 := by unfold am_B; rw [tt_70]; rfl
theorem bk_70_43 : am_B 70 43 = bq_70_43 := by unfold am_B; rw [tt_70]; rfl
theorem en_70 {d : Nat} {v0 : Nat} {M : am_M} : am_call d 70 [.ref v0] M = am_run d 70 bq_70_0 [some (.ref v0), none, none] [] M := by unfold am_call; rw [bk_70_0]; rfl
theorem mx_70 : am_mx 70 = 3 := rfl
theorem tt_71 : am_tab 71 = tb_71 := rfl
theorem bk_71_0 : am_B 71 0 = bq_71_0 := by unfold am_B; rw [tt_71]; rfl
theorem bk_71_30 : am_B 71 30 = bq_71_30 := by unfold am_B; rw [tt_71]; rfl
theorem bk_71_31 : am_B 71 31 = bq_71_31 := by unfold am_B; rw [tt_71]; rfl
theorem en_71 {d : Nat} {v0 : Nat} {v1 : Int32} {M : am_M} : am_call d 71 [.ref v0, .int v1] M = am_run d 71 bq_71_0 [some (.ref v0), some (.int v1)] [] M := by unfold am_call; rw [bk_71_0]; rfl
theorem mx_71 : am_mx 71 = 2 := rfl
theorem tt_72 : am_tab 72 = tb_72 := rfl
theorem bk_72_0 : am_B 72 0 = bq_72_0 := by unfold am_B; rw [tt_72]; rfl
theorem bk_72_16 : am_B 72 16 = bq_72_16 := by unfold am_B; rw [tt_72]; rfl
theorem bk_72_17 : am_B 72 17 = bq_72_17 := by unfold am_B; rw [tt_72]; rfl
theorem en_72 {d : Nat} {v0 : Nat} {v1 : Int32} {M : am_M} : am_call d 72 [.ref v0, .int v1] M = am_run d 72 bq_72_0 [some (.ref v0), some (.int v1)] [] M := by unfold am_call; rw [bk_72_0]; rfl
theorem mx_72 : am_mx 72 = 2 := rfl
theorem tt_73 : am_tab 73 = tb_73 := rfl
theorem bk_73_0 : am_B 73 0 = bq_73_0 := by unfold am_B; rw [tt_73]; rfl
theorem bk_73_28 : am_B 73 28 = bq_73_28 := by unfold am_B; rw [tt_73]; rfl
theorem bk_73_30 : am_B 73 30 = bq_73_30 := by unfold am_B; rw [tt_73]; rfl
theorem en_73 {d : Nat} {v0 : Nat} {v1 : Int32} {v2 : Int32} {M : am_M} : am_call d 73 [.ref v0, .int v1, .int v2] M = am_run d 73 bq_73_0 [some (.ref v0), some (.int v1), some (.int v2)] [] M := by unfold am_call; rw [bk_73_0]; rfl
theorem mx_73 : am_mx 73 = 3 := rfl
theorem tt_74 : am_tab 74 = tb_74 := rfl
theorem bk_74_0 : am_B 74 0 = bq_74_0 := by unfold am_B; rw [tt_74]; rfl
theorem bk_74_30 : am_B 74 30 = bq_74_30 := by unfold am_B; rw [tt_74]; rfl
theorem bk_74_31 : am_B 74 31 = bq_74_31 := by unfold am_B; rw [tt_74]; rfl
theorem en_74 {d : Nat} {v0 : Nat} {v1 : Int32} {v2 : Int32} {M : am_M} : am_call d 74 [.ref v0, .int v1, .int v2] M = am_run d 74 bq_74_0 [some (.ref v0), some (.int v1), some (.int v2)] [] M := by unfold am_call; rw [bk_74_0]; rfl
theorem mx_74 : am_mx 74 = 3 := rfl
theorem tt_75 : am_tab 75 = tb_75 := rfl
theorem bk_75_0 : am_B 75 0 = bq_75_0 := by unfold am_B; rw [tt_75]; rfl
theorem bk_75_28 : am_B 75 28 = bq_75_28 := by unfold am_B; rw [tt_75]; rfl
theorem bk_75_30 : am_B 75 30 = bq_75_30 := by unfold am_B; rw [tt_75]; rfl
theorem bk_75_37 : am_B 75 37 = bq_75_37 := by unfold am_B; rw [tt_75]; rfl
theorem bk_75_56 : am_B 75 56 = bq_75_56 := by unfold am_B; rw [tt_75]; rfl
theorem bk_75_74 : am_B 75 74 = bq_75_74 := by unfold am_B; rw [tt_75]; rfl
theorem en_75 {d : Nat} {v0 : Nat} {v1 : Int32} {v2 : Int32} {M : am_M} : am_call d 75 [.ref v0, .int v1, .int v2] M = am_run d 75 bq_75_0 [some (.ref v0), some (.int v1), some (.int v2), none, none] [] M := by unfold am_call; rw [bk_75_0]; rfl
theorem mx_75 : am_mx 75 = 5 := rfl
theorem tt_76 : am_tab 76 = tb_76 := rfl
theorem bk_76_0 : am_B 76 0 = bq_76_0 := by unfold am_B; rw [tt_76]; rfl
theorem bk_76_16 : am_B 76 16 = bq_76_16 := by unfold am_B; rw [tt_76]; rfl
theorem bk_76_18 : am_B 76 18 = bq_76_18 := by unfold am_B; rw [tt_76]; rfl
theorem bk_76_25 : am_B 76 25 = bq_76_25 := by unfold am_B; rw [tt_76]; rfl
theorem bk_76_43 : am_B 76 43 = bq_76_43 := by unfold am_B; rw [tt_76]; rfl
theorem bk_76_49 : am_B 76 49 = bq_76_49 := by unfold am_B; rw [tt_76]; rfl
theorem bk_76_63 : am_B 76 63 = bq_76_63 := by unfold am_B; rw [tt_76]; rfl
theorem bk_76_108 : am_B 76 108 = bq_76_108 := by unfold am_B; rw [tt_76]; rfl
theorem bk_76_114 : am_B 76 114 = bq_76_114 := by unfold am_B; rw [tt_76]; rfl
theorem bk_76_120 : am_B 76 120 = bq_76_120 := by unfold am_B; rw [tt_76]; rfl
theorem bk_76_129 : am_B 76 129 = bq_76_129 := by unfold am_B; rw [tt_76]; rfl
theorem en_76 {d : Nat} {v0 : Nat} {v1 : Int32} {v2 : Int32} {M : am_M} : am_call d 76 [.ref v0, .int v1, .int v2] M = am_run d 76 bq_76_0 [some (.ref v0), some (.int v1), some (.int v2), none, none, none, none, none] [] M := by unfold am_call; rw [bk_76_0]; rfl
theorem mx_76 : am_mx 76 = 8 := rfl
theorem tt_77 : am_tab 77 = tb_77 := rfl
theorem bk_77_0 : am_B 77 0 = bq_77_0 := by unfold am_B; rw [tt_77]; rfl
theorem bk_77_16 : am_B 77 16 = bq_77_16 := by unfold am_B; rw [tt_77]; rfl
theorem bk_77_41 : am_B 77 41 = bq_77_41 := by unfold am_B; rw [tt_77]; rfl
theorem bk_77_57 : am_B 77 57 = bq_77_57 := by unfold am_B; rw [tt_77]; rfl
theorem bk_77_58 : am_B 77 58 = bq_77_58 := by unfold am_B; rw [tt_77]; rfl
theorem en_77 {d : Nat} {v0 : Nat} {v1 : Int32} {v2 : Int32} {M : am_M} : am_call d 77 [.ref v0, .int v1, .int v2] M = am_run d 77 bq_77_0 [some (.ref v0), some (.int v1), some (.int v2)] [] M := by unfold am_call; rw [bk_77_0]; rfl
theorem mx_77 : am_mx 77 = 3 := rfl
theorem tt_78 : am_tab 78 = tb_78 := rfl
theorem bk_78_0 : am_B 78 0 = bq_78_0 := by unfold am_B; rw [tt_78]; rfl
theorem bk_78_14 : am_B 78 14 = bq_78_14 := by unfold am_B; rw [tt_78]; rfl
theorem bk_78_43 : am_B 78 43 = bq_78_43 := by unfold am_B; rw [tt_78]; rfl
theorem bk_78_46 : am_B 78 46 = bq_78_46 := by unfold am_B; rw [tt_78]; rfl
theorem bk_78_88 : am_B 78 88 = bq_78_88 := by unfold am_B; rw [tt_78]; rfl
theorem bk_78_89 : am_B 78 89 = bq_78_89 := by unfold am_B; rw [tt_78]; rfl
theorem en_78 {d : Nat} {v0 : Nat} {v1 : Int32} {v2 : Int32} {M : am_M} : am_call d 78 [.ref v0, .int v1, .int v2] M = am_run d 78 bq_78_0 [some (.ref v0), some (.int v1), some (.int v2)] [] M := by unfold am_call; rw [bk_78_0]; rfl
theorem mx_78 : am_mx 78 = 3 := rfl
theorem tt_79 : am_tab 79 = tb_79 := rfl
theorem bk_79_0 : am_B 79 0 = bq_79_0 := by unfold am_B; rw [tt_79]; rfl
theorem bk_79_12 : am_B 79 12 = bq_79_12 := by unfold am_B; rw [tt_79]; rfl
theorem bk_79_16 : am_B 79 16 = bq_79_16 := by unfold am_B; rw [tt_79]; rfl
theorem bk_79_45 : am_B 79 45 = bq_79_45 := by unfold am_B; rw [tt_79]; rfl
theorem bk_79_51 : am_B 79 51 = bq_79_51 := by unfold am_B; rw [tt_79]; rfl
theorem en_79 {d : Nat} {v0 : Nat} {v1 : Int32} {M : am_M} : am_call d 79 [.ref v0, .int v1] M = am_run d 79 bq_79_0 [some (.ref v0), some (.int v1), none, none] [] M := by unfold am_call; rw [bk_79_0]; rfl
theorem mx_79 : am_mx 79 = 4 := rfl
theorem tt_80 : am_tab 80 = tb_80 := rfl
theorem bk_80_0 : am_B 80 0 = bq_80_0 := by unfold am_B; rw [tt_80]; rfl
theorem bk_80_12 : am_B 80 12 = bq_80_12 := by unfold am_B; rw [tt_80]; rfl
theorem bk_80_16 : am_B 80 16 = bq_80_16 := by unfold am_B; rw [tt_80]; rfl
theorem bk_80_42 : am_B 80 42 = bq_80_42 := by unfold am_B; rw [tt_80]; rfl
theorem bk_80_43 : am_B 80 43 = bq_80_43 := by unfold am_B; rw [tt_80]; rfl
theorem bk_80_51 : am_B 80 51 = bq_80_51 := by unfold am_B; rw [tt_80]; rfl
theorem en_80 {d : Nat} {v0 : Nat} {v1 : Int32} {M : am_M} : am_call d 80 [.ref v0, .int v1] M = am_run d 80 bq_80_0 [some (.ref v0), some (.int v1), none, none] [] M := by unfold am_call; rw [bk_80_0]; rfl
theorem mx_80 : am_mx 80 = 4 := rfl
theorem tt_81 : am_tab 81 = tb_81 := rfl
theorem bk_81_0 : am_B 81 0 = bq_81_0 := by unfold am_B; rw [tt_81]; rfl
theorem bk_81_7 : am_B 81 7 = bq_81_7 := by unfold am_B; rw [tt_81]; rfl
theorem bk_81_39 : am_B 81 39 = bq_81_39 := by unfold am_B; rw [tt_81]; rfl
theorem bk_81_45 : am_B 81 45 = bq_81_45 := by unfold am_B; rw [tt_81]; rfl
theorem en_81 {d : Nat} {v0 : Nat} {M : am_M} : am_call d 81 [.ref v0] M = am_run d 81 bq_81_0 [some (.ref v0), none, none, none, none] [] M := by unfold am_call; rw [bk_81_0]; rfl
theorem mx_81 : am_mx 81 = 5 := rfl
theorem tt_82 : am_tab 82 = tb_82 := rfl
theorem bk_82_0 : am_B 82 0 = bq_82_0 := by unfold am_B; rw [tt_82]; rfl
theorem bk_82_4 : am_B 82 4 = bq_82_4 := by unfold am_B; rw [tt_82]; rfl
theorem bk_82_32 : am_B 82 32 = bq_82_32 := by unfold am_B; rw [tt_82]; rfl
theorem bk_82_34 : am_B 82 34 = bq_82_34 := by unfold am_B; rw [tt_82]; rfl
theorem bk_82_40 : am_B 82 40 = bq_82_40 := by unfold am_B; rw [tt_82]; rfl
theorem en_82 {d : Nat} {v0 : Nat} {M : am_M} : am_call d 82 [.ref v0] M = am_run d 82 bq_82_0 [some (.ref v0), none, none] [] M := by unfold am_call; rw [bk_82_0]; rfl
theorem mx_82 : am_mx 82 = 3 := rfl
theorem tt_83 : am_tab 83 = tb_83 := rfl
theorem bk_83_0 : am_B 83 0 = bq_83_0 := by unfold am_B; rw [tt_83]; rfl
theorem bk_83_14 : am_B 83 14 = bq_83_14 := by unfold am_B; rw [tt_83]; rfl
theorem bk_83_16 : am_B 83 16 = bq_83_16 := by unfold am_B; rw [tt_83]; rfl
theorem en_83 {d : Nat} {v0 : Nat} {v1 : Int32} {v2 : Int32} {M : am_M} : am_call d 83 [.ref v0, .int v1, .int v2] M = am_run d 83 bq_83_0 [some (.ref v0), some (.int v1), some (.int v2)] [] M := by unfold am_call; rw [bk_83_0]; rfl
theorem mx_83 : am_mx 83 = 3 := rfl
theorem tt_84 : am_tab 84 = tb_84 := rfl
theorem bk_84_0 : am_B 84 0 = bq_84_0 := by unfold am_B; rw [tt_84]; rfl
theorem bk_84_14 : am_B 84 14 = bq_84_14 := by unfold am_B; rw [tt_84]; rfl
theorem bk_84_16 : am_B 84 16 = bq_84_16 := by unfold am_B; rw [tt_84]; rfl
theorem en_84 {d : Nat} {v0 : Nat} {v1 : Int32} {v2 : Int32} {M : am_M} : am_call d 84 [.ref v0, .int v1, .int v2] M = am_run d 84 bq_84_0 [some (.ref v0), some (.int v1), some (.int v2)] [] M := by unfold am_call; rw [bk_84_0]; rfl
theorem mx_84 : am_mx 84 = 3 := rfl
theorem tt_85 : am_tab 85 = tb_85 := rfl
theorem bk_85_0 : am_B 85 0 = bq_85_0 := by unfold am_B; rw [tt_85]; rfl
theorem bk_85_18 : am_B 85 18 = bq_85_18 := by unfold am_B; rw [tt_85]; rfl
theorem bk_85_20 : am_B 85 20 = bq_85_20 := by unfold am_B; rw [tt_85]; rfl
theorem bk_85_30 : am_B 85 30 = bq_85_30 := by unfold am_B; rw [tt_85]; rfl
theorem bk_85_41 : am_B 85 41 = bq_85_41 := by unfold am_B; rw [tt_85]; rfl
theorem bk_85_48 : am_B 85 48 = bq_85_48 := by unfold am_B; rw [tt_85]; rfl
theorem bk_85_72 : am_B 85 72 = bq_85_72 := by unfold am_B; rw [tt_85]; rfl
theorem en_85 {d : Nat} {v0 : Nat} {v1 : Int32} {v2 : Int32} {M : am_M} : am_call d 85 [.ref v0, .int v1, .int v2] M = am_run d 85 bq_85_0 [some (.ref v0), some (.int v1), some (.int v2), none, none, none] [] M := by unfold am_call; rw [bk_85_0]; rfl
theorem mx_85 : am_mx 85 = 6 := rfl
theorem tt_86 : am_tab 86 = tb_86 := rfl
theorem bk_86_0 : am_B 86 0 = bq_86_0 := by unfold am_B; rw [tt_86]; rfl
theorem bk_86_27 : am_B 86 27 = bq_86_27 := by unfold am_B; rw [tt_86]; rfl
theorem bk_86_28 : am_B 86 28 = bq_86_28 := by unfold am_B; rw [tt_86]; rfl
theorem en_86 {d : Nat} {v0 : Nat} {v1 : Int32} {v2 : Int32} {M : am_M} : am_call d 86 [.ref v0, .int v1, .int v2] M = am_run d 86 bq_86_0 [some (.ref v0), some (.int v1), some (.int v2)] [] M := by unfold am_call; rw [bk_86_0]; rfl
theorem mx_86 : am_mx 86 = 3 := rfl
theorem tt_87 : am_tab 87 = tb_87 := rfl
theorem bk_87_0 : am_B 87 0 = bq_87_0 := by unfold am_B; rw [tt_87]; rfl
theorem bk_87_14 : am_B 87 14 = bq_87_14 := by unfold am_B; rw [tt_87]; rfl
theorem bk_87_16 : am_B 87 16 = bq_87_16 := by unfold am_B; rw [tt_87]; rfl
theorem bk_87_24 : am_B 87 24 = bq_87_24 := by unfold am_B; rw [tt_87]; rfl
theorem bk_87_40 : am_B 87 40 = bq_87_40 := by unfold am_B; rw [tt_87]; rfl
theorem bk_87_68 : am_B 87 68 = bq_87_68 := by unfold am_B; rw [tt_87]; rfl
theorem en_87 {d : Nat} {v0 : Nat} {v1 : Int32} {v2 : Int32} {M : am_M} : am_call d 87 [.ref v0, .int v1, .int v2] M = am_run d 87 bq_87_0 [some (.ref v0), some (.int v1), some (.int v2), none, none, none] [] M := by unfold am_call; rw [bk_87_0]; rfl
theorem mx_87 : am_mx 87 = 6 := rfl
theorem tt_88 : am_tab 88 = tb_88 := rfl
theorem bk_88_0 : am_B 88 0 = bq_88_0 := by unfold am_B; rw [tt_88]; rfl
theorem bk_88_14 : am_B 88 14 = bq_88_14 := by unfold am_B; rw [tt_88]; rfl
theorem bk_88_16 : am_B 88 16 = bq_88_16 := by unfold am_B; rw [tt_88]; rfl
theorem bk_88_18 : am_B 88 18 = bq_88_18 := by unfold am_B; rw [tt_88]; rfl
theorem bk_88_41 : am_B 88 41 = bq_88_41 := by unfold am_B; rw [tt_88]; rfl
theorem bk_88_47 : am_B 88 47 = bq_88_47 := by unfold am_B; rw [tt_88]; rfl
theorem en_88 {d : Nat} {v0 : Nat} {v1 : Int32} {v2 : Int32} {M : am_M} : am_call d 88 [.ref v0, .int v1, .int v2] M = am_run d 88 bq_88_0 [some (.ref v0), some (.int v1), some (.int v2), none] [] M := by unfold am_call; rw [bk_88_0]; rfl
theorem mx_88 : am_mx 88 = 4 := rfl
theorem tt_89 : am_tab 89 = tb_89 := rfl
theorem bk_89_0 : am_B 89 0 = bq_89_0 := by unfold am_B; rw [tt_89]; rfl
theorem bk_89_9 : am_B 89 9 = bq_89_9 := by unfold am_B; rw [tt_89]; rfl
theorem bk_89_13 : am_B 89 13 = bq_89_13 := by unfold am_B; rw [tt_89]; rfl
theorem bk_89_34 : am_B 89 34 = bq_89_34 := by unfold am_B; rw [tt_89]; rfl
theorem bk_89_40 : am_B 89 40 = bq_89_40 := by unfold am_B; rw [tt_89]; rfl
theorem en_89 {d : Nat} {v0 : Nat} {v1 : Int32} {M : am_M} : am_call d 89 [.ref v0, .int v1] M = am_run d 89 bq_89_0 [some (.ref v0), some (.int v1), none, none] [] M := by unfold am_call; rw [bk_89_0]; rfl
theorem mx_89 : am_mx 89 = 4 := rfl
theorem tt_90 : am_tab 90 = tb_90 := rfl
theorem bk_90_0 : am_B 90 0 = bq_90_0 := by unfold am_B; rw [tt_90]; rfl
theorem bk_90_9 : am_B 90 9 = bq_90_9 := by unfold am_B; rw [tt_90]; rfl
theorem bk_90_13 : am_B 90 13 = bq_90_13 := by unfold am_B; rw [tt_90]; rfl
theorem bk_90_22 : am_B 90 22 = bq_90_22 := by unfold am_B; rw [tt_90]; rfl
theorem bk_90_46 : am_B 90 46 = bq_90_46 := by unfold am_B; rw [tt_90]; rfl
theorem bk_90_52 : am_B 90 52 = bq_90_52 := by unfold am_B; rw [tt_90]; rfl
theorem bk_90_58 : am_B 90 58 = bq_90_58 := by unfold am_B; rw [tt_90]; rfl
theorem en_90 {d : Nat} {v0 : Nat} {v1 : Int32} {M : am_M} : am_call d 90 [.ref v0, .int v1] M = am_run d 90 bq_90_0 [some (.ref v0), some (.int v1), none, none, none] [] M := by unfold am_call; rw [bk_90_0]; rfl
theorem mx_90 : am_mx 90 = 5 := rfl
theorem tt_91 : am_tab 91 = tb_91 := rfl
theorem bk_91_0 : am_B 91 0 = bq_91_0 := by unfold am_B; rw [tt_91]; rfl
theorem bk_91_27 : am_B 91 27 = bq_91_27 := by unfold am_B; rw [tt_91]; rfl
theorem bk_91_29 : am_B 91 29 = bq_91_29 := by unfold am_B; rw [tt_91]; rfl
theorem en_91 {d : Nat} {v0 : Nat} {v1 : Int32} {v2 : Int32} {v3 : Int32} {M : am_M} : am_call d 91 [.ref v0, .int v1, .int v2, .int v3] M = am_run d 91 bq_91_0 [some (.ref v0), some (.int v1), some (.int v2), some (.int v3)] [] M := by unfold am_call; rw [bk_91_0]; rfl
theorem mx_91 : am_mx 91 = 4 := rfl
theorem tt_92 : am_tab 92 = tb_92 := rfl
theorem bk_92_0 : am_B 92 0 = bq_92_0 := by unfold am_B; rw [tt_92]; rfl
theorem bk_92_27 : am_B 92 27 = bq_92_27 := by unfold am_B; rw [tt_92]; rfl
theorem bk_92_29 : am_B 92 29 = bq_92_29 := by unfold am_B; rw [tt_92]; rfl
theorem en_92 {d : Nat} {v0 : Nat} {v1 : Int32} {v2 : Int32} {v3 : Int32} {M : am_M} : am_call d 92 [.ref v0, .int v1, .int v2, .int v3] M = am_run d 92 bq_92_0 [some (.ref v0), some (.int v1), some (.int v2), some (.int v3)] [] M := by unfold am_call; rw [bk_92_0]; rfl
theorem mx_92 : am_mx 92 = 4 := rfl
theorem tt_93 : am_tab 93 = tb_93 := rfl
theorem bk_93_0 : am_B 93 0 = bq_93_0 := by unfold am_B; rw [tt_93]; rfl
theorem bk_93_15 : am_B 93 15 = bq_93_15 := by unfold am_B; rw [tt_93]; rfl
theorem en_93 {d : Nat} {v0 : Nat} {v1 : Int32} {M : am_M} : am_call d 93 [.ref v0, .int v1] M = am_run d 93 bq_93_0 [some (.ref v0), some (.int v1)] [] M := by unfold am_call; rw [bk_93_0]; rfl
theorem mx_93 : am_mx 93 = 2 := rfl
theorem tt_94 : am_tab 94 = tb_94 := rfl
theorem bk_94_0 : am_B 94 0 = bq_94_0 := by unfold am_B; rw [tt_94]; rfl
theorem bk_94_15 : am_B 94 15 = bq_94_15 := by unfold am_B; rw [tt_94]; rfl
theorem en_94 {d : Nat} {v0 : Nat} {v1 : Int32} {M : am_M} : am_call d 94 [.ref v0, .int v1] M = am_run d 94 bq_94_0 [some (.ref v0), some (.int v1)] [] M := by unfold am_call; rw [bk_94_0]; rfl
theorem mx_94 : am_mx 94 = 2 := rfl
theorem tt_95 : am_tab 95 = tb_95 := rfl
theorem bk_95_0 : am_B 95 0 = bq_95_0 := by unfold am_B; rw [tt_95]; rfl
theorem bk_95_13 : am_B 95 13 = bq_95_13 := by unfold am_B; rw [tt_95]; rfl
theorem en_95 {d : Nat} {v0 : Nat} {v1 : Int32} {M : am_M} : am_call d 95 [.ref v0, .int v1] M = am_run d 95 bq_95_0 [some (.ref v0), some (.int v1)] [] M := by unfold am_call; rw [bk_95_0]; rfl
theorem mx_95 : am_mx 95 = 2 := rfl
theorem tt_96 : am_tab 96 = tb_96 := rfl
theorem bk_96_0 : am_B 96 0 = bq_96_0 := by unfold am_B; rw [tt_96]; rfl
theorem bk_96_13 : am_B 96 13 = bq_96_13 := by unfold am_B; rw [tt_96]; rfl
theorem bk_96_20 : am_B 96 20 = bq_96_20 := by unfold am_B; rw [tt_96]; rfl
theorem bk_96_44 : am_B 96 44 = bq_96_44 := by unfold am_B; rw [tt_96]; rfl
theorem bk_96_50 : am_B 96 50 = bq_96_50 := by unfold am_B; rw [tt_96]; rfl
theorem en_96 {d : Nat} {v0 : Nat} {v1 : Int32} {M : am_M} : am_call d 96 [.ref v0, .int v1] M = am_run d 96 bq_96_0 [some (.ref v0), some (.int v1), none] [] M := by unfold am_call; rw [bk_96_0]; rfl
theorem mx_96 : am_mx 96 = 3 := rfl
theorem tt_97 : am_tab 97 = tb_97 := rfl
theorem bk_97_0 : am_B 97 0 = bq_97_0 := by unfold am_B; rw [tt_97]; rfl
theorem bk_97_16 : am_B 97 16 = bq_97_16 := by unfold am_B; rw [tt_97]; rfl
theorem bk_97_50 : am_B 97 50 = bq_97_50 := by unfold am_B; rw [tt_97]; rfl
theorem bk_97_53 : am_B 97 53 = bq_97_53 := by unfold am_B; rw [tt_97]; rfl
theorem en_97 {d : Nat} {v0 : Nat} {v1 : Int32} {v2 : Int32} {v3 : Int32} {M : am_M} : am_call d 97 [.ref v0, .int v1, .int v2, .int v3] M = am_run d 97 bq_97_0 [some (.ref v0), some (.int v1), some (.int v2), some (.int v3)] [] M := by unfold am_call; rw [bk_97_0]; rfl
theorem mx_97 : am_mx 97 = 4 := rfl
theorem tt_98 : am_tab 98 = tb_98 := rfl
theorem bk_98_0 : am_B 98 0 = bq_98_0 := by unfold am_B; rw [tt_98]; rfl
theorem bk_98_15 : am_B 98 15 = bq_98_15 := by unfold am_B; rw [tt_98]; rfl
theorem bk_98_55 : am_B 98 55 = bq_98_55 := by unfold am_B; rw [tt_98]; rfl
theorem bk_98_58 : am_B 98 58 = bq_98_58 := by unfold am_B; rw [tt_98]; rfl
theorem en_98 {d : Nat} {v0 : Nat} {v1 : Int32} {v2 : Int32} {v3 : Int32} {M : am_M} : am_call d 98 [.ref v0, .int v1, .int v2, .int v3] M = am_run d 98 bq_98_0 [some (.ref v0), some (.int v1), some (.int v2), some (.int v3), none] [] M := by unfold am_call; rw [bk_98_0]; rfl
theorem mx_98 : am_mx 98 = 5 := rfl
theorem tt_99 : am_tab 99 = tb_99 := rfl
theorem bk_99_0 : am_B 99 0 = bq_99_0 := by unfold am_B; rw [tt_99]; rfl
theorem bk_99_4 : am_B 99 4 = bq_99_4 := by unfold am_B; rw [tt_99]; rfl
theorem bk_99_42 : am_B 99 42 = bq_99_42 := by unfold am_B; rw [tt_99]; rfl
theorem bk_99_48 : am_B 99 48 = bq_99_48 := by unfold am_B; rw [tt_99]; rfl
theorem en_99 {d : Nat} {v0 : Nat} {M : am_M} : am_call d 99 [.ref v0] M = am_run d 99 bq_99_0 [some (.ref v0), none, none] [] M := by unfold am_call; rw [bk_99_0]; rfl
theorem mx_99 : am_mx 99 = 3 := rfl
theorem tt_100 : am_tab 100 = tb_100 := rfl
theorem bk_100_0 : am_B 100 0 = bq_100_0 := by unfold am_B; rw [tt_100]; rfl
theorem bk_100_4 : am_B 100 4 = bq_100_4 := by unfold am_B; rw [tt_100]; rfl
theorem bk_100_21 : am_B 100 21 = bq_100_21 := by unfold am_B; rw [tt_100]; rfl
theorem bk_100_80 : am_B 100 80 = bq_100_80 := by unfold am_B; rw [tt_100]; rfl
theorem bk_100_81 : am_B 100 81 = bq_100_81 := by unfold am_B; rw [tt_100]; rfl
theorem bk_100_88 : am_B 100 88 = bq_100_88 := by unfold am_B; rw [tt_100]; rfl
theorem bk_100_99 : am_B 100 99 = bq_100_99 := by unfold am_B; rw [tt_100]; rfl
theorem bk_100_100 : am_B 100 100 = bq_100_100 := by unfold am_B; rw [tt_100]; rfl
theorem bk_100_108 : am_B 100 108 = bq_100_108 := by unfold am_B; rw [tt_100]; rfl
theorem en_100 {d : Nat} {v0 : Nat} {M : am_M} : am_call d 100 [.ref v0] M = am_run d 100 bq_100_0 [some (.ref v0), none, none, none, none] [] M := by unfold am_call; rw [bk_100_0]; rfl
theorem mx_100 : am_mx 100 = 5 := rfl
theorem tt_101 : am_tab 101 = tb_101 := rfl
theorem bk_101_0 : am_B 101 0 = bq_101_0 := by unfold am_B; rw [tt_101]; rfl
theorem bk_101_6 : am_B 101 6 = bq_101_6 := by unfold am_B; rw [tt_101]; rfl
theorem bk_101_36 : am_B 101 36 = bq_101_36 := by unfold am_B; rw [tt_101]; rfl
theorem bk_101_42 : am_B 101 42 = bq_101_42 := by unfold am_B; rw [tt_101]; rfl
theorem en_101 {d : Nat} {v0 : Nat} {M : am_M} : am_call d 101 [.ref v0] M = am_run d 101 bq_101_0 [some (.ref v0), none, none, none, none] [] M := by unfold am_call; rw [bk_101_0]; rfl
theorem mx_101 : am_mx 101 = 5 := rfl
theorem tt_102 : am_tab 102 = tb_102 := rfl
theorem bk_102_0 : am_B 102 0 = bq_102_0 := by unfold am_B; rw [tt_102]; rfl
theorem bk_102_4 : am_B 102 4 = bq_102_4 := by unfold am_B; rw [tt_102]; rfl
theorem bk_102_24 : am_B 102 24 = bq_102_24 := by unfold am_B; rw [tt_102]; rfl
theorem bk_102_29 : am_B 102 29 = bq_102_29 := by unfold am_B; rw [tt_102]; rfl
theorem bk_102_34 : am_B 102 34 = bq_102_34 := by unfold am_B; rw [tt_102]; rfl
theorem bk_102_40 : am_B 102 40 = bq_102_40 := by unfold am_B; rw [tt_102]; rfl
theorem en_102 {d : Nat} {v0 : Nat} {M : am_M} : am_call d 102 [.ref v0] M = am_run d 102 bq_102_0 [some (.ref v0), none, none] [] M := by unfold am_call; rw [bk_102_0]; rfl
theorem mx_102 : am_mx 102 = 3 := rfl
theorem tt_103 : am_tab 103 = tb_103 := rfl
theorem bk_103_0 : am_B 103 0 = bq_103_0 := by unfold am_B; rw [tt_103]; rfl
theorem bk_103_16 : am_B 103 16 = bq_103_16 := by unfold am_B; rw [tt_103]; rfl
theorem bk_103_23 : am_B 103 23 = bq_103_23 := by unfold am_B; rw [tt_103]; rfl
theorem bk_103_70 : am_B 103 70 = bq_103_70 := by unfold am_B; rw [tt_103]; rfl
theorem bk_103_76 : am_B 103 76 = bq_103_76 := by unfold am_B; rw [tt_103]; rfl
theorem en_103 {d : Nat} {v0 : Nat} {v1 : Int32} {M : am_M} : am_call d 103 [.ref v0, .int v1] M = am_run d 103 bq_103_0 [some (.ref v0), some (.int v1), none, none, none, none] [] M := by unfold am_call; rw [bk_103_0]; rfl
theorem mx_103 : am_mx 103 = 6 := rfl
theorem tt_104 : am_tab 104 = tb_104 := rfl
theorem bk_104_0 : am_B 104 0 = bq_104_0 := by unfold am_B; rw [tt_104]; rfl
theorem bk_104_10 : am_B 104 10 = bq_104_10 := by unfold am_B; rw [tt_104]; rfl
theorem bk_104_14 : am_B 104 14 = bq_104_14 := by unfold am_B; rw [tt_104]; rfl
theorem bk_104_39 : am_B 104 39 = bq_104_39 := by unfold am_B; rw [tt_104]; rfl
theorem bk_104_45 : am_B 104 45 = bq_104_45 := by unfold am_B; rw [tt_104]; rfl
theorem bk_104_50 : am_B 104 50 = bq_104_50 := by unfold am_B; rw [tt_104]; rfl
theorem bk_104_56 : am_B 104 56 = bq_104_56 := by unfold am_B; rw [tt_104]; rfl
theorem en_104 {d : Nat} {v0 : Nat} {v1 : Int32} {M : am_M} : am_call d 104 [.ref v0, .int v1] M = am_run d 104 bq_104_0 [some (.ref v0), some (.int v1), none, none] [] M := by unfold am_call; rw [bk_104_0]; rfl
theorem mx_104 : am_mx 104 = 4 := rfl
theorem tt_105 : am_tab 105 = tb_105 := rfl
theorem bk_105_0 : am_B 105 0 = bq_105_0 := by unfold am_B; rw [tt_105]; rfl
theorem bk_105_7 : am_B 105 7 = bq_105_7 := by unfold am_B; rw [tt_105]; rfl
theorem bk_105_28 : am_B 105 28 = bq_105_28 := by unfold am_B; rw [tt_105]; rfl
theorem bk_105_102 : am_B 105 102 = bq_105_102 := by unfold am_B; rw [tt_105]; rfl
theorem bk_105_104 : am_B 105 104 = bq_105_104 := by unfold am_B; rw [tt_105]; rfl
theorem bk_105_105 : am_B 105 105 = bq_105_105 := by unfold am_B; rw [tt_105]; rfl
theorem bk_105_111 : am_B 105 111 = bq_105_111 := by unfold am_B; rw [tt_105]; rfl
theorem bk_105_117 : am_B 105 117 = bq_105_117 := by unfold am_B; rw [tt_105]; rfl
theorem en_105 {d : Nat} {v0 : Nat} {v1 : Int32} {M : am_M} : am_call d 105 [.ref v0, .int v1] M = am_run d 105 bq_105_0 [some (.ref v0), some (.int v1), none, none, none, none, none] [] M := by unfold am_call; rw [bk_105_0]; rfl
theorem mx_105 : am_mx 105 = 7 := rfl
theorem tt_106 : am_tab 106 = tb_106 := rfl
theorem bk_106_0 : am_B 106 0 = bq_106_0 := by unfold am_B; rw [tt_106]; rfl
theorem bk_106_7 : am_B 106 7 = bq_106_7 := by unfold am_B; rw [tt_106]; rfl
theorem bk_106_24 : am_B 106 24 = bq_106_24 := by unfold am_B; rw [tt_106]; rfl
theorem bk_106_63 : am_B 106 63 = bq_106_63 := by unfold am_B; rw [tt_106]; rfl
theorem bk_106_75 : am_B 106 75 = bq_106_75 := by unfold am_B; rw [tt_106]; rfl
theorem bk_106_81 : am_B 106 81 = bq_106_81 := by unfold am_B; rw [tt_106]; rfl
theorem bk_106_87 : am_B 106 87 = bq_106_87 := by unfold am_B; rw [tt_106]; rfl
theorem bk_106_96 : am_B 106 96 = bq_106_96 := by unfold am_B; rw [tt_106]; rfl
theorem bk_106_107 : am_B 106 107 = bq_106_107 := by unfold am_B; rw [tt_106]; rfl
theorem bk_106_111 : am_B 106 111 = bq_106_111 := by unfold am_B; rw [tt_106]; rfl
theorem en_106 {d : Nat} {v0 : Nat} {v1 : Int32} {M : am_M} : am_call d 106 [.ref v0, .int v1] M = am_run d 106 bq_106_0 [some (.ref v0), some (.int v1), none, none, none, none, none] [] M := by unfold am_call; rw [bk_106_0]; rfl
theorem mx_106 : am_mx 106 = 7 := rfl
theorem tt_107 : am_tab 107 = tb_107 := rfl
theorem bk_107_0 : am_B 107 0 = bq_107_0 := by unfold am_B; rw [tt_107]; rfl
theorem bk_107_6 : am_B 107 6 = bq_107_6 := by unfold am_B; rw [tt_107]; rfl
theorem bk_107_44 : am_B 107 44 = bq_107_44 := by unfold am_B; rw [tt_107]; rfl
theorem bk_107_50 : am_B 107 50 = bq_107_50 := by unfold am_B; rw [tt_107]; rfl
theorem en_107 {d : Nat} {v0 : Nat} {M : am_M} : am_call d 107 [.ref v0] M = am_run d 107 bq_107_0 [some (.ref v0), none, none, none, none] [] M := by unfold am_call; rw [bk_107_0]; rfl
theorem mx_107 : am_mx 107 = 5 := rfl
theorem tt_108 : am_tab 108 = tb_108 := rfl
theorem bk_108_0 : am_B 108 0 = bq_108_0 := by unfold am_B; rw [tt_108]; rfl
theorem bk_108_4 : am_B 108 4 = bq_108_4 := by unfold am_B; rw [tt_108]; rfl
theorem bk_108_28 : am_B 108 28 = bq_108_28 := by unfold am_B; rw [tt_108]; rfl
theorem bk_108_33 : am_B 108 33 = bq_108_33 := by unfold am_B; rw [tt_108]; rfl
theorem bk_108_38 : am_B 108 38 = bq_108_38 := by unfold am_B; rw [tt_108]; rfl
theorem bk_108_44 : am_B 108 44 = bq_108_44 := by unfold am_B; rw [tt_108]; rfl
theorem en_108 {d : Nat} {v0 : Nat} {M : am_M} : am_call d 108 [.ref v0] M = am_run d 108 bq_108_0 [some (.ref v0), none, none] [] M := by unfold am_call; rw [bk_108_0]; rfl
theorem mx_108 : am_mx 108 = 3 := rfl
theorem tt_109 : am_tab 109 = tb_109 := rfl
theorem bk_109_0 : am_B 109 0 = bq_109_0 := by unfold am_B; rw [tt_109]; rfl
theorem bk_109_28 : am_B 109 28 = bq_109_28 := by unfold am_B; rw [tt_109]; rfl
theorem bk_109_30 : am_B 109 30 = bq_109_30 := by unfold am_B; rw [tt_109]; rfl
theorem en_109 {d : Nat} {v0 : Nat} {v1 : Int32} {M : am_M} : am_call d 109 [.ref v0, .int v1] M = am_run d 109 bq_109_0 [some (.ref v0), some (.int v1)] [] M := by unfold am_call; rw [bk_109_0]; rfl
theorem mx_109 : am_mx 109 = 2 := rfl
theorem tt_110 : am_tab 110 = tb_110 := rfl
theorem bk_110_0 : am_B 110 0 = bq_110_0 := by unfold am_B; rw [tt_110]; rfl
theorem bk_110_11 : am_B 110 11 = bq_110_11 := by unfold am_B; rw [tt_110]; rfl
theorem bk_110_15 : am_B 110 15 = bq_110_15 := by unfold am_B; rw [tt_110]; rfl
theorem bk_110_41 : am_B 110 41 = bq_110_41 := by unfold am_B; rw [tt_110]; rfl
theorem bk_110_42 : am_B 110 42 = bq_110_42 := by unfold am_B; rw [tt_110]; rfl
theorem bk_110_50 : am_B 110 50 = bq_110_50 := by unfold am_B; rw [tt_110]; rfl
theorem en_110 {d : Nat} {v0 : Nat} {v1 : Int32} {M : am_M} : am_call d 110 [.ref v0, .int v1] M = am_run d 110 bq_110_0 [some (.ref v0), some (.int v1), none, none] [] M := by unfold am_call; rw [bk_110_0]; rfl
theorem mx_110 : am_mx 110 = 4 := rfl
theorem tt_111 : am_tab 111 = tb_111 := rfl
theorem bk_111_0 : am_B 111 0 = bq_111_0 := by unfold am_B; rw [tt_111]; rfl
theorem en_111 {d : Nat} {v0 : Nat} {M : am_M} : am_call d 111 [.ref v0] M = am_run d 111 bq_111_0 [some (.ref v0)] [] M := by unfold am_call; rw [bk_111_0]; rfl
theorem mx_111 : am_mx 111 = 1 := rfl
theorem tt_112 : am_tab 112 = tb_112 := rfl
theorem bk_112_0 : am_B 112 0 = bq_112_0 := by unfold am_B; rw [tt_112]; rfl
theorem en_112 {d : Nat} {v0 : Nat} {M : am_M} : am_call d 112 [.ref v0] M = am_run d 112 bq_112_0 [some (.ref v0)] [] M := by unfold am_call; rw [bk_112_0]; rfl
theorem mx_112 : am_mx 112 = 1 := rfl
theorem tt_113 : am_tab 113 = tb_113 := rfl
theorem bk_113_0 : am_B 113 0 = bq_113_0 := by unfold am_B; rw [tt_113]; rfl
theorem en_113 {d : Nat} {v0 : Nat} {M : am_M} : am_call d 113 [.ref v0] M = am_run d 113 bq_113_0 [some (.ref v0)] [] M := by unfold am_call; rw [bk_113_0]; rfl
theorem mx_113 : am_mx 113 = 1 := rfl
theorem tt_114 : am_tab 114 = tb_114 := rfl
theorem bk_114_0 : am_B 114 0 = bq_114_0 := by unfold am_B; rw [tt_114]; rfl
theorem en_114 {d : Nat} {v0 : Nat} {M : am_M} : am_call d 114 [.ref v0] M = am_run d 114 bq_114_0 [some (.ref v0)] [] M := by unfold am_call; rw [bk_114_0]; rfl
theorem mx_114 : am_mx 114 = 1 := rfl
theorem tt_115 : am_tab 115 = tb_115 := rfl
theorem bk_115_0 : am_B 115 0 = bq_115_0 := by unfold am_B; rw [tt_115]; rfl
theorem bk_115_48 : am_B 115 48 = bq_115_48 := by unfold am_B; rw [tt_115]; rfl
theorem bk_115_59 : am_B 115 59 = bq_115_59 := by unfold am_B; rw [tt_115]; rfl
theorem bk_115_67 : am_B 115 67 = bq_115_67 := by unfold am_B; rw [tt_115]; rfl
theorem bk_115_75 : am_B 115 75 = bq_115_75 := by unfold am_B; rw [tt_115]; rfl
theorem bk_115_83 : am_B 115 83 = bq_115_83 := by unfold am_B; rw [tt_115]; rfl
theorem bk_115_94 : am_B 115 94 = bq_115_94 := by unfold am_B; rw [tt_115]; rfl
theorem bk_115_105 : am_B 115 105 = bq_115_105 := by unfold am_B; rw [tt_115]; rfl
theorem bk_115_116 : am_B 115 116 = bq_115_116 := by unfold am_B; rw [tt_115]; rfl
theorem bk_115_124 : am_B 115 124 = bq_115_124 := by unfold am_B; rw [tt_115]; rfl
theorem en_115 {d : Nat} {v0 : Nat} {v1 : Int32} {M : am_M} : am_call d 115 [.ref v0, .int v1] M = am_run d 115 bq_115_0 [some (.ref v0), some (.int v1)] [] M := by unfold am_call; rw [bk_115_0]; rfl
theorem mx_115 : am_mx 115 = 2 := rfl
theorem tt_116 : am_tab 116 = tb_116 := rfl
theorem bk_116_0 : am_B 116 0 = bq_116_0 := by unfold am_B; rw [tt_116]; rfl
theorem bk_116_19 : am_B 116 19 = bq_116_19 := by unfold am_B; rw [tt_116]; rfl
theorem bk_116_32 : am_B 116 32 = bq_116_32 := by unfold am_B; rw [tt_116]; rfl
theorem bk_116_34 : am_B 116 34 = bq_116_34 := by unfold am_B; rw [tt_116]; rfl
theorem en_116 {d : Nat} {v0 : Nat} {v1 : Int32} {M : am_M} : am_call d 116 [.ref v0, .int v1] M = am_run d 116 bq_116_0 [some (.ref v0), some (.int v1)] [] M := by unfold am_call; rw [bk_116_0]; rfl
theorem mx_116 : am_mx 116 = 2 := rfl
theorem tt_117 : am_tab 117 = tb_117 := rfl
theorem bk_117_0 : am_B 117 0 = bq_117_0 := by unfold am_B; rw [tt_117]; rfl
theorem bk_117_105 : am_B 117 105 = bq_117_105 := by unfold am_B; rw [tt_117]; rfl
theorem bk_117_130 : am_B 117 130 = bq_117_130 := by unfold am_B; rw [tt_117]; rfl
theorem bk_117_132 : am_B 117 132 = bq_117_132 := by unfold am_B; rw [tt_117]; rfl
theorem bk_117_151 : am_B 117 151 = bq_117_151 := by unfold am_B; rw [tt_117]; rfl
theorem en_117 {d : Nat} {v0 : Nat} {M : am_M} : am_call d 117 [.ref v0] M = am_run d 117 bq_117_0 [some (.ref v0), none] [] M := by unfold am_call; rw [bk_117_0]; rfl
theorem mx_117 : am_mx 117 = 2 := rfl
theorem tt_118 : am_tab 118 = tb_118 := rfl
theorem bk_118_0 : am_B 118 0 = bq_118_0 := by unfold am_B; rw [tt_118]; rfl
theorem en_118 {d : Nat} {v0 : Nat} {M : am_M} : am_call d 118 [.ref v0] M = am_run d 118 bq_118_0 [some (.ref v0)] [] M := by unfold am_call; rw [bk_118_0]; rfl
theorem mx_118 : am_mx 118 = 1 := rfl
theorem tt_119 : am_tab 119 = tb_119 := rfl
theorem bk_119_0 : am_B 119 0 = bq_119_0 := by unfold am_B; rw [tt_119]; rfl
theorem en_119 {d : Nat} {v0 : Nat} {M : am_M} : am_call d 119 [.ref v0] M = am_run d 119 bq_119_0 [some (.ref v0)] [] M := by unfold am_call; rw [bk_119_0]; rfl
theorem mx_119 : am_mx 119 = 1 := rfl
theorem tt_120 : am_tab 120 = tb_120 := rfl
theorem bk_120_0 : am_B 120 0 = bq_120_0 := by unfold am_B; rw [tt_120]; rfl
theorem en_120 {d : Nat} {v0 : Nat} {v1 : Nat} {M : am_M} : am_call d 120 [.ref v0, .ref v1] M = am_run d 120 bq_120_0 [some (.ref v0), some (.ref v1)] [] M := by unfold am_call; rw [bk_120_0]; rfl
theorem mx_120 : am_mx 120 = 2 := rfl
theorem tt_121 : am_tab 121 = tb_121 := rfl
theorem bk_121_0 : am_B 121 0 = bq_121_0 := by unfold am_B; rw [tt_121]; rfl
theorem en_121 {d : Nat} {v0 : Nat} {v1 : Nat} {M : am_M} : am_call d 121 [.ref v0, .ref v1] M = am_run d 121 bq_121_0 [some (.ref v0), some (.ref v1)] [] M := by unfold am_call; rw [bk_121_0]; rfl
theorem mx_121 : am_mx 121 = 2 := rfl
theorem tt_122 : am_tab 122 = tb_122 := rfl
theorem bk_122_0 : am_B 122 0 = bq_122_0 := by unfold am_B; rw [tt_122]; rfl
theorem en_122 {d : Nat} {v0 : Nat} {M : am_M} : am_call d 122 [.ref v0] M = am_run d 122 bq_122_0 [some (.ref v0)] [] M := by unfold am_call; rw [bk_122_0]; rfl
theorem mx_122 : am_mx 122 = 1 := rfl
theorem tt_123 : am_tab 123 = tb_123 := rfl
theorem bk_123_0 : am_B 123 0 = bq_123_0 := by unfold am_B; rw [tt_123]; rfl
theorem en_123 {d : Nat} {v0 : Nat} {M : am_M} : am_call d 123 [.ref v0] M = am_run d 123 bq_123_0 [some (.ref v0)] [] M := by unfold am_call; rw [bk_123_0]; rfl
theorem mx_123 : am_mx 123 = 1 := rfl
theorem tt_124 : am_tab 124 = tb_124 := rfl
theorem bk_124_0 : am_B 124 0 = bq_124_0 := by unfold am_B; rw [tt_124]; rfl
theorem en_124 {d : Nat} {v0 : Nat} {M : am_M} : am_call d 124 [.ref v0] M = am_run d 124 bq_124_0 [some (.ref v0)] [] M := by unfold am_call; rw [bk_124_0]; rfl
theorem mx_124 : am_mx 124 = 1 := rfl
theorem tt_125 : am_tab 125 = tb_125 := rfl
theorem bk_125_0 : am_B 125 0 = bq_125_0 := by unfold am_B; rw [tt_125]; rfl
theorem bk_125_2 : am_B 125 2 = bq_125_2 := by unfold am_B; rw [tt_125]; rfl
theorem bk_125_21 : am_B 125 21 = bq_125_21 := by unfold am_B; rw [tt_125]; rfl
theorem en_125 {d : Nat} {v0 : Nat} {v1 : Nat} {M : am_M} : am_call d 125 [.ref v0, .ref v1] M = am_run d 125 bq_125_0 [some (.ref v0), some (.ref v1), none] [] M := by unfold am_call; rw [bk_125_0]; rfl
theorem mx_125 : am_mx 125 = 3 := rfl
theorem tt_126 : am_tab 126 = tb_126 := rfl
theorem bk_126_0 : am_B 126 0 = bq_126_0 := by unfold am_B; rw [tt_126]; rfl
theorem bk_126_22 : am_B 126 22 = bq_126_22 := by unfold am_B; rw [tt_126]; rfl
theorem bk_126_24 : am_B 126 24 = bq_126_24 := by unfold am_B; rw [tt_126]; rfl
theorem en_126 {d : Nat} {v0 : Nat} {v1 : Int32} {M : am_M} : am_call d 126 [.ref v0, .int v1] M = am_run d 126 bq_126_0 [some (.ref v0), some (.int v1), none] [] M := by unfold am_call; rw [bk_126_0]; rfl
theorem mx_126 : am_mx 126 = 3 := rfl
theorem tt_127 : am_tab 127 = tb_127 := rfl
theorem bk_127_0 : am_B 127 0 = bq_127_0 := by unfold am_B; rw [tt_127]; rfl
theorem bk_127_14 : am_B 127 14 = bq_127_14 := by unfold am_B; rw [tt_127]; rfl
theorem bk_127_15 : am_B 127 15 = bq_127_15 := by unfold am_B; rw [tt_127]; rfl
theorem en_127 {d : Nat} {v0 : Int32} {v1 : Int32} {v2 : Int32} {M : am_M} : am_call d 127 [.int v0, .int v1, .int v2] M = am_run d 127 bq_127_0 [some (.int v0), some (.int v1), some (.int v2)] [] M := by unfold am_call; rw [bk_127_0]; rfl
theorem mx_127 : am_mx 127 = 3 := rfl
theorem tt_128 : am_tab 128 = tb_128 := rfl
theorem bk_128_0 : am_B 128 0 = bq_128_0 := by unfold am_B; rw [tt_128]; rfl
theorem bk_128_16 : am_B 128 16 = bq_128_16 := by unfold am_B; rw [tt_128]; rfl
theorem bk_128_17 : am_B 128 17 = bq_128_17 := by unfold am_B; rw [tt_128]; rfl
theorem en_128 {d : Nat} {v0 : Nat} {v1 : Int32} {M : am_M} : am_call d 128 [.ref v0, .int v1] M = am_run d 128 bq_128_0 [some (.ref v0), some (.int v1)] [] M := by unfold am_call; rw [bk_128_0]; rfl
theorem mx_128 : am_mx 128 = 2 := rfl
theorem tt_129 : am_tab 129 = tb_129 := rfl
theorem bk_129_0 : am_B 129 0 = bq_129_0 := by unfold am_B; rw [tt_129]; rfl
theorem bk_129_14 : am_B 129 14 = bq_129_14 := by unfold am_B; rw [tt_129]; rfl
theorem bk_129_15 : am_B 129 15 = bq_129_15 := by unfold am_B; rw [tt_129]; rfl
theorem en_129 {d : Nat} {v0 : Int32} {v1 : Int32} {v2 : Int32} {M : am_M} : am_call d 129 [.int v0, .int v1, .int v2] M = am_run d 129 bq_129_0 [some (.int v0), some (.int v1), some (.int v2)] [] M := by unfold am_call; rw [bk_129_0]; rfl
theorem mx_129 : am_mx 129 = 3 := rfl
theorem tt_130 : am_tab 130 = tb_130 := rfl
theorem bk_130_0 : am_B 130 0 = bq_130_0 := by unfold am_B; rw [tt_130]; rfl
theorem en_130 {d : Nat} {v0 : Nat} {v1 : Int32} {M : am_M} : am_call d 130 [.ref v0, .int v1] M = am_run d 130 bq_130_0 [some (.ref v0), some (.int v1)] [] M := by unfold am_call; rw [bk_130_0]; rfl
theorem mx_130 : am_mx 130 = 2 := rfl
theorem tt_131 : am_tab 131 = tb_131 := rfl
theorem bk_131_0 : am_B 131 0 = bq_131_0 := by unfold am_B; rw [tt_131]; rfl
theorem bk_131_3 : am_B 131 3 = bq_131_3 := by unfold am_B; rw [tt_131]; rfl
theorem bk_131_49 : am_B 131 49 = bq_131_49 := by unfold am_B; rw [tt_131]; rfl
theorem en_131 {d : Nat} {v0 : Nat} {v1 : Int32} {M : am_M} : am_call d 131 [.ref v0, .int v1] M = am_run d 131 bq_131_0 [some (.ref v0), some (.int v1), none] [] M := by unfold am_call; rw [bk_131_0]; rfl
theorem mx_131 : am_mx 131 = 3 := rfl
theorem tt_132 : am_tab 132 = tb_132 := rfl
theorem bk_132_0 : am_B 132 0 = bq_132_0 := by unfold am_B; rw [tt_132]; rfl
theorem bk_132_3 : am_B 132 3 = bq_132_3 := by unfold am_B; rw [tt_132]; rfl
theorem bk_132_39 : am_B 132 39 = bq_132_39 := by unfold am_B; rw [tt_132]; rfl
theorem en_132 {d : Nat} {v0 : Nat} {v1 : Int32} {M : am_M} : am_call d 132 [.ref v0, .int v1] M = am_run d 132 bq_132_0 [some (.ref v0), some (.int v1), none] [] M := by unfold am_call; rw [bk_132_0]; rfl
theorem mx_132 : am_mx 132 = 3 := rfl
theorem tt_133 : am_tab 133 = tb_133 := rfl
theorem bk_133_0 : am_B 133 0 = bq_133_0 := by unfold am_B; rw [tt_133]; rfl
theorem bk_133_36 : am_B 133 36 = bq_133_36 := by unfold am_B; rw [tt_133]; rfl
theorem bk_133_68 : am_B 133 68 = bq_133_68 := by unfold am_B; rw [tt_133]; rfl
theorem bk_133_79 : am_B 133 79 = bq_133_79 := by unfold am_B; rw [tt_133]; rfl
theorem bk_133_80 : am_B 133 80 = bq_133_80 := by unfold am_B; rw [tt_133]; rfl
theorem en_133 {d : Nat} {v0 : Nat} {v1 : Nat} {M : am_M} : am_call d 133 [.ref v0, .ref v1] M = am_run d 133 bq_133_0 [some (.ref v0), some (.ref v1), none] [] M := by unfold am_call; rw [bk_133_0]; rfl
theorem mx_133 : am_mx 133 = 3 := rfl
theorem tt_134 : am_tab 134 = tb_134 := rfl
theorem bk_134_0 : am_B 134 0 = bq_134_0 := by unfold am_B; rw [tt_134]; rfl
theorem bk_134_43 : am_B 134 43 = bq_134_43 := by unfold am_B; rw [tt_134]; rfl
theorem bk_134_61 : am_B 134 61 = bq_134_61 := by unfold am_B; rw [tt_134]; rfl
theorem bk_134_64 : am_B 134 64 = bq_134_64 := by unfold am_B; rw [tt_134]; rfl
theorem en_134 {d : Nat} {v0 : Nat} {M : am_M} : am_call d 134 [.ref v0] M = am_run d 134 bq_134_0 [some (.ref v0), none] [] M := by unfold am_call; rw [bk_134_0]; rfl
theorem mx_134 : am_mx 134 = 2 := rfl
theorem tt_135 : am_tab 135 = tb_135 := rfl
theorem bk_135_0 : am_B 135 0 = bq_135_0 := by unfold am_B; rw [tt_135]; rfl
theorem bk_135_24 : am_B 135 24 = bq_135_24 := by unfold am_B; rw [tt_135]; rfl
theorem bk_135_25 : am_B 135 25 = bq_135_25 := by unfold am_B; rw [tt_135]; rfl
theorem en_135 {d : Nat} {v0 : Nat} {v1 : Int32} {M : am_M} : am_call d 135 [.ref v0, .int v1] M = am_run d 135 bq_135_0 [some (.ref v0), some (.int v1)] [] M := by unfold am_call; rw [bk_135_0]; rfl
theorem mx_135 : am_mx 135 = 2 := rfl
theorem tt_136 : am_tab 136 = tb_136 := rfl
theorem bk_136_0 : am_B 136 0 = bq_136_0 := by unfold am_B; rw [tt_136]; rfl
theorem bk_136_14 : am_B 136 14 = bq_136_14 := by unfold am_B; rw [tt_136]; rfl
theorem bk_136_15 : am_B 136 15 = bq_136_15 := by unfold am_B; rw [tt_136]; rfl
theorem en_136 {d : Nat} {v0 : Int32} {M : am_M} : am_call d 136 [.int v0] M = am_run d 136 bq_136_0 [some (.int v0)] [] M := by unfold am_call; rw [bk_136_0]; rfl
theorem mx_136 : am_mx 136 = 1 := rfl
theorem tt_137 : am_tab 137 = tb_137 := rfl
theorem bk_137_0 : am_B 137 0 = bq_137_0 := by unfold am_B; rw [tt_137]; rfl
theorem bk_137_46 : am_B 137 46 = bq_137_46 := by unfold am_B; rw [tt_137]; rfl
theorem bk_137_59 : am_B 137 59 = bq_137_59 := by unfold am_B; rw [tt_137]; rfl
theorem en_137 {d : Nat} {v0 : Nat} {M : am_M} : am_call d 137 [.ref v0] M = am_run d 137 bq_137_0 [some (.ref v0)] [] M := by unfold am_call; rw [bk_137_0]; rfl
theorem mx_137 : am_mx 137 = 1 := rfl
theorem tt_138 : am_tab 138 = tb_138 := rfl
theorem bk_138_0 : am_B 138 0 = bq_138_0 := by unfold am_B; rw [tt_138]; rfl
theorem bk_138_28 : am_B 138 28 = bq_138_28 := by unfold am_B; rw [tt_138]; rfl
theorem bk_138_29 : am_B 138 29 = bq_138_29 := by unfold am_B; rw [tt_138]; rfl
theorem en_138 {d : Nat} {v0 : Nat} {M : am_M} : am_call d 138 [.ref v0] M = am_run d 138 bq_138_0 [some (.ref v0)] [] M := by unfold am_call; rw [bk_138_0]; rfl
theorem mx_138 : am_mx 138 = 1 := rfl
theorem tt_139 : am_tab 139 = tb_139 := rfl
theorem bk_139_0 : am_B 139 0 = bq_139_0 := by unfold am_B; rw [tt_139]; rfl
theorem en_139 {d : Nat} {v0 : Nat} {v1 : Nat} {v2 : Nat} {v3 : Int32} {v4 : Int32} {M : am_M} : am_call d 139 [.ref v0, .ref v1, .ref v2, .int v3, .int v4] M = am_run d 139 bq_139_0 [some (.ref v0), some (.ref v1), some (.ref v2), some (.int v3), some (.int v4), none] [] M := by unfold am_call; rw [bk_139_0]; rfl
theorem mx_139 : am_mx 139 = 6 := rfl
theorem tt_140 : am_tab 140 = tb_140 := rfl
theorem bk_140_0 : am_B 140 0 = bq_140_0 := by unfold am_B; rw [tt_140]; rfl
theorem en_140 {d : Nat} {v0 : Int32} {M : am_M} : am_call d 140 [.int v0] M = am_run d 140 bq_140_0 [some (.int v0)] [] M := by unfold am_call; rw [bk_140_0]; rfl
theorem mx_140 : am_mx 140 = 1 := rfl
theorem tt_141 : am_tab 141 = tb_141 := rfl
theorem bk_141_0 : am_B 141 0 = bq_141_0 := by unfold am_B; rw [tt_141]; rfl
theorem bk_141_13 : am_B 141 13 = bq_141_13 := by unfold am_B; rw [tt_141]; rfl
theorem bk_141_46 : am_B 141 46 = bq_141_46 := by unfold am_B; rw [tt_141]; rfl
theorem bk_141_56 : am_B 141 56 = bq_141_56 := by unfold am_B; rw [tt_141]; rfl
theorem bk_141_72 : am_B 141 72 = bq_141_72 := by unfold am_B; rw [tt_141]; rfl
theorem bk_141_101 : am_B 141 101 = bq_141_101 := by unfold am_B; rw [tt_141]; rfl
theorem bk_141_103 : am_B 141 103 = bq_141_103 := by unfold am_B; rw [tt_141]; rfl
theorem bk_141_136 : am_B 141 136 = bq_141_136 := by unfold am_B; rw [tt_141]; rfl
theorem en_141 {d : Nat} {v0 : Nat} {M : am_M} : am_call d 141 [.ref v0] M = am_run d 141 bq_141_0 [some (.ref v0), none, none] [] M := by unfold am_call; rw [bk_141_0]; rfl
theorem mx_141 : am_mx 141 = 3 := rfl
theorem tt_142 : am_tab 142 = tb_142 := rfl
theorem bk_142_0 : am_B 142 0 = bq_142_0 := by unfold am_B; rw [tt_142]; rfl
theorem bk_142_74 : am_B 142 74 = bq_142_74 := by unfold am_B; rw [tt_142]; rfl
theorem bk_142_89 : am_B 142 89 = bq_142_89 := by unfold am_B; rw [tt_142]; rfl
theorem bk_142_96 : am_B 142 96 = bq_142_96 := by unfold am_B; rw [tt_142]; rfl
theorem bk_142_137 : am_B 142 137 = bq_142_137 := by unfold am_B; rw [tt_142]; rfl
theorem bk_142_166 : am_B 142 166 = bq_142_166 := by unfold am_B; rw [tt_142]; rfl
theorem en_142 {d : Nat} {v0 : Nat} {v1 : Int32} {v2 : Int32} {M : am_M} : am_call d 142 [.ref v0, .int v1, .int v2] M = am_run d 142 bq_142_0 [some (.ref v0), some (.int v1), some (.int v2), none, none] [] M := by unfold am_call; rw [bk_142_0]; rfl
theorem mx_142 : am_mx 142 = 5 := rfl
theorem tt_143 : am_tab 143 = tb_143 := rfl
theorem bk_143_0 : am_B 143 0 = bq_143_0 := by unfold am_B; rw [tt_143]; rfl
theorem bk_143_26 : am_B 143 26 = bq_143_26 := by unfold am_B; rw [tt_143]; rfl
theorem bk_143_27 : am_B 143 27 = bq_143_27 := by unfold am_B; rw [tt_143]; rfl
theorem en_143 {d : Nat} {v0 : Nat} {v1 : Int32} {M : am_M} : am_call d 143 [.ref v0, .int v1] M = am_run d 143 bq_143_0 [some (.ref v0), some (.int v1)] [] M := by unfold am_call; rw [bk_143_0]; rfl
theorem mx_143 : am_mx 143 = 2 := rfl
theorem tt_144 : am_tab 144 = tb_144 := rfl
theorem bk_144_0 : am_B 144 0 = bq_144_0 := by unfold am_B; rw [tt_144]; rfl
theorem en_144 {d : Nat} {v0 : Nat} {v1 : Int32} {M : am_M} : am_call d 144 [.ref v0, .int v1] M = am_run d 144 bq_144_0 [some (.ref v0), some (.int v1), none] [] M := by unfold am_call; rw [bk_144_0]; rfl
theorem mx_144 : am_mx 144 = 3 := rfl
theorem tt_145 : am_tab 145 = tb_145 := rfl
theorem bk_145_0 : am_B 145 0 = bq_145_0 := by unfold am_B; rw [tt_145]; rfl
theorem en_145 {d : Nat} {v0 : Nat} {v1 : Int32} {M : am_M} : am_call d 145 [.ref v0, .int v1] M = am_run d 145 bq_145_0 [some (.ref v0), some (.int v1)] [] M := by unfold am_call; rw [bk_145_0]; rfl
theorem mx_145 : am_mx 145 = 2 := rfl
theorem tt_146 : am_tab 146 = tb_146 := rfl
theorem bk_146_0 : am_B 146 0 = bq_146_0 := by unfold am_B; rw [tt_146]; rfl
theorem en_146 {d : Nat} {v0 : Nat} {v1 : Int32} {M : am_M} : am_call d 146 [.ref v0, .int v1] M = am_run d 146 bq_146_0 [some (.ref v0), some (.int v1), none] [] M := by unfold am_call; rw [bk_146_0]; rfl
theorem mx_146 : am_mx 146 = 3 := rfl
theorem tt_147 : am_tab 147 = tb_147 := rfl
theorem bk_147_0 : am_B 147 0 = bq_147_0 := by unfold am_B; rw [tt_147]; rfl
theorem en_147 {d : Nat} {v0 : Nat} {v1 : Int32} {M : am_M} : am_call d 147 [.ref v0, .int v1] M = am_run d 147 bq_147_0 [some (.ref v0), some (.int v1)] [] M := by unfold am_call; rw [bk_147_0]; rfl
theorem mx_147 : am_mx 147 = 2 := rfl
theorem tt_148 : am_tab 148 = tb_148 := rfl
theorem bk_148_0 : am_B 148 0 = bq_148_0 := by unfold am_B; rw [tt_148]; rfl
theorem en_148 {d : Nat} {v0 : Nat} {v1 : Int32} {M : am_M} : am_call d 148 [.ref v0, .int v1] M = am_run d 148 bq_148_0 [some (.ref v0), some (.int v1)] [] M := by unfold am_call; rw [bk_148_0]; rfl
theorem mx_148 : am_mx 148 = 2 := rfl
theorem tt_149 : am_tab 149 = tb_149 := rfl
theorem bk_149_0 : am_B 149 0 = bq_149_0 := by unfold am_B; rw [tt_149]; rfl
theorem bk_149_10 : am_B 149 10 = bq_149_10 := by unfold am_B; rw [tt_149]; rfl
theorem bk_149_29 : am_B 149 29 = bq_149_29 := by unfold am_B; rw [tt_149]; rfl
theorem bk_149_53 : am_B 149 53 = bq_149_53 := by unfold am_B; rw [tt_149]; rfl
theorem en_149 {d : Nat} {v0 : Nat} {v1 : Int32} {M : am_M} : am_call d 149 [.ref v0, .int v1] M = am_run d 149 bq_149_0 [some (.ref v0), some (.int v1), none, none, none] [] M := by unfold am_call; rw [bk_149_0]; rfl
theorem mx_149 : am_mx 149 = 5 := rfl
theorem tt_150 : am_tab 150 = tb_150 := rfl
theorem bk_150_0 : am_B 150 0 = bq_150_0 := by unfold am_B; rw [tt_150]; rfl
theorem bk_150_7 : am_B 150 7 = bq_150_7 := by unfold am_B; rw [tt_150]; rfl
theorem bk_150_27 : am_B 150 27 = bq_150_27 := by unfold am_B; rw [tt_150]; rfl
theorem bk_150_41 : am_B 150 41 = bq_150_41 := by unfold am_B; rw [tt_150]; rfl
theorem en_150 {d : Nat} {v0 : Nat} {v1 : Int32} {M : am_M} : am_call d 150 [.ref v0, .int v1] M = am_run d 150 bq_150_0 [some (.ref v0), some (.int v1), none] [] M := by unfold am_call; rw [bk_150_0]; rfl
theorem mx_150 : am_mx 150 = 3 := rfl
theorem tt_151 : am_tab 151 = tb_151 := rfl
theorem bk_151_0 : am_B 151 0 = bq_151_0 := by unfold am_B; rw [tt_151]; rfl
theorem bk_151_40 : am_B 151 40 = bq_151_40 := by unfold am_B; rw [tt_151]; rfl
theorem bk_151_53 : am_B 151 53 = bq_151_53 := by unfold am_B; rw [tt_151]; rfl
theorem bk_151_54 : am_B 151 54 = bq_151_54 := by unfold am_B; rw [tt_151]; rfl
theorem bk_151_55 : am_B 151 55 = bq_151_55 := by unfold am_B; rw [tt_151]; rfl
theorem bk_151_62 : am_B 151 62 = bq_151_62 := by unfold am_B; rw [tt_151]; rfl
theorem bk_151_78 : am_B 151 78 = bq_151_78 := by unfold am_B; rw [tt_151]; rfl
theorem bk_151_79 : am_B 151 79 = bq_151_79 := by unfold am_B; rw [tt_151]; rfl
theorem bk_151_80 : am_B 151 80 = bq_151_80 := by unfold am_B; rw [tt_151]; rfl
theorem bk_151_93 : am_B 151 93 = bq_151_93 := by unfold am_B; rw [tt_151]; rfl
theorem bk_151_94 : am_B 151 94 = bq_151_94 := by unfold am_B; rw [tt_151]; rfl
theorem bk_151_95 : am_B 151 95 = bq_151_95 := by unfold am_B; rw [tt_151]; rfl
theorem bk_151_108 : am_B 151 108 = bq_151_108 := by unfold am_B; rw [tt_151]; rfl
theorem bk_151_109 : am_B 151 109 = bq_151_109 := by unfold am_B; rw [tt_151]; rfl
theorem bk_151_110 : am_B 151 110 = bq_151_110 := by unfold am_B; rw [tt_151]; rfl
theorem bk_151_147 : am_B 151 147 = bq_151_147 := by unfold am_B; rw [tt_151]; rfl
theorem bk_151_148 : am_B 151 148 = bq_151_148 := by unfold am_B; rw [tt_151]; rfl
theorem bk_151_149 : am_B 151 149 = bq_151_149 := by unfold am_B; rw [tt_151]; rfl
theorem en_151 {d : Nat} {v0 : Nat} {v1 : Int32} {v2 : Int32} {v3 : Int32} {M : am_M} : am_call d 151 [.ref v0, .int v1, .int v2, .int v3] M = am_run d 151 bq_151_0 [some (.ref v0), some (.int v1), some (.int v2), some (.int v3), none] [] M := by unfold am_call; rw [bk_151_0]; rfl
theorem mx_151 : am_mx 151 = 5 := rfl
theorem tt_152 : am_tab 152 = tb_152 := rfl
theorem bk_152_0 : am_B 152 0 = bq_152_0 := by unfold am_B; rw [tt_152]; rfl
theorem bk_152_64 : am_B 152 64 = bq_152_64 := by unfold am_B; rw [tt_152]; rfl
theorem bk_152_76 : am_B 152 76 = bq_152_76 := by unfold am_B; rw [tt_152]; rfl
theorem bk_152_77 : am_B 152 77 = bq_152_77 := by unfold am_B; rw [tt_152]; rfl
theorem bk_152_78 : am_B 152 78 = bq_152_78 := by unfold am_B; rw [tt_152]; rfl
theorem bk_152_85 : am_B 152 85 = bq_152_85 := by unfold am_B; rw [tt_152]; rfl
theorem bk_152_101 : am_B 152 101 = bq_152_101 := by unfold am_B; rw [tt_152]; rfl
theorem bk_152_102 : am_B 152 102 = bq_152_102 := by unfold am_B; rw [tt_152]; rfl
theorem bk_152_103 : am_B 152 103 = bq_152_103 := by unfold am_B; rw [tt_152]; rfl
theorem bk_152_115 : am_B 152 115 = bq_152_115 := by unfold am_B; rw [tt_152]; rfl
theorem bk_152_116 : am_B 152 116 = bq_152_116 := by unfold am_B; rw [tt_152]; rfl
theorem bk_152_117 : am_B 152 117 = bq_152_117 := by unfold am_B; rw [tt_152]; rfl
theorem bk_152_129 : am_B 152 129 = bq_152_129 := by unfold am_B; rw [tt_152]; rfl
theorem bk_152_130 : am_B 152 130 = bq_152_130 := by unfold am_B; rw [tt_152]; rfl
theorem bk_152_131 : am_B 152 131 = bq_152_131 := by unfold am_B; rw [tt_152]; rfl
theorem bk_152_137 : am_B 152 137 = bq_152_137 := by unfold am_B; rw [tt_152]; rfl
theorem en_152 {d : Nat} {v0 : Nat} {v1 : Int32} {M : am_M} : am_call d 152 [.ref v0, .int v1] M = am_run d 152 bq_152_0 [some (.ref v0), some (.int v1), none, none] [] M := by unfold am_call; rw [bk_152_0]; rfl
theorem mx_152 : am_mx 152 = 4 := rfl
theorem tt_153 : am_tab 153 = tb_153 := rfl
theorem bk_153_0 : am_B 153 0 = bq_153_0 := by unfold am_B; rw [tt_153]; rfl
theorem bk_153_56 : am_B 153 56 = bq_153_56 := by unfold am_B; rw [tt_153]; rfl
theorem bk_153_102 : am_B 153 102 = bq_153_102 := by unfold am_B; rw [tt_153]; rfl
theorem bk_153_125 : am_B 153 125 = bq_153_125 := by unfold am_B; rw [tt_153]; rfl
theorem bk_153_149 : am_B 153 149 = bq_153_149 := by unfold am_B; rw [tt_153]; rfl
theorem bk_153_172 : am_B 153 172 = bq_153_172 := by unfold am_B; rw [tt_153]; rfl
theorem en_153 {d : Nat} {v0 : Nat} {M : am_M} : am_call d 153 [.ref v0] M = am_run d 153 bq_153_0 [some (.ref v0), none, none, none, none] [] M := by unfold am_call; rw [bk_153_0]; rfl
theorem mx_153 : am_mx 153 = 5 := rfl
theorem tt_154 : am_tab 154 = tb_154 := rfl
theorem bk_154_0 : am_B 154 0 = bq_154_0 := by unfold am_B; rw [tt_154]; rfl
theorem en_154 {d : Nat} {v0 : Nat} {M : am_M} : am_call d 154 [.ref v0] M = am_run d 154 bq_154_0 [some (.ref v0)] [] M := by unfold am_call; rw [bk_154_0]; rfl
theorem mx_154 : am_mx 154 = 1 := rfl
theorem tt_155 : am_tab 155 = tb_155 := rfl
theorem bk_155_0 : am_B 155 0 = bq_155_0 := by unfold am_B; rw [tt_155]; rfl
theorem bk_155_52 : am_B 155 52 = bq_155_52 := by unfold am_B; rw [tt_155]; rfl
theorem bk_155_73 : am_B 155 73 = bq_155_73 := by unfold am_B; rw [tt_155]; rfl
theorem bk_155_96 : am_B 155 96 = bq_155_96 := by unfold am_B; rw [tt_155]; rfl
theorem bk_155_120 : am_B 155 120 = bq_155_120 := by unfold am_B; rw [tt_155]; rfl
theorem bk_155_137 : am_B 155 137 = bq_155_137 := by unfold am_B; rw [tt_155]; rfl
theorem en_155 {d : Nat} {v0 : Nat} {v1 : Int32} {M : am_M} : am_call d 155 [.ref v0, .int v1] M = am_run d 155 bq_155_0 [some (.ref v0), some (.int v1), none, none] [] M := by unfold am_call; rw [bk_155_0]; rfl
theorem mx_155 : am_mx 155 = 4 := rfl
theorem tt_156 : am_tab 156 = tb_156 := rfl
theorem bk_156_0 : am_B 156 0 = bq_156_0 := by unfold am_B; rw [tt_156]; rfl
theorem bk_156_9 : am_B 156 9 = bq_156_9 := by unfold am_B; rw [tt_156]; rfl
theorem en_156 {d : Nat} {v0 : Nat} {M : am_M} : am_call d 156 [.ref v0] M = am_run d 156 bq_156_0 [some (.ref v0)] [] M := by unfold am_call; rw [bk_156_0]; rfl
theorem mx_156 : am_mx 156 = 1 := rfl
theorem tt_157 : am_tab 157 = tb_157 := rfl
theorem bk_157_0 : am_B 157 0 = bq_157_0 := by unfold am_B; rw [tt_157]; rfl
theorem bk_157_4 : am_B 157 4 = bq_157_4 := by unfold am_B; rw [tt_157]; rfl
theorem bk_157_13 : am_B 157 13 = bq_157_13 := by unfold am_B; rw [tt_157]; rfl
theorem bk_157_38 : am_B 157 38 = bq_157_38 := by unfold am_B; rw [tt_157]; rfl
theorem bk_157_44 : am_B 157 44 = bq_157_44 := by unfold am_B; rw [tt_157]; rfl
theorem bk_157_50 : am_B 157 50 = bq_157_50 := by unfold am_B; rw [tt_157]; rfl
theorem en_157 {d : Nat} {v0 : Nat} {v1 : Int32} {M : am_M} : am_call d 157 [.ref v0, .int v1] M = am_run d 157 bq_157_0 [some (.ref v0), some (.int v1), none, none, none] [] M := by unfold am_call; rw [bk_157_0]; rfl
theorem mx_157 : am_mx 157 = 5 := rfl
theorem tt_158 : am_tab 158 = tb_158 := rfl
theorem bk_158_0 : am_B 158 0 = bq_158_0 := by unfold am_B; rw [tt_158]; rfl
theorem bk_158_4 : am_B 158 4 = bq_158_4 := by unfold am_B; rw [tt_158]; rfl
theorem bk_158_31 : am_B 158 31 = bq_158_31 := by unfold am_B; rw [tt_158]; rfl
theorem en_158 {d : Nat} {v0 : Nat} {v1 : Int32} {M : am_M} : am_call d 158 [.ref v0, .int v1] M = am_run d 158 bq_158_0 [some (.ref v0), some (.int v1), none, none] [] M := by unfold am_call; rw [bk_158_0]; rfl
theorem mx_158 : am_mx 158 = 4 := rfl
theorem tt_159 : am_tab 159 = tb_159 := rfl
theorem bk_159_0 : am_B 159 0 = bq_159_0 := by unfold am_B; rw [tt_159]; rfl
theorem en_159 {d : Nat} {v0 : Nat} {v1 : Int32} {v2 : Int32} {M : am_M} : am_call d 159 [.ref v0, .int v1, .int v2] M = am_run d 159 bq_159_0 [some (.ref v0), some (.int v1), some (.int v2)] [] M := by unfold am_call; rw [bk_159_0]; rfl
theorem mx_159 : am_mx 159 = 3 := rfl
theorem tt_160 : am_tab 160 = tb_160 := rfl
theorem bk_160_0 : am_B 160 0 = bq_160_0 := by unfold am_B; rw [tt_160]; rfl
theorem en_160 {d : Nat} {v0 : Nat} {v1 : Int32} {v2 : Int32} {M : am_M} : am_call d 160 [.ref v0, .int v1, .int v2] M = am_run d 160 bq_160_0 [some (.ref v0), some (.int v1), some (.int v2)] [] M := by unfold am_call; rw [bk_160_0]; rfl
theorem mx_160 : am_mx 160 = 3 := rfl
theorem tt_161 : am_tab 161 = tb_161 := rfl
theorem bk_161_0 : am_B 161 0 = bq_161_0 := by unfold am_B; rw [tt_161]; rfl
theorem en_161 {d : Nat} {v0 : Nat} {v1 : Int32} {v2 : Int32} {M : am_M} : am_call d 161 [.ref v0, .int v1, .int v2] M = am_run d 161 bq_161_0 [some (.ref v0), some (.int v1), some (.int v2)] [] M := by unfold am_call; rw [bk_161_0]; rfl
theorem mx_161 : am_mx 161 = 3 := rfl
theorem tt_162 : am_tab 162 = tb_162 := rfl
theorem bk_162_0 : am_B 162 0 = bq_162_0 := by unfold am_B; rw [tt_162]; rfl
theorem bk_162_31 : am_B 162 31 = bq_162_31 := by unfold am_B; rw [tt_162]; rfl
theorem bk_162_32 : am_B 162 32 = bq_162_32 := by unfold am_B; rw [tt_162]; rfl
theorem en_162 {d : Nat} {v0 : Nat} {v1 : Int32} {v2 : Int32} {M : am_M} : am_call d 162 [.ref v0, .int v1, .int v2] M = am_run d 162 bq_162_0 [some (.ref v0), some (.int v1), some (.int v2)] [] M := by unfold am_call; rw [bk_162_0]; rfl
theorem mx_162 : am_mx 162 = 3 := rfl
theorem tt_163 : am_tab 163 = tb_163 := rfl
theorem bk_163_0 : am_B 163 0 = bq_163_0 := by unfold am_B; rw [tt_163]; rfl
theorem bk_163_32 : am_B 163 32 = bq_163_32 := by unfold am_B; rw [tt_163]; rfl
theorem bk_163_33 : am_B 163 33 = bq_163_33 := by unfold am_B; rw [tt_163]; rfl
theorem en_163 {d : Nat} {v0 : Nat} {v1 : Int32} {v2 : Int32} {M : am_M} : am_call d 163 [.ref v0, .int v1, .int v2] M = am_run d 163 bq_163_0 [some (.ref v0), some (.int v1), some (.int v2), none] [] M := by unfold am_call; rw [bk_163_0]; rfl
theorem mx_163 : am_mx 163 = 4 := rfl
theorem tt_164 : am_tab 164 = tb_164 := rfl
theorem bk_164_0 : am_B 164 0 = bq_164_0 := by unfold am_B; rw [tt_164]; rfl
theorem bk_164_32 : am_B 164 32 = bq_164_32 := by unfold am_B; rw [tt_164]; rfl
theorem bk_164_33 : am_B 164 33 = bq_164_33 := by unfold am_B; rw [tt_164]; rfl
theorem en_164 {d : Nat} {v0 : Nat} {v1 : Int32} {v2 : Int32} {M : am_M} : am_call d 164 [.ref v0, .int v1, .int v2] M = am_run d 164 bq_164_0 [some (.ref v0), some (.int v1), some (.int v2), none] [] M := by unfold am_call; rw [bk_164_0]; rfl
theorem mx_164 : am_mx 164 = 4 := rfl
theorem tt_165 : am_tab 165 = tb_165 := rfl
theorem bk_165_0 : am_B 165 0 = bq_165_0 := by unfold am_B; rw [tt_165]; rfl
theorem bk_165_9 : am_B 165 9 = bq_165_9 := by unfold am_B; rw [tt_165]; rfl
theorem en_165 {d : Nat} {v0 : Nat} {v1 : Nat} {v2 : Nat} {v3 : Int32} {v4 : Int32} {M : am_M} : am_call d 165 [.ref v0, .ref v1, .ref v2, .int v3, .int v4] M = am_run d 165 bq_165_0 [some (.ref v0), some (.ref v1), some (.ref v2), some (.int v3), some (.int v4), none] [] M := by unfold am_call; rw [bk_165_0]; rfl
theorem mx_165 : am_mx 165 = 6 := rfl
theorem tt_166 : am_tab 166 = tb_166 := rfl
theorem bk_166_0 : am_B 166 0 = bq_166_0 := by unfold am_B; rw [tt_166]; rfl
theorem bk_166_26 : am_B 166 26 = bq_166_26 := by unfold am_B; rw [tt_166]; rfl
theorem bk_166_27 : am_B 166 27 = bq_166_27 := by unfold am_B; rw [tt_166]; rfl
theorem en_166 {d : Nat} {v0 : Nat} {v1 : Int32} {v2 : Int32} {M : am_M} : am_call d 166 [.ref v0, .int v1, .int v2] M = am_run d 166 bq_166_0 [some (.ref v0), some (.int v1), some (.int v2)] [] M := by unfold am_call; rw [bk_166_0]; rfl
theorem mx_166 : am_mx 166 = 3 := rfl
theorem tt_167 : am_tab 167 = tb_167 := rfl
theorem bk_167_0 : am_B 167 0 = bq_167_0 := by unfold am_B; rw [tt_167]; rfl
theorem en_167 {d : Nat} {v0 : Nat} {v1 : Int32} {v2 : Int32} {M : am_M} : am_call d 167 [.ref v0, .int v1, .int v2] M = am_run d 167 bq_167_0 [some (.ref v0), some (.int v1), some (.int v2)] [] M := by unfold am_call; rw [bk_167_0]; rfl
theorem mx_167 : am_mx 167 = 3 := rfl
theorem tt_168 : am_tab 168 = tb_168 := rfl
theorem bk_168_0 : am_B 168 0 = bq_168_0 := by unfold am_B; rw [tt_168]; rfl
theorem bk_168_4 : am_B 168 4 = bq_168_4 := by unfold am_B; rw [tt_168]; rfl
theorem bk_168_31 : am_B 168 31 = bq_168_31 := by unfold am_B; rw [tt_168]; rfl
theorem bk_168_37 : am_B 168 37 = bq_168_37 := by unfold am_B; rw [tt_168]; rfl
theorem en_168 {d : Nat} {v0 : Nat} {M : am_M} : am_call d 168 [.ref v0] M = am_run d 168 bq_168_0 [some (.ref v0), none, none] [] M := by unfold am_call; rw [bk_168_0]; rfl
theorem mx_168 : am_mx 168 = 3 := rfl
theorem tt_169 : am_tab 169 = tb_169 := rfl
theorem bk_169_0 : am_B 169 0 = bq_169_0 := by unfold am_B; rw [tt_169]; rfl
theorem bk_169_4 : am_B 169 4 = bq_169_4 := by unfold am_B; rw [tt_169]; rfl
theorem bk_169_30 : am_B 169 30 = bq_169_30 := by unfold am_B; rw [tt_169]; rfl
theorem en_169 {d : Nat} {v0 : Nat} {M : am_M} : am_call d 169 [.ref v0] M = am_run d 169 bq_169_0 [some (.ref v0), none, none] [] M := by unfold am_call; rw [bk_169_0]; rfl
theorem mx_169 : am_mx 169 = 3 := rfl
theorem tt_170 : am_tab 170 = tb_170 := rfl
theorem bk_170_0 : am_B 170 0 = bq_170_0 := by unfold am_B; rw [tt_170]; rfl
theorem bk_170_4 : am_B 170 4 = bq_170_4 := by unfold am_B; rw [tt_170]; rfl
theorem bk_170_28 : am_B 170 28 = bq_170_28 := by unfold am_B; rw [tt_170]; rfl
theorem en_170 {d : Nat} {v0 : Nat} {v1 : Int32} {M : am_M} : am_call d 170 [.ref v0, .int v1] M = am_run d 170 bq_170_0 [some (.ref v0), some (.int v1), none, none] [] M := by unfold am_call; rw [bk_170_0]; rfl
theorem mx_170 : am_mx 170 = 4 := rfl
theorem tt_171 : am_tab 171 = tb_171 := rfl
theorem bk_171_0 : am_B 171 0 = bq_171_0 := by unfold am_B; rw [tt_171]; rfl
theorem bk_171_23 : am_B 171 23 = bq_171_23 := by unfold am_B; rw [tt_171]; rfl
theorem bk_171_37 : am_B 171 37 = bq_171_37 := by unfold am_B; rw [tt_171]; rfl
theorem bk_171_52 : am_B 171 52 = bq_171_52 := by unfold am_B; rw [tt_171]; rfl
theorem bk_171_58 : am_B 171 58 = bq_171_58 := by unfold am_B; rw [tt_171]; rfl
theorem en_171 {d : Nat} {v0 : Nat} {v1 : Int32} {v2 : Int32} {M : am_M} : am_call d 171 [.ref v0, .int v1, .int v2] M = am_run d 171 bq_171_0 [some (.ref v0), some (.int v1), some (.int v2), none] [] M := by unfold am_call; rw [bk_171_0]; rfl
theorem mx_171 : am_mx 171 = 4 := rfl
theorem tt_172 : am_tab 172 = tb_172 := rfl
theorem bk_172_0 : am_B 172 0 = bq_172_0 := by unfold am_B; rw [tt_172]; rfl
theorem en_172 {d : Nat} {v0 : Nat} {v1 : Nat} {M : am_M} : am_call d 172 [.ref v0, .ref v1] M = am_run d 172 bq_172_0 [some (.ref v0), some (.ref v1)] [] M := by unfold am_call; rw [bk_172_0]; rfl
theorem mx_172 : am_mx 172 = 2 := rfl
theorem tt_173 : am_tab 173 = tb_173 := rfl
theorem bk_173_0 : am_B 173 0 = bq_173_0 := by unfold am_B; rw [tt_173]; rfl
theorem bk_173_5 : am_B 173 5 = bq_173_5 := by unfold am_B; rw [tt_173]; rfl
theorem bk_173_61 : am_B 173 61 = bq_173_61 := by unfold am_B; rw [tt_173]; rfl
theorem bk_173_67 : am_B 173 67 = bq_173_67 := by unfold am_B; rw [tt_173]; rfl
theorem bk_173_70 : am_B 173 70 = bq_173_70 := by unfold am_B; rw [tt_173]; rfl
theorem bk_173_93 : am_B 173 93 = bq_173_93 := by unfold am_B; rw [tt_173]; rfl
theorem en_173 {d : Nat} {v0 : Nat} {v1 : Nat} {v2 : Nat} {M : am_M} : am_call d 173 [.ref v0, .ref v1, .ref v2] M = am_run d 173 bq_173_0 [some (.ref v0), some (.ref v1), some (.ref v2), none, none, none] [] M := by unfold am_call; rw [bk_173_0]; rfl
theorem mx_173 : am_mx 173 = 6 := rfl
theorem tt_174 : am_tab 174 = tb_174 := rfl
theorem bk_174_0 : am_B 174 0 = bq_174_0 := by unfold am_B; rw [tt_174]; rfl
theorem bk_174_4 : am_B 174 4 = bq_174_4 := by unfold am_B; rw [tt_174]; rfl
theorem bk_174_29 : am_B 174 29 = bq_174_29 := by unfold am_B; rw [tt_174]; rfl
theorem en_174 {d : Nat} {v0 : Nat} {v1 : Int32} {M : am_M} : am_call d 174 [.ref v0, .int v1] M = am_run d 174 bq_174_0 [some (.ref v0), some (.int v1), none, none] [] M := by unfold am_call; rw [bk_174_0]; rfl
theorem mx_174 : am_mx 174 = 4 := rfl
theorem tt_175 : am_tab 175 = tb_175 := rfl
theorem bk_175_0 : am_B 175 0 = bq_175_0 := by unfold am_B; rw [tt_175]; rfl
theorem bk_175_2 : am_B 175 2 = bq_175_2 := by unfold am_B; rw [tt_175]; rfl
theorem bk_175_29 : am_B 175 29 = bq_175_29 := by unfold am_B; rw [tt_175]; rfl
theorem en_175 {d : Nat} {v0 : Nat} {M : am_M} : am_call d 175 [.ref v0] M = am_run d 175 bq_175_0 [some (.ref v0), none] [] M := by unfold am_call; rw [bk_175_0]; rfl
theorem mx_175 : am_mx 175 = 2 := rfl
theorem tt_176 : am_tab 176 = tb_176 := rfl
theorem bk_176_0 : am_B 176 0 = bq_176_0 := by unfold am_B; rw [tt_176]; rfl
theorem bk_176_2 : am_B 176 2 = bq_176_2 := by unfold am_B; rw [tt_176]; rfl
theorem bk_176_37 : am_B 176 37 = bq_176_37 := by unfold am_B; rw [tt_176]; rfl
theorem bk_176_62 : am_B 176 62 = bq_176_62 := by unfold am_B; rw [tt_176]; rfl
theorem bk_176_68 : am_B 176 68 = bq_176_68 := by unfold am_B; rw [tt_176]; rfl
theorem en_176 {d : Nat} {v0 : Nat} {M : am_M} : am_call d 176 [.ref v0] M = am_run d 176 bq_176_0 [some (.ref v0), none] [] M := by unfold am_call; rw [bk_176_0]; rfl
theorem mx_176 : am_mx 176 = 2 := rfl
theorem tt_177 : am_tab 177 = tb_177 := rfl
theorem bk_177_0 : am_B 177 0 = bq_177_0 := by unfold am_B; rw [tt_177]; rfl
theorem bk_177_2 : am_B 177 2 = bq_177_2 := by unfold am_B; rw [tt_177]; rfl
theorem bk_177_29 : am_B 177 29 = bq_177_29 := by unfold am_B; rw [tt_177]; rfl
theorem en_177 {d : Nat} {v0 : Nat} {M : am_M} : am_call d 177 [.ref v0] M = am_run d 177 bq_177_0 [some (.ref v0), none] [] M := by unfold am_call; rw [bk_177_0]; rfl
theorem mx_177 : am_mx 177 = 2 := rfl
theorem tt_178 : am_tab 178 = tb_178 := rfl
theorem bk_178_0 : am_B 178 0 = bq_178_0 := by unfold am_B; rw [tt_178]; rfl
theorem bk_178_6 : am_B 178 6 = bq_178_6 := by unfold am_B; rw [tt_178]; rfl
theorem bk_178_37 : am_B 178 37 = bq_178_37 := by unfold am_B; rw [tt_178]; rfl
theorem bk_178_120 : am_B 178 120 = bq_178_120 := by unfold am_B; rw [tt_178]; rfl
theorem bk_178_137 : am_B 178 137 = bq_178_137 := by unfold am_B; rw [tt_178]; rfl
theorem bk_178_143 : am_B 178 143 = bq_178_143 := by unfold am_B; rw [tt_178]; rfl
theorem en_178 {d : Nat} {v0 : Nat} {v1 : Nat} {v2 : Nat} {v3 : Int32} {v4 : Int32} {M : am_M} : am_call d 178 [.ref v0, .ref v1, .ref v2, .int v3, .int v4] M = am_run d 178 bq_178_0 [some (.ref v0), some (.ref v1), some (.ref v2), some (.int v3), some (.int v4), none, none, none, none, none] [] M := by unfold am_call; rw [bk_178_0]; rfl
theorem mx_178 : am_mx 178 = 10 := rfl
theorem tt_179 : am_tab 179 = tb_179 := rfl
theorem bk_179_0 : am_B 179 0 = bq_179_0 := by unfold am_B; rw [tt_179]; rfl
theorem en_179 {d : Nat} {v0 : Nat} {v1 : Int32} {v2 : Int32} {M : am_M} : am_call d 179 [.ref v0, .int v1, .int v2] M = am_run d 179 bq_179_0 [some (.ref v0), some (.int v1), some (.int v2)] [] M := by unfold am_call; rw [bk_179_0]; rfl
theorem mx_179 : am_mx 179 = 3 := rfl
theorem tt_180 : am_tab 180 = tb_180 := rfl
theorem bk_180_0 : am_B 180 0 = bq_180_0 := by unfold am_B; rw [tt_180]; rfl
theorem bk_180_7 : am_B 180 7 = bq_180_7 := by unfold am_B; rw [tt_180]; rfl
theorem bk_180_24 : am_B 180 24 = bq_180_24 := by unfold am_B; rw [tt_180]; rfl
theorem bk_180_79 : am_B 180 79 = bq_180_79 := by unfold am_B; rw [tt_180]; rfl
theorem bk_180_85 : am_B 180 85 = bq_180_85 := by unfold am_B; rw [tt_180]; rfl
theorem en_180 {d : Nat} {v0 : Nat} {v1 : Int32} {M : am_M} : am_call d 180 [.ref v0, .int v1] M = am_run d 180 bq_180_0 [some (.ref v0), some (.int v1), none, none, none, none] [] M := by unfold am_call; rw [bk_180_0]; rfl
theorem mx_180 : am_mx 180 = 6 := rfl
theorem tt_181 : am_tab 181 = tb_181 := rfl
theorem bk_181_0 : am_B 181 0 = bq_181_0 := by unfold am_B; rw [tt_181]; rfl
theorem bk_181_9 : am_B 181 9 = bq_181_9 := by unfold am_B; rw [tt_181]; rfl
theorem bk_181_16 : am_B 181 16 = bq_181_16 := by unfold am_B; rw [tt_181]; rfl
theorem bk_181_45 : am_B 181 45 = bq_181_45 := by unfold am_B; rw [tt_181]; rfl
theorem bk_181_51 : am_B 181 51 = bq_181_51 := by unfold am_B; rw [tt_181]; rfl
theorem bk_181_64 : am_B 181 64 = bq_181_64 := by unfold am_B; rw [tt_181]; rfl
theorem bk_181_72 : am_B 181 72 = bq_181_72 := by unfold am_B; rw [tt_181]; rfl
theorem bk_181_73 : am_B 181 73 = bq_181_73 := by unfold am_B; rw [tt_181]; rfl
theorem bk_181_81 : am_B 181 81 = bq_181_81 := by unfold am_B; rw [tt_181]; rfl
theorem bk_181_112 : am_B 181 112 = bq_181_112 := by unfold am_B; rw [tt_181]; rfl
theorem bk_181_140 : am_B 181 140 = bq_181_140 := by unfold am_B; rw [tt_181]; rfl
theorem bk_181_153 : am_B 181 153 = bq_181_153 := by unfold am_B; rw [tt_181]; rfl
theorem en_181 {d : Nat} {v0 : Nat} {M : am_M} : am_call d 181 [.ref v0] M = am_run d 181 bq_181_0 [some (.ref v0), none, none, none] [] M := by unfold am_call; rw [bk_181_0]; rfl
theorem mx_181 : am_mx 181 = 4 := rfl
theorem tt_182 : am_tab 182 = tb_182 := rfl
theorem bk_182_0 : am_B 182 0 = bq_182_0 := by unfold am_B; rw [tt_182]; rfl
theorem bk_182_7 : am_B 182 7 = bq_182_7 := by unfold am_B; rw [tt_182]; rfl
theorem bk_182_37 : am_B 182 37 = bq_182_37 := by unfold am_B; rw [tt_182]; rfl
theorem bk_182_42 : am_B 182 42 = bq_182_42 := by unfold am_B; rw [tt_182]; rfl
theorem bk_182_49 : am_B 182 49 = bq_182_49 := by unfold am_B; rw [tt_182]; rfl
theorem en_182 {d : Nat} {v0 : Nat} {v1 : Int32} {M : am_M} : am_call d 182 [.ref v0, .int v1] M = am_run d 182 bq_182_0 [some (.ref v0), some (.int v1), none, none, none] [] M := by unfold am_call; rw [bk_182_0]; rfl
theorem mx_182 : am_mx 182 = 5 := rfl
theorem tt_183 : am_tab 183 = tb_183 := rfl
theorem bk_183_0 : am_B 183 0 = bq_183_0 := by unfold am_B; rw [tt_183]; rfl
theorem en_183 {d : Nat} {v0 : Nat} {M : am_M} : am_call d 183 [.ref v0] M = am_run d 183 bq_183_0 [some (.ref v0)] [] M := by unfold am_call; rw [bk_183_0]; rfl
theorem mx_183 : am_mx 183 = 1 := rfl
theorem tt_184 : am_tab 184 = tb_184 := rfl
theorem bk_184_0 : am_B 184 0 = bq_184_0 := by unfold am_B; rw [tt_184]; rfl
theorem bk_184_4 : am_B 184 4 = bq_184_4 := by unfold am_B; rw [tt_184]; rfl
theorem bk_184_31 : am_B 184 31 = bq_184_31 := by unfold am_B; rw [tt_184]; rfl
theorem en_184 {d : Nat} {v0 : Nat} {v1 : Int32} {M : am_M} : am_call d 184 [.ref v0, .int v1] M = am_run d 184 bq_184_0 [some (.ref v0), some (.int v1), none, none] [] M := by unfold am_call; rw [bk_184_0]; rfl
theorem mx_184 : am_mx 184 = 4 := rfl
theorem tt_185 : am_tab 185 = tb_185 := rfl
theorem bk_185_0 : am_B 185 0 = bq_185_0 := by unfold am_B; rw [tt_185]; rfl
theorem bk_185_4 : am_B 185 4 = bq_185_4 := by unfold am_B; rw [tt_185]; rfl
theorem bk_185_13 : am_B 185 13 = bq_185_13 := by unfold am_B; rw [tt_185]; rfl
theorem bk_185_40 : am_B 185 40 = bq_185_40 := by unfold am_B; rw [tt_185]; rfl
theorem bk_185_46 : am_B 185 46 = bq_185_46 := by unfold am_B; rw [tt_185]; rfl
theorem bk_185_52 : am_B 185 52 = bq_185_52 := by unfold am_B; rw [tt_185]; rfl
theorem en_185 {d : Nat} {v0 : Nat} {v1 : Int32} {M : am_M} : am_call d 185 [.ref v0, .int v1] M = am_run d 185 bq_185_0 [some (.ref v0), some (.int v1), none, none, none] [] M := by unfold am_call; rw [bk_185_0]; rfl
theorem mx_185 : am_mx 185 = 5 := rfl
theorem tt_186 : am_tab 186 = tb_186 := rfl
theorem bk_186_0 : am_B 186 0 = bq_186_0 := by unfold am_B; rw [tt_186]; rfl
theorem bk_186_5 : am_B 186 5 = bq_186_5 := by unfold am_B; rw [tt_186]; rfl
theorem bk_186_37 : am_B 186 37 = bq_186_37 := by unfold am_B; rw [tt_186]; rfl
theorem bk_186_43 : am_B 186 43 = bq_186_43 := by unfold am_B; rw [tt_186]; rfl
theorem en_186 {d : Nat} {v0 : Nat} {v1 : Int32} {v2 : Int32} {M : am_M} : am_call d 186 [.ref v0, .int v1, .int v2] M = am_run d 186 bq_186_0 [some (.ref v0), some (.int v1), some (.int v2), none, none] [] M := by unfold am_call; rw [bk_186_0]; rfl
theorem mx_186 : am_mx 186 = 5 := rfl
theorem tt_187 : am_tab 187 = tb_187 := rfl
theorem bk_187_0 : am_B 187 0 = bq_187_0 := by unfold am_B; rw [tt_187]; rfl
theorem bk_187_5 : am_B 187 5 = bq_187_5 := by unfold am_B; rw [tt_187]; rfl
theorem bk_187_37 : am_B 187 37 = bq_187_37 := by unfold am_B; rw [tt_187]; rfl
theorem bk_187_38 : am_B 187 38 = bq_187_38 := by unfold am_B; rw [tt_187]; rfl
theorem bk_187_46 : am_B 187 46 = bq_187_46 := by unfold am_B; rw [tt_187]; rfl
theorem en_187 {d : Nat} {v0 : Nat} {v1 : Int32} {v2 : Int32} {M : am_M} : am_call d 187 [.ref v0, .int v1, .int v2] M = am_run d 187 bq_187_0 [some (.ref v0), some (.int v1), some (.int v2), none, none] [] M := by unfold am_call; rw [bk_187_0]; rfl
theorem mx_187 : am_mx 187 = 5 := rfl
theorem tt_188 : am_tab 188 = tb_188 := rfl
theorem bk_188_0 : am_B 188 0 = bq_188_0 := by unfold am_B; rw [tt_188]; rfl
theorem bk_188_11 : am_B 188 11 = bq_188_11 := by unfold am_B; rw [tt_188]; rfl
theorem bk_188_39 : am_B 188 39 = bq_188_39 := by unfold am_B; rw [tt_188]; rfl
theorem bk_188_40 : am_B 188 40 = bq_188_40 := by unfold am_B; rw [tt_188]; rfl
theorem bk_188_55 : am_B 188 55 = bq_188_55 := by unfold am_B; rw [tt_188]; rfl
theorem bk_188_61 : am_B 188 61 = bq_188_61 := by unfold am_B; rw [tt_188]; rfl
theorem en_188 {d : Nat} {v0 : Nat} {v1 : Int32} {v2 : Int32} {M : am_M} : am_call d 188 [.ref v0, .int v1, .int v2] M = am_run d 188 bq_188_0 [some (.ref v0), some (.int v1), some (.int v2), none, none, none, none] [] M := by unfold am_call; rw [bk_188_0]; rfl
theorem mx_188 : am_mx 188 = 7 := rfl
theorem tt_189 : am_tab 189 = tb_189 := rfl
theorem bk_189_0 : am_B 189 0 = bq_189_0 := by unfold am_B; rw [tt_189]; rfl
theorem bk_189_2 : am_B 189 2 = bq_189_2 := by unfold am_B; rw [tt_189]; rfl
theorem bk_189_19 : am_B 189 19 = bq_189_19 := by unfold am_B; rw [tt_189]; rfl
theorem en_189 {d : Nat} {v0 : Nat} {M : am_M} : am_call d 189 [.ref v0] M = am_run d 189 bq_189_0 [some (.ref v0), none] [] M := by unfold am_call; rw [bk_189_0]; rfl
theorem mx_189 : am_mx 189 = 2 := rfl
theorem tt_190 : am_tab 190 = tb_190 := rfl
theorem bk_190_0 : am_B 190 0 = bq_190_0 := by unfold am_B; rw [tt_190]; rfl
theorem en_190 {d : Nat} {v0 : Nat} {M : am_M} : am_call d 190 [.ref v0] M = am_run d 190 bq_190_0 [some (.ref v0)] [] M := by unfold am_call; rw [bk_190_0]; rfl
theorem mx_190 : am_mx 190 = 1 := rfl
theorem tt_191 : am_tab 191 = tb_191 := rfl
theorem bk_191_0 : am_B 191 0 = bq_191_0 := by unfold am_B; rw [tt_191]; rfl
theorem bk_191_14 : am_B 191 14 = bq_191_14 := by unfold am_B; rw [tt_191]; rfl
theorem en_191 {d : Nat} {v0 : Nat} {v1 : Int32} {v2 : Int32} {v3 : Int32} {M : am_M} : am_call d 191 [.ref v0, .int v1, .int v2, .int v3] M = am_run d 191 bq_191_0 [some (.ref v0), some (.int v1), some (.int v2), some (.int v3)] [] M := by unfold am_call; rw [bk_191_0]; rfl
theorem mx_191 : am_mx 191 = 4 := rfl
theorem tt_192 : am_tab 192 = tb_192 := rfl
theorem bk_192_0 : am_B 192 0 = bq_192_0 := by unfold am_B; rw [tt_192]; rfl
theorem bk_192_2 : am_B 192 2 = bq_192_2 := by unfold am_B; rw [tt_192]; rfl
theorem bk_192_56 : am_B 192 56 = bq_192_56 := by unfold am_B; rw [tt_192]; rfl
theorem bk_192_62 : am_B 192 62 = bq_192_62 := by unfold am_B; rw [tt_192]; rfl
theorem en_192 {d : Nat} {v0 : Nat} {v1 : Int32} {M : am_M} : am_call d 192 [.ref v0, .int v1] M = am_run d 192 bq_192_0 [some (.ref v0), some (.int v1), none] [] M := by unfold am_call; rw [bk_192_0]; rfl
theorem mx_192 : am_mx 192 = 3 := rfl
theorem tt_193 : am_tab 193 = tb_193 := rfl
theorem bk_193_0 : am_B 193 0 = bq_193_0 := by unfold am_B; rw [tt_193]; rfl
theorem bk_193_4 : am_B 193 4 = bq_193_4 := by unfold am_B; rw [tt_193]; rfl
theorem bk_193_25 : am_B 193 25 = bq_193_25 := by unfold am_B; rw [tt_193]; rfl
theorem bk_193_26 : am_B 193 26 = bq_193_26 := by unfold am_B; rw [tt_193]; rfl
theorem bk_193_34 : am_B 193 34 = bq_193_34 := by unfold am_B; rw [tt_193]; rfl
theorem en_193 {d : Nat} {v0 : Nat} {M : am_M} : am_call d 193 [.ref v0] M = am_run d 193 bq_193_0 [some (.ref v0), none, none] [] M := by unfold am_call; rw [bk_193_0]; rfl
theorem mx_193 : am_mx 193 = 3 := rfl
theorem tt_194 : am_tab 194 = tb_194 := rfl
theorem bk_194_0 : am_B 194 0 = bq_194_0 := by unfold am_B; rw [tt_194]; rfl
theorem en_194 {d : Nat} {v0 : Int32} {M : am_M} : am_call d 194 [.int v0] M = am_run d 194 bq_194_0 [some (.int v0)] [] M := by unfold am_call; rw [bk_194_0]; rfl
theorem mx_194 : am_mx 194 = 1 := rfl
theorem tt_195 : am_tab 195 = tb_195 := rfl
theorem bk_195_0 : am_B 195 0 = bq_195_0 := by unfold am_B; rw [tt_195]; rfl
theorem bk_195_5 : am_B 195 5 = bq_195_5 := by unfold am_B; rw [tt_195]; rfl
theorem bk_195_18 : am_B 195 18 = bq_195_18 := by unfold am_B; rw [tt_195]; rfl
theorem bk_195_56 : am_B 195 56 = bq_195_56 := by unfold am_B; rw [tt_195]; rfl
theorem bk_195_62 : am_B 195 62 = bq_195_62 := by unfold am_B; rw [tt_195]; rfl
theorem bk_195_75 : am_B 195 75 = bq_195_75 := by unfold am_B; rw [tt_195]; rfl
theorem en_195 {d : Nat} {v0 : Nat} {v1 : Int32} {v2 : Int32} {M : am_M} : am_call d 195 [.ref v0, .int v1, .int v2] M = am_run d 195 bq_195_0 [some (.ref v0), some (.int v1), some (.int v2), none, none, none, none] [] M := by unfold am_call; rw [bk_195_0]; rfl
theorem mx_195 : am_mx 195 = 7 := rfl
theorem tt_196 : am_tab 196 = tb_196 := rfl
theorem bk_196_0 : am_B 196 0 = bq_196_0 := by unfold am_B; rw [tt_196]; rfl
theorem bk_196_4 : am_B 196 4 = bq_196_4 := by unfold am_B; rw [tt_196]; rfl
theorem bk_196_20 : am_B 196 20 = bq_196_20 := by unfold am_B; rw [tt_196]; rfl
theorem en_196 {d : Nat} {v0 : Int32} {M : am_M} : am_call d 196 [.int v0] M = am_run d 196 bq_196_0 [some (.int v0), none, none] [] M := by unfold am_call; rw [bk_196_0]; rfl
theorem mx_196 : am_mx 196 = 3 := rfl
theorem tt_197 : am_tab 197 = tb_197 := rfl
theorem bk_197_0 : am_B 197 0 = bq_197_0 := by unfold am_B; rw [tt_197]; rfl
theorem bk_197_4 : am_B 197 4 = bq_197_4 := by unfold am_B; rw [tt_197]; rfl
theorem bk_197_16 : am_B 197 16 = bq_197_16 := by unfold am_B; rw [tt_197]; rfl
theorem bk_197_49 : am_B 197 49 = bq_197_49 := by unfold am_B; rw [tt_197]; rfl
theorem bk_197_50 : am_B 197 50 = bq_197_50 := by unfold am_B; rw [tt_197]; rfl
theorem bk_197_59 : am_B 197 59 = bq_197_59 := by unfold am_B; rw [tt_197]; rfl
theorem bk_197_70 : am_B 197 70 = bq_197_70 := by unfold am_B; rw [tt_197]; rfl
theorem bk_197_71 : am_B 197 71 = bq_197_71 := by unfold am_B; rw [tt_197]; rfl
theorem bk_197_78 : am_B 197 78 = bq_197_78 := by unfold am_B; rw [tt_197]; rfl
theorem en_197 {d : Nat} {v0 : Nat} {v1 : Int32} {M : am_M} : am_call d 197 [.ref v0, .int v1] M = am_run d 197 bq_197_0 [some (.ref v0), some (.int v1), none, none, none, none] [] M := by unfold am_call; rw [bk_197_0]; rfl
theorem mx_197 : am_mx 197 = 6 := rfl
theorem tt_198 : am_tab 198 = tb_198 := rfl
theorem bk_198_0 : am_B 198 0 = bq_198_0 := by unfold am_B; rw [tt_198]; rfl
theorem bk_198_4 : am_B 198 4 = bq_198_4 := by unfold am_B; rw [tt_198]; rfl
theorem bk_198_27 : am_B 198 27 = bq_198_27 := by unfold am_B; rw [tt_198]; rfl
theorem bk_198_33 : am_B 198 33 = bq_198_33 := by unfold am_B; rw [tt_198]; rfl
theorem en_198 {d : Nat} {v0 : Nat} {v1 : Int32} {M : am_M} : am_call d 198 [.ref v0, .int v1] M = am_run d 198 bq_198_0 [some (.ref v0), some (.int v1), none, none] [] M := by unfold am_call; rw [bk_198_0]; rfl
theorem mx_198 : am_mx 198 = 4 := rfl
theorem tt_199 : am_tab 199 = tb_199 := rfl
theorem bk_199_0 : am_B 199 0 = bq_199_0 := by unfold am_B; rw [tt_199]; rfl
theorem bk_199_4 : am_B 199 4 = bq_199_4 := by unfold am_B; rw [tt_199]; rfl
theorem bk_199_29 : am_B 199 29 = bq_199_29 := by unfold am_B; rw [tt_199]; rfl
theorem bk_199_35 : am_B 199 35 = bq_199_35 := by unfold am_B; rw [tt_199]; rfl
theorem en_199 {d : Nat} {v0 : Nat} {v1 : Int32} {M : am_M} : am_call d 199 [.ref v0, .int v1] M = am_run d 199 bq_199_0 [some (.ref v0), some (.int v1), none, none, none] [] M := by unfold am_call; rw [bk_199_0]; rfl
theorem mx_199 : am_mx 199 = 5 := rfl
theorem tt_200 : am_tab 200 = tb_200 := rfl
theorem bk_200_0 : am_B 200 0 = bq_200_0 := by unfold am_B; rw [tt_200]; rfl
theorem bk_200_13 : am_B 200 13 = bq_200_13 := by unfold am_B; rw [tt_200]; rfl
theorem bk_200_14 : am_B 200 14 = bq_200_14 := by unfold am_B; rw [tt_200]; rfl
theorem en_200 {d : Nat} {v0 : Int32} {v1 : Int32} {M : am_M} : am_call d 200 [.int v0, .int v1] M = am_run d 200 bq_200_0 [some (.int v0), some (.int v1)] [] M := by unfold am_call; rw [bk_200_0]; rfl
theorem mx_200 : am_mx 200 = 2 := rfl
theorem tt_201 : am_tab 201 = tb_201 := rfl
theorem bk_201_0 : am_B 201 0 = bq_201_0 := by unfold am_B; rw [tt_201]; rfl
theorem bk_201_4 : am_B 201 4 = bq_201_4 := by unfold am_B; rw [tt_201]; rfl
theorem bk_201_52 : am_B 201 52 = bq_201_52 := by unfold am_B; rw [tt_201]; rfl
theorem bk_201_58 : am_B 201 58 = bq_201_58 := by unfold am_B; rw [tt_201]; rfl
theorem en_201 {d : Nat} {v0 : Nat} {v1 : Int32} {M : am_M} : am_call d 201 [.ref v0, .int v1] M = am_run d 201 bq_201_0 [some (.ref v0), some (.int v1), none, none] [] M := by unfold am_call; rw [bk_201_0]; rfl
theorem mx_201 : am_mx 201 = 4 := rfl
theorem tt_202 : am_tab 202 = tb_202 := rfl
theorem bk_202_0 : am_B 202 0 = bq_202_0 := by unfold am_B; rw [tt_202]; rfl
theorem bk_202_5 : am_B 202 5 = bq_202_5 := by unfold am_B; rw [tt_202]; rfl
theorem bk_202_46 : am_B 202 46 = bq_202_46 := by unfold am_B; rw [tt_202]; rfl
theorem bk_202_47 : am_B 202 47 = bq_202_47 := by unfold am_B; rw [tt_202]; rfl
theorem bk_202_55 : am_B 202 55 = bq_202_55 := by unfold am_B; rw [tt_202]; rfl
theorem en_202 {d : Nat} {v0 : Nat} {v1 : Int32} {M : am_M} : am_call d 202 [.ref v0, .int v1] M = am_run d 202 bq_202_0 [some (.ref v0), some (.int v1), none, none] [] M := by unfold am_call; rw [bk_202_0]; rfl
theorem mx_202 : am_mx 202 = 4 := rfl
theorem tt_203 : am_tab 203 = tb_203 := rfl
theorem bk_203_0 : am_B 203 0 = bq_203_0 := by unfold am_B; rw [tt_203]; rfl
theorem bk_203_14 : am_B 203 14 = bq_203_14 := by unfold am_B; rw [tt_203]; rfl
theorem bk_203_15 : am_B 203 15 = bq_203_15 := by unfold am_B; rw [tt_203]; rfl
theorem en_203 {d : Nat} {v0 : Int32} {M : am_M} : am_call d 203 [.int v0] M = am_run d 203 bq_203_0 [some (.int v0)] [] M := by unfold am_call; rw [bk_203_0]; rfl
theorem mx_203 : am_mx 203 = 1 := rfl
theorem tt_204 : am_tab 204 = tb_204 := rfl
theorem bk_204_0 : am_B 204 0 = bq_204_0 := by unfold am_B; rw [tt_204]; rfl
theorem en_204 {d : Nat} {v0 : Int32} {M : am_M} : am_call d 204 [.int v0] M = am_run d 204 bq_204_0 [some (.int v0)] [] M := by unfold am_call; rw [bk_204_0]; rfl
theorem mx_204 : am_mx 204 = 1 := rfl
theorem tt_205 : am_tab 205 = tb_205 := rfl
theorem bk_205_0 : am_B 205 0 = bq_205_0 := by unfold am_B; rw [tt_205]; rfl
theorem bk_205_5 : am_B 205 5 = bq_205_5 := by unfold am_B; rw [tt_205]; rfl
theorem bk_205_28 : am_B 205 28 = bq_205_28 := by unfold am_B; rw [tt_205]; rfl
theorem en_205 {d : Nat} {v0 : Nat} {v1 : Int32} {v2 : Int32} {M : am_M} : am_call d 205 [.ref v0, .int v1, .int v2] M = am_run d 205 bq_205_0 [some (.ref v0), some (.int v1), some (.int v2), none, none] [] M := by unfold am_call; rw [bk_205_0]; rfl
theorem mx_205 : am_mx 205 = 5 := rfl
theorem tt_206 : am_tab 206 = tb_206 := rfl
theorem bk_206_0 : am_B 206 0 = bq_206_0 := by unfold am_B; rw [tt_206]; rfl
theorem bk_206_5 : am_B 206 5 = bq_206_5 := by unfold am_B; rw [tt_206]; rfl
theorem bk_206_19 : am_B 206 19 = bq_206_19 := by unfold am_B; rw [tt_206]; rfl
theorem bk_206_35 : am_B 206 35 = bq_206_35 := by unfold am_B; rw [tt_206]; rfl
theorem en_206 {d : Nat} {v0 : Nat} {v1 : Int32} {v2 : Int32} {M : am_M} : am_call d 206 [.ref v0, .int v1, .int v2] M = am_run d 206 bq_206_0 [some (.ref v0), some (.int v1), some (.int v2), none, none] [] M := by unfold am_call; rw [bk_206_0]; rfl
theorem mx_206 : am_mx 206 = 5 := rfl
theorem tt_207 : am_tab 207 = tb_207 := rfl
theorem bk_207_0 : am_B 207 0 = bq_207_0 := by unfold am_B; rw [tt_207]; rfl
theorem bk_207_16 : am_B 207 16 = bq_207_16 := by unfold am_B; rw [tt_207]; rfl
theorem bk_207_48 : am_B 207 48 = bq_207_48 := by unfold am_B; rw [tt_207]; rfl
theorem bk_207_49 : am_B 207 49 = bq_207_49 := by unfold am_B; rw [tt_207]; rfl
theorem bk_207_72 : am_B 207 72 = bq_207_72 := by unfold am_B; rw [tt_207]; rfl
theorem bk_207_79 : am_B 207 79 = bq_207_79 := by unfold am_B; rw [tt_207]; rfl
theorem bk_207_80 : am_B 207 80 = bq_207_80 := by unfold am_B; rw [tt_207]; rfl
theorem bk_207_86 : am_B 207 86 = bq_207_86 := by unfold am_B; rw [tt_207]; rfl
theorem en_207 {d : Nat} {v0 : Nat} {v1 : Int32} {v2 : Nat} {v3 : Nat} {M : am_M} : am_call d 207 [.ref v0, .int v1, .ref v2, .ref v3] M = am_run d 207 bq_207_0 [some (.ref v0), some (.int v1), some (.ref v2), some (.ref v3), none, none, none] [] M := by unfold am_call; rw [bk_207_0]; rfl
theorem mx_207 : am_mx 207 = 7 := rfl
theorem tt_208 : am_tab 208 = tb_208 := rfl
theorem bk_208_0 : am_B 208 0 = bq_208_0 := by unfold am_B; rw [tt_208]; rfl
theorem bk_208_9 : am_B 208 9 = bq_208_9 := by unfold am_B; rw [tt_208]; rfl
theorem bk_208_25 : am_B 208 25 = bq_208_25 := by unfold am_B; rw [tt_208]; rfl
theorem bk_208_42 : am_B 208 42 = bq_208_42 := by unfold am_B; rw [tt_208]; rfl
theorem bk_208_43 : am_B 208 43 = bq_208_43 := by unfold am_B; rw [tt_208]; rfl
theorem bk_208_50 : am_B 208 50 = bq_208_50 := by unfold am_B; rw [tt_208]; rfl
theorem bk_208_69 : am_B 208 69 = bq_208_69 := by unfold am_B; rw [tt_208]; rfl
theorem bk_208_99 : am_B 208 99 = bq_208_99 := by unfold am_B; rw [tt_208]; rfl
theorem bk_208_116 : am_B 208 116 = bq_208_116 := by unfold am_B; rw [tt_208]; rfl
theorem bk_208_134 : am_B 208 134 = bq_208_134 := by unfold am_B; rw [tt_208]; rfl
theorem bk_208_140 : am_B 208 140 = bq_208_140 := by unfold am_B; rw [tt_208]; rfl
theorem bk_208_146 : am_B 208 146 = bq_208_146 := by unfold am_B; rw [tt_208]; rfl
theorem en_208 {d : Nat} {v0 : Nat} {v1 : Int32} {M : am_M} : am_call d 208 [.ref v0, .int v1] M = am_run d 208 bq_208_0 [some (.ref v0), some (.int v1), none, none, none, none] [] M := by unfold am_call; rw [bk_208_0]; rfl
theorem mx_208 : am_mx 208 = 6 := rfl
theorem tt_209 : am_tab 209 = tb_209 := rfl
theorem bk_209_0 : am_B 209 0 = bq_209_0 := by unfold am_B; rw [tt_209]; rfl
theorem bk_209_2 : am_B 209 2 = bq_209_2 := by unfold am_B; rw [tt_209]; rfl
theorem bk_209_42 : am_B 209 42 = bq_209_42 := by unfold am_B; rw [tt_209]; rfl
theorem bk_209_48 : am_B 209 48 = bq_209_48 := by unfold am_B; rw [tt_209]; rfl
theorem en_209 {d : Nat} {v0 : Nat} {v1 : Int32} {v2 : Nat} {M : am_M} : am_call d 209 [.ref v0, .int v1, .ref v2] M = am_run d 209 bq_209_0 [some (.ref v0), some (.int v1), some (.ref v2), none] [] M := by unfold am_call; rw [bk_209_0]; rfl
theorem mx_209 : am_mx 209 = 4 := rfl
theorem tt_210 : am_tab 210 = tb_210 := rfl
theorem bk_210_0 : am_B 210 0 = bq_210_0 := by unfold am_B; rw [tt_210]; rfl
theorem bk_210_31 : am_B 210 31 = bq_210_31 := by unfold am_B; rw [tt_210]; rfl
theorem bk_210_46 : am_B 210 46 = bq_210_46 := by unfold am_B; rw [tt_210]; rfl
theorem en_210 {d : Nat} {v0 : Nat} {v1 : Int32} {v2 : Int32} {v3 : Int32} {M : am_M} : am_call d 210 [.ref v0, .int v1, .int v2, .int v3] M = am_run d 210 bq_210_0 [some (.ref v0), some (.int v1), some (.int v2), some (.int v3)] [] M := by unfold am_call; rw [bk_210_0]; rfl
theorem mx_210 : am_mx 210 = 4 := rfl
theorem tt_211 : am_tab 211 = tb_211 := rfl
theorem bk_211_0 : am_B 211 0 = bq_211_0 := by unfold am_B; rw [tt_211]; rfl
theorem bk_211_2 : am_B 211 2 = bq_211_2 := by unfold am_B; rw [tt_211]; rfl
theorem bk_211_77 : am_B 211 77 = bq_211_77 := by unfold am_B; rw [tt_211]; rfl
theorem bk_211_83 : am_B 211 83 = bq_211_83 := by unfold am_B; rw [tt_211]; rfl
theorem en_211 {d : Nat} {v0 : Nat} {v1 : Nat} {M : am_M} : am_call d 211 [.ref v0, .ref v1] M = am_run d 211 bq_211_0 [some (.ref v0), some (.ref v1), none, none] [] M := by unfold am_call; rw [bk_211_0]; rfl
theorem mx_211 : am_mx 211 = 4 := rfl
theorem tt_212 : am_tab 212 = tb_212 := rfl
theorem bk_212_0 : am_B 212 0 = bq_212_0 := by unfold am_B; rw [tt_212]; rfl
theorem bk_212_6 : am_B 212 6 = bq_212_6 := by unfold am_B; rw [tt_212]; rfl
theorem bk_212_33 : am_B 212 33 = bq_212_33 := by unfold am_B; rw [tt_212]; rfl
theorem bk_212_42 : am_B 212 42 = bq_212_42 := by unfold am_B; rw [tt_212]; rfl
theorem bk_212_51 : am_B 212 51 = bq_212_51 := by unfold am_B; rw [tt_212]; rfl
theorem en_212 {d : Nat} {v0 : Nat} {v1 : Int32} {v2 : Int32} {v3 : Int32} {M : am_M} : am_call d 212 [.ref v0, .int v1, .int v2, .int v3] M = am_run d 212 bq_212_0 [some (.ref v0), some (.int v1), some (.int v2), some (.int v3), none, none] [] M := by unfold am_call; rw [bk_212_0]; rfl
theorem mx_212 : am_mx 212 = 6 := rfl
theorem tt_213 : am_tab 213 = tb_213 := rfl
theorem bk_213_0 : am_B 213 0 = bq_213_0 := by unfold am_B; rw [tt_213]; rfl
theorem bk_213_4 : am_B 213 4 = bq_213_4 := by unfold am_B; rw [tt_213]; rfl
theorem bk_213_30 : am_B 213 30 = bq_213_30 := by unfold am_B; rw [tt_213]; rfl
theorem bk_213_36 : am_B 213 36 = bq_213_36 := by unfold am_B; rw [tt_213]; rfl
theorem en_213 {d : Nat} {v0 : Nat} {v1 : Int32} {M : am_M} : am_call d 213 [.ref v0, .int v1] M = am_run d 213 bq_213_0 [some (.ref v0), some (.int v1), none, none] [] M := by unfold am_call; rw [bk_213_0]; rfl
theorem mx_213 : am_mx 213 = 4 := rfl
theorem tt_214 : am_tab 214 = tb_214 := rfl
theorem bk_214_0 : am_B 214 0 = bq_214_0 := by unfold am_B; rw [tt_214]; rfl
theorem bk_214_4 : am_B 214 4 = bq_214_4 := by unfold am_B; rw [tt_214]; rfl
theorem bk_214_39 : am_B 214 39 = bq_214_39 := by unfold am_B; rw [tt_214]; rfl
theorem bk_214_40 : am_B 214 40 = bq_214_40 := by unfold am_B; rw [tt_214]; rfl
theorem bk_214_48 : am_B 214 48 = bq_214_48 := by unfold am_B; rw [tt_214]; rfl
theorem en_214 {d : Nat} {v0 : Nat} {v1 : Int32} {M : am_M} : am_call d 214 [.ref v0, .int v1] M = am_run d 214 bq_214_0 [some (.ref v0), some (.int v1), none, none] [] M := by unfold am_call; rw [bk_214_0]; rfl
theorem mx_214 : am_mx 214 = 4 := rfl
theorem tt_215 : am_tab 215 = tb_215 := rfl
theorem bk_215_0 : am_B 215 0 = bq_215_0 := by unfold am_B; rw [tt_215]; rfl
theorem bk_215_4 : am_B 215 4 = bq_215_4 := by unfold am_B; rw [tt_215]; rfl
theorem bk_215_29 : am_B 215 29 = bq_215_29 := by unfold am_B; rw [tt_215]; rfl
theorem bk_215_35 : am_B 215 35 = bq_215_35 := by unfold am_B; rw [tt_215]; rfl
theorem en_215 {d : Nat} {v0 : Nat} {v1 : Int32} {M : am_M} : am_call d 215 [.ref v0, .int v1] M = am_run d 215 bq_215_0 [some (.ref v0), some (.int v1), none, none] [] M := by unfold am_call; rw [bk_215_0]; rfl
theorem mx_215 : am_mx 215 = 4 := rfl
theorem tt_216 : am_tab 216 = tb_216 := rfl
theorem bk_216_0 : am_B 216 0 = bq_216_0 := by unfold am_B; rw [tt_216]; rfl
theorem bk_216_13 : am_B 216 13 = bq_216_13 := by unfold am_B; rw [tt_216]; rfl
theorem bk_216_40 : am_B 216 40 = bq_216_40 := by unfold am_B; rw [tt_216]; rfl
theorem en_216 {d : Nat} {v0 : Nat} {v1 : Nat} {M : am_M} : am_call d 216 [.ref v0, .ref v1] M = am_run d 216 bq_216_0 [some (.ref v0), some (.ref v1), none] [] M := by unfold am_call; rw [bk_216_0]; rfl
theorem mx_216 : am_mx 216 = 3 := rfl
theorem tt_217 : am_tab 217 = tb_217 := rfl
theorem bk_217_0 : am_B 217 0 = bq_217_0 := by unfold am_B; rw [tt_217]; rfl
theorem en_217 {d : Nat} {v0 : Nat} {M : am_M} : am_call d 217 [.ref v0] M = am_run d 217 bq_217_0 [some (.ref v0)] [] M := by unfold am_call; rw [bk_217_0]; rfl
theorem mx_217 : am_mx 217 = 1 := rfl
theorem tt_218 : am_tab 218 = tb_218 := rfl
theorem bk_218_0 : am_B 218 0 = bq_218_0 := by unfold am_B; rw [tt_218]; rfl
theorem en_218 {d : Nat} {v0 : Nat} {v1 : Int32} {M : am_M} : am_call d 218 [.ref v0, .int v1] M = am_run d 218 bq_218_0 [some (.ref v0), some (.int v1)] [] M := by unfold am_call; rw [bk_218_0]; rfl
theorem mx_218 : am_mx 218 = 2 := rfl
theorem tt_219 : am_tab 219 = tb_219 := rfl
theorem bk_219_0 : am_B 219 0 = bq_219_0 := by unfold am_B; rw [tt_219]; rfl
theorem en_219 {d : Nat} {v0 : Nat} {v1 : Nat} {M : am_M} : am_call d 219 [.ref v0, .ref v1] M = am_run d 219 bq_219_0 [some (.ref v0), some (.ref v1)] [] M := by unfold am_call; rw [bk_219_0]; rfl
theorem mx_219 : am_mx 219 = 2 := rfl
theorem tt_220 : am_tab 220 = tb_220 := rfl
theorem bk_220_0 : am_B 220 0 = bq_220_0 := by unfold am_B; rw [tt_220]; rfl
theorem en_220 {d : Nat} {v0 : Nat} {M : am_M} : am_call d 220 [.ref v0] M = am_run d 220 bq_220_0 [some (.ref v0)] [] M := by unfold am_call; rw [bk_220_0]; rfl
theorem mx_220 : am_mx 220 = 1 := rfl
theorem tt_221 : am_tab 221 = tb_221 := rfl
theorem bk_221_0 : am_B 221 0 = bq_221_0 := by unfold am_B; rw [tt_221]; rfl
theorem bk_221_9 : am_B 221 9 = bq_221_9 := by unfold am_B; rw [tt_221]; rfl
theorem bk_221_40 : am_B 221 40 = bq_221_40 := by unfold am_B; rw [tt_221]; rfl
theorem bk_221_41 : am_B 221 41 = bq_221_41 := by unfold am_B; rw [tt_221]; rfl
theorem bk_221_48 : am_B 221 48 = bq_221_48 := by unfold am_B; rw [tt_221]; rfl
theorem en_221 {d : Nat} {v0 : Nat} {M : am_M} : am_call d 221 [.ref v0] M = am_run d 221 bq_221_0 [some (.ref v0), none, none] [] M := by unfold am_call; rw [bk_221_0]; rfl
theorem mx_221 : am_mx 221 = 3 := rfl
theorem tt_222 : am_tab 222 = tb_222 := rfl
theorem bk_222_0 : am_B 222 0 = bq_222_0 := by unfold am_B; rw [tt_222]; rfl
theorem bk_222_20 : am_B 222 20 = bq_222_20 := by unfold am_B; rw [tt_222]; rfl
theorem bk_222_40 : am_B 222 40 = bq_222_40 := by unfold am_B; rw [tt_222]; rfl
theorem bk_222_62 : am_B 222 62 = bq_222_62 := by unfold am_B; rw [tt_222]; rfl
theorem bk_222_71 : am_B 222 71 = bq_222_71 := by unfold am_B; rw [tt_222]; rfl
theorem bk_222_79 : am_B 222 79 = bq_222_79 := by unfold am_B; rw [tt_222]; rfl
theorem bk_222_84 : am_B 222 84 = bq_222_84 := by unfold am_B; rw [tt_222]; rfl
theorem en_222 {d : Nat} {v0 : Nat} {M : am_M} : am_call d 222 [.ref v0] M = am_run d 222 bq_222_0 [some (.ref v0), none] [] M := by unfold am_call; rw [bk_222_0]; rfl
theorem mx_222 : am_mx 222 = 2 := rfl
theorem tt_223 : am_tab 223 = tb_223 := rfl
theorem bk_223_0 : am_B 223 0 = bq_223_0 := by unfold am_B; rw [tt_223]; rfl
theorem bk_223_26 : am_B 223 26 = bq_223_26 := by unfold am_B; rw [tt_223]; rfl
theorem bk_223_39 : am_B 223 39 = bq_223_39 := by unfold am_B; rw [tt_223]; rfl
theorem bk_223_68 : am_B 223 68 = bq_223_68 := by unfold am_B; rw [tt_223]; rfl
theorem bk_223_85 : am_B 223 85 = bq_223_85 := by unfold am_B; rw [tt_223]; rfl
theorem bk_223_116 : am_B 223 116 = bq_223_116 := by unfold am_B; rw [tt_223]; rfl
theorem bk_223_135 : am_B 223 135 = bq_223_135 := by unfold am_B; rw [tt_223]; rfl
theorem bk_223_151 : am_B 223 151 = bq_223_151 := by unfold am_B; rw [tt_223]; rfl
theorem bk_223_168 : am_B 223 168 = bq_223_168 := by unfold am_B; rw [tt_223]; rfl
theorem bk_223_201 : am_B 223 201 = bq_223_201 := by unfold am_B; rw [tt_223]; rfl
theorem bk_223_218 : am_B 223 218 = bq_223_218 := by unfold am_B; rw [tt_223]; rfl
theorem bk_223_234 : am_B 223 234 = bq_223_234 := by unfold am_B; rw [tt_223]; rfl
theorem bk_223_246 : am_B 223 246 = bq_223_246 := by unfold am_B; rw [tt_223]; rfl
theorem bk_223_247 : am_B 223 247 = bq_223_247 := by unfold am_B; rw [tt_223]; rfl
theorem bk_223_272 : am_B 223 272 = bq_223_272 := by unfold am_B; rw [tt_223]; rfl
theorem bk_223_296 : am_B 223 296 = bq_223_296 := by unfold am_B; rw [tt_223]; rfl
theorem bk_223_297 : am_B 223 297 = bq_223_297 := by unfold am_B; rw [tt_223]; rfl
theorem bk_223_310 : am_B 223 310 = bq_223_310 := by unfold am_B; rw [tt_223]; rfl
theorem en_223 {d : Nat} {v0 : Nat} {M : am_M} : am_call d 223 [.ref v0] M = am_run d 223 bq_223_0 [some (.ref v0), none] [] M := by unfold am_call; rw [bk_223_0]; rfl
theorem mx_223 : am_mx 223 = 2 := rfl
theorem tt_224 : am_tab 224 = tb_224 := rfl
theorem bk_224_0 : am_B 224 0 = bq_224_0 := by unfold am_B; rw [tt_224]; rfl
theorem bk_224_11 : am_B 224 11 = bq_224_11 := by unfold am_B; rw [tt_224]; rfl
theorem bk_224_29 : am_B 224 29 = bq_224_29 := by unfold am_B; rw [tt_224]; rfl
theorem bk_224_48 : am_B 224 48 = bq_224_48 := by unfold am_B; rw [tt_224]; rfl
theorem bk_224_65 : am_B 224 65 = bq_224_65 := by unfold am_B; rw [tt_224]; rfl
theorem bk_224_108 : am_B 224 108 = bq_224_108 := by unfold am_B; rw [tt_224]; rfl
theorem bk_224_132 : am_B 224 132 = bq_224_132 := by unfold am_B; rw [tt_224]; rfl
theorem en_224 {d : Nat} {v0 : Nat} {M : am_M} : am_call d 224 [.ref v0] M = am_run d 224 bq_224_0 [some (.ref v0), none, none, none, none] [] M := by unfold am_call; rw [bk_224_0]; rfl
theorem mx_224 : am_mx 224 = 5 := rfl
theorem tt_225 : am_tab 225 = tb_225 := rfl
theorem bk_225_0 : am_B 225 0 = bq_225_0 := by unfold am_B; rw [tt_225]; rfl
theorem bk_225_27 : am_B 225 27 = bq_225_27 := by unfold am_B; rw [tt_225]; rfl
theorem bk_225_43 : am_B 225 43 = bq_225_43 := by unfold am_B; rw [tt_225]; rfl
theorem bk_225_81 : am_B 225 81 = bq_225_81 := by unfold am_B; rw [tt_225]; rfl
theorem en_225 {d : Nat} {v0 : Nat} {v1 : Int32} {v2 : Int32} {v3 : Int32} {M : am_M} : am_call d 225 [.ref v0, .int v1, .int v2, .int v3] M = am_run d 225 bq_225_0 [some (.ref v0), some (.int v1), some (.int v2), some (.int v3), none] [] M := by unfold am_call; rw [bk_225_0]; rfl
theorem mx_225 : am_mx 225 = 5 := rfl
theorem tt_226 : am_tab 226 = tb_226 := rfl
theorem bk_226_0 : am_B 226 0 = bq_226_0 := by unfold am_B; rw [tt_226]; rfl
theorem bk_226_11 : am_B 226 11 = bq_226_11 := by unfold am_B; rw [tt_226]; rfl
theorem bk_226_22 : am_B 226 22 = bq_226_22 := by unfold am_B; rw [tt_226]; rfl
theorem bk_226_24 : am_B 226 24 = bq_226_24 := by unfold am_B; rw [tt_226]; rfl
theorem en_226 {d : Nat} {v0 : Int64} {v1 : Int32} {v2 : Int32} {M : am_M} : am_call d 226 [.long v0, .int v1, .int v2] M = am_run d 226 bq_226_0 [some (.long v0), none, some (.int v1), some (.int v2)] [] M := by unfold am_call; rw [bk_226_0]; rfl
theorem mx_226 : am_mx 226 = 4 := rfl
theorem tt_227 : am_tab 227 = tb_227 := rfl
theorem bk_227_0 : am_B 227 0 = bq_227_0 := by unfold am_B; rw [tt_227]; rfl
theorem bk_227_12 : am_B 227 12 = bq_227_12 := by unfold am_B; rw [tt_227]; rfl
theorem bk_227_18 : am_B 227 18 = bq_227_18 := by unfold am_B; rw [tt_227]; rfl
theorem en_227 {d : Nat} {v0 : Nat} {v1 : Int32} {M : am_M} : am_call d 227 [.ref v0, .int v1] M = am_run d 227 bq_227_0 [some (.ref v0), some (.int v1)] [] M := by unfold am_call; rw [bk_227_0]; rfl
theorem mx_227 : am_mx 227 = 2 := rfl
theorem tt_228 : am_tab 228 = tb_228 := rfl
theorem bk_228_0 : am_B 228 0 = bq_228_0 := by unfold am_B; rw [tt_228]; rfl
theorem en_228 {d : Nat} {v0 : Nat} {v1 : Int32} {v2 : Int32} {v3 : Int32} {v4 : Int32} {M : am_M} : am_call d 228 [.ref v0, .int v1, .int v2, .int v3, .int v4] M = am_run d 228 bq_228_0 [some (.ref v0), some (.int v1), some (.int v2), some (.int v3), some (.int v4)] [] M := by unfold am_call; rw [bk_228_0]; rfl
theorem mx_228 : am_mx 228 = 5 := rfl
theorem tt_229 : am_tab 229 = tb_229 := rfl
theorem bk_229_0 : am_B 229 0 = bq_229_0 := by unfold am_B; rw [tt_229]; rfl
theorem bk_229_15 : am_B 229 15 = bq_229_15 := by unfold am_B; rw [tt_229]; rfl
theorem bk_229_58 : am_B 229 58 = bq_229_58 := by unfold am_B; rw [tt_229]; rfl
theorem en_229 {d : Nat} {v0 : Nat} {v1 : Int32} {v2 : Int32} {M : am_M} : am_call d 229 [.ref v0, .int v1, .int v2] M = am_run d 229 bq_229_0 [some (.ref v0), some (.int v1), some (.int v2), none] [] M := by unfold am_call; rw [bk_229_0]; rfl
theorem mx_229 : am_mx 229 = 4 := rfl
theorem tt_230 : am_tab 230 = tb_230 := rfl
theorem bk_230_0 : am_B 230 0 = bq_230_0 := by unfold am_B; rw [tt_230]; rfl
theorem bk_230_8 : am_B 230 8 = bq_230_8 := by unfold am_B; rw [tt_230]; rfl
theorem bk_230_23 : am_B 230 23 = bq_230_23 := by unfold am_B; rw [tt_230]; rfl
theorem bk_230_60 : am_B 230 60 = bq_230_60 := by unfold am_B; rw [tt_230]; rfl
theorem bk_230_71 : am_B 230 71 = bq_230_71 := by unfold am_B; rw [tt_230]; rfl
theorem en_230 {d : Nat} {v0 : Nat} {v1 : Int32} {v2 : Int32} {v3 : Int32} {M : am_M} : am_call d 230 [.ref v0, .int v1, .int v2, .int v3] M = am_run d 230 bq_230_0 [some (.ref v0), some (.int v1), some (.int v2), some (.int v3), none] [] M := by unfold am_call; rw [bk_230_0]; rfl
theorem mx_230 : am_mx 230 = 5 := rfl
theorem tt_231 : am_tab 231 = tb_231 := rfl
theorem bk_231_0 : am_B 231 0 = bq_231_0 := by unfold am_B; rw [tt_231]; rfl
theorem bk_231_21 : am_B 231 21 = bq_231_21 := by unfold am_B; rw [tt_231]; rfl
theorem bk_231_22 : am_B 231 22 = bq_231_22 := by unfold am_B; rw [tt_231]; rfl
theorem bk_231_46 : am_B 231 46 = bq_231_46 := by unfold am_B; rw [tt_231]; rfl
theorem bk_231_53 : am_B 231 53 = bq_231_53 := by unfold am_B; rw [tt_231]; rfl
theorem en_231 {d : Nat} {v0 : Nat} {v1 : Int32} {v2 : Int32} {v3 : Int32} {M : am_M} : am_call d 231 [.ref v0, .int v1, .int v2, .int v3] M = am_run d 231 bq_231_0 [some (.ref v0), some (.int v1), some (.int v2), some (.int v3), none] [] M := by unfold am_call; rw [bk_231_0]; rfl
theorem mx_231 : am_mx 231 = 5 := rfl
theorem tt_232 : am_tab 232 = tb_232 := rfl
theorem bk_232_0 : am_B 232 0 = bq_232_0 := by unfold am_B; rw [tt_232]; rfl
theorem bk_232_35 : am_B 232 35 = bq_232_35 := by unfold am_B; rw [tt_232]; rfl
theorem en_232 {d : Nat} {v0 : Nat} {v1 : Int32} {v2 : Int32} {M : am_M} : am_call d 232 [.ref v0, .int v1, .int v2] M = am_run d 232 bq_232_0 [some (.ref v0), some (.int v1), some (.int v2), none] [] M := by unfold am_call; rw [bk_232_0]; rfl
theorem mx_232 : am_mx 232 = 4 := rfl
theorem tt_233 : am_tab 233 = tb_233 := rfl
theorem bk_233_0 : am_B 233 0 = bq_233_0 := by unfold am_B; rw [tt_233]; rfl
theorem en_233 {d : Nat} {v0 : Nat} {M : am_M} : am_call d 233 [.ref v0] M = am_run d 233 bq_233_0 [some (.ref v0), none] [] M := by unfold am_call; rw [bk_233_0]; rfl
theorem mx_233 : am_mx 233 = 2 := rfl
theorem tt_234 : am_tab 234 = tb_234 := rfl
theorem bk_234_0 : am_B 234 0 = bq_234_0 := by unfold am_B; rw [tt_234]; rfl
theorem bk_234_15 : am_B 234 15 = bq_234_15 := by unfold am_B; rw [tt_234]; rfl
theorem bk_234_16 : am_B 234 16 = bq_234_16 := by unfold am_B; rw [tt_234]; rfl
theorem en_234 {d : Nat} {v0 : Nat} {M : am_M} : am_call d 234 [.ref v0] M = am_run d 234 bq_234_0 [some (.ref v0)] [] M := by unfold am_call; rw [bk_234_0]; rfl
theorem mx_234 : am_mx 234 = 1 := rfl
theorem tt_235 : am_tab 235 = tb_235 := rfl
theorem bk_235_0 : am_B 235 0 = bq_235_0 := by unfold am_B; rw [tt_235]; rfl
theorem en_235 {d : Nat} {v0 : Nat} {v1 : Nat} {v2 : Int32} {v3 : Int32} {M : am_M} : am_call d 235 [.ref v0, .ref v1, .int v2, .int v3] M = am_run d 235 bq_235_0 [some (.ref v0), some (.ref v1), some (.int v2), some (.int v3)] [] M := by unfold am_call; rw [bk_235_0]; rfl
theorem mx_235 : am_mx 235 = 4 := rfl
theorem tt_236 : am_tab 236 = tb_236 := rfl
theorem bk_236_0 : am_B 236 0 = bq_236_0 := by unfold am_B; rw [tt_236]; rfl
theorem bk_236_6 : am_B 236 6 = bq_236_6 := by unfold am_B; rw [tt_236]; rfl
theorem bk_236_116 : am_B 236 116 = bq_236_116 := by unfold am_B; rw [tt_236]; rfl
theorem bk_236_135 : am_B 236 135 = bq_236_135 := by unfold am_B; rw [tt_236]; rfl
theorem bk_236_150 : am_B 236 150 = bq_236_150 := by unfold am_B; rw [tt_236]; rfl
theorem bk_236_166 : am_B 236 166 = bq_236_166 := by unfold am_B; rw [tt_236]; rfl
theorem bk_236_199 : am_B 236 199 = bq_236_199 := by unfold am_B; rw [tt_236]; rfl
theorem bk_236_200 : am_B 236 200 = bq_236_200 := by unfold am_B; rw [tt_236]; rfl
theorem bk_236_204 : am_B 236 204 = bq_236_204 := by unfold am_B; rw [tt_236]; rfl
theorem bk_236_233 : am_B 236 233 = bq_236_233 := by unfold am_B; rw [tt_236]; rfl
theorem bk_236_234 : am_B 236 234 = bq_236_234 := by unfold am_B; rw [tt_236]; rfl
theorem bk_236_238 : am_B 236 238 = bq_236_238 := by unfold am_B; rw [tt_236]; rfl
theorem bk_236_262 : am_B 236 262 = bq_236_262 := by unfold am_B; rw [tt_236]; rfl
theorem bk_236_264 : am_B 236 264 = bq_236_264 := by unfold am_B; rw [tt_236]; rfl
theorem bk_236_269 : am_B 236 269 = bq_236_269 := by unfold am_B; rw [tt_236]; rfl
theorem bk_236_287 : am_B 236 287 = bq_236_287 := by unfold am_B; rw [tt_236]; rfl
theorem bk_236_315 : am_B 236 315 = bq_236_315 := by unfold am_B; rw [tt_236]; rfl
theorem bk_236_336 : am_B 236 336 = bq_236_336 := by unfold am_B; rw [tt_236]; rfl
theorem bk_236_337 : am_B 236 337 = bq_236_337 := by unfold am_B; rw [tt_236]; rfl
theorem bk_236_371 : am_B 236 371 = bq_236_371 := by unfold am_B; rw [tt_236]; rfl
theorem bk_236_394 : am_B 236 394 = bq_236_394 := by unfold am_B; rw [tt_236]; rfl
theorem bk_236_395 : am_B 236 395 = bq_236_395 := by unfold am_B; rw [tt_236]; rfl
theorem bk_236_396 : am_B 236 396 = bq_236_396 := by unfold am_B; rw [tt_236]; rfl
theorem bk_236_402 : am_B 236 402 = bq_236_402 := by unfold am_B; rw [tt_236]; rfl
theorem bk_236_417 : am_B 236 417 = bq_236_417 := by unfold am_B; rw [tt_236]; rfl
theorem bk_236_418 : am_B 236 418 = bq_236_418 := by unfold am_B; rw [tt_236]; rfl
theorem en_236 {d : Nat} {v0 : Nat} {v1 : Nat} {v2 : Int32} {v3 : Int32} {v4 : Nat} {M : am_M} : am_call d 236 [.ref v0, .ref v1, .int v2, .int v3, .ref v4] M = am_run d 236 bq_236_0 [some (.ref v0), some (.ref v1), some (.int v2), some (.int v3), some (.ref v4), none, none, none, none, none] [] M := by unfold am_call; rw [bk_236_0]; rfl
theorem mx_236 : am_mx 236 = 10 := rfl
theorem tt_237 : am_tab 237 = tb_237 := rfl
theorem bk_237_0 : am_B 237 0 = bq_237_0 := by unfold am_B; rw [tt_237]; rfl
theorem en_237 {d : Nat} {v0 : Nat} {v1 : Int32} {v2 : Int32} {v3 : Int32} {v4 : Int32} {M : am_M} : am_call d 237 [.ref v0, .int v1, .int v2, .int v3, .int v4] M = am_run d 237 bq_237_0 [some (.ref v0), some (.int v1), some (.int v2), some (.int v3), some (.int v4)] [] M := by unfold am_call; rw [bk_237_0]; rfl
theorem mx_237 : am_mx 237 = 5 := rfl
theorem tt_238 : am_tab 238 = tb_238 := rfl
theorem bk_238_0 : am_B 238 0 = bq_238_0 := by unfold am_B; rw [tt_238]; rfl
theorem bk_238_3 : am_B 238 3 = bq_238_3 := by unfold am_B; rw [tt_238]; rfl
theorem bk_238_58 : am_B 238 58 = bq_238_58 := by unfold am_B; rw [tt_238]; rfl
theorem bk_238_64 : am_B 238 64 = bq_238_64 := by unfold am_B; rw [tt_238]; rfl
theorem en_238 {d : Nat} {v0 : Nat} {v1 : Int32} {v2 : Int32} {v3 : Int32} {v4 : Int32} {v5 : Int32} {M : am_M} : am_call d 238 [.ref v0, .int v1, .int v2, .int v3, .int v4, .int v5] M = am_run d 238 bq_238_0 [some (.ref v0), some (.int v1), some (.int v2), some (.int v3), some (.int v4), some (.int v5), none] [] M := by unfold am_call; rw [bk_238_0]; rfl
theorem mx_238 : am_mx 238 = 7 := rfl
theorem tt_239 : am_tab 239 = tb_239 := rfl
theorem bk_239_0 : am_B 239 0 = bq_239_0 := by unfold am_B; rw [tt_239]; rfl
theorem bk_239_15 : am_B 239 15 = bq_239_15 := by unfold am_B; rw [tt_239]; rfl
theorem bk_239_75 : am_B 239 75 = bq_239_75 := by unfold am_B; rw [tt_239]; rfl
theorem bk_239_88 : am_B 239 88 = bq_239_88 := by unfold am_B; rw [tt_239]; rfl
theorem bk_239_98 : am_B 239 98 = bq_239_98 := by unfold am_B; rw [tt_239]; rfl
theorem bk_239_104 : am_B 239 104 = bq_239_104 := by unfold am_B; rw [tt_239]; rfl
theorem en_239 {d : Nat} {v0 : Nat} {v1 : Nat} {v2 : Nat} {v3 : Int32} {v4 : Int32} {M : am_M} : am_call d 239 [.ref v0, .ref v1, .ref v2, .int v3, .int v4] M = am_run d 239 bq_239_0 [some (.ref v0), some (.ref v1), some (.ref v2), some (.int v3), some (.int v4), none, none, none, none, none] [] M := by unfold am_call; rw [bk_239_0]; rfl
theorem mx_239 : am_mx 239 = 10 := rfl
theorem tt_240 : am_tab 240 = tb_240 := rfl
theorem bk_240_0 : am_B 240 0 = bq_240_0 := by unfold am_B; rw [tt_240]; rfl
theorem en_240 {d : Nat} {v0 : Nat} {v1 : Int32} {M : am_M} : am_call d 240 [.ref v0, .int v1] M = am_run d 240 bq_240_0 [some (.ref v0), some (.int v1), none] [] M := by unfold am_call; rw [bk_240_0]; rfl
theorem mx_240 : am_mx 240 = 3 := rfl
theorem tt_241 : am_tab 241 = tb_241 := rfl
theorem bk_241_0 : am_B 241 0 = bq_241_0 := by unfold am_B; rw [tt_241]; rfl
theorem bk_241_15 : am_B 241 15 = bq_241_15 := by unfold am_B; rw [tt_241]; rfl
theorem bk_241_16 : am_B 241 16 = bq_241_16 := by unfold am_B; rw [tt_241]; rfl
theorem en_241 {d : Nat} {v0 : Nat} {M : am_M} : am_call d 241 [.ref v0] M = am_run d 241 bq_241_0 [some (.ref v0)] [] M := by unfold am_call; rw [bk_241_0]; rfl
theorem mx_241 : am_mx 241 = 1 := rfl
theorem tt_242 : am_tab 242 = tb_242 := rfl
theorem bk_242_0 : am_B 242 0 = bq_242_0 := by unfold am_B; rw [tt_242]; rfl
theorem bk_242_4 : am_B 242 4 = bq_242_4 := by unfold am_B; rw [tt_242]; rfl
theorem bk_242_33 : am_B 242 33 = bq_242_33 := by unfold am_B; rw [tt_242]; rfl
theorem bk_242_47 : am_B 242 47 = bq_242_47 := by unfold am_B; rw [tt_242]; rfl
theorem bk_242_53 : am_B 242 53 = bq_242_53 := by unfold am_B; rw [tt_242]; rfl
theorem en_242 {d : Nat} {v0 : Nat} {v1 : Int32} {M : am_M} : am_call d 242 [.ref v0, .int v1] M = am_run d 242 bq_242_0 [some (.ref v0), some (.int v1), none, none] [] M := by unfold am_call; rw [bk_242_0]; rfl
theorem mx_242 : am_mx 242 = 4 := rfl
theorem tt_243 : am_tab 243 = tb_243 := rfl
theorem bk_243_0 : am_B 243 0 = bq_243_0 := by unfold am_B; rw [tt_243]; rfl
theorem bk_243_20 : am_B 243 20 = bq_243_20 := by unfold am_B; rw [tt_243]; rfl
theorem bk_243_25 : am_B 243 25 = bq_243_25 := by unfold am_B; rw [tt_243]; rfl
theorem bk_243_41 : am_B 243 41 = bq_243_41 := by unfold am_B; rw [tt_243]; rfl
theorem bk_243_67 : am_B 243 67 = bq_243_67 := by unfold am_B; rw [tt_243]; rfl
theorem bk_243_79 : am_B 243 79 = bq_243_79 := by unfold am_B; rw [tt_243]; rfl
theorem bk_243_107 : am_B 243 107 = bq_243_107 := by unfold am_B; rw [tt_243]; rfl
theorem en_243 {d : Nat} {v0 : Nat} {M : am_M} : am_call d 243 [.ref v0] M = am_run d 243 bq_243_0 [some (.ref v0), none, none] [] M := by unfold am_call; rw [bk_243_0]; rfl
theorem mx_243 : am_mx 243 = 3 := rfl
theorem tt_244 : am_tab 244 = tb_244 := rfl
theorem bk_244_0 : am_B 244 0 = bq_244_0 := by unfold am_B; rw [tt_244]; rfl
theorem bk_244_2 : am_B 244 2 = bq_244_2 := by unfold am_B; rw [tt_244]; rfl
theorem bk_244_19 : am_B 244 19 = bq_244_19 := by unfold am_B; rw [tt_244]; rfl
theorem bk_244_25 : am_B 244 25 = bq_244_25 := by unfold am_B; rw [tt_244]; rfl
theorem en_244 {d : Nat} {v0 : Nat} {v1 : Int32} {v2 : Int32} {M : am_M} : am_call d 244 [.ref v0, .int v1, .int v2] M = am_run d 244 bq_244_0 [some (.ref v0), some (.int v1), some (.int v2), none] [] M := by unfold am_call; rw [bk_244_0]; rfl
theorem mx_244 : am_mx 244 = 4 := rfl
theorem tt_245 : am_tab 245 = tb_245 := rfl
theorem bk_245_0 : am_B 245 0 = bq_245_0 := by unfold am_B; rw [tt_245]; rfl
theorem bk_245_2 : am_B 245 2 = bq_245_2 := by unfold am_B; rw [tt_245]; rfl
theorem bk_245_51 : am_B 245 51 = bq_245_51 := by unfold am_B; rw [tt_245]; rfl
theorem bk_245_57 : am_B 245 57 = bq_245_57 := by unfold am_B; rw [tt_245]; rfl
theorem en_245 {d : Nat} {v0 : Nat} {v1 : Int32} {v2 : Int32} {M : am_M} : am_call d 245 [.ref v0, .int v1, .int v2] M = am_run d 245 bq_245_0 [some (.ref v0), some (.int v1), some (.int v2), none, none] [] M := by unfold am_call; rw [bk_245_0]; rfl
theorem mx_245 : am_mx 245 = 5 := rfl
theorem tt_246 : am_tab 246 = tb_246 := rfl
theorem bk_246_0 : am_B 246 0 = bq_246_0 := by unfold am_B; rw [tt_246]; rfl
theorem bk_246_2 : am_B 246 2 = bq_246_2 := by unfold am_B; rw [tt_246]; rfl
theorem bk_246_48 : am_B 246 48 = bq_246_48 := by unfold am_B; rw [tt_246]; rfl
theorem bk_246_75 : am_B 246 75 = bq_246_75 := by unfold am_B; rw [tt_246]; rfl
theorem bk_246_101 : am_B 246 101 = bq_246_101 := by unfold am_B; rw [tt_246]; rfl
theorem bk_246_104 : am_B 246 104 = bq_246_104 := by unfold am_B; rw [tt_246]; rfl
theorem en_246 {d : Nat} {v0 : Nat} {v1 : Int32} {M : am_M} : am_call d 246 [.ref v0, .int v1] M = am_run d 246 bq_246_0 [some (.ref v0), some (.int v1), none, none] [] M := by unfold am_call; rw [bk_246_0]; rfl
theorem mx_246 : am_mx 246 = 4 := rfl
theorem tt_247 : am_tab 247 = tb_247 := rfl
theorem bk_247_0 : am_B 247 0 = bq_247_0 := by unfold am_B; rw [tt_247]; rfl
theorem bk_247_28 : am_B 247 28 = bq_247_28 := by unfold am_B; rw [tt_247]; rfl
theorem bk_247_29 : am_B 247 29 = bq_247_29 := by unfold am_B; rw [tt_247]; rfl
theorem en_247 {d : Nat} {v0 : Nat} {v1 : Int32} {v2 : Int32} {M : am_M} : am_call d 247 [.ref v0, .int v1, .int v2] M = am_run d 247 bq_247_0 [some (.ref v0), some (.int v1), some (.int v2), none] [] M := by unfold am_call; rw [bk_247_0]; rfl
theorem mx_247 : am_mx 247 = 4 := rfl
theorem tt_248 : am_tab 248 = tb_248 := rfl
theorem bk_248_0 : am_B 248 0 = bq_248_0 := by unfold am_B; rw [tt_248]; rfl
theorem bk_248_3 : am_B 248 3 = bq_248_3 := by unfold am_B; rw [tt_248]; rfl
theorem bk_248_42 : am_B 248 42 = bq_248_42 := by unfold am_B; rw [tt_248]; rfl
theorem bk_248_48 : am_B 248 48 = bq_248_48 := by unfold am_B; rw [tt_248]; rfl
theorem en_248 {d : Nat} {v0 : Nat} {v1 : Int32} {M : am_M} : am_call d 248 [.ref v0, .int v1] M = am_run d 248 bq_248_0 [some (.ref v0), some (.int v1), none] [] M := by unfold am_call; rw [bk_248_0]; rfl
theorem mx_248 : am_mx 248 = 3 := rfl
theorem tt_249 : am_tab 249 = tb_249 := rfl
theorem bk_249_0 : am_B 249 0 = bq_249_0 := by unfold am_B; rw [tt_249]; rfl
theorem bk_249_18 : am_B 249 18 = bq_249_18 := by unfold am_B; rw [tt_249]; rfl
theorem bk_249_19 : am_B 249 19 = bq_249_19 := by unfold am_B; rw [tt_249]; rfl
theorem en_249 {d : Nat} {v0 : Nat} {v1 : Int32} {v2 : Int32} {M : am_M} : am_call d 249 [.ref v0, .int v1, .int v2] M = am_run d 249 bq_249_0 [some (.ref v0), some (.int v1), some (.int v2)] [] M := by unfold am_call; rw [bk_249_0]; rfl
theorem mx_249 : am_mx 249 = 3 := rfl
theorem tt_250 : am_tab 250 = tb_250 := rfl
theorem bk_250_0 : am_B 250 0 = bq_250_0 := by unfold am_B; rw [tt_250]; rfl
theorem bk_250_7 : am_B 250 7 = bq_250_7 := by unfold am_B; rw [tt_250]; rfl
theorem bk_250_45 : am_B 250 45 = bq_250_45 := by unfold am_B; rw [tt_250]; rfl
theorem bk_250_51 : am_B 250 51 = bq_250_51 := by unfold am_B; rw [tt_250]; rfl
theorem en_250 {d : Nat} {v0 : Nat} {v1 : Int32} {v2 : Nat} {M : am_M} : am_call d 250 [.ref v0, .int v1, .ref v2] M = am_run d 250 bq_250_0 [some (.ref v0), some (.int v1), some (.ref v2), none, none] [] M := by unfold am_call; rw [bk_250_0]; rfl
theorem mx_250 : am_mx 250 = 5 := rfl
theorem tt_251 : am_tab 251 = tb_251 := rfl
theorem bk_251_0 : am_B 251 0 = bq_251_0 := by unfold am_B; rw [tt_251]; rfl
theorem bk_251_7 : am_B 251 7 = bq_251_7 := by unfold am_B; rw [tt_251]; rfl
theorem bk_251_45 : am_B 251 45 = bq_251_45 := by unfold am_B; rw [tt_251]; rfl
theorem bk_251_51 : am_B 251 51 = bq_251_51 := by unfold am_B; rw [tt_251]; rfl
theorem en_251 {d : Nat} {v0 : Nat} {v1 : Int32} {v2 : Nat} {M : am_M} : am_call d 251 [.ref v0, .int v1, .ref v2] M = am_run d 251 bq_251_0 [some (.ref v0), some (.int v1), some (.ref v2), none, none] [] M := by unfold am_call; rw [bk_251_0]; rfl
theorem mx_251 : am_mx 251 = 5 := rfl
theorem tt_252 : am_tab 252 = tb_252 := rfl
theorem bk_252_0 : am_B 252 0 = bq_252_0 := by unfold am_B; rw [tt_252]; rfl
theorem en_252 {d : Nat} {v0 : Nat} {v1 : Int32} {v2 : Int32} {v3 : Int32} {v4 : Int32} {M : am_M} : am_call d 252 [.ref v0, .int v1, .int v2, .int v3, .int v4] M = am_run d 252 bq_252_0 [some (.ref v0), some (.int v1), some (.int v2), some (.int v3), some (.int v4), none] [] M := by unfold am_call; rw [bk_252_0]; rfl
theorem mx_252 : am_mx 252 = 6 := rfl
theorem tt_253 : am_tab 253 = tb_253 := rfl
theorem bk_253_0 : am_B 253 0 = bq_253_0 := by unfold am_B; rw [tt_253]; rfl
theorem en_253 {d : Nat} {v0 : Nat} {v1 : Nat} {M : am_M} : am_call d 253 [.ref v0, .ref v1] M = am_run d 253 bq_253_0 [some (.ref v0), some (.ref v1)] [] M := by unfold am_call; rw [bk_253_0]; rfl
theorem mx_253 : am_mx 253 = 2 := rfl
theorem tt_254 : am_tab 254 = tb_254 := rfl
theorem bk_254_0 : am_B 254 0 = bq_254_0 := by unfold am_B; rw [tt_254]; rfl
theorem en_254 {d : Nat} {v0 : Nat} {v1 : Nat} {M : am_M} : am_call d 254 [.ref v0, .ref v1] M = am_run d 254 bq_254_0 [some (.ref v0), some (.ref v1)] [] M := by unfold am_call; rw [bk_254_0]; rfl
theorem mx_254 : am_mx 254 = 2 := rfl
theorem tt_255 : am_tab 255 = tb_255 := rfl
theorem bk_255_0 : am_B 255 0 = bq_255_0 := by unfold am_B; rw [tt_255]; rfl
theorem bk_255_34 : am_B 255 34 = bq_255_34 := by unfold am_B; rw [tt_255]; rfl
theorem en_255 {d : Nat} {v0 : Nat} {v1 : Int32} {M : am_M} : am_call d 255 [.ref v0, .int v1] M = am_run d 255 bq_255_0 [some (.ref v0), some (.int v1)] [] M := by unfold am_call; rw [bk_255_0]; rfl
theorem mx_255 : am_mx 255 = 2 := rfl
theorem tt_256 : am_tab 256 = tb_256 := rfl
theorem bk_256_0 : am_B 256 0 = bq_256_0 := by unfold am_B; rw [tt_256]; rfl
theorem en_256 {d : Nat} {v0 : Nat} {v1 : Int32} {M : am_M} : am_call d 256 [.ref v0, .int v1] M = am_run d 256 bq_256_0 [some (.ref v0), some (.int v1)] [] M := by unfold am_call; rw [bk_256_0]; rfl
theorem mx_256 : am_mx 256 = 2 := rfl
theorem tt_257 : am_tab 257 = tb_257 := rfl
theorem bk_257_0 : am_B 257 0 = bq_257_0 := by unfold am_B; rw [tt_257]; rfl
theorem bk_257_11 : am_B 257 11 = bq_257_11 := by unfold am_B; rw [tt_257]; rfl
theorem bk_257_23 : am_B 257 23 = bq_257_23 := by unfold am_B; rw [tt_257]; rfl
theorem bk_257_27 : am_B 257 27 = bq_257_27 := by unfold am_B; rw [tt_257]; rfl
theorem bk_257_28 : am_B 257 28 = bq_257_28 := by unfold am_B; rw [tt_257]; rfl
theorem en_257 {d : Nat} {v0 : Nat} {v1 : Int32} {M : am_M} : am_call d 257 [.ref v0, .int v1] M = am_run d 257 bq_257_0 [some (.ref v0), some (.int v1)] [] M := by unfold am_call; rw [bk_257_0]; rfl
theorem mx_257 : am_mx 257 = 2 := rfl
theorem tt_258 : am_tab 258 = tb_258 := rfl
theorem bk_258_0 : am_B 258 0 = bq_258_0 := by unfold am_B; rw [tt_258]; rfl
theorem bk_258_49 : am_B 258 49 = bq_258_49 := by unfold am_B; rw [tt_258]; rfl
theorem en_258 {d : Nat} {v0 : Nat} {v1 : Int32} {M : am_M} : am_call d 258 [.ref v0, .int v1] M = am_run d 258 bq_258_0 [some (.ref v0), some (.int v1), none] [] M := by unfold am_call; rw [bk_258_0]; rfl
theorem mx_258 : am_mx 258 = 3 := rfl
theorem tt_259 : am_tab 259 = tb_259 := rfl
theorem bk_259_0 : am_B 259 0 = bq_259_0 := by unfold am_B; rw [tt_259]; rfl
theorem bk_259_37 : am_B 259 37 = bq_259_37 := by unfold am_B; rw [tt_259]; rfl
theorem bk_259_53 : am_B 259 53 = bq_259_53 := by unfold am_B; rw [tt_259]; rfl
theorem bk_259_55 : am_B 259 55 = bq_259_55 := by unfold am_B; rw [tt_259]; rfl
theorem bk_259_65 : am_B 259 65 = bq_259_65 := by unfold am_B; rw [tt_259]; rfl
theorem bk_259_66 : am_B 259 66 = bq_259_66 := by unfold am_B; rw [tt_259]; rfl
theorem bk_259_83 : am_B 259 83 = bq_259_83 := by unfold am_B; rw [tt_259]; rfl
theorem bk_259_84 : am_B 259 84 = bq_259_84 := by unfold am_B; rw [tt_259]; rfl
theorem bk_259_85 : am_B 259 85 = bq_259_85 := by unfold am_B; rw [tt_259]; rfl
theorem bk_259_114 : am_B 259 114 = bq_259_114 := by unfold am_B; rw [tt_259]; rfl
theorem en_259 {d : Nat} {v0 : Nat} {v1 : Int32} {M : am_M} : am_call d 259 [.ref v0, .int v1] M = am_run d 259 bq_259_0 [some (.ref v0), some (.int v1), none, none, none] [] M := by unfold am_call; rw [bk_259_0]; rfl
theorem mx_259 : am_mx 259 = 5 := rfl
theorem tt_260 : am_tab 260 = tb_260 := rfl
theorem bk_260_0 : am_B 260 0 = bq_260_0 := by unfold am_B; rw [tt_260]; rfl
theorem bk_260_17 : am_B 260 17 = bq_260_17 := by unfold am_B; rw [tt_260]; rfl
theorem bk_260_18 : am_B 260 18 = bq_260_18 := by unfold am_B; rw [tt_260]; rfl
theorem en_260 {d : Nat} {v0 : Nat} {v1 : Int32} {M : am_M} : am_call d 260 [.ref v0, .int v1] M = am_run d 260 bq_260_0 [some (.ref v0), some (.int v1)] [] M := by unfold am_call; rw [bk_260_0]; rfl
theorem mx_260 : am_mx 260 = 2 := rfl
theorem tt_261 : am_tab 261 = tb_261 := rfl
theorem bk_261_0 : am_B 261 0 = bq_261_0 := by unfold am_B; rw [tt_261]; rfl
theorem bk_261_16 : am_B 261 16 = bq_261_16 := by unfold am_B; rw [tt_261]; rfl
theorem bk_261_17 : am_B 261 17 = bq_261_17 := by unfold am_B; rw [tt_261]; rfl
theorem en_261 {d : Nat} {v0 : Int32} {M : am_M} : am_call d 261 [.int v0] M = am_run d 261 bq_261_0 [some (.int v0)] [] M := by unfold am_call; rw [bk_261_0]; rfl
theorem mx_261 : am_mx 261 = 1 := rfl
theorem tt_262 : am_tab 262 = tb_262 := rfl
theorem bk_262_0 : am_B 262 0 = bq_262_0 := by unfold am_B; rw [tt_262]; rfl
theorem bk_262_12 : am_B 262 12 = bq_262_12 := by unfold am_B; rw [tt_262]; rfl
theorem bk_262_24 : am_B 262 24 = bq_262_24 := by unfold am_B; rw [tt_262]; rfl
theorem bk_262_28 : am_B 262 28 = bq_262_28 := by unfold am_B; rw [tt_262]; rfl
theorem bk_262_29 : am_B 262 29 = bq_262_29 := by unfold am_B; rw [tt_262]; rfl
theorem en_262 {d : Nat} {v0 : Int32} {M : am_M} : am_call d 262 [.int v0] M = am_run d 262 bq_262_0 [some (.int v0)] [] M := by unfold am_call; rw [bk_262_0]; rfl
theorem mx_262 : am_mx 262 = 1 := rfl
theorem tt_263 : am_tab 263 = tb_263 := rfl
theorem bk_263_0 : am_B 263 0 = bq_263_0 := by unfold am_B; rw [tt_263]; rfl
theorem bk_263_128 : am_B 263 128 = bq_263_128 := by unfold am_B; rw [tt_263]; rfl
theorem bk_263_130 : am_B 263 130 = bq_263_130 := by unfold am_B; rw [tt_263]; rfl
theorem en_263 {d : Nat} {v0 : Int32} {M : am_M} : am_call d 263 [.int v0] M = am_run d 263 bq_263_0 [some (.int v0)] [] M := by unfold am_call; rw [bk_263_0]; rfl
theorem mx_263 : am_mx 263 = 1 := rfl
theorem tt_264 : am_tab 264 = tb_264 := rfl
theorem bk_264_0 : am_B 264 0 = bq_264_0 := by unfold am_B; rw [tt_264]; rfl
theorem bk_264_22 : am_B 264 22 = bq_264_22 := by unfold am_B; rw [tt_264]; rfl
theorem bk_264_42 : am_B 264 42 = bq_264_42 := by unfold am_B; rw [tt_264]; rfl
theorem bk_264_64 : am_B 264 64 = bq_264_64 := by unfold am_B; rw [tt_264]; rfl
theorem bk_264_84 : am_B 264 84 = bq_264_84 := by unfold am_B; rw [tt_264]; rfl
theorem bk_264_102 : am_B 264 102 = bq_264_102 := by unfold am_B; rw [tt_264]; rfl
theorem bk_264_124 : am_B 264 124 = bq_264_124 := by unfold am_B; rw [tt_264]; rfl
theorem bk_264_151 : am_B 264 151 = bq_264_151 := by unfold am_B; rw [tt_264]; rfl
theorem bk_264_172 : am_B 264 172 = bq_264_172 := by unfold am_B; rw [tt_264]; rfl
theorem bk_264_173 : am_B 264 173 = bq_264_173 := by unfold am_B; rw [tt_264]; rfl
theorem en_264 {d : Nat} {v0 : Nat} {M : am_M} : am_call d 264 [.ref v0] M = am_run d 264 bq_264_0 [some (.ref v0)] [] M := by unfold am_call; rw [bk_264_0]; rfl
theorem mx_264 : am_mx 264 = 1 := rfl
theorem tt_265 : am_tab 265 = tb_265 := rfl
theorem bk_265_0 : am_B 265 0 = bq_265_0 := by unfold am_B; rw [tt_265]; rfl
theorem bk_265_40 : am_B 265 40 = bq_265_40 := by unfold am_B; rw [tt_265]; rfl
theorem bk_265_51 : am_B 265 51 = bq_265_51 := by unfold am_B; rw [tt_265]; rfl
theorem bk_265_64 : am_B 265 64 = bq_265_64 := by unfold am_B; rw [tt_265]; rfl
theorem bk_265_81 : am_B 265 81 = bq_265_81 := by unfold am_B; rw [tt_265]; rfl
theorem bk_265_92 : am_B 265 92 = bq_265_92 := by unfold am_B; rw [tt_265]; rfl
theorem bk_265_103 : am_B 265 103 = bq_265_103 := by unfold am_B; rw [tt_265]; rfl
theorem bk_265_114 : am_B 265 114 = bq_265_114 := by unfold am_B; rw [tt_265]; rfl
theorem en_265 {d : Nat} {v0 : Nat} {v1 : Int32} {v2 : Int32} {M : am_M} : am_call d 265 [.ref v0, .int v1, .int v2] M = am_run d 265 bq_265_0 [some (.ref v0), some (.int v1), some (.int v2)] [] M := by unfold am_call; rw [bk_265_0]; rfl
theorem mx_265 : am_mx 265 = 3 := rfl
theorem tt_266 : am_tab 266 = tb_266 := rfl
theorem bk_266_0 : am_B 266 0 = bq_266_0 := by unfold am_B; rw [tt_266]; rfl
theorem bk_266_7 : am_B 266 7 = bq_266_7 := by unfold am_B; rw [tt_266]; rfl
theorem bk_266_66 : am_B 266 66 = bq_266_66 := by unfold am_B; rw [tt_266]; rfl
theorem en_266 {d : Nat} {v0 : Nat} {v1 : Int32} {v2 : Int32} {M : am_M} : am_call d 266 [.ref v0, .int v1, .int v2] M = am_run d 266 bq_266_0 [some (.ref v0), some (.int v1), some (.int v2), none, none] [] M := by unfold am_call; rw [bk_266_0]; rfl
theorem mx_266 : am_mx 266 = 5 := rfl
theorem tt_267 : am_tab 267 = tb_267 := rfl
theorem bk_267_0 : am_B 267 0 = bq_267_0 := by unfold am_B; rw [tt_267]; rfl
theorem bk_267_24 : am_B 267 24 = bq_267_24 := by unfold am_B; rw [tt_267]; rfl
theorem bk_267_26 : am_B 267 26 = bq_267_26 := by unfold am_B; rw [tt_267]; rfl
theorem en_267 {d : Nat} {v0 : Nat} {v1 : Int32} {M : am_M} : am_call d 267 [.ref v0, .int v1] M = am_run d 267 bq_267_0 [some (.ref v0), some (.int v1)] [] M := by unfold am_call; rw [bk_267_0]; rfl
theorem mx_267 : am_mx 267 = 2 := rfl
theorem tt_268 : am_tab 268 = tb_268 := rfl
theorem bk_268_0 : am_B 268 0 = bq_268_0 := by unfold am_B; rw [tt_268]; rfl
theorem bk_268_24 : am_B 268 24 = bq_268_24 := by unfold am_B; rw [tt_268]; rfl
theorem bk_268_25 : am_B 268 25 = bq_268_25 := by unfold am_B; rw [tt_268]; rfl
theorem en_268 {d : Nat} {v0 : Nat} {v1 : Int32} {M : am_M} : am_call d 268 [.ref v0, .int v1] M = am_run d 268 bq_268_0 [some (.ref v0), some (.int v1)] [] M := by unfold am_call; rw [bk_268_0]; rfl
theorem mx_268 : am_mx 268 = 2 := rfl
theorem tt_269 : am_tab 269 = tb_269 := rfl
theorem bk_269_0 : am_B 269 0 = bq_269_0 := by unfold am_B; rw [tt_269]; rfl
theorem bk_269_12 : am_B 269 12 = bq_269_12 := by unfold am_B; rw [tt_269]; rfl
theorem bk_269_23 : am_B 269 23 = bq_269_23 := by unfold am_B; rw [tt_269]; rfl
theorem bk_269_27 : am_B 269 27 = bq_269_27 := by unfold am_B; rw [tt_269]; rfl
theorem bk_269_28 : am_B 269 28 = bq_269_28 := by unfold am_B; rw [tt_269]; rfl
theorem en_269 {d : Nat} {v0 : Int32} {M : am_M} : am_call d 269 [.int v0] M = am_run d 269 bq_269_0 [some (.int v0)] [] M := by unfold am_call; rw [bk_269_0]; rfl
theorem mx_269 : am_mx 269 = 1 := rfl
theorem tt_270 : am_tab 270 = tb_270 := rfl
theorem bk_270_0 : am_B 270 0 = bq_270_0 := by unfold am_B; rw [tt_270]; rfl
theorem bk_270_28 : am_B 270 28 = bq_270_28 := by unfold am_B; rw [tt_270]; rfl
theorem bk_270_37 : am_B 270 37 = bq_270_37 := by unfold am_B; rw [tt_270]; rfl
theorem bk_270_46 : am_B 270 46 = bq_270_46 := by unfold am_B; rw [tt_270]; rfl
theorem bk_270_55 : am_B 270 55 = bq_270_55 := by unfold am_B; rw [tt_270]; rfl
theorem bk_270_63 : am_B 270 63 = bq_270_63 := by unfold am_B; rw [tt_270]; rfl
theorem bk_270_68 : am_B 270 68 = bq_270_68 := by unfold am_B; rw [tt_270]; rfl
theorem bk_270_69 : am_B 270 69 = bq_270_69 := by unfold am_B; rw [tt_270]; rfl
theorem bk_270_80 : am_B 270 80 = bq_270_80 := by unfold am_B; rw [tt_270]; rfl
theorem bk_270_93 : am_B 270 93 = bq_270_93 := by unfold am_B; rw [tt_270]; rfl
theorem bk_270_95 : am_B 270 95 = bq_270_95 := by unfold am_B; rw [tt_270]; rfl
theorem en_270 {d : Nat} {v0 : Int32} {v1 : Int32} {v2 : Int32} {M : am_M} : am_call d 270 [.int v0, .int v1, .int v2] M = am_run d 270 bq_270_0 [some (.int v0), some (.int v1), some (.int v2), none, none] [] M := by unfold am_call; rw [bk_270_0]; rfl
theorem mx_270 : am_mx 270 = 5 := rfl
theorem tt_271 : am_tab 271 = tb_271 := rfl
theorem bk_271_0 : am_B 271 0 = bq_271_0 := by unfold am_B; rw [tt_271]; rfl
theorem bk_271_104 : am_B 271 104 = bq_271_104 := by unfold am_B; rw [tt_271]; rfl
theorem bk_271_113 : am_B 271 113 = bq_271_113 := by unfold am_B; rw [tt_271]; rfl
theorem bk_271_114 : am_B 271 114 = bq_271_114 := by unfold am_B; rw [tt_271]; rfl
theorem bk_271_115 : am_B 271 115 = bq_271_115 := by unfold am_B; rw [tt_271]; rfl
theorem bk_271_124 : am_B 271 124 = bq_271_124 := by unfold am_B; rw [tt_271]; rfl
theorem bk_271_125 : am_B 271 125 = bq_271_125 := by unfold am_B; rw [tt_271]; rfl
theorem bk_271_126 : am_B 271 126 = bq_271_126 := by unfold am_B; rw [tt_271]; rfl
theorem bk_271_135 : am_B 271 135 = bq_271_135 := by unfold am_B; rw [tt_271]; rfl
theorem bk_271_136 : am_B 271 136 = bq_271_136 := by unfold am_B; rw [tt_271]; rfl
theorem bk_271_137 : am_B 271 137 = bq_271_137 := by unfold am_B; rw [tt_271]; rfl
theorem bk_271_146 : am_B 271 146 = bq_271_146 := by unfold am_B; rw [tt_271]; rfl
theorem bk_271_147 : am_B 271 147 = bq_271_147 := by unfold am_B; rw [tt_271]; rfl
theorem bk_271_148 : am_B 271 148 = bq_271_148 := by unfold am_B; rw [tt_271]; rfl
theorem bk_271_157 : am_B 271 157 = bq_271_157 := by unfold am_B; rw [tt_271]; rfl
theorem bk_271_158 : am_B 271 158 = bq_271_158 := by unfold am_B; rw [tt_271]; rfl
theorem bk_271_159 : am_B 271 159 = bq_271_159 := by unfold am_B; rw [tt_271]; rfl
theorem bk_271_168 : am_B 271 168 = bq_271_168 := by unfold am_B; rw [tt_271]; rfl
theorem bk_271_169 : am_B 271 169 = bq_271_169 := by unfold am_B; rw [tt_271]; rfl
theorem bk_271_170 : am_B 271 170 = bq_271_170 := by unfold am_B; rw [tt_271]; rfl
theorem bk_271_180 : am_B 271 180 = bq_271_180 := by unfold am_B; rw [tt_271]; rfl
theorem bk_271_181 : am_B 271 181 = bq_271_181 := by unfold am_B; rw [tt_271]; rfl
theorem bk_271_182 : am_B 271 182 = bq_271_182 := by unfold am_B; rw [tt_271]; rfl
theorem bk_271_192 : am_B 271 192 = bq_271_192 := by unfold am_B; rw [tt_271]; rfl
theorem bk_271_193 : am_B 271 193 = bq_271_193 := by unfold am_B; rw [tt_271]; rfl
theorem bk_271_194 : am_B 271 194 = bq_271_194 := by unfold am_B; rw [tt_271]; rfl
theorem en_271 {d : Nat} {v0 : Int32} {v1 : Int32} {v2 : Int32} {M : am_M} : am_call d 271 [.int v0, .int v1, .int v2] M = am_run d 271 bq_271_0 [some (.int v0), some (.int v1), some (.int v2)] [] M := by unfold am_call; rw [bk_271_0]; rfl
theorem mx_271 : am_mx 271 = 3 := rfl
theorem tt_272 : am_tab 272 = tb_272 := rfl
theorem bk_272_0 : am_B 272 0 = bq_272_0 := by unfold am_B; rw [tt_272]; rfl
theorem bk_272_38 : am_B 272 38 = bq_272_38 := by unfold am_B; rw [tt_272]; rfl
theorem bk_272_104 : am_B 272 104 = bq_272_104 := by unfold am_B; rw [tt_272]; rfl
theorem bk_272_112 : am_B 272 112 = bq_272_112 := by unfold am_B; rw [tt_272]; rfl
theorem bk_272_119 : am_B 272 119 = bq_272_119 := by unfold am_B; rw [tt_272]; rfl
theorem bk_272_160 : am_B 272 160 = bq_272_160 := by unfold am_B; rw [tt_272]; rfl
theorem bk_272_193 : am_B 272 193 = bq_272_193 := by unfold am_B; rw [tt_272]; rfl
theorem bk_272_236 : am_B 272 236 = bq_272_236 := by unfold am_B; rw [tt_272]; rfl
theorem bk_272_280 : am_B 272 280 = bq_272_280 := by unfold am_B; rw [tt_272]; rfl
theorem bk_272_311 : am_B 272 311 = bq_272_311 := by unfold am_B; rw [tt_272]; rfl
theorem bk_272_312 : am_B 272 312 = bq_272_312 := by unfold am_B; rw [tt_272]; rfl
theorem bk_272_316 : am_B 272 316 = bq_272_316 := by unfold am_B; rw [tt_272]; rfl
theorem bk_272_349 : am_B 272 349 = bq_272_349 := by unfold am_B; rw [tt_272]; rfl
theorem bk_272_355 : am_B 272 355 = bq_272_355 := by unfold am_B; rw [tt_272]; rfl
theorem en_272 {d : Nat} {v0 : Nat} {v1 : Int32} {v2 : Int32} {M : am_M} : am_call d 272 [.ref v0, .int v1, .int v2] M = am_run d 272 bq_272_0 [some (.ref v0), some (.int v1), some (.int v2), none, none, none, none, none, none, none] [] M := by unfold am_call; rw [bk_272_0]; rfl
theorem mx_272 : am_mx 272 = 10 := rfl
theorem tt_273 : am_tab 273 = tb_273 := rfl
theorem bk_273_0 : am_B 273 0 = bq_273_0 := by unfold am_B; rw [tt_273]; rfl
theorem bk_273_8 : am_B 273 8 = bq_273_8 := by unfold am_B; rw [tt_273]; rfl
theorem bk_273_32 : am_B 273 32 = bq_273_32 := by unfold am_B; rw [tt_273]; rfl
theorem bk_273_65 : am_B 273 65 = bq_273_65 := by unfold am_B; rw [tt_273]; rfl
theorem bk_273_80 : am_B 273 80 = bq_273_80 := by unfold am_B; rw [tt_273]; rfl
theorem bk_273_98 : am_B 273 98 = bq_273_98 := by unfold am_B; rw [tt_273]; rfl
theorem bk_273_104 : am_B 273 104 = bq_273_104 := by unfold am_B; rw [tt_273]; rfl
theorem en_273 {d : Nat} {v0 : Nat} {v1 : Int32} {v2 : Int32} {M : am_M} : am_call d 273 [.ref v0, .int v1, .int v2] M = am_run d 273 bq_273_0 [some (.ref v0), some (.int v1), some (.int v2), none, none, none, none, none] [] M := by unfold am_call; rw [bk_273_0]; rfl
theorem mx_273 : am_mx 273 = 8 := rfl
theorem tt_274 : am_tab 274 = tb_274 := rfl
theorem bk_274_0 : am_B 274 0 = bq_274_0 := by unfold am_B; rw [tt_274]; rfl
theorem bk_274_4 : am_B 274 4 = bq_274_4 := by unfold am_B; rw [tt_274]; rfl
theorem bk_274_39 : am_B 274 39 = bq_274_39 := by unfold am_B; rw [tt_274]; rfl
theorem en_274 {d : Nat} {v0 : Nat} {M : am_M} : am_call d 274 [.ref v0] M = am_run d 274 bq_274_0 [some (.ref v0), none, none] [] M := by unfold am_call; rw [bk_274_0]; rfl
theorem mx_274 : am_mx 274 = 3 := rfl
theorem tt_275 : am_tab 275 = tb_275 := rfl
theorem bk_275_0 : am_B 275 0 = bq_275_0 := by unfold am_B; rw [tt_275]; rfl
theorem bk_275_12 : am_B 275 12 = bq_275_12 := by unfold am_B; rw [tt_275]; rfl
theorem bk_275_24 : am_B 275 24 = bq_275_24 := by unfold am_B; rw [tt_275]; rfl
theorem bk_275_28 : am_B 275 28 = bq_275_28 := by unfold am_B; rw [tt_275]; rfl
theorem bk_275_29 : am_B 275 29 = bq_275_29 := by unfold am_B; rw [tt_275]; rfl
theorem en_275 {d : Nat} {v0 : Int32} {M : am_M} : am_call d 275 [.int v0] M = am_run d 275 bq_275_0 [some (.int v0)] [] M := by unfold am_call; rw [bk_275_0]; rfl
theorem mx_275 : am_mx 275 = 1 := rfl
theorem tt_276 : am_tab 276 = tb_276 := rfl
theorem bk_276_0 : am_B 276 0 = bq_276_0 := by unfold am_B; rw [tt_276]; rfl
theorem bk_276_5 : am_B 276 5 = bq_276_5 := by unfold am_B; rw [tt_276]; rfl
theorem bk_276_44 : am_B 276 44 = bq_276_44 := by unfold am_B; rw [tt_276]; rfl
theorem en_276 {d : Nat} {v0 : Nat} {M : am_M} : am_call d 276 [.ref v0] M = am_run d 276 bq_276_0 [some (.ref v0), none] [] M := by unfold am_call; rw [bk_276_0]; rfl
theorem mx_276 : am_mx 276 = 2 := rfl
theorem tt_277 : am_tab 277 = tb_277 := rfl
theorem bk_277_0 : am_B 277 0 = bq_277_0 := by unfold am_B; rw [tt_277]; rfl
theorem bk_277_16 : am_B 277 16 = bq_277_16 := by unfold am_B; rw [tt_277]; rfl
theorem bk_277_17 : am_B 277 17 = bq_277_17 := by unfold am_B; rw [tt_277]; rfl
theorem en_277 {d : Nat} {v0 : Int32} {M : am_M} : am_call d 277 [.int v0] M = am_run d 277 bq_277_0 [some (.int v0)] [] M := by unfold am_call; rw [bk_277_0]; rfl
theorem mx_277 : am_mx 277 = 1 := rfl
theorem tt_278 : am_tab 278 = tb_278 := rfl
theorem bk_278_0 : am_B 278 0 = bq_278_0 := by unfold am_B; rw [tt_278]; rfl
theorem bk_278_2 : am_B 278 2 = bq_278_2 := by unfold am_B; rw [tt_278]; rfl
theorem bk_278_65 : am_B 278 65 = bq_278_65 := by unfold am_B; rw [tt_278]; rfl
theorem en_278 {d : Nat} {v0 : Nat} {M : am_M} : am_call d 278 [.ref v0] M = am_run d 278 bq_278_0 [some (.ref v0), none] [] M := by unfold am_call; rw [bk_278_0]; rfl
theorem mx_278 : am_mx 278 = 2 := rfl
theorem tt_279 : am_tab 279 = tb_279 := rfl
theorem bk_279_0 : am_B 279 0 = bq_279_0 := by unfold am_B; rw [tt_279]; rfl
theorem bk_279_25 : am_B 279 25 = bq_279_25 := by unfold am_B; rw [tt_279]; rfl
theorem bk_279_29 : am_B 279 29 = bq_279_29 := by unfold am_B; rw [tt_279]; rfl
theorem bk_279_69 : am_B 279 69 = bq_279_69 := by unfold am_B; rw [tt_279]; rfl
theorem bk_279_70 : am_B 279 70 = bq_279_70 := by unfold am_B; rw [tt_279]; rfl
theorem bk_279_87 : am_B 279 87 = bq_279_87 := by unfold am_B; rw [tt_279]; rfl
theorem bk_279_108 : am_B 279 108 = bq_279_108 := by unfold am_B; rw [tt_279]; rfl
theorem bk_279_110 : am_B 279 110 = bq_279_110 := by unfold am_B; rw [tt_279]; rfl
theorem bk_279_111 : am_B 279 111 = bq_279_111 := by unfold am_B; rw [tt_279]; rfl
theorem en_279 {d : Nat} {v0 : Nat} {M : am_M} : am_call d 279 [.ref v0] M = am_run d 279 bq_279_0 [some (.ref v0), none, none, none] [] M := by unfold am_call; rw [bk_279_0]; rfl
theorem mx_279 : am_mx 279 = 4 := rfl
theorem tt_280 : am_tab 280 = tb_280 := rfl
theorem bk_280_0 : am_B 280 0 = bq_280_0 := by unfold am_B; rw [tt_280]; rfl
theorem en_280 {d : Nat} {v0 : Nat} {M : am_M} : am_call d 280 [.ref v0] M = am_run d 280 bq_280_0 [some (.ref v0)] [] M := by unfold am_call; rw [bk_280_0]; rfl
theorem mx_280 : am_mx 280 = 1 := rfl
theorem tt_281 : am_tab 281 = tb_281 := rfl
theorem bk_281_0 : am_B 281 0 = bq_281_0 := by unfold am_B; rw [tt_281]; rfl
theorem bk_281_8 : am_B 281 8 = bq_281_8 := by unfold am_B; rw [tt_281]; rfl
theorem bk_281_37 : am_B 281 37 = bq_281_37 := by unfold am_B; rw [tt_281]; rfl
theorem bk_281_78 : am_B 281 78 = bq_281_78 := by unfold am_B; rw [tt_281]; rfl
theorem bk_281_79 : am_B 281 79 = bq_281_79 := by unfold am_B; rw [tt_281]; rfl
theorem bk_281_86 : am_B 281 86 = bq_281_86 := by unfold am_B; rw [tt_281]; rfl
theorem en_281 {d : Nat} {v0 : Nat} {v1 : Int32} {M : am_M} : am_call d 281 [.ref v0, .int v1] M = am_run d 281 bq_281_0 [some (.ref v0), some (.int v1), none, none, none] [] M := by unfold am_call; rw [bk_281_0]; rfl
theorem mx_281 : am_mx 281 = 5 := rfl
theorem tt_282 : am_tab 282 = tb_282 := rfl
theorem bk_282_0 : am_B 282 0 = bq_282_0 := by unfold am_B; rw [tt_282]; rfl
theorem bk_282_14 : am_B 282 14 = bq_282_14 := by unfold am_B; rw [tt_282]; rfl
theorem en_282 {d : Nat} {v0 : Nat} {v1 : Int32} {M : am_M} : am_call d 282 [.ref v0, .int v1] M = am_run d 282 bq_282_0 [some (.ref v0), some (.int v1)] [] M := by unfold am_call; rw [bk_282_0]; rfl
theorem mx_282 : am_mx 282 = 2 := rfl
theorem tt_283 : am_tab 283 = tb_283 := rfl
theorem bk_283_0 : am_B 283 0 = bq_283_0 := by unfold am_B; rw [tt_283]; rfl
theorem bk_283_20 : am_B 283 20 = bq_283_20 := by unfold am_B; rw [tt_283]; rfl
theorem bk_283_33 : am_B 283 33 = bq_283_33 := by unfold am_B; rw [tt_283]; rfl
theorem en_283 {d : Nat} {v0 : Nat} {v1 : Int32} {v2 : Int32} {M : am_M} : am_call d 283 [.ref v0, .int v1, .int v2] M = am_run d 283 bq_283_0 [some (.ref v0), some (.int v1), some (.int v2)] [] M := by unfold am_call; rw [bk_283_0]; rfl
theorem mx_283 : am_mx 283 = 3 := rfl
theorem tt_284 : am_tab 284 = tb_284 := rfl
theorem bk_284_0 : am_B 284 0 = bq_284_0 := by unfold am_B; rw [tt_284]; rfl
theorem bk_284_30 : am_B 284 30 = bq_284_30 := by unfold am_B; rw [tt_284]; rfl
theorem bk_284_47 : am_B 284 47 = bq_284_47 := by unfold am_B; rw [tt_284]; rfl
theorem en_284 {d : Nat} {v0 : Nat} {v1 : Int32} {v2 : Int32} {M : am_M} : am_call d 284 [.ref v0, .int v1, .int v2] M = am_run d 284 bq_284_0 [some (.ref v0), some (.int v1), some (.int v2), none] [] M := by unfold am_call; rw [bk_284_0]; rfl
theorem mx_284 : am_mx 284 = 4 := rfl
theorem tt_285 : am_tab 285 = tb_285 := rfl
theorem bk_285_0 : am_B 285 0 = bq_285_0 := by unfold am_B; rw [tt_285]; rfl
theorem bk_285_10 : am_B 285 10 = bq_285_10 := by unfold am_B; rw [tt_285]; rfl
theorem en_285 {d : Nat} {v0 : Nat} {v1 : Int32} {v2 : Int32} {v3 : Int32} {M : am_M} : am_call d 285 [.ref v0, .int v1, .int v2, .int v3] M = am_run d 285 bq_285_0 [some (.ref v0), some (.int v1), some (.int v2), some (.int v3)] [] M := by unfold am_call; rw [bk_285_0]; rfl
theorem mx_285 : am_mx 285 = 4 := rfl
theorem tt_286 : am_tab 286 = tb_286 := rfl
theorem bk_286_0 : am_B 286 0 = bq_286_0 := by unfold am_B; rw [tt_286]; rfl
theorem en_286 {d : Nat} {v0 : Int32} {v1 : Int32} {v2 : Int32} {v3 : Int32} {v4 : Int32} {M : am_M} : am_call d 286 [.int v0, .int v1, .int v2, .int v3, .int v4] M = am_run d 286 bq_286_0 [some (.int v0), some (.int v1), some (.int v2), some (.int v3), some (.int v4)] [] M := by unfold am_call; rw [bk_286_0]; rfl
theorem mx_286 : am_mx 286 = 5 := rfl
theorem tt_287 : am_tab 287 = tb_287 := rfl
theorem bk_287_0 : am_B 287 0 = bq_287_0 := by unfold am_B; rw [tt_287]; rfl
theorem bk_287_21 : am_B 287 21 = bq_287_21 := by unfold am_B; rw [tt_287]; rfl
theorem bk_287_22 : am_B 287 22 = bq_287_22 := by unfold am_B; rw [tt_287]; rfl
theorem en_287 {d : Nat} {v0 : Nat} {v1 : Int64} {M : am_M} : am_call d 287 [.ref v0, .long v1] M = am_run d 287 bq_287_0 [some (.ref v0), some (.long v1), none] [] M := by unfold am_call; rw [bk_287_0]; rfl
theorem mx_287 : am_mx 287 = 3 := rfl
theorem tt_288 : am_tab 288 = tb_288 := rfl
theorem bk_288_0 : am_B 288 0 = bq_288_0 := by unfold am_B; rw [tt_288]; rfl
theorem en_288 {d : Nat} {v0 : Int32} {v1 : Int32} {v2 : Int32} {v3 : Int32} {M : am_M} : am_call d 288 [.int v0, .int v1, .int v2, .int v3] M = am_run d 288 bq_288_0 [some (.int v0), some (.int v1), some (.int v2), some (.int v3)] [] M := by unfold am_call; rw [bk_288_0]; rfl
theorem mx_288 : am_mx 288 = 4 := rfl
theorem tt_289 : am_tab 289 = tb_289 := rfl
theorem bk_289_0 : am_B 289 0 = bq_289_0 := by unfold am_B; rw [tt_289]; rfl
theorem en_289 {d : Nat} {v0 : Int32} {v1 : Int32} {v2 : Int32} {M : am_M} : am_call d 289 [.int v0, .int v1, .int v2] M = am_run d 289 bq_289_0 [some (.int v0), some (.int v1), some (.int v2)] [] M := by unfold am_call; rw [bk_289_0]; rfl
theorem mx_289 : am_mx 289 = 3 := rfl
theorem tt_290 : am_tab 290 = tb_290 := rfl
theorem bk_290_0 : am_B 290 0 = bq_290_0 := by unfold am_B; rw [tt_290]; rfl
theorem en_290 {d : Nat} {v0 : Int32} {v1 : Int32} {v2 : Int32} {v3 : Int32} {v4 : Int32} {v5 : Int32} {M : am_M} : am_call d 290 [.int v0, .int v1, .int v2, .int v3, .int v4, .int v5] M = am_run d 290 bq_290_0 [some (.int v0), some (.int v1), some (.int v2), some (.int v3), some (.int v4), some (.int v5)] [] M := by unfold am_call; rw [bk_290_0]; rfl
theorem mx_290 : am_mx 290 = 6 := rfl
theorem tt_291 : am_tab 291 = tb_291 := rfl
theorem bk_291_0 : am_B 291 0 = bq_291_0 := by unfold am_B; rw [tt_291]; rfl
theorem bk_291_10 : am_B 291 10 = bq_291_10 := by unfold am_B; rw [tt_291]; rfl
theorem bk_291_24 : am_B 291 24 = bq_291_24 := by unfold am_B; rw [tt_291]; rfl
theorem en_291 {d : Nat} {v0 : Nat} {v1 : Int32} {v2 : Int32} {v3 : Int32} {M : am_M} : am_call d 291 [.ref v0, .int v1, .int v2, .int v3] M = am_run d 291 bq_291_0 [some (.ref v0), some (.int v1), some (.int v2), some (.int v3)] [] M := by unfold am_call; rw [bk_291_0]; rfl
theorem mx_291 : am_mx 291 = 4 := rfl
theorem tt_292 : am_tab 292 = tb_292 := rfl
theorem bk_292_0 : am_B 292 0 = bq_292_0 := by unfold am_B; rw [tt_292]; rfl
theorem en_292 {d : Nat} {v0 : Int32} {v1 : Int32} {M : am_M} : am_call d 292 [.int v0, .int v1] M = am_run d 292 bq_292_0 [some (.int v0), some (.int v1)] [] M := by unfold am_call; rw [bk_292_0]; rfl
theorem mx_292 : am_mx 292 = 2 := rfl
theorem tt_293 : am_tab 293 = tb_293 := rfl
theorem bk_293_0 : am_B 293 0 = bq_293_0 := by unfold am_B; rw [tt_293]; rfl
theorem bk_293_19 : am_B 293 19 = bq_293_19 := by unfold am_B; rw [tt_293]; rfl
theorem bk_293_29 : am_B 293 29 = bq_293_29 := by unfold am_B; rw [tt_293]; rfl
theorem en_293 {d : Nat} {v0 : Nat} {v1 : Int32} {v2 : Int64} {M : am_M} : am_call d 293 [.ref v0, .int v1, .long v2] M = am_run d 293 bq_293_0 [some (.ref v0), some (.int v1), some (.long v2), none, none] [] M := by unfold am_call; rw [bk_293_0]; rfl
theorem mx_293 : am_mx 293 = 5 := rfl
theorem tt_294 : am_tab 294 = tb_294 := rfl
theorem bk_294_0 : am_B 294 0 = bq_294_0 := by unfold am_B; rw [tt_294]; rfl
theorem en_294 {d : Nat} {v0 : Nat} {v1 : Int32} {M : am_M} : am_call d 294 [.ref v0, .int v1] M = am_run d 294 bq_294_0 [some (.ref v0), some (.int v1), none] [] M := by unfold am_call; rw [bk_294_0]; rfl
theorem mx_294 : am_mx 294 = 3 := rfl
theorem tt_295 : am_tab 295 = tb_295 := rfl
theorem bk_295_0 : am_B 295 0 = bq_295_0 := by unfold am_B; rw [tt_295]; rfl
theorem bk_295_8 : am_B 295 8 = bq_295_8 := by unfold am_B; rw [tt_295]; rfl
theorem bk_295_39 : am_B 295 39 = bq_295_39 := by unfold am_B; rw [tt_295]; rfl
theorem bk_295_40 : am_B 295 40 = bq_295_40 := by unfold am_B; rw [tt_295]; rfl
theorem bk_295_41 : am_B 295 41 = bq_295_41 := by unfold am_B; rw [tt_295]; rfl
theorem bk_295_73 : am_B 295 73 = bq_295_73 := by unfold am_B; rw [tt_295]; rfl
theorem bk_295_74 : am_B 295 74 = bq_295_74 := by unfold am_B; rw [tt_295]; rfl
theorem en_295 {d : Nat} {v0 : Nat} {v1 : Int32} {v2 : Int64} {M : am_M} : am_call d 295 [.ref v0, .int v1, .long v2] M = am_run d 295 bq_295_0 [some (.ref v0), some (.int v1), some (.long v2), none] [] M := by unfold am_call; rw [bk_295_0]; rfl
theorem mx_295 : am_mx 295 = 4 := rfl
theorem tt_296 : am_tab 296 = tb_296 := rfl
theorem bk_296_0 : am_B 296 0 = bq_296_0 := by unfold am_B; rw [tt_296]; rfl
theorem bk_296_28 : am_B 296 28 = bq_296_28 := by unfold am_B; rw [tt_296]; rfl
theorem bk_296_35 : am_B 296 35 = bq_296_35 := by unfold am_B; rw [tt_296]; rfl
theorem bk_296_42 : am_B 296 42 = bq_296_42 := by unfold am_B; rw [tt_296]; rfl
theorem bk_296_49 : am_B 296 49 = bq_296_49 := by unfold am_B; rw [tt_296]; rfl
theorem bk_296_59 : am_B 296 59 = bq_296_59 := by unfold am_B; rw [tt_296]; rfl
theorem bk_296_65 : am_B 296 65 = bq_296_65 := by unfold am_B; rw [tt_296]; rfl
theorem en_296 {d : Nat} {v0 : Int32} {v1 : Int64} {v2 : Int64} {M : am_M} : am_call d 296 [.int v0, .long v1, .long v2] M = am_run d 296 bq_296_0 [some (.int v0), some (.long v1), none, some (.long v2), none] [] M := by unfold am_call; rw [bk_296_0]; rfl
theorem mx_296 : am_mx 296 = 5 := rfl
theorem tt_297 : am_tab 297 = tb_297 := rfl
theorem bk_297_0 : am_B 297 0 = bq_297_0 := by unfold am_B; rw [tt_297]; rfl
theorem bk_297_16 : am_B 297 16 = bq_297_16 := by unfold am_B; rw [tt_297]; rfl
theorem bk_297_20 : am_B 297 20 = bq_297_20 := by unfold am_B; rw [tt_297]; rfl
theorem bk_297_36 : am_B 297 36 = bq_297_36 := by unfold am_B; rw [tt_297]; rfl
theorem bk_297_40 : am_B 297 40 = bq_297_40 := by unfold am_B; rw [tt_297]; rfl
theorem bk_297_56 : am_B 297 56 = bq_297_56 := by unfold am_B; rw [tt_297]; rfl
theorem bk_297_60 : am_B 297 60 = bq_297_60 := by unfold am_B; rw [tt_297]; rfl
theorem bk_297_76 : am_B 297 76 = bq_297_76 := by unfold am_B; rw [tt_297]; rfl
theorem bk_297_80 : am_B 297 80 = bq_297_80 := by unfold am_B; rw [tt_297]; rfl
theorem bk_297_96 : am_B 297 96 = bq_297_96 := by unfold am_B; rw [tt_297]; rfl
theorem bk_297_100 : am_B 297 100 = bq_297_100 := by unfold am_B; rw [tt_297]; rfl
theorem bk_297_110 : am_B 297 110 = bq_297_110 := by unfold am_B; rw [tt_297]; rfl
theorem bk_297_111 : am_B 297 111 = bq_297_111 := by unfold am_B; rw [tt_297]; rfl
theorem en_297 {d : Nat} {v0 : Int32} {v1 : Int64} {v2 : Int64} {M : am_M} : am_call d 297 [.int v0, .long v1, .long v2] M = am_run d 297 bq_297_0 [some (.int v0), some (.long v1), none, some (.long v2), none] [] M := by unfold am_call; rw [bk_297_0]; rfl
theorem mx_297 : am_mx 297 = 5 := rfl
theorem tt_298 : am_tab 298 = tb_298 := rfl
theorem bk_298_0 : am_B 298 0 = bq_298_0 := by unfold am_B; rw [tt_298]; rfl
theorem bk_298_18 : am_B 298 18 = bq_298_18 := by unfold am_B; rw [tt_298]; rfl
theorem bk_298_22 : am_B 298 22 = bq_298_22 := by unfold am_B; rw [tt_298]; rfl
theorem bk_298_30 : am_B 298 30 = bq_298_30 := by unfold am_B; rw [tt_298]; rfl
theorem bk_298_34 : am_B 298 34 = bq_298_34 := by unfold am_B; rw [tt_298]; rfl
theorem bk_298_35 : am_B 298 35 = bq_298_35 := by unfold am_B; rw [tt_298]; rfl
theorem en_298 {d : Nat} {v0 : Int32} {v1 : Int32} {v2 : Int32} {M : am_M} : am_call d 298 [.int v0, .int v1, .int v2] M = am_run d 298 bq_298_0 [some (.int v0), some (.int v1), some (.int v2)] [] M := by unfold am_call; rw [bk_298_0]; rfl
theorem mx_298 : am_mx 298 = 3 := rfl
theorem tt_299 : am_tab 299 = tb_299 := rfl
theorem bk_299_0 : am_B 299 0 = bq_299_0 := by unfold am_B; rw [tt_299]; rfl
theorem bk_299_10 : am_B 299 10 = bq_299_10 := by unfold am_B; rw [tt_299]; rfl
theorem bk_299_64 : am_B 299 64 = bq_299_64 := by unfold am_B; rw [tt_299]; rfl
theorem bk_299_65 : am_B 299 65 = bq_299_65 := by unfold am_B; rw [tt_299]; rfl
theorem bk_299_73 : am_B 299 73 = bq_299_73 := by unfold am_B; rw [tt_299]; rfl
theorem bk_299_88 : am_B 299 88 = bq_299_88 := by unfold am_B; rw [tt_299]; rfl
theorem bk_299_96 : am_B 299 96 = bq_299_96 := by unfold am_B; rw [tt_299]; rfl
theorem bk_299_102 : am_B 299 102 = bq_299_102 := by unfold am_B; rw [tt_299]; rfl
theorem en_299 {d : Nat} {v0 : Nat} {v1 : Int32} {M : am_M} : am_call d 299 [.ref v0, .int v1] M = am_run d 299 bq_299_0 [some (.ref v0), some (.int v1), none, none, none, none, none] [] M := by unfold am_call; rw [bk_299_0]; rfl
theorem mx_299 : am_mx 299 = 7 := rfl
theorem tt_300 : am_tab 300 = tb_300 := rfl
theorem bk_300_0 : am_B 300 0 = bq_300_0 := by unfold am_B; rw [tt_300]; rfl
theorem bk_300_8 : am_B 300 8 = bq_300_8 := by unfold am_B; rw [tt_300]; rfl
theorem bk_300_37 : am_B 300 37 = bq_300_37 := by unfold am_B; rw [tt_300]; rfl
theorem bk_300_78 : am_B 300 78 = bq_300_78 := by unfold am_B; rw [tt_300]; rfl
theorem bk_300_79 : am_B 300 79 = bq_300_79 := by unfold am_B; rw [tt_300]; rfl
theorem bk_300_86 : am_B 300 86 = bq_300_86 := by unfold am_B; rw [tt_300]; rfl
theorem en_300 {d : Nat} {v0 : Nat} {v1 : Int32} {M : am_M} : am_call d 300 [.ref v0, .int v1] M = am_run d 300 bq_300_0 [some (.ref v0), some (.int v1), none, none, none] [] M := by unfold am_call; rw [bk_300_0]; rfl
theorem mx_300 : am_mx 300 = 5 := rfl
theorem tt_301 : am_tab 301 = tb_301 := rfl
theorem bk_301_0 : am_B 301 0 = bq_301_0 := by unfold am_B; rw [tt_301]; rfl
theorem bk_301_14 : am_B 301 14 = bq_301_14 := by unfold am_B; rw [tt_301]; rfl
theorem en_301 {d : Nat} {v0 : Nat} {v1 : Int32} {v2 : Int32} {M : am_M} : am_call d 301 [.ref v0, .int v1, .int v2] M = am_run d 301 bq_301_0 [some (.ref v0), some (.int v1), some (.int v2)] [] M := by unfold am_call; rw [bk_301_0]; rfl
theorem mx_301 : am_mx 301 = 3 := rfl
theorem tt_302 : am_tab 302 = tb_302 := rfl
theorem bk_302_0 : am_B 302 0 = bq_302_0 := by unfold am_B; rw [tt_302]; rfl
theorem bk_302_15 : am_B 302 15 = bq_302_15 := by unfold am_B; rw [tt_302]; rfl
theorem bk_302_32 : am_B 302 32 = bq_302_32 := by unfold am_B; rw [tt_302]; rfl
theorem bk_302_41 : am_B 302 41 = bq_302_41 := by unfold am_B; rw [tt_302]; rfl
theorem bk_302_48 : am_B 302 48 = bq_302_48 := by unfold am_B; rw [tt_302]; rfl
theorem bk_302_59 : am_B 302 59 = bq_302_59 := by unfold am_B; rw [tt_302]; rfl
theorem en_302 {d : Nat} {v0 : Nat} {M : am_M} : am_call d 302 [.ref v0] M = am_run d 302 bq_302_0 [some (.ref v0), none] [] M := by unfold am_call; rw [bk_302_0]; rfl
theorem mx_302 : am_mx 302 = 2 := rfl
theorem tt_303 : am_tab 303 = tb_303 := rfl
theorem bk_303_0 : am_B 303 0 = bq_303_0 := by unfold am_B; rw [tt_303]; rfl
theorem bk_303_14 : am_B 303 14 = bq_303_14 := by unfold am_B; rw [tt_303]; rfl
theorem bk_303_28 : am_B 303 28 = bq_303_28 := by unfold am_B; rw [tt_303]; rfl
theorem bk_303_29 : am_B 303 29 = bq_303_29 := by unfold am_B; rw [tt_303]; rfl
theorem en_303 {d : Nat} {v0 : Int64} {M : am_M} : am_call d 303 [.long v0] M = am_run d 303 bq_303_0 [some (.long v0), none] [] M := by unfold am_call; rw [bk_303_0]; rfl
theorem mx_303 : am_mx 303 = 2 := rfl
theorem tt_304 : am_tab 304 = tb_304 := rfl
theorem bk_304_0 : am_B 304 0 = bq_304_0 := by unfold am_B; rw [tt_304]; rfl
theorem bk_304_16 : am_B 304 16 = bq_304_16 := by unfold am_B; rw [tt_304]; rfl
theorem bk_304_28 : am_B 304 28 = bq_304_28 := by unfold am_B; rw [tt_304]; rfl
theorem bk_304_64 : am_B 304 64 = bq_304_64 := by unfold am_B; rw [tt_304]; rfl
theorem bk_304_76 : am_B 304 76 = bq_304_76 := by unfold am_B; rw [tt_304]; rfl
theorem bk_304_120 : am_B 304 120 = bq_304_120 := by unfold am_B; rw [tt_304]; rfl
theorem bk_304_143 : am_B 304 143 = bq_304_143 := by unfold am_B; rw [tt_304]; rfl
theorem bk_304_144 : am_B 304 144 = bq_304_144 := by unfold am_B; rw [tt_304]; rfl
theorem bk_304_145 : am_B 304 145 = bq_304_145 := by unfold am_B; rw [tt_304]; rfl
theorem bk_304_153 : am_B 304 153 = bq_304_153 := by unfold am_B; rw [tt_304]; rfl
theorem bk_304_180 : am_B 304 180 = bq_304_180 := by unfold am_B; rw [tt_304]; rfl
theorem bk_304_181 : am_B 304 181 = bq_304_181 := by unfold am_B; rw [tt_304]; rfl
theorem bk_304_182 : am_B 304 182 = bq_304_182 := by unfold am_B; rw [tt_304]; rfl
theorem bk_304_208 : am_B 304 208 = bq_304_208 := by unfold am_B; rw [tt_304]; rfl
theorem bk_304_209 : am_B 304 209 = bq_304_209 := by unfold am_B; rw [tt_304]; rfl
theorem en_304 {d : Nat} {v0 : Nat} {v1 : Int32} {M : am_M} : am_call d 304 [.ref v0, .int v1] M = am_run d 304 bq_304_0 [some (.ref v0), some (.int v1), none] [] M := by unfold am_call; rw [bk_304_0]; rfl
theorem mx_304 : am_mx 304 = 3 := rfl
theorem tt_305 : am_tab 305 = tb_305 := rfl
theorem bk_305_0 : am_B 305 0 = bq_305_0 := by unfold am_B; rw [tt_305]; rfl
theorem bk_305_22 : am_B 305 22 = bq_305_22 := by unfold am_B; rw [tt_305]; rfl
theorem bk_305_26 : am_B 305 26 = bq_305_26 := by unfold am_B; rw [tt_305]; rfl
theorem bk_305_60 : am_B 305 60 = bq_305_60 := by unfold am_B; rw [tt_305]; rfl
theorem bk_305_77 : am_B 305 77 = bq_305_77 := by unfold am_B; rw [tt_305]; rfl
theorem bk_305_107 : am_B 305 107 = bq_305_107 := by unfold am_B; rw [tt_305]; rfl
theorem bk_305_139 : am_B 305 139 = bq_305_139 := by unfold am_B; rw [tt_305]; rfl
theorem en_305 {d : Nat} {v0 : Nat} {M : am_M} : am_call d 305 [.ref v0] M = am_run d 305 bq_305_0 [some (.ref v0), none, none, none] [] M := by unfold am_call; rw [bk_305_0]; rfl
theorem mx_305 : am_mx 305 = 4 := rfl
theorem tt_306 : am_tab 306 = tb_306 := rfl
theorem bk_306_0 : am_B 306 0 = bq_306_0 := by unfold am_B; rw [tt_306]; rfl
theorem bk_306_11 : am_B 306 11 = bq_306_11 := by unfold am_B; rw [tt_306]; rfl
theorem bk_306_20 : am_B 306 20 = bq_306_20 := by unfold am_B; rw [tt_306]; rfl
theorem en_306 {d : Nat} {v0 : Nat} {M : am_M} : am_call d 306 [.ref v0] M = am_run d 306 bq_306_0 [some (.ref v0)] [] M := by unfold am_call; rw [bk_306_0]; rfl
theorem mx_306 : am_mx 306 = 1 := rfl
theorem tt_307 : am_tab 307 = tb_307 := rfl
theorem bk_307_0 : am_B 307 0 = bq_307_0 := by unfold am_B; rw [tt_307]; rfl
theorem bk_307_80 : am_B 307 80 = bq_307_80 := by unfold am_B; rw [tt_307]; rfl
theorem bk_307_93 : am_B 307 93 = bq_307_93 := by unfold am_B; rw [tt_307]; rfl
theorem en_307 {d : Nat} {v0 : Nat} {v1 : Int32} {M : am_M} : am_call d 307 [.ref v0, .int v1] M = am_run d 307 bq_307_0 [some (.ref v0), some (.int v1)] [] M := by unfold am_call; rw [bk_307_0]; rfl
theorem mx_307 : am_mx 307 = 2 := rfl
theorem tt_308 : am_tab 308 = tb_308 := rfl
theorem bk_308_0 : am_B 308 0 = bq_308_0 := by unfold am_B; rw [tt_308]; rfl
theorem bk_308_20 : am_B 308 20 = bq_308_20 := by unfold am_B; rw [tt_308]; rfl
theorem bk_308_39 : am_B 308 39 = bq_308_39 := by unfold am_B; rw [tt_308]; rfl
theorem bk_308_51 : am_B 308 51 = bq_308_51 := by unfold am_B; rw [tt_308]; rfl
theorem bk_308_64 : am_B 308 64 = bq_308_64 := by unfold am_B; rw [tt_308]; rfl
theorem bk_308_65 : am_B 308 65 = bq_308_65 := by unfold am_B; rw [tt_308]; rfl
theorem bk_308_80 : am_B 308 80 = bq_308_80 := by unfold am_B; rw [tt_308]; rfl
theorem bk_308_81 : am_B 308 81 = bq_308_81 := by unfold am_B; rw [tt_308]; rfl
theorem bk_308_101 : am_B 308 101 = bq_308_101 := by unfold am_B; rw [tt_308]; rfl
theorem bk_308_117 : am_B 308 117 = bq_308_117 := by unfold am_B; rw [tt_308]; rfl
theorem bk_308_132 : am_B 308 132 = bq_308_132 := by unfold am_B; rw [tt_308]; rfl
theorem bk_308_158 : am_B 308 158 = bq_308_158 := by unfold am_B; rw [tt_308]; rfl
theorem bk_308_180 : am_B 308 180 = bq_308_180 := by unfold am_B; rw [tt_308]; rfl
theorem bk_308_201 : am_B 308 201 = bq_308_201 := by unfold am_B; rw [tt_308]; rfl
theorem bk_308_233 : am_B 308 233 = bq_308_233 := by unfold am_B; rw [tt_308]; rfl
theorem bk_308_234 : am_B 308 234 = bq_308_234 := by unfold am_B; rw [tt_308]; rfl
theorem en_308 {d : Nat} {v0 : Nat} {M : am_M} : am_call d 308 [.ref v0] M = am_run d 308 bq_308_0 [some (.ref v0), none] [] M := by unfold am_call; rw [bk_308_0]; rfl
theorem mx_308 : am_mx 308 = 2 := rfl
theorem tt_309 : am_tab 309 = tb_309 := rfl
theorem bk_309_0 : am_B 309 0 = bq_309_0 := by unfold am_B; rw [tt_309]; rfl
theorem bk_309_24 : am_B 309 24 = bq_309_24 := by unfold am_B; rw [tt_309]; rfl
theorem en_309 {d : Nat} {v0 : Nat} {M : am_M} : am_call d 309 [.ref v0] M = am_run d 309 bq_309_0 [some (.ref v0), none] [] M := by unfold am_call; rw [bk_309_0]; rfl
theorem mx_309 : am_mx 309 = 2 := rfl
theorem tt_310 : am_tab 310 = tb_310 := rfl
theorem bk_310_0 : am_B 310 0 = bq_310_0 := by unfold am_B; rw [tt_310]; rfl
theorem bk_310_23 : am_B 310 23 = bq_310_23 := by unfold am_B; rw [tt_310]; rfl
theorem bk_310_27 : am_B 310 27 = bq_310_27 := by unfold am_B; rw [tt_310]; rfl
theorem bk_310_31 : am_B 310 31 = bq_310_31 := by unfold am_B; rw [tt_310]; rfl
theorem bk_310_41 : am_B 310 41 = bq_310_41 := by unfold am_B; rw [tt_310]; rfl
theorem bk_310_42 : am_B 310 42 = bq_310_42 := by unfold am_B; rw [tt_310]; rfl
theorem bk_310_53 : am_B 310 53 = bq_310_53 := by unfold am_B; rw [tt_310]; rfl
theorem en_310 {d : Nat} {v0 : Nat} {M : am_M} : am_call d 310 [.ref v0] M = am_run d 310 bq_310_0 [some (.ref v0), none, none] [] M := by unfold am_call; rw [bk_310_0]; rfl
theorem mx_310 : am_mx 310 = 3 := rfl
theorem tt_311 : am_tab 311 = tb_311 := rfl
theorem bk_311_0 : am_B 311 0 = bq_311_0 := by unfold am_B; rw [tt_311]; rfl
theorem bk_311_17 : am_B 311 17 = bq_311_17 := by unfold am_B; rw [tt_311]; rfl
theorem bk_311_19 : am_B 311 19 = bq_311_19 := by unfold am_B; rw [tt_311]; rfl
theorem bk_311_57 : am_B 311 57 = bq_311_57 := by unfold am_B; rw [tt_311]; rfl
theorem bk_311_59 : am_B 311 59 = bq_311_59 := by unfold am_B; rw [tt_311]; rfl
theorem bk_311_91 : am_B 311 91 = bq_311_91 := by unfold am_B; rw [tt_311]; rfl
theorem bk_311_93 : am_B 311 93 = bq_311_93 := by unfold am_B; rw [tt_311]; rfl
theorem bk_311_125 : am_B 311 125 = bq_311_125 := by unfold am_B; rw [tt_311]; rfl
theorem bk_311_126 : am_B 311 126 = bq_311_126 := by unfold am_B; rw [tt_311]; rfl
theorem en_311 {d : Nat} {v0 : Nat} {v1 : Int32} {M : am_M} : am_call d 311 [.ref v0, .int v1] M = am_run d 311 bq_311_0 [some (.ref v0), some (.int v1), none, none] [] M := by unfold am_call; rw [bk_311_0]; rfl
theorem mx_311 : am_mx 311 = 4 := rfl
theorem tt_312 : am_tab 312 = tb_312 := rfl
theorem bk_312_0 : am_B 312 0 = bq_312_0 := by unfold am_B; rw [tt_312]; rfl
theorem bk_312_12 : am_B 312 12 = bq_312_12 := by unfold am_B; rw [tt_312]; rfl
theorem bk_312_24 : am_B 312 24 = bq_312_24 := by unfold am_B; rw [tt_312]; rfl
theorem bk_312_36 : am_B 312 36 = bq_312_36 := by unfold am_B; rw [tt_312]; rfl
theorem bk_312_48 : am_B 312 48 = bq_312_48 := by unfold am_B; rw [tt_312]; rfl
theorem bk_312_59 : am_B 312 59 = bq_312_59 := by unfold am_B; rw [tt_312]; rfl
theorem bk_312_71 : am_B 312 71 = bq_312_71 := by unfold am_B; rw [tt_312]; rfl
theorem bk_312_92 : am_B 312 92 = bq_312_92 := by unfold am_B; rw [tt_312]; rfl
theorem bk_312_111 : am_B 312 111 = bq_312_111 := by unfold am_B; rw [tt_312]; rfl
theorem bk_312_112 : am_B 312 112 = bq_312_112 := by unfold am_B; rw [tt_312]; rfl
theorem en_312 {d : Nat} {v0 : Nat} {M : am_M} : am_call d 312 [.ref v0] M = am_run d 312 bq_312_0 [some (.ref v0)] [] M := by unfold am_call; rw [bk_312_0]; rfl
theorem mx_312 : am_mx 312 = 1 := rfl
theorem tt_313 : am_tab 313 = tb_313 := rfl
theorem bk_313_0 : am_B 313 0 = bq_313_0 := by unfold am_B; rw [tt_313]; rfl
theorem bk_313_10 : am_B 313 10 = bq_313_10 := by unfold am_B; rw [tt_313]; rfl
theorem bk_313_20 : am_B 313 20 = bq_313_20 := by unfold am_B; rw [tt_313]; rfl
theorem bk_313_30 : am_B 313 30 = bq_313_30 := by unfold am_B; rw [tt_313]; rfl
theorem bk_313_40 : am_B 313 40 = bq_313_40 := by unfold am_B; rw [tt_313]; rfl
theorem bk_313_50 : am_B 313 50 = bq_313_50 := by unfold am_B; rw [tt_313]; rfl
theorem bk_313_61 : am_B 313 61 = bq_313_61 := by unfold am_B; rw [tt_313]; rfl
theorem bk_313_71 : am_B 313 71 = bq_313_71 := by unfold am_B; rw [tt_313]; rfl
theorem bk_313_73 : am_B 313 73 = bq_313_73 := by unfold am_B; rw [tt_313]; rfl
theorem en_313 {d : Nat} {v0 : Int32} {M : am_M} : am_call d 313 [.int v0] M = am_run d 313 bq_313_0 [some (.int v0)] [] M := by unfold am_call; rw [bk_313_0]; rfl
theorem mx_313 : am_mx 313 = 1 := rfl
theorem tt_314 : am_tab 314 = tb_314 := rfl
theorem bk_314_0 : am_B 314 0 = bq_314_0 := by unfold am_B; rw [tt_314]; rfl
theorem bk_314_32 : am_B 314 32 = bq_314_32 := by unfold am_B; rw [tt_314]; rfl
theorem bk_314_45 : am_B 314 45 = bq_314_45 := by unfold am_B; rw [tt_314]; rfl
theorem bk_314_46 : am_B 314 46 = bq_314_46 := by unfold am_B; rw [tt_314]; rfl
theorem bk_314_47 : am_B 314 47 = bq_314_47 := by unfold am_B; rw [tt_314]; rfl
theorem bk_314_77 : am_B 314 77 = bq_314_77 := by unfold am_B; rw [tt_314]; rfl
theorem bk_314_78 : am_B 314 78 = bq_314_78 := by unfold am_B; rw [tt_314]; rfl
theorem bk_314_79 : am_B 314 79 = bq_314_79 := by unfold am_B; rw [tt_314]; rfl
theorem bk_314_102 : am_B 314 102 = bq_314_102 := by unfold am_B; rw [tt_314]; rfl
theorem bk_314_103 : am_B 314 103 = bq_314_103 := by unfold am_B; rw [tt_314]; rfl
theorem bk_314_104 : am_B 314 104 = bq_314_104 := by unfold am_B; rw [tt_314]; rfl
theorem bk_314_124 : am_B 314 124 = bq_314_124 := by unfold am_B; rw [tt_314]; rfl
theorem bk_314_125 : am_B 314 125 = bq_314_125 := by unfold am_B; rw [tt_314]; rfl
theorem bk_314_126 : am_B 314 126 = bq_314_126 := by unfold am_B; rw [tt_314]; rfl
theorem en_314 {d : Nat} {v0 : Nat} {v1 : Int32} {M : am_M} : am_call d 314 [.ref v0, .int v1] M = am_run d 314 bq_314_0 [some (.ref v0), some (.int v1)] [] M := by unfold am_call; rw [bk_314_0]; rfl
theorem mx_314 : am_mx 314 = 2 := rfl
theorem tt_315 : am_tab 315 = tb_315 := rfl
theorem bk_315_0 : am_B 315 0 = bq_315_0 := by unfold am_B; rw [tt_315]; rfl
theorem bk_315_7 : am_B 315 7 = bq_315_7 := by unfold am_B; rw [tt_315]; rfl
theorem bk_315_28 : am_B 315 28 = bq_315_28 := by unfold am_B; rw [tt_315]; rfl
theorem en_315 {d : Nat} {v0 : Nat} {M : am_M} : am_call d 315 [.ref v0] M = am_run d 315 bq_315_0 [some (.ref v0), none] [] M := by unfold am_call; rw [bk_315_0]; rfl
theorem mx_315 : am_mx 315 = 2 := rfl
theorem tt_316 : am_tab 316 = tb_316 := rfl
theorem bk_316_0 : am_B 316 0 = bq_316_0 := by unfold am_B; rw [tt_316]; rfl
theorem en_316 {d : Nat} {v0 : Nat} {v1 : Int32} {v2 : Int32} {M : am_M} : am_call d 316 [.ref v0, .int v1, .int v2] M = am_run d 316 bq_316_0 [some (.ref v0), some (.int v1), some (.int v2)] [] M := by unfold am_call; rw [bk_316_0]; rfl
theorem mx_316 : am_mx 316 = 3 := rfl
theorem tt_317 : am_tab 317 = tb_317 := rfl
theorem bk_317_0 : am_B 317 0 = bq_317_0 := by unfold am_B; rw [tt_317]; rfl
theorem bk_317_10 : am_B 317 10 = bq_317_10 := by unfold am_B; rw [tt_317]; rfl
theorem bk_317_29 : am_B 317 29 = bq_317_29 := by unfold am_B; rw [tt_317]; rfl
theorem bk_317_52 : am_B 317 52 = bq_317_52 := by unfold am_B; rw [tt_317]; rfl
theorem bk_317_75 : am_B 317 75 = bq_317_75 := by unfold am_B; rw [tt_317]; rfl
theorem bk_317_100 : am_B 317 100 = bq_317_100 := by unfold am_B; rw [tt_317]; rfl
theorem bk_317_121 : am_B 317 121 = bq_317_121 := by unfold am_B; rw [tt_317]; rfl
theorem bk_317_146 : am_B 317 146 = bq_317_146 := by unfold am_B; rw [tt_317]; rfl
theorem bk_317_172 : am_B 317 172 = bq_317_172 := by unfold am_B; rw [tt_317]; rfl
theorem bk_317_198 : am_B 317 198 = bq_317_198 := by unfold am_B; rw [tt_317]; rfl
theorem bk_317_199 : am_B 317 199 = bq_317_199 := by unfold am_B; rw [tt_317]; rfl
theorem en_317 {d : Nat} {v0 : Nat} {M : am_M} : am_call d 317 [.ref v0] M = am_run d 317 bq_317_0 [some (.ref v0)] [] M := by unfold am_call; rw [bk_317_0]; rfl
theorem mx_317 : am_mx 317 = 1 := rfl
theorem tt_318 : am_tab 318 = tb_318 := rfl
theorem bk_318_0 : am_B 318 0 = bq_318_0 := by unfold am_B; rw [tt_318]; rfl
theorem bk_318_20 : am_B 318 20 = bq_318_20 := by unfold am_B; rw [tt_318]; rfl
theorem bk_318_28 : am_B 318 28 = bq_318_28 := by unfold am_B; rw [tt_318]; rfl
theorem bk_318_32 : am_B 318 32 = bq_318_32 := by unfold am_B; rw [tt_318]; rfl
theorem bk_318_33 : am_B 318 33 = bq_318_33 := by unfold am_B; rw [tt_318]; rfl
theorem en_318 {d : Nat} {v0 : Nat} {v1 : Int32} {M : am_M} : am_call d 318 [.ref v0, .int v1] M = am_run d 318 bq_318_0 [some (.ref v0), some (.int v1)] [] M := by unfold am_call; rw [bk_318_0]; rfl
theorem mx_318 : am_mx 318 = 2 := rfl
theorem tt_319 : am_tab 319 = tb_319 := rfl
theorem bk_319_0 : am_B 319 0 = bq_319_0 := by unfold am_B; rw [tt_319]; rfl
theorem bk_319_11 : am_B 319 11 = bq_319_11 := by unfold am_B; rw [tt_319]; rfl
theorem en_319 {d : Nat} {v0 : Nat} {v1 : Int32} {M : am_M} : am_call d 319 [.ref v0, .int v1] M = am_run d 319 bq_319_0 [some (.ref v0), some (.int v1)] [] M := by unfold am_call; rw [bk_319_0]; rfl
theorem mx_319 : am_mx 319 = 2 := rfl
theorem tt_320 : am_tab 320 = tb_320 := rfl
theorem bk_320_0 : am_B 320 0 = bq_320_0 := by unfold am_B; rw [tt_320]; rfl
theorem bk_320_47 : am_B 320 47 = bq_320_47 := by unfold am_B; rw [tt_320]; rfl
theorem bk_320_51 : am_B 320 51 = bq_320_51 := by unfold am_B; rw [tt_320]; rfl
theorem bk_320_52 : am_B 320 52 = bq_320_52 := by unfold am_B; rw [tt_320]; rfl
theorem en_320 {d : Nat} {v0 : Nat} {M : am_M} : am_call d 320 [.ref v0] M = am_run d 320 bq_320_0 [some (.ref v0)] [] M := by unfold am_call; rw [bk_320_0]; rfl
theorem mx_320 : am_mx 320 = 1 := rfl
theorem tt_321 : am_tab 321 = tb_321 := rfl
theorem bk_321_0 : am_B 321 0 = bq_321_0 := by unfold am_B; rw [tt_321]; rfl
theorem bk_321_8 : am_B 321 8 = bq_321_8 := by unfold am_B; rw [tt_321]; rfl
theorem bk_321_63 : am_B 321 63 = bq_321_63 := by unfold am_B; rw [tt_321]; rfl
theorem bk_321_64 : am_B 321 64 = bq_321_64 := by unfold am_B; rw [tt_321]; rfl
theorem bk_321_71 : am_B 321 71 = bq_321_71 := by unfold am_B; rw [tt_321]; rfl
theorem en_321 {d : Nat} {v0 : Nat} {v1 : Int32} {M : am_M} : am_call d 321 [.ref v0, .int v1] M = am_run d 321 bq_321_0 [some (.ref v0), some (.int v1), none, none] [] M := by unfold am_call; rw [bk_321_0]; rfl
theorem mx_321 : am_mx 321 = 4 := rfl
theorem tt_322 : am_tab 322 = tb_322 := rfl
theorem bk_322_0 : am_B 322 0 = bq_322_0 := by unfold am_B; rw [tt_322]; rfl
theorem bk_322_12 : am_B 322 12 = bq_322_12 := by unfold am_B; rw [tt_322]; rfl
theorem bk_322_14 : am_B 322 14 = bq_322_14 := by unfold am_B; rw [tt_322]; rfl
theorem en_322 {d : Nat} {v0 : Nat} {v1 : Int32} {M : am_M} : am_call d 322 [.ref v0, .int v1] M = am_run d 322 bq_322_0 [some (.ref v0), some (.int v1)] [] M := by unfold am_call; rw [bk_322_0]; rfl
theorem mx_322 : am_mx 322 = 2 := rfl
theorem tt_323 : am_tab 323 = tb_323 := rfl
theorem bk_323_0 : am_B 323 0 = bq_323_0 := by unfold am_B; rw [tt_323]; rfl
theorem bk_323_7 : am_B 323 7 = bq_323_7 := by unfold am_B; rw [tt_323]; rfl
theorem bk_323_30 : am_B 323 30 = bq_323_30 := by unfold am_B; rw [tt_323]; rfl
theorem bk_323_51 : am_B 323 51 = bq_323_51 := by unfold am_B; rw [tt_323]; rfl
theorem bk_323_52 : am_B 323 52 = bq_323_52 := by unfold am_B; rw [tt_323]; rfl
theorem en_323 {d : Nat} {v0 : Nat} {M : am_M} : am_call d 323 [.ref v0] M = am_run d 323 bq_323_0 [some (.ref v0), none] [] M := by unfold am_call; rw [bk_323_0]; rfl
theorem mx_323 : am_mx 323 = 2 := rfl
theorem tt_324 : am_tab 324 = tb_324 := rfl
theorem bk_324_0 : am_B 324 0 = bq_324_0 := by unfold am_B; rw [tt_324]; rfl
theorem bk_324_14 : am_B 324 14 = bq_324_14 := by unfold am_B; rw [tt_324]; rfl
theorem bk_324_27 : am_B 324 27 = bq_324_27 := by unfold am_B; rw [tt_324]; rfl
theorem bk_324_41 : am_B 324 41 = bq_324_41 := by unfold am_B; rw [tt_324]; rfl
theorem bk_324_54 : am_B 324 54 = bq_324_54 := by unfold am_B; rw [tt_324]; rfl
theorem bk_324_68 : am_B 324 68 = bq_324_68 := by unfold am_B; rw [tt_324]; rfl
theorem bk_324_82 : am_B 324 82 = bq_324_82 := by unfold am_B; rw [tt_324]; rfl
theorem bk_324_83 : am_B 324 83 = bq_324_83 := by unfold am_B; rw [tt_324]; rfl
theorem en_324 {d : Nat} {v0 : Nat} {M : am_M} : am_call d 324 [.ref v0] M = am_run d 324 bq_324_0 [some (.ref v0)] [] M := by unfold am_call; rw [bk_324_0]; rfl
theorem mx_324 : am_mx 324 = 1 := rfl
theorem tt_325 : am_tab 325 = tb_325 := rfl
theorem bk_325_0 : am_B 325 0 = bq_325_0 := by unfold am_B; rw [tt_325]; rfl
theorem bk_325_8 : am_B 325 8 = bq_325_8 := by unfold am_B; rw [tt_325]; rfl
theorem bk_325_63 : am_B 325 63 = bq_325_63 := by unfold am_B; rw [tt_325]; rfl
theorem bk_325_64 : am_B 325 64 = bq_325_64 := by unfold am_B; rw [tt_325]; rfl
theorem bk_325_71 : am_B 325 71 = bq_325_71 := by unfold am_B; rw [tt_325]; rfl
theorem en_325 {d : Nat} {v0 : Nat} {v1 : Int32} {M : am_M} : am_call d 325 [.ref v0, .int v1] M = am_run d 325 bq_325_0 [some (.ref v0), some (.int v1), none, none] [] M := by unfold am_call; rw [bk_325_0]; rfl
theorem mx_325 : am_mx 325 = 4 := rfl
theorem tt_326 : am_tab 326 = tb_326 := rfl
theorem bk_326_0 : am_B 326 0 = bq_326_0 := by unfold am_B; rw [tt_326]; rfl
theorem bk_326_21 : am_B 326 21 = bq_326_21 := by unfold am_B; rw [tt_326]; rfl
theorem bk_326_58 : am_B 326 58 = bq_326_58 := by unfold am_B; rw [tt_326]; rfl
theorem bk_326_59 : am_B 326 59 = bq_326_59 := by unfold am_B; rw [tt_326]; rfl
theorem bk_326_60 : am_B 326 60 = bq_326_60 := by unfold am_B; rw [tt_326]; rfl
theorem bk_326_70 : am_B 326 70 = bq_326_70 := by unfold am_B; rw [tt_326]; rfl
theorem bk_326_87 : am_B 326 87 = bq_326_87 := by unfold am_B; rw [tt_326]; rfl
theorem bk_326_99 : am_B 326 99 = bq_326_99 := by unfold am_B; rw [tt_326]; rfl
theorem bk_326_103 : am_B 326 103 = bq_326_103 := by unfold am_B; rw [tt_326]; rfl
theorem bk_326_104 : am_B 326 104 = bq_326_104 := by unfold am_B; rw [tt_326]; rfl
theorem bk_326_115 : am_B 326 115 = bq_326_115 := by unfold am_B; rw [tt_326]; rfl
theorem bk_326_149 : am_B 326 149 = bq_326_149 := by unfold am_B; rw [tt_326]; rfl
theorem bk_326_150 : am_B 326 150 = bq_326_150 := by unfold am_B; rw [tt_326]; rfl
theorem en_326 {d : Nat} {v0 : Nat} {v1 : Int32} {M : am_M} : am_call d 326 [.ref v0, .int v1] M = am_run d 326 bq_326_0 [some (.ref v0), some (.int v1), none, none] [] M := by unfold am_call; rw [bk_326_0]; rfl
theorem mx_326 : am_mx 326 = 4 := rfl
theorem tt_327 : am_tab 327 = tb_327 := rfl
theorem bk_327_0 : am_B 327 0 = bq_327_0 := by unfold am_B; rw [tt_327]; rfl
theorem bk_327_39 : am_B 327 39 = bq_327_39 := by unfold am_B; rw [tt_327]; rfl
theorem bk_327_52 : am_B 327 52 = bq_327_52 := by unfold am_B; rw [tt_327]; rfl
theorem bk_327_84 : am_B 327 84 = bq_327_84 := by unfold am_B; rw [tt_327]; rfl
theorem bk_327_112 : am_B 327 112 = bq_327_112 := by unfold am_B; rw [tt_327]; rfl
theorem bk_327_148 : am_B 327 148 = bq_327_148 := by unfold am_B; rw [tt_327]; rfl
theorem bk_327_158 : am_B 327 158 = bq_327_158 := by unfold am_B; rw [tt_327]; rfl
theorem en_327 {d : Nat} {v0 : Nat} {v1 : Int32} {M : am_M} : am_call d 327 [.ref v0, .int v1] M = am_run d 327 bq_327_0 [some (.ref v0), some (.int v1)] [] M := by unfold am_call; rw [bk_327_0]; rfl
theorem mx_327 : am_mx 327 = 2 := rfl
theorem sw_0_33 : am_sw 0 33 = [(0, 276), (1, 299), (2, 342), (3, 375), (4, 438), (5, 461), (6, 474), (7, 497), (8, 520), (9, 553), (10, 576), (11, 599), (12, 622), (13, 645), (14, 678), (15, 691), (16, 724), (17, 757), (18, 780), (19, 823), (20, 846), (21, 879), (22, 912), (23, 945), (24, 984), (25, 1007), (26, 1020), (27, 1053), (28, 1076), (29, 1099), (30, 1122), (31, 1155), (32, 1188), (33, 1201), (34, 1214), (35, 1237), (36, 1270), (37, 1303), (38, 1352), (39, 1375), (40, 1388), (41, 1421), (42, 1454), (43, 1487), (44, 1510), (45, 1553), (46, 1576), (47, 1599), (48, 1642), (49, 1655), (50, 1668), (51, 1691), (52, 1730), (53, 1743), (54, 1766), (55, 1779), (56, 1792)] := rfl
theorem sw_15_1 : am_sw 15 1 = [(0, 28), (1, 36)] := rfl
theorem sw_33_20 : am_sw 33 20 = [(0, 52), (1, 59), (2, 66), (3, 78)] := rfl
theorem sw_39_12 : am_sw 39 12 = [(0, 40), (1, 53), (2, 66)] := rfl
theorem sw_41_1 : am_sw 41 1 = [(0, 36), (1, 47), (2, 58), (3, 69), (4, 74)] := rfl
theorem sw_115_1 : am_sw 115 1 = [(0, 48), (1, 59), (2, 67), (3, 75), (4, 83), (5, 94), (6, 105), (7, 116)] := rfl
theorem sw_151_1 : am_sw 151 1 = [(2, 40), (3, 55), (4, 62), (5, 80), (6, 95), (7, 110)] := rfl
theorem sw_152_24 : am_sw 152 24 = [(2, 64), (3, 78), (4, 85), (5, 103), (6, 117), (7, 131)] := rfl
theorem sw_153_25 : am_sw 153 25 = [(0, 56), (1, 56), (2, 102), (3, 125)] := rfl
theorem sw_155_20 : am_sw 155 20 = [(0, 52), (1, 52), (2, 73), (3, 96)] := rfl
theorem sw_236_49 : am_sw 236 49 = [(10, 166), (11, 204), (13, 238), (14, 269), (18, 150), (38, 116), (41, 135)] := rfl
theorem sw_263_1 : am_sw 263 1 = [(35, 128), (36, 130), (37, 130), (38, 130), (39, 130), (40, 128), (41, 128), (42, 128), (43, 128), (44, 130), (45, 128), (46, 130), (47, 128), (48, 130), (49, 130), (50, 130), (51, 130), (52, 130), (53, 130), (54, 130), (55, 130), (56, 130), (57, 130), (58, 128), (59, 128), (60, 128), (61, 128), (62, 128)] := rfl
theorem sw_265_1 : am_sw 265 1 = [(2, 40), (3, 51), (4, 64), (5, 81), (6, 92), (7, 103)] := rfl
theorem sw_270_1 : am_sw 270 1 = [(25, 28), (26, 37), (27, 46)] := rfl
theorem sw_271_1 : am_sw 271 1 = [(16, 170), (17, 182), (18, 194), (19, 194), (20, 194), (21, 194), (22, 194), (23, 194), (24, 194), (25, 194), (26, 194), (27, 194), (28, 194), (29, 194), (30, 194), (31, 104), (32, 126), (33, 148), (34, 159), (35, 194), (36, 115), (37, 137)] := rfl
theorem sw_296_1 : am_sw 296 1 = [(6, 28), (7, 35), (8, 42)] := rfl
theorem sw_304_87 : am_sw 304 87 = [(12, 145), (26, 153), (29, 120)] := rfl
theorem sw_314_1 : am_sw 314 1 = [(40, 32), (41, 47), (42, 79), (43, 104)] := rfl
