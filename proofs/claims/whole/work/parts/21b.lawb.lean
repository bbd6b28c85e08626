set_option maxRecDepth 100000 in
theorem pgb_780 : am_chk 0 780 bq_0_780 = true := by decide +kernel
set_option maxRecDepth 100000 in
theorem pgb_823 : am_chk 0 823 bq_0_823 = true := by decide +kernel
set_option maxRecDepth 100000 in
theorem pgb_846 : am_chk 0 846 bq_0_846 = true := by decide +kernel
set_option maxRecDepth 100000 in
theorem pgb_879 : am_chk 0 879 bq_0_879 = true := by decide +kernel
set_option maxRecDepth 100000 in
theorem pgb_912 : am_chk 0 912 bq_0_912 = true := by decide +kernel
set_option maxRecDepth 100000 in
theorem pgb_945 : am_chk 0 945 bq_0_945 = true := by decide +kernel
set_option maxRecDepth 100000 in
theorem pgb_958 : am_chk 0 958 bq_0_958 = true := by decide +kernel
set_option maxRecDepth 100000 in
theorem pgb_959 : am_chk 0 959 bq_0_959 = true := by decide +kernel
set_option maxRecDepth 100000 in
theorem pgb_975 : am_chk 0 975 bq_0_975 = true := by decide +kernel
set_option maxRecDepth 100000 in
theorem pgb_976 : am_chk 0 976 bq_0_976 = true := by decide +kernel
set_option maxRecDepth 100000 in
theorem pgb_984 : am_chk 0 984 bq_0_984 = true := by decide +kernel
set_option maxRecDepth 100000 in
theorem pgb_1007 : am_chk 0 1007 bq_0_1007 = true := by decide +kernel
set_option maxRecDepth 100000 in
theorem pgb_1020 : am_chk 0 1020 bq_0_1020 = true := by decide +kernel
set_option maxRecDepth 100000 in
theorem pgb_1053 : am_chk 0 1053 bq_0_1053 = true := by decide +kernel
set_option maxRecDepth 100000 in
theorem pgb_1076 : am_chk 0 1076 bq_0_1076 = true := by decide +kernel
set_option maxRecDepth 100000 in
theorem pgb_1099 : am_chk 0 1099 bq_0_1099 = true := by decide +kernel
set_option maxRecDepth 100000 in
theorem pgb_1122 : am_chk 0 1122 bq_0_1122 = true := by decide +kernel
set_option maxRecDepth 100000 in
theorem pgb_1155 : am_chk 0 1155 bq_0_1155 = true := by decide +kernel
set_option maxRecDepth 100000 in
theorem pgb_1188 : am_chk 0 1188 bq_0_1188 = true := by decide +kernel
set_option maxRecDepth 100000 in
theorem pgb_1201 : am_chk 0 1201 bq_0_1201 = true := by decide +kernel
