set_option maxRecDepth 100000 in
theorem pgb_0 : am_chk 0 0 bq_0_0 = true := by decide +kernel
set_option maxRecDepth 100000 in
theorem pgb_18 : am_chk 0 18 bq_0_18 = true := by decide +kernel
set_option maxRecDepth 100000 in
theorem pgb_276 : am_chk 0 276 bq_0_276 = true := by decide +kernel
set_option maxRecDepth 100000 in
theorem pgb_299 : am_chk 0 299 bq_0_299 = true := by decide +kernel
set_option maxRecDepth 100000 in
theorem pgb_342 : am_chk 0 342 bq_0_342 = true := by decide +kernel
set_option maxRecDepth 100000 in
theorem pgb_375 : am_chk 0 375 bq_0_375 = true := by decide +kernel
set_option maxRecDepth 100000 in
theorem pgb_438 : am_chk 0 438 bq_0_438 = true := by decide +kernel
set_option maxRecDepth 100000 in
theorem pgb_461 : am_chk 0 461 bq_0_461 = true := by decide +kernel
set_option maxRecDepth 100000 in
theorem pgb_474 : am_chk 0 474 bq_0_474 = true := by decide +kernel
set_option maxRecDepth 100000 in
theorem pgb_497 : am_chk 0 497 bq_0_497 = true := by decide +kernel
set_option maxRecDepth 100000 in
theorem pgb_520 : am_chk 0 520 bq_0_520 = true := by decide +kernel
set_option maxRecDepth 100000 in
theorem pgb_553 : am_chk 0 553 bq_0_553 = true := by decide +kernel
set_option maxRecDepth 100000 in
theorem pgb_576 : am_chk 0 576 bq_0_576 = true := by decide +kernel
set_option maxRecDepth 100000 in
theorem pgb_599 : am_chk 0 599 bq_0_599 = true := by decide +kernel
set_option maxRecDepth 100000 in
theorem pgb_622 : am_chk 0 622 bq_0_622 = true := by decide +kernel
set_option maxRecDepth 100000 in
theorem pgb_645 : am_chk 0 645 bq_0_645 = true := by decide +kernel
set_option maxRecDepth 100000 in
theorem pgb_678 : am_chk 0 678 bq_0_678 = true := by decide +kernel
set_option maxRecDepth 100000 in
theorem pgb_691 : am_chk 0 691 bq_0_691 = true := by decide +kernel
set_option maxRecDepth 100000 in
theorem pgb_724 : am_chk 0 724 bq_0_724 = true := by decide +kernel
set_option maxRecDepth 100000 in
theorem pgb_757 : am_chk 0 757 bq_0_757 = true := by decide +kernel
