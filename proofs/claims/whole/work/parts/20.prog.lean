set_option maxRecDepth 100000 in
theorem pg_1 : (tb_1.all fun q => am_chk 1 q.1 q.2) = true := by decide +kernel
set_option maxRecDepth 100000 in
theorem pg_2 : (tb_2.all fun q => am_chk 2 q.1 q.2) = true := by decide +kernel
set_option maxRecDepth 100000 in
theorem pg_3 : (tb_3.all fun q => am_chk 3 q.1 q.2) = true := by decide +kernel
set_option maxRecDepth 100000 in
theorem pg_4 : (tb_4.all fun q => am_chk 4 q.1 q.2) = true := by decide +kernel
set_option maxRecDepth 100000 in
theorem pg_5 : (tb_5.all fun q => am_chk 5 q.1 q.2) = true := by decide +kernel
set_option maxRecDepth 100000 in
theorem pg_6 : (tb_6.all fun q => am_chk 6 q.1 q.2) = true := by decide +kernel
set_option maxRecDepth 100000 in
theorem pg_7 : (tb_7.all fun q => am_chk 7 q.1 q.2) = true := by decide +kernel
set_option maxRecDepth 100000 in
theorem pg_8 : (tb_8.all fun q => am_chk 8 q.1 q.2) = true := by decide +kernel
set_option maxRecDepth 100000 in
theorem pg_9 : (tb_9.all fun q => am_chk 9 q.1 q.2) = true := by decide +kernel
set_option maxRecDepth 100000 in
theorem pg_10 : (tb_10.all fun q => am_chk 10 q.1 q.2) = true := by decide +kernel
set_option maxRecDepth 100000 in
theorem pg_11 : (tb_11.all fun q => am_chk 11 q.1 q.2) = true := by decide +kernel
set_option maxRecDepth 100000 in
theorem pg_12 : (tb_12.all fun q => am_chk 12 q.1 q.2) = true := by decide +kernel
set_option maxRecDepth 100000 in
theorem pg_13 : (tb_13.all fun q => am_chk 13 q.1 q.2) = true := by decide +kernel
set_option maxRecDepth 100000 in
theorem pg_14 : (tb_14.all fun q => am_chk 14 q.1 q.2) = true := by decide +kernel
set_option maxRecDepth 100000 in
theorem pg_15 : (tb_15.all fun q => am_chk 15 q.1 q.2) = true := by decide +kernel
set_option maxRecDepth 100000 in
theorem pg_16 : (tb_16.all fun q => am_chk 16 q.1 q.2) = true := by decide +kernel
set_option maxRecDepth 100000 in
theorem pg_17 : (tb_17.all fun q => am_chk 17 q.1 q.2) = true := by decide +kernel
set_option maxRecDepth 100000 in
theorem pg_18 : (tb_18.all fun q => am_chk 18 q.1 q.2) = true := by decide +kernel
set_option maxRecDepth 100000 in
theorem pg_19 : (tb_19.all fun q => am_chk 19 q.1 q.2) = true := by decide +kernel
set_option maxRecDepth 100000 in
theorem pg_20 : (tb_20.all fun q => am_chk 20 q.1 q.2) = true := by decide +kernel
set_option maxRecDepth 100000 in
theorem pg_21 : (tb_21.all fun q => am_chk 21 q.1 q.2) = true := by decide +kernel
set_option maxRecDepth 100000 in
theorem pg_22 : (tb_22.all fun q => am_chk 22 q.1 q.2) = true := by decide +kernel
set_option maxRecDepth 100000 in
theorem pg_23 : (tb_23.all fun q => am_chk 23 q.1 q.2) = true := by decide +kernel
set_option maxRecDepth 100000 in
theorem pg_24 : (tb_24.all fun q => am_chk 24 q.1 q.2) = true := by decide +kernel
set_option maxRecDepth 100000 in
theorem pg_25 : (tb_25.all fun q => am_chk 25 q.1 q.2) = true := by decide +kernel
set_option maxRecDepth 100000 in
theorem pg_26 : (tb_26.all fun q => am_chk 26 q.1 q.2) = true := by decide +kernel
set_option maxRecDepth 100000 in
theorem pg_27 : (tb_27.all fun q => am_chk 27 q.1 q.2) = true := by decide +kernel
set_option maxRecDepth 100000 in
theorem pg_28 : (tb_28.all fun q => am_chk 28 q.1 q.2) = true := by decide +kernel
set_option maxRecDepth 100000 in
theorem pg_29 : (tb_29.all fun q => am_chk 29 q.1 q.2) = true := by decide +kernel
set_option maxRecDepth 100000 in
theorem pg_30 : (tb_30.all fun q => am_chk 30 q.1 q.2) = true := by decide +kernel
set_option maxRecDepth 100000 in
theorem pg_31 : (tb_31.all fun q => am_chk 31 q.1 q.2) = true := by decide +kernel
set_option maxRecDepth 100000 in
theorem pg_32 : (tb_32.all fun q => am_chk 32 q.1 q.2) = true := by decide +kernel
set_option maxRecDepth 100000 in
theorem pg_33 : (tb_33.all fun q => am_chk 33 q.1 q.2) = true := by decide +kernel
set_option maxRecDepth 100000 in
theorem pg_34 : (tb_34.all fun q => am_chk 34 q.1 q.2) = true := by decide +kernel
set_option maxRecDepth 100000 in
theorem pg_35 : (tb_35.all fun q => am_chk 35 q.1 q.2) = true := by decide +kernel
set_option maxRecDepth 100000 in
theorem pg_36 : (tb_36.all fun q => am_chk 36 q.1 q.2) = true := by decide +kernel
set_option maxRecDepth 100000 in
theorem pg_37 : (tb_37.all fun q => am_chk 37 q.1 q.2) = true := by decide +kernel
set_option maxRecDepth 100000 in
theorem pg_38 : (tb_38.all fun q => am_chk 38 q.1 q.2) = true := by decide +kernel
set_option maxRecDepth 100000 in
theorem pg_39 : (tb_39.all fun q => am_chk 39 q.1 q.2) = true := by decide +kernel
set_option maxRecDepth 100000 in
theorem pg_40 : (tb_40.all fun q => am_chk 40 q.1 q.2) = true := by decide +kernel
set_option maxRecDepth 100000 in
theorem pg_41 : (tb_41.all fun q => am_chk 41 q.1 q.2) = true := by decide +kernel
set_option maxRecDepth 100000 in
theorem pg_42 : (tb_42.all fun q => am_chk 42 q.1 q.2) = true := by decide +kernel
set_option maxRecDepth 100000 in
theorem pg_43 : (tb_43.all fun q => am_chk 43 q.1 q.2) = true := by decide +kernel
set_option maxRecDepth 100000 in
theorem pg_44 : (tb_44.all fun q => am_chk 44 q.1 q.2) = true := by decide +kernel
set_option maxRecDepth 100000 in
theorem pg_45 : (tb_45.all fun q => am_chk 45 q.1 q.2) = true := by decide +kernel
set_option maxRecDepth 100000 in
theorem pg_46 : (tb_46.all fun q => am_chk 46 q.1 q.2) = true := by decide +kernel
set_option maxRecDepth 100000 in
theorem pg_47 : (tb_47.all fun q => am_chk 47 q.1 q.2) = true := by decide +kernel
set_option maxRecDepth 100000 in
theorem pg_48 : (tb_48.all fun q => am_chk 48 q.1 q.2) = true := by decide +kernel
set_option maxRecDepth 100000 in
theorem pg_49 : (tb_49.all fun q => am_chk 49 q.1 q.2) = true := by decide +kernel
set_option maxRecDepth 100000 in
theorem pg_50 : (tb_50.all fun q => am_chk 50 q.1 q.2) = true := by decide +kernel
set_option maxRecDepth 100000 in
theorem pg_51 : (tb_51.all fun q => am_chk 51 q.1 q.2) = true := by decide +kernel
set_option maxRecDepth 100000 in
theorem pg_52 : (tb_52.all fun q => am_chk 52 q.1 q.2) = true := by decide +kernel
set_option maxRecDepth 100000 in
theorem pg_53 : (tb_53.all fun q => am_chk 53 q.1 q.2) = true := by decide +kernel
set_option maxRecDepth 100000 in
theorem pg_54 : (tb_54.all fun q => am_chk 54 q.1 q.2) = true := by decide +kernel
set_option maxRecDepth 100000 in
theorem pg_55 : (tb_55.all fun q => am_chk 55 q.1 q.2) = true := by decide +kernel
set_option maxRecDepth 100000 in
theorem pg_56 : (tb_56.all fun q => am_chk 56 q.1 q.2) = true := by decide +kernel
set_option maxRecDepth 100000 in
theorem pg_57 : (tb_57.all fun q => am_chk 57 q.1 q.2) = true := by decide +kernel
set_option maxRecDepth 100000 in
theorem pg_58 : (tb_58.all fun q => am_chk 58 q.1 q.2) = true := by decide +kernel
set_option maxRecDepth 100000 in
theorem pg_59 : (tb_59.all fun q => am_chk 59 q.1 q.2) = true := by decide +kernel
set_option maxRecDepth 100000 in
theorem pg_60 : (tb_60.all fun q => am_chk 60 q.1 q.2) = true := by decide +kernel
set_option maxRecDepth 100000 in
theorem pg_61 : (tb_61.all fun q => am_chk 61 q.1 q.2) = true := by decide +kernel
set_option maxRecDepth 100000 in
theorem pg_62 : (tb_62.all fun q => am_chk 62 q.1 q.2) = true := by decide +kernel
set_option maxRecDepth 100000 in
theorem pg_63 : (tb_63.all fun q => am_chk 63 q.1 q.2) = true := by decide +kernel
set_option maxRecDepth 100000 in
theorem pg_64 : (tb_64.all fun q => am_chk 64 q.1 q.2) = true := by decide +kernel
set_option maxRecDepth 100000 in
theorem pg_65 : (tb_65.all fun q => am_chk 65 q.1 q.2) = true := by decide +kernel
set_option maxRecDepth 100000 in
theorem pg_66 : (tb_66.all fun q => am_chk 66 q.1 q.2) = true := by decide +kernel
set_option maxRecDepth 100000 in
theorem pg_67 : (tb_67.all fun q => am_chk 67 q.1 q.2) = true := by decide +kernel
set_option maxRecDepth 100000 in
theorem pg_68 : (tb_68.all fun q => am_chk 68 q.1 q.2) = true := by decide +kernel
set_option maxRecDepth 100000 in
theorem pg_69 : (tb_69.all fun q => am_chk 69 q.1 q.2) = true := by decide +kernel
set_option maxRecDepth 100000 in
theorem pg_70 : (tb_70.all fun q => am_chk 70 q.1 q.2) = true := by decide +kernel
set_option maxRecDepth 100000 in
theorem pg_71 : (tb_71.all fun q => am_chk 71 q.1 q.2) = true := by decide +kernel
set_option maxRecDepth 100000 in
theorem pg_72 : (tb_72.all fun q => am_chk 72 q.1 q.2) = true := by decide +kernel
set_option maxRecDepth 100000 in
theorem pg_73 : (tb_73.all fun q => am_chk 73 q.1 q.2) = true := by decide +kernel
set_option maxRecDepth 100000 in
theorem pg_74 : (tb_74.all fun q => am_chk 74 q.1 q.2) = true := by decide +kernel
set_option maxRecDepth 100000 in
theorem pg_75 : (tb_75.all fun q => am_chk 75 q.1 q.2) = true := by decide +kernel
set_option maxRecDepth 100000 in
theorem pg_76 : (tb_76.all fun q => am_chk 76 q.1 q.2) = true := by decide +kernel
set_option maxRecDepth 100000 in
theorem pg_77 : (tb_77.all fun q => am_chk 77 q.1 q.2) = true := by decide +kernel
set_option maxRecDepth 100000 in
theorem pg_78 : (tb_78.all fun q => am_chk 78 q.1 q.2) = true := by decide +kernel
set_option maxRecDepth 100000 in
theorem pg_79 : (tb_79.all fun q => am_chk 79 q.1 q.2) = true := by decide +kernel
set_option maxRecDepth 100000 in
theorem pg_80 : (tb_80.all fun q => am_chk 80 q.1 q.2) = true := by decide +kernel
set_option maxRecDepth 100000 in
theorem pg_81 : (tb_81.all fun q => am_chk 81 q.1 q.2) = true := by decide +kernel
set_option maxRecDepth 100000 in
theorem pg_82 : (tb_82.all fun q => am_chk 82 q.1 q.2) = true := by decide +kernel
set_option maxRecDepth 100000 in
theorem pg_83 : (tb_83.all fun q => am_chk 83 q.1 q.2) = true := by decide +kernel
set_option maxRecDepth 100000 in
theorem pg_84 : (tb_84.all fun q => am_chk 84 q.1 q.2) = true := by decide +kernel
set_option maxRecDepth 100000 in
theorem pg_85 : (tb_85.all fun q => am_chk 85 q.1 q.2) = true := by decide +kernel
set_option maxRecDepth 100000 in
theorem pg_86 : (tb_86.all fun q => am_chk 86 q.1 q.2) = true := by decide +kernel
set_option maxRecDepth 100000 in
theorem pg_87 : (tb_87.all fun q => am_chk 87 q.1 q.2) = true := by decide +kernel
set_option maxRecDepth 100000 in
theorem pg_88 : (tb_88.all fun q => am_chk 88 q.1 q.2) = true := by decide +kernel
set_option maxRecDepth 100000 in
theorem pg_89 : (tb_89.all fun q => am_chk 89 q.1 q.2) = true := by decide +kernel
set_option maxRecDepth 100000 in
theorem pg_90 : (tb_90.all fun q => am_chk 90 q.1 q.2) = true := by decide +kernel
set_option maxRecDepth 100000 in
theorem pg_91 : (tb_91.all fun q => am_chk 91 q.1 q.2) = true := by decide +kernel
set_option maxRecDepth 100000 in
theorem pg_92 : (tb_92.all fun q => am_chk 92 q.1 q.2) = true := by decide +kernel
set_option maxRecDepth 100000 in
theorem pg_93 : (tb_93.all fun q => am_chk 93 q.1 q.2) = true := by decide +kernel
set_option maxRecDepth 100000 in
theorem pg_94 : (tb_94.all fun q => am_chk 94 q.1 q.2) = true := by decide +kernel
set_option maxRecDepth 100000 in
theorem pg_95 : (tb_95.all fun q => am_chk 95 q.1 q.2) = true := by decide +kernel
set_option maxRecDepth 100000 in
theorem pg_96 : (tb_96.all fun q => am_chk 96 q.1 q.2) = true := by decide +kernel
set_option maxRecDepth 100000 in
theorem pg_97 : (tb_97.all fun q => am_chk 97 q.1 q.2) = true := by decide +kernel
set_option maxRecDepth 100000 in
theorem pg_98 : (tb_98.all fun q => am_chk 98 q.1 q.2) = true := by decide +kernel
set_option maxRecDepth 100000 in
theorem pg_99 : (tb_99.all fun q => am_chk 99 q.1 q.2) = true := by decide +kernel
set_option maxRecDepth 100000 in
theorem pg_100 : (tb_100.all fun q => am_chk 100 q.1 q.2) = true := by decide +kernel
set_option maxRecDepth 100000 in
theorem pg_101 : (tb_101.all fun q => am_chk 101 q.1 q.2) = true := by decide +kernel
set_option maxRecDepth 100000 in
theorem pg_102 : (tb_102.all fun q => am_chk 102 q.1 q.2) = true := by decide +kernel
set_option maxRecDepth 100000 in
theorem pg_103 : (tb_103.all fun q => am_chk 103 q.1 q.2) = true := by decide +kernel
set_option maxRecDepth 100000 in
theorem pg_104 : (tb_104.all fun q => am_chk 104 q.1 q.2) = true := by decide +kernel
set_option maxRecDepth 100000 in
theorem pg_105 : (tb_105.all fun q => am_chk 105 q.1 q.2) = true := by decide +kernel
set_option maxRecDepth 100000 in
theorem pg_106 : (tb_106.all fun q => am_chk 106 q.1 q.2) = true := by decide +kernel
set_option maxRecDepth 100000 in
theorem pg_107 : (tb_107.all fun q => am_chk 107 q.1 q.2) = true := by decide +kernel
set_option maxRecDepth 100000 in
theorem pg_108 : (tb_108.all fun q => am_chk 108 q.1 q.2) = true := by decide +kernel
set_option maxRecDepth 100000 in
theorem pg_109 : (tb_109.all fun q => am_chk 109 q.1 q.2) = true := by decide +kernel
set_option maxRecDepth 100000 in
theorem pg_110 : (tb_110.all fun q => am_chk 110 q.1 q.2) = true := by decide +kernel
set_option maxRecDepth 100000 in
theorem pg_111 : (tb_111.all fun q => am_chk 111 q.1 q.2) = true := by decide +kernel
set_option maxRecDepth 100000 in
theorem pg_112 : (tb_112.all fun q => am_chk 112 q.1 q.2) = true := by decide +kernel
set_option maxRecDepth 100000 in
theorem pg_113 : (tb_113.all fun q => am_chk 113 q.1 q.2) = true := by decide +kernel
set_option maxRecDepth 100000 in
theorem pg_114 : (tb_114.all fun q => am_chk 114 q.1 q.2) = true := by decide +kernel
set_option maxRecDepth 100000 in
theorem pg_115 : (tb_115.all fun q => am_chk 115 q.1 q.2) = true := by decide +kernel
set_option maxRecDepth 100000 in
theorem pg_116 : (tb_116.all fun q => am_chk 116 q.1 q.2) = true := by decide +kernel
set_option maxRecDepth 100000 in
theorem pg_117 : (tb_117.all fun q => am_chk 117 q.1 q.2) = true := by decide +kernel
set_option maxRecDepth 100000 in
theorem pg_118 : (tb_118.all fun q => am_chk 118 q.1 q.2) = true := by decide +kernel
set_option maxRecDepth 100000 in
theorem pg_119 : (tb_119.all fun q => am_chk 119 q.1 q.2) = true := by decide +kernel
set_option maxRecDepth 100000 in
theorem pg_120 : (tb_120.all fun q => am_chk 120 q.1 q.2) = true := by decide +kernel
set_option maxRecDepth 100000 in
theorem pg_121 : (tb_121.all fun q => am_chk 121 q.1 q.2) = true := by decide +kernel
set_option maxRecDepth 100000 in
theorem pg_122 : (tb_122.all fun q => am_chk 122 q.1 q.2) = true := by decide +kernel
set_option maxRecDepth 100000 in
theorem pg_123 : (tb_123.all fun q => am_chk 123 q.1 q.2) = true := by decide +kernel
set_option maxRecDepth 100000 in
theorem pg_124 : (tb_124.all fun q => am_chk 124 q.1 q.2) = true := by decide +kernel
set_option maxRecDepth 100000 in
theorem pg_125 : (tb_125.all fun q => am_chk 125 q.1 q.2) = true := by decide +kernel
set_option maxRecDepth 100000 in
theorem pg_126 : (tb_126.all fun q => am_chk 126 q.1 q.2) = true := by decide +kernel
set_option maxRecDepth 100000 in
theorem pg_127 : (tb_127.all fun q => am_chk 127 q.1 q.2) = true := by decide +kernel
set_option maxRecDepth 100000 in
theorem pg_128 : (tb_128.all fun q => am_chk 128 q.1 q.2) = true := by decide +kernel
set_option maxRecDepth 100000 in
theorem pg_129 : (tb_129.all fun q => am_chk 129 q.1 q.2) = true := by decide +kernel
set_option maxRecDepth 100000 in
theorem pg_130 : (tb_130.all fun q => am_chk 130 q.1 q.2) = true := by decide +kernel
set_option maxRecDepth 100000 in
theorem pg_131 : (tb_131.all fun q => am_chk 131 q.1 q.2) = true := by decide +kernel
set_option maxRecDepth 100000 in
theorem pg_132 : (tb_132.all fun q => am_chk 132 q.1 q.2) = true := by decide +kernel
set_option maxRecDepth 100000 in
theorem pg_133 : (tb_133.all fun q => am_chk 133 q.1 q.2) = true := by decide +kernel
set_option maxRecDepth 100000 in
theorem pg_134 : (tb_134.all fun q => am_chk 134 q.1 q.2) = true := by decide +kernel
set_option maxRecDepth 100000 in
theorem pg_135 : (tb_135.all fun q => am_chk 135 q.1 q.2) = true := by decide +kernel
set_option maxRecDepth 100000 in
theorem pg_136 : (tb_136.all fun q => am_chk 136 q.1 q.2) = true := by decide +kernel
set_option maxRecDepth 100000 in
theorem pg_137 : (tb_137.all fun q => am_chk 137 q.1 q.2) = true := by decide +kernel
set_option maxRecDepth 100000 in
theorem pg_138 : (tb_138.all fun q => am_chk 138 q.1 q.2) = true := by decide +kernel
set_option maxRecDepth 100000 in
theorem pg_139 : (tb_139.all fun q => am_chk 139 q.1 q.2) = true := by decide +kernel
set_option maxRecDepth 100000 in
theorem pg_140 : (tb_140.all fun q => am_chk 140 q.1 q.2) = true := by decide +kernel
set_option maxRecDepth 100000 in
theorem pg_141 : (tb_141.all fun q => am_chk 141 q.1 q.2) = true := by decide +kernel
set_option maxRecDepth 100000 in
theorem pg_142 : (tb_142.all fun q => am_chk 142 q.1 q.2) = true := by decide +kernel
set_option maxRecDepth 100000 in
theorem pg_143 : (tb_143.all fun q => am_chk 143 q.1 q.2) = true := by decide +kernel
set_option maxRecDepth 100000 in
theorem pg_144 : (tb_144.all fun q => am_chk 144 q.1 q.2) = true := by decide +kernel
set_option maxRecDepth 100000 in
theorem pg_145 : (tb_145.all fun q => am_chk 145 q.1 q.2) = true := by decide +kernel
set_option maxRecDepth 100000 in
theorem pg_146 : (tb_146.all fun q => am_chk 146 q.1 q.2) = true := by decide +kernel
set_option maxRecDepth 100000 in
theorem pg_147 : (tb_147.all fun q => am_chk 147 q.1 q.2) = true := by decide +kernel
set_option maxRecDepth 100000 in
theorem pg_148 : (tb_148.all fun q => am_chk 148 q.1 q.2) = true := by decide +kernel
set_option maxRecDepth 100000 in
theorem pg_149 : (tb_149.all fun q => am_chk 149 q.1 q.2) = true := by decide +kernel
set_option maxRecDepth 100000 in
theorem pg_150 : (tb_150.all fun q => am_chk 150 q.1 q.2) = true := by decide +kernel
set_option maxRecDepth 100000 in
theorem pg_151 : (tb_151.all fun q => am_chk 151 q.1 q.2) = true := by decide +kernel
set_option maxRecDepth 100000 in
theorem pg_152 : (tb_152.all fun q => am_chk 152 q.1 q.2) = true := by decide +kernel
set_option maxRecDepth 100000 in
theorem pg_153 : (tb_153.all fun q => am_chk 153 q.1 q.2) = true := by decide +kernel
set_option maxRecDepth 100000 in
theorem pg_154 : (tb_154.all fun q => am_chk 154 q.1 q.2) = true := by decide +kernel
set_option maxRecDepth 100000 in
theorem pg_155 : (tb_155.all fun q => am_chk 155 q.1 q.2) = true := by decide +kernel
set_option maxRecDepth 100000 in
theorem pg_156 : (tb_156.all fun q => am_chk 156 q.1 q.2) = true := by decide +kernel
set_option maxRecDepth 100000 in
theorem pg_157 : (tb_157.all fun q => am_chk 157 q.1 q.2) = true := by decide +kernel
set_option maxRecDepth 100000 in
theorem pg_158 : (tb_158.all fun q => am_chk 158 q.1 q.2) = true := by decide +kernel
set_option maxRecDepth 100000 in
theorem pg_159 : (tb_159.all fun q => am_chk 159 q.1 q.2) = true := by decide +kernel
set_option maxRecDepth 100000 in
theorem pg_160 : (tb_160.all fun q => am_chk 160 q.1 q.2) = true := by decide +kernel
set_option maxRecDepth 100000 in
theorem pg_161 : (tb_161.all fun q => am_chk 161 q.1 q.2) = true := by decide +kernel
set_option maxRecDepth 100000 in
theorem pg_162 : (tb_162.all fun q => am_chk 162 q.1 q.2) = true := by decide +kernel
set_option maxRecDepth 100000 in
theorem pg_163 : (tb_163.all fun q => am_chk 163 q.1 q.2) = true := by decide +kernel
set_option maxRecDepth 100000 in
theorem pg_164 : (tb_164.all fun q => am_chk 164 q.1 q.2) = true := by decide +kernel
set_option maxRecDepth 100000 in
theorem pg_165 : (tb_165.all fun q => am_chk 165 q.1 q.2) = true := by decide +kernel
set_option maxRecDepth 100000 in
theorem pg_166 : (tb_166.all fun q => am_chk 166 q.1 q.2) = true := by decide +kernel
set_option maxRecDepth 100000 in
theorem pg_167 : (tb_167.all fun q => am_chk 167 q.1 q.2) = true := by decide +kernel
set_option maxRecDepth 100000 in
theorem pg_168 : (tb_168.all fun q => am_chk 168 q.1 q.2) = true := by decide +kernel
set_option maxRecDepth 100000 in
theorem pg_169 : (tb_169.all fun q => am_chk 169 q.1 q.2) = true := by decide +kernel
