theorem zd_Law_law_0 : decode zc_Law_law 0 = .ok (.new 8, 3) := by decide +kernel
theorem zd_Law_law_3 : decode zc_Law_law 3 = .ok (.dup, 1) := by decide +kernel
theorem zd_Law_law_4 : decode zc_Law_law 4 = .ok (.invokespecial 63, 3) := by decide +kernel
theorem zd_Law_law_7 : decode zc_Law_law 7 = .ok (.astore_n 1, 1) := by decide +kernel
theorem zd_Law_law_8 : decode zc_Law_law 8 = .ok (.new 64, 3) := by decide +kernel
theorem zd_Law_law_11 : decode zc_Law_law 11 = .ok (.dup, 1) := by decide +kernel
theorem zd_Law_law_12 : decode zc_Law_law 12 = .ok (.invokespecial 66, 3) := by decide +kernel
theorem zd_Law_law_15 : decode zc_Law_law 15 = .ok (.astore_n 2, 1) := by decide +kernel
theorem zd_Law_law_16 : decode zc_Law_law 16 = .ok (.iconst 1, 1) := by decide +kernel
theorem zd_Law_law_17 : decode zc_Law_law 17 = .ok (.newarray .long, 2) := by decide +kernel
theorem zd_Law_law_19 : decode zc_Law_law 19 = .ok (.astore_n 3, 1) := by decide +kernel
theorem zd_Law_law_20 : decode zc_Law_law 20 = .ok (.iconst 0, 1) := by decide +kernel
theorem zd_Law_law_21 : decode zc_Law_law 21 = .ok (.istore 4, 2) := by decide +kernel
theorem zd_Law_law_23 : decode zc_Law_law 23 = .ok (.iload 4, 2) := by decide +kernel
theorem zd_Law_law_25 : decode zc_Law_law 25 = .ok (.aload_n 0, 1) := by decide +kernel
theorem zd_Law_law_26 : decode zc_Law_law 26 = .ok (.arraylength, 1) := by decide +kernel
theorem zd_Law_law_27 : decode zc_Law_law 27 = .ok (.iconst 4, 1) := by decide +kernel
theorem zd_Law_law_28 : decode zc_Law_law 28 = .ok (.isub, 1) := by decide +kernel
theorem zd_Law_law_29 : decode zc_Law_law 29 = .ok (.if_icmp .gt 851, 3) := by decide +kernel
theorem zd_Law_law_32 : decode zc_Law_law 32 = .ok (.aload_n 0, 1) := by decide +kernel
theorem zd_Law_law_33 : decode zc_Law_law 33 = .ok (.iload 4, 2) := by decide +kernel
theorem zd_Law_law_35 : decode zc_Law_law 35 = .ok (.iaload, 1) := by decide +kernel
theorem zd_Law_law_36 : decode zc_Law_law 36 = .ok (.bipush 31, 2) := by decide +kernel
theorem zd_Law_law_38 : decode zc_Law_law 38 = .ok (.iand, 1) := by decide +kernel
theorem zd_Law_law_39 : decode zc_Law_law 39 = .ok (.tableswitch 835 0 16 #[81, 161, 217, 261, 317, 373, 417, 461, 517, 585, 629, 672, 716, 760, 773, 809, 822], 81) := by decide +kernel
theorem zd_Law_law_120 : decode zc_Law_law 120 = .ok (.aload_n 1, 1) := by decide +kernel
theorem zd_Law_law_121 : decode zc_Law_law 121 = .ok (.aload_n 0, 1) := by decide +kernel
theorem zd_Law_law_122 : decode zc_Law_law 122 = .ok (.iload 4, 2) := by decide +kernel
theorem zd_Law_law_124 : decode zc_Law_law 124 = .ok (.iconst 1, 1) := by decide +kernel
theorem zd_Law_law_125 : decode zc_Law_law 125 = .ok (.iadd, 1) := by decide +kernel
theorem zd_Law_law_126 : decode zc_Law_law 126 = .ok (.iaload, 1) := by decide +kernel
theorem zd_Law_law_127 : decode zc_Law_law 127 = .ok (.i2l, 1) := by decide +kernel
theorem zd_Law_law_128 : decode zc_Law_law 128 = .ok (.bipush 32, 2) := by decide +kernel
theorem zd_Law_law_130 : decode zc_Law_law 130 = .ok (.lshl, 1) := by decide +kernel
theorem zd_Law_law_131 : decode zc_Law_law 131 = .ok (.aload_n 0, 1) := by decide +kernel
theorem zd_Law_law_132 : decode zc_Law_law 132 = .ok (.iload 4, 2) := by decide +kernel
theorem zd_Law_law_134 : decode zc_Law_law 134 = .ok (.iconst 2, 1) := by decide +kernel
theorem zd_Law_law_135 : decode zc_Law_law 135 = .ok (.iadd, 1) := by decide +kernel
theorem zd_Law_law_136 : decode zc_Law_law 136 = .ok (.iaload, 1) := by decide +kernel
theorem zd_Law_law_137 : decode zc_Law_law 137 = .ok (.i2l, 1) := by decide +kernel
theorem zd_Law_law_138 : decode zc_Law_law 138 = .ok (.ldc2_w 67, 3) := by decide +kernel
theorem zd_Law_law_141 : decode zc_Law_law 141 = .ok (.land, 1) := by decide +kernel
theorem zd_Law_law_142 : decode zc_Law_law 142 = .ok (.lor, 1) := by decide +kernel
theorem zd_Law_law_143 : decode zc_Law_law 143 = .ok (.aload_n 0, 1) := by decide +kernel
theorem zd_Law_law_144 : decode zc_Law_law 144 = .ok (.iload 4, 2) := by decide +kernel
theorem zd_Law_law_146 : decode zc_Law_law 146 = .ok (.iconst 3, 1) := by decide +kernel
theorem zd_Law_law_147 : decode zc_Law_law 147 = .ok (.iadd, 1) := by decide +kernel
theorem zd_Law_law_148 : decode zc_Law_law 148 = .ok (.iaload, 1) := by decide +kernel
theorem zd_Law_law_149 : decode zc_Law_law 149 = .ok (.invokestatic 69, 3) := by decide +kernel
theorem zd_Law_law_152 : decode zc_Law_law 152 = .ok (.istore 5, 2) := by decide +kernel
theorem zd_Law_law_154 : decode zc_Law_law 154 = .ok (.aload_n 2, 1) := by decide +kernel
theorem zd_Law_law_155 : decode zc_Law_law 155 = .ok (.aload_n 0, 1) := by decide +kernel
theorem zd_Law_law_156 : decode zc_Law_law 156 = .ok (.iload 4, 2) := by decide +kernel
theorem zd_Law_law_158 : decode zc_Law_law 158 = .ok (.iconst 1, 1) := by decide +kernel
theorem zd_Law_law_159 : decode zc_Law_law 159 = .ok (.iadd, 1) := by decide +kernel
theorem zd_Law_law_160 : decode zc_Law_law 160 = .ok (.iaload, 1) := by decide +kernel
theorem zd_Law_law_161 : decode zc_Law_law 161 = .ok (.i2l, 1) := by decide +kernel
theorem zd_Law_law_162 : decode zc_Law_law 162 = .ok (.bipush 32, 2) := by decide +kernel
theorem zd_Law_law_164 : decode zc_Law_law 164 = .ok (.lshl, 1) := by decide +kernel
theorem zd_Law_law_165 : decode zc_Law_law 165 = .ok (.aload_n 0, 1) := by decide +kernel
