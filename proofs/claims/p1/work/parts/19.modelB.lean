set_option maxRecDepth 20000 in
theorem dX11_count_0 : decode cX11_count 0 = .ok (.iload_n 1, 1) := by decide +kernel
set_option maxRecDepth 20000 in
theorem dX11_count_1 : decode cX11_count 1 = .ok (.tableswitch 165 0 12 #[67, 75, 83, 91, 99, 107, 115, 123, 131, 139, 144, 152, 157], 67) := by decide +kernel
set_option maxRecDepth 20000 in
theorem dX11_count_68 : decode cX11_count 68 = .ok (.aload_n 0, 1) := by decide +kernel
set_option maxRecDepth 20000 in
theorem dX11_count_69 : decode cX11_count 69 = .ok (.getfield 19, 3) := by decide +kernel
set_option maxRecDepth 20000 in
theorem dX11_count_72 : decode cX11_count 72 = .ok (.getfield 216, 3) := by decide +kernel
set_option maxRecDepth 20000 in
theorem dX11_count_75 : decode cX11_count 75 = .ok (.ireturn, 1) := by decide +kernel
set_option maxRecDepth 20000 in
theorem dX11_count_76 : decode cX11_count 76 = .ok (.aload_n 0, 1) := by decide +kernel
set_option maxRecDepth 20000 in
theorem dX11_count_77 : decode cX11_count 77 = .ok (.getfield 19, 3) := by decide +kernel
set_option maxRecDepth 20000 in
theorem dX11_count_80 : decode cX11_count 80 = .ok (.getfield 156, 3) := by decide +kernel
set_option maxRecDepth 20000 in
theorem dX11_count_83 : decode cX11_count 83 = .ok (.ireturn, 1) := by decide +kernel
set_option maxRecDepth 20000 in
theorem dX11_count_84 : decode cX11_count 84 = .ok (.aload_n 0, 1) := by decide +kernel
set_option maxRecDepth 20000 in
theorem dX11_count_85 : decode cX11_count 85 = .ok (.getfield 19, 3) := by decide +kernel
set_option maxRecDepth 20000 in
theorem dX11_count_88 : decode cX11_count 88 = .ok (.getfield 219, 3) := by decide +kernel
set_option maxRecDepth 20000 in
theorem dX11_count_91 : decode cX11_count 91 = .ok (.ireturn, 1) := by decide +kernel
set_option maxRecDepth 20000 in
theorem dX11_count_92 : decode cX11_count 92 = .ok (.aload_n 0, 1) := by decide +kernel
set_option maxRecDepth 20000 in
theorem dX11_count_93 : decode cX11_count 93 = .ok (.getfield 38, 3) := by decide +kernel
set_option maxRecDepth 20000 in
theorem dX11_count_96 : decode cX11_count 96 = .ok (.getfield 212, 3) := by decide +kernel
set_option maxRecDepth 20000 in
theorem dX11_count_99 : decode cX11_count 99 = .ok (.ireturn, 1) := by decide +kernel
set_option maxRecDepth 20000 in
theorem dX11_count_100 : decode cX11_count 100 = .ok (.aload_n 0, 1) := by decide +kernel
set_option maxRecDepth 20000 in
theorem dX11_count_101 : decode cX11_count 101 = .ok (.getfield 45, 3) := by decide +kernel
set_option maxRecDepth 20000 in
theorem dX11_count_104 : decode cX11_count 104 = .ok (.getfield 222, 3) := by decide +kernel
set_option maxRecDepth 20000 in
theorem dX11_count_107 : decode cX11_count 107 = .ok (.ireturn, 1) := by decide +kernel
set_option maxRecDepth 20000 in
theorem dX11_count_108 : decode cX11_count 108 = .ok (.aload_n 0, 1) := by decide +kernel
set_option maxRecDepth 20000 in
theorem dX11_count_109 : decode cX11_count 109 = .ok (.getfield 10, 3) := by decide +kernel
set_option maxRecDepth 20000 in
theorem dX11_count_112 : decode cX11_count 112 = .ok (.getfield 110, 3) := by decide +kernel
set_option maxRecDepth 20000 in
theorem dX11_count_115 : decode cX11_count 115 = .ok (.ireturn, 1) := by decide +kernel
set_option maxRecDepth 20000 in
theorem dX11_count_116 : decode cX11_count 116 = .ok (.aload_n 0, 1) := by decide +kernel
set_option maxRecDepth 20000 in
theorem dX11_count_117 : decode cX11_count 117 = .ok (.getfield 38, 3) := by decide +kernel
set_option maxRecDepth 20000 in
theorem dX11_count_120 : decode cX11_count 120 = .ok (.getfield 213, 3) := by decide +kernel
set_option maxRecDepth 20000 in
theorem dX11_count_123 : decode cX11_count 123 = .ok (.ireturn, 1) := by decide +kernel
set_option maxRecDepth 20000 in
theorem dX11_count_124 : decode cX11_count 124 = .ok (.aload_n 0, 1) := by decide +kernel
set_option maxRecDepth 20000 in
theorem dX11_count_125 : decode cX11_count 125 = .ok (.getfield 75, 3) := by decide +kernel
set_option maxRecDepth 20000 in
theorem dX11_count_128 : decode cX11_count 128 = .ok (.getfield 223, 3) := by decide +kernel
set_option maxRecDepth 20000 in
theorem dX11_count_131 : decode cX11_count 131 = .ok (.ireturn, 1) := by decide +kernel
set_option maxRecDepth 20000 in
theorem dX11_count_132 : decode cX11_count 132 = .ok (.aload_n 0, 1) := by decide +kernel
set_option maxRecDepth 20000 in
theorem dX11_count_133 : decode cX11_count 133 = .ok (.getfield 75, 3) := by decide +kernel
set_option maxRecDepth 20000 in
theorem dX11_count_136 : decode cX11_count 136 = .ok (.getfield 226, 3) := by decide +kernel
set_option maxRecDepth 20000 in
theorem dX11_count_139 : decode cX11_count 139 = .ok (.ireturn, 1) := by decide +kernel
set_option maxRecDepth 20000 in
theorem dX11_count_140 : decode cX11_count 140 = .ok (.aload_n 0, 1) := by decide +kernel
set_option maxRecDepth 20000 in
theorem dX11_count_141 : decode cX11_count 141 = .ok (.getfield 102, 3) := by decide +kernel
set_option maxRecDepth 20000 in
theorem dX11_count_144 : decode cX11_count 144 = .ok (.ireturn, 1) := by decide +kernel
set_option maxRecDepth 20000 in
theorem dX11_count_145 : decode cX11_count 145 = .ok (.aload_n 0, 1) := by decide +kernel
set_option maxRecDepth 20000 in
theorem dX11_count_146 : decode cX11_count 146 = .ok (.getfield 68, 3) := by decide +kernel
set_option maxRecDepth 20000 in
theorem dX11_count_149 : decode cX11_count 149 = .ok (.getfield 146, 3) := by decide +kernel
set_option maxRecDepth 20000 in
theorem dX11_count_152 : decode cX11_count 152 = .ok (.ireturn, 1) := by decide +kernel
set_option maxRecDepth 20000 in
theorem dX11_count_153 : decode cX11_count 153 = .ok (.aload_n 0, 1) := by decide +kernel
set_option maxRecDepth 20000 in
theorem dX11_count_154 : decode cX11_count 154 = .ok (.invokevirtual 229, 3) := by decide +kernel
set_option maxRecDepth 20000 in
theorem dX11_count_157 : decode cX11_count 157 = .ok (.ireturn, 1) := by decide +kernel
set_option maxRecDepth 20000 in
theorem dX11_count_158 : decode cX11_count 158 = .ok (.aload_n 0, 1) := by decide +kernel
set_option maxRecDepth 20000 in
theorem dX11_count_159 : decode cX11_count 159 = .ok (.getfield 85, 3) := by decide +kernel
set_option maxRecDepth 20000 in
theorem dX11_count_162 : decode cX11_count 162 = .ok (.getfield 232, 3) := by decide +kernel
set_option maxRecDepth 20000 in
theorem dX11_count_165 : decode cX11_count 165 = .ok (.ireturn, 1) := by decide +kernel
set_option maxRecDepth 20000 in
theorem dX11_count_166 : decode cX11_count 166 = .ok (.ldc 235, 2) := by decide +kernel
set_option maxRecDepth 20000 in
theorem dX11_count_168 : decode cX11_count 168 = .ok (.ireturn, 1) := by decide +kernel
set_option maxRecDepth 20000 in
theorem dX12_count_0 : decode cX12_count 0 = .ok (.aload_n 0, 1) := by decide +kernel
set_option maxRecDepth 20000 in
theorem dX12_count_1 : decode cX12_count 1 = .ok (.iconst 0, 1) := by decide +kernel
set_option maxRecDepth 20000 in
theorem dX12_count_2 : decode cX12_count 2 = .ok (.putfield 90, 3) := by decide +kernel
set_option maxRecDepth 20000 in
theorem dX12_count_5 : decode cX12_count 5 = .ok (.iload_n 1, 1) := by decide +kernel
set_option maxRecDepth 20000 in
theorem dX12_count_6 : decode cX12_count 6 = .ok (.tableswitch 140 0 12 #[66, 71, 76, 81, 86, 91, 96, 101, 109, 117, 122, 127, 135], 66) := by decide +kernel
set_option maxRecDepth 20000 in
theorem dX12_count_72 : decode cX12_count 72 = .ok (.aload_n 0, 1) := by decide +kernel
set_option maxRecDepth 20000 in
theorem dX12_count_73 : decode cX12_count 73 = .ok (.getfield 280, 3) := by decide +kernel
set_option maxRecDepth 20000 in
theorem dX12_count_76 : decode cX12_count 76 = .ok (.ireturn, 1) := by decide +kernel
set_option maxRecDepth 20000 in
theorem dX12_count_77 : decode cX12_count 77 = .ok (.aload_n 0, 1) := by decide +kernel
set_option maxRecDepth 20000 in
theorem dX12_count_78 : decode cX12_count 78 = .ok (.getfield 283, 3) := by decide +kernel
set_option maxRecDepth 20000 in
theorem dX12_count_81 : decode cX12_count 81 = .ok (.ireturn, 1) := by decide +kernel
set_option maxRecDepth 20000 in
theorem dX12_count_82 : decode cX12_count 82 = .ok (.aload_n 0, 1) := by decide +kernel
set_option maxRecDepth 20000 in
theorem dX12_count_83 : decode cX12_count 83 = .ok (.getfield 286, 3) := by decide +kernel
set_option maxRecDepth 20000 in
theorem dX12_count_86 : decode cX12_count 86 = .ok (.ireturn, 1) := by decide +kernel
set_option maxRecDepth 20000 in
theorem dX12_count_87 : decode cX12_count 87 = .ok (.aload_n 0, 1) := by decide +kernel
set_option maxRecDepth 20000 in
theorem dX12_count_88 : decode cX12_count 88 = .ok (.getfield 272, 3) := by decide +kernel
set_option maxRecDepth 20000 in
theorem dX12_count_91 : decode cX12_count 91 = .ok (.ireturn, 1) := by decide +kernel
set_option maxRecDepth 20000 in
theorem dX12_count_92 : decode cX12_count 92 = .ok (.aload_n 0, 1) := by decide +kernel
set_option maxRecDepth 20000 in
theorem dX12_count_93 : decode cX12_count 93 = .ok (.getfield 275, 3) := by decide +kernel
set_option maxRecDepth 20000 in
theorem dX12_count_96 : decode cX12_count 96 = .ok (.ireturn, 1) := by decide +kernel
set_option maxRecDepth 20000 in
theorem dX12_count_97 : decode cX12_count 97 = .ok (.aload_n 0, 1) := by decide +kernel
set_option maxRecDepth 20000 in
theorem dX12_count_98 : decode cX12_count 98 = .ok (.getfield 103, 3) := by decide +kernel
set_option maxRecDepth 20000 in
theorem dX12_count_101 : decode cX12_count 101 = .ok (.ireturn, 1) := by decide +kernel
set_option maxRecDepth 20000 in
theorem dX12_count_102 : decode cX12_count 102 = .ok (.aload_n 0, 1) := by decide +kernel
set_option maxRecDepth 20000 in
theorem dX12_count_103 : decode cX12_count 103 = .ok (.getfield 64, 3) := by decide +kernel
set_option maxRecDepth 20000 in
theorem dX12_count_106 : decode cX12_count 106 = .ok (.ireturn, 1) := by decide +kernel
set_option maxRecDepth 20000 in
theorem dX12_count_107 : decode cX12_count 107 = .ok (.aload_n 0, 1) := by decide +kernel
set_option maxRecDepth 20000 in
theorem dX12_count_108 : decode cX12_count 108 = .ok (.getfield 58, 3) := by decide +kernel
set_option maxRecDepth 20000 in
theorem dX12_count_111 : decode cX12_count 111 = .ok (.bipush 26, 2) := by decide +kernel
set_option maxRecDepth 20000 in
theorem dX12_count_113 : decode cX12_count 113 = .ok (.iaload, 1) := by decide +kernel
set_option maxRecDepth 20000 in
theorem dX12_count_114 : decode cX12_count 114 = .ok (.ireturn, 1) := by decide +kernel
set_option maxRecDepth 20000 in
theorem dX12_count_115 : decode cX12_count 115 = .ok (.aload_n 0, 1) := by decide +kernel
set_option maxRecDepth 20000 in
theorem dX12_count_116 : decode cX12_count 116 = .ok (.getfield 58, 3) := by decide +kernel
set_option maxRecDepth 20000 in
theorem dX12_count_119 : decode cX12_count 119 = .ok (.bipush 25, 2) := by decide +kernel
set_option maxRecDepth 20000 in
theorem dX12_count_121 : decode cX12_count 121 = .ok (.iaload, 1) := by decide +kernel
set_option maxRecDepth 20000 in
theorem dX12_count_122 : decode cX12_count 122 = .ok (.ireturn, 1) := by decide +kernel
set_option maxRecDepth 20000 in
theorem dX12_count_123 : decode cX12_count 123 = .ok (.aload_n 0, 1) := by decide +kernel
set_option maxRecDepth 20000 in
theorem dX12_count_124 : decode cX12_count 124 = .ok (.getfield 68, 3) := by decide +kernel
set_option maxRecDepth 20000 in
theorem dX12_count_127 : decode cX12_count 127 = .ok (.ireturn, 1) := by decide +kernel
set_option maxRecDepth 20000 in
theorem dX12_count_128 : decode cX12_count 128 = .ok (.aload_n 0, 1) := by decide +kernel
set_option maxRecDepth 20000 in
theorem dX12_count_129 : decode cX12_count 129 = .ok (.getfield 289, 3) := by decide +kernel
set_option maxRecDepth 20000 in
theorem dX12_count_132 : decode cX12_count 132 = .ok (.ireturn, 1) := by decide +kernel
set_option maxRecDepth 20000 in
theorem dX12_count_133 : decode cX12_count 133 = .ok (.aload_n 0, 1) := by decide +kernel
set_option maxRecDepth 20000 in
theorem dX12_count_134 : decode cX12_count 134 = .ok (.getfield 58, 3) := by decide +kernel
set_option maxRecDepth 20000 in
theorem dX12_count_137 : decode cX12_count 137 = .ok (.bipush 27, 2) := by decide +kernel
set_option maxRecDepth 20000 in
theorem dX12_count_139 : decode cX12_count 139 = .ok (.iaload, 1) := by decide +kernel
set_option maxRecDepth 20000 in
theorem dX12_count_140 : decode cX12_count 140 = .ok (.ireturn, 1) := by decide +kernel
set_option maxRecDepth 20000 in
theorem dX12_count_141 : decode cX12_count 141 = .ok (.aload_n 0, 1) := by decide +kernel
set_option maxRecDepth 20000 in
theorem dX12_count_142 : decode cX12_count 142 = .ok (.getfield 292, 3) := by decide +kernel
set_option maxRecDepth 20000 in
theorem dX12_count_145 : decode cX12_count 145 = .ok (.ireturn, 1) := by decide +kernel
set_option maxRecDepth 20000 in
theorem dX12_count_146 : decode cX12_count 146 = .ok (.ldc_w 325, 3) := by decide +kernel
set_option maxRecDepth 20000 in
theorem dX12_count_149 : decode cX12_count 149 = .ok (.ireturn, 1) := by decide +kernel
set_option maxRecDepth 20000 in
theorem dX12_council_0 : decode cX12_council 0 = .ok (.aload_n 0, 1) := by decide +kernel
set_option maxRecDepth 20000 in
theorem dX12_council_1 : decode cX12_council 1 = .ok (.iconst 0, 1) := by decide +kernel
set_option maxRecDepth 20000 in
theorem dX12_council_2 : decode cX12_council 2 = .ok (.putfield 90, 3) := by decide +kernel
set_option maxRecDepth 20000 in
theorem dX12_council_5 : decode cX12_council 5 = .ok (.iload_n 1, 1) := by decide +kernel
set_option maxRecDepth 20000 in
theorem dX12_council_6 : decode cX12_council 6 = .ok (.i2l, 1) := by decide +kernel
set_option maxRecDepth 20000 in
theorem dX12_council_7 : decode cX12_council 7 = .ok (.lconst 0, 1) := by decide +kernel
set_option maxRecDepth 20000 in
theorem dX12_council_8 : decode cX12_council 8 = .ok (.ldc2_w 365, 3) := by decide +kernel
set_option maxRecDepth 20000 in
theorem dX12_council_11 : decode cX12_council 11 = .ok (.invokestatic 211, 3) := by decide +kernel
set_option maxRecDepth 20000 in
theorem dX12_council_14 : decode cX12_council 14 = .ok (.ifCond .eq 11, 3) := by decide +kernel
set_option maxRecDepth 20000 in
theorem dX12_council_25 : decode cX12_council 25 = .ok (.iconst 0, 1) := by decide +kernel
set_option maxRecDepth 20000 in
theorem dX12_council_26 : decode cX12_council 26 = .ok (.ireturn, 1) := by decide +kernel
set_option maxRecDepth 20000 in
theorem dX12_council_17 : decode cX12_council 17 = .ok (.iload_n 1, 1) := by decide +kernel
set_option maxRecDepth 20000 in
theorem dX12_council_18 : decode cX12_council 18 = .ok (.aload_n 0, 1) := by decide +kernel
set_option maxRecDepth 20000 in
theorem dX12_council_19 : decode cX12_council 19 = .ok (.getfield 68, 3) := by decide +kernel
set_option maxRecDepth 20000 in
theorem dX12_council_22 : decode cX12_council 22 = .ok (.if_icmp .ne 5, 3) := by decide +kernel
set_option maxRecDepth 20000 in
theorem dX12_council_27 : decode cX12_council 27 = .ok (.aload_n 0, 1) := by decide +kernel
set_option maxRecDepth 20000 in
theorem dX12_council_28 : decode cX12_council 28 = .ok (.iload_n 1, 1) := by decide +kernel
set_option maxRecDepth 20000 in
theorem dX12_council_29 : decode cX12_council 29 = .ok (.putfield 68, 3) := by decide +kernel
set_option maxRecDepth 20000 in
theorem dX12_council_32 : decode cX12_council 32 = .ok (.iconst 1, 1) := by decide +kernel
set_option maxRecDepth 20000 in
theorem dX12_council_33 : decode cX12_council 33 = .ok (.ireturn, 1) := by decide +kernel
set_option maxRecDepth 20000 in
theorem dX12_law_0 : decode cX12_law 0 = .ok (.aload_n 0, 1) := by decide +kernel
set_option maxRecDepth 20000 in
theorem dX12_law_1 : decode cX12_law 1 = .ok (.iconst 0, 1) := by decide +kernel
set_option maxRecDepth 20000 in
theorem dX12_law_2 : decode cX12_law 2 = .ok (.putfield 90, 3) := by decide +kernel
set_option maxRecDepth 20000 in
theorem dX12_law_5 : decode cX12_law 5 = .ok (.iload_n 1, 1) := by decide +kernel
set_option maxRecDepth 20000 in
theorem dX12_law_6 : decode cX12_law 6 = .ok (.iconst (-1), 1) := by decide +kernel
set_option maxRecDepth 20000 in
theorem dX12_law_7 : decode cX12_law 7 = .ok (.if_icmp .eq 21, 3) := by decide +kernel
set_option maxRecDepth 20000 in
theorem dX12_law_28 : decode cX12_law 28 = .ok (.aload_n 0, 1) := by decide +kernel
set_option maxRecDepth 20000 in
theorem dX12_law_29 : decode cX12_law 29 = .ok (.iload_n 1, 1) := by decide +kernel
set_option maxRecDepth 20000 in
theorem dX12_law_30 : decode cX12_law 30 = .ok (.putfield 64, 3) := by decide +kernel
set_option maxRecDepth 20000 in
theorem dX12_law_33 : decode cX12_law 33 = .ok (.iconst 1, 1) := by decide +kernel
set_option maxRecDepth 20000 in
theorem dX12_law_34 : decode cX12_law 34 = .ok (.ireturn, 1) := by decide +kernel
set_option maxRecDepth 20000 in
theorem dX12_law_10 : decode cX12_law 10 = .ok (.iload_n 1, 1) := by decide +kernel
set_option maxRecDepth 20000 in
theorem dX12_law_11 : decode cX12_law 11 = .ok (.i2l, 1) := by decide +kernel
set_option maxRecDepth 20000 in
theorem dX12_law_12 : decode cX12_law 12 = .ok (.lconst 0, 1) := by decide +kernel
set_option maxRecDepth 20000 in
theorem dX12_law_13 : decode cX12_law 13 = .ok (.aload_n 0, 1) := by decide +kernel
set_option maxRecDepth 20000 in
theorem dX12_law_14 : decode cX12_law 14 = .ok (.getfield 272, 3) := by decide +kernel
set_option maxRecDepth 20000 in
theorem dX12_law_17 : decode cX12_law 17 = .ok (.iconst 1, 1) := by decide +kernel
set_option maxRecDepth 20000 in
theorem dX12_law_18 : decode cX12_law 18 = .ok (.isub, 1) := by decide +kernel
set_option maxRecDepth 20000 in
theorem dX12_law_19 : decode cX12_law 19 = .ok (.i2l, 1) := by decide +kernel
set_option maxRecDepth 20000 in
theorem dX12_law_20 : decode cX12_law 20 = .ok (.invokestatic 211, 3) := by decide +kernel
set_option maxRecDepth 20000 in
theorem dX12_law_23 : decode cX12_law 23 = .ok (.ifCond .ne 5, 3) := by decide +kernel
set_option maxRecDepth 20000 in
theorem dX12_law_26 : decode cX12_law 26 = .ok (.iconst 0, 1) := by decide +kernel
set_option maxRecDepth 20000 in
theorem dX12_law_27 : decode cX12_law 27 = .ok (.ireturn, 1) := by decide +kernel
set_option maxRecDepth 20000 in
theorem dX12_end_0 : decode cX12_end 0 = .ok (.aload_n 0, 1) := by decide +kernel
set_option maxRecDepth 20000 in
theorem dX12_end_1 : decode cX12_end 1 = .ok (.iconst 0, 1) := by decide +kernel
set_option maxRecDepth 20000 in
theorem dX12_end_2 : decode cX12_end 2 = .ok (.putfield 90, 3) := by decide +kernel
set_option maxRecDepth 20000 in
theorem dX12_end_5 : decode cX12_end 5 = .ok (.iload_n 1, 1) := by decide +kernel
set_option maxRecDepth 20000 in
theorem dX12_end_6 : decode cX12_end 6 = .ok (.ifCond .lt 11, 3) := by decide +kernel
set_option maxRecDepth 20000 in
theorem dX12_end_17 : decode cX12_end 17 = .ok (.iconst 0, 1) := by decide +kernel
set_option maxRecDepth 20000 in
theorem dX12_end_18 : decode cX12_end 18 = .ok (.ireturn, 1) := by decide +kernel
set_option maxRecDepth 20000 in
theorem dX12_end_9 : decode cX12_end 9 = .ok (.iload_n 1, 1) := by decide +kernel
set_option maxRecDepth 20000 in
theorem dX12_end_10 : decode cX12_end 10 = .ok (.aload_n 0, 1) := by decide +kernel
set_option maxRecDepth 20000 in
theorem dX12_end_11 : decode cX12_end 11 = .ok (.getfield 103, 3) := by decide +kernel
set_option maxRecDepth 20000 in
theorem dX12_end_14 : decode cX12_end 14 = .ok (.if_icmp .le 5, 3) := by decide +kernel
set_option maxRecDepth 20000 in
theorem dX12_end_19 : decode cX12_end 19 = .ok (.aload_n 0, 1) := by decide +kernel
set_option maxRecDepth 20000 in
theorem dX12_end_20 : decode cX12_end 20 = .ok (.iload_n 1, 1) := by decide +kernel
set_option maxRecDepth 20000 in
theorem dX12_end_21 : decode cX12_end 21 = .ok (.putfield 103, 3) := by decide +kernel
set_option maxRecDepth 20000 in
theorem dX12_end_24 : decode cX12_end 24 = .ok (.iconst 1, 1) := by decide +kernel
set_option maxRecDepth 20000 in
theorem dX12_end_25 : decode cX12_end 25 = .ok (.ireturn, 1) := by decide +kernel
set_option maxRecDepth 20000 in
theorem dX12_log_0 : decode cX12_log 0 = .ok (.aload_n 0, 1) := by decide +kernel
set_option maxRecDepth 20000 in
theorem dX12_log_1 : decode cX12_log 1 = .ok (.iconst 0, 1) := by decide +kernel
set_option maxRecDepth 20000 in
theorem dX12_log_2 : decode cX12_log 2 = .ok (.putfield 90, 3) := by decide +kernel
set_option maxRecDepth 20000 in
theorem dX12_log_5 : decode cX12_log 5 = .ok (.iload_n 1, 1) := by decide +kernel
set_option maxRecDepth 20000 in
theorem dX12_log_6 : decode cX12_log 6 = .ok (.i2l, 1) := by decide +kernel
set_option maxRecDepth 20000 in
theorem dX12_log_7 : decode cX12_log 7 = .ok (.lconst 0, 1) := by decide +kernel
set_option maxRecDepth 20000 in
theorem dX12_log_8 : decode cX12_log 8 = .ok (.aload_n 0, 1) := by decide +kernel
set_option maxRecDepth 20000 in
theorem dX12_log_9 : decode cX12_log 9 = .ok (.getfield 58, 3) := by decide +kernel
set_option maxRecDepth 20000 in
theorem dX12_log_12 : decode cX12_log 12 = .ok (.bipush 27, 2) := by decide +kernel
set_option maxRecDepth 20000 in
theorem dX12_log_14 : decode cX12_log 14 = .ok (.iaload, 1) := by decide +kernel
set_option maxRecDepth 20000 in
theorem dX12_log_15 : decode cX12_log 15 = .ok (.iconst 1, 1) := by decide +kernel
set_option maxRecDepth 20000 in
theorem dX12_log_16 : decode cX12_log 16 = .ok (.isub, 1) := by decide +kernel
set_option maxRecDepth 20000 in
theorem dX12_log_17 : decode cX12_log 17 = .ok (.i2l, 1) := by decide +kernel
set_option maxRecDepth 20000 in
theorem dX12_log_18 : decode cX12_log 18 = .ok (.invokestatic 211, 3) := by decide +kernel
set_option maxRecDepth 20000 in
theorem dX12_log_21 : decode cX12_log 21 = .ok (.ifCond .eq 41, 3) := by decide +kernel
set_option maxRecDepth 20000 in
theorem dX12_log_62 : decode cX12_log 62 = .ok (.iconst (-1), 1) := by decide +kernel
set_option maxRecDepth 20000 in
theorem dX12_log_63 : decode cX12_log 63 = .ok (.ireturn, 1) := by decide +kernel
def cntF (x : Int32) : Int32 := if x = 6 then -1 else if x = 9 then 1 else if 0 ≤ x ∧ x ≤ 12 then 0 else -1000000
def vs_f_X11_count : List Cond := .code yX11_count cX11_count 2 (some .int) :: ([.fieldLink RX11 19 "WallChapels" "town" "LWallChapels$Plan;", .fieldLink RX11 38 "WallChapels" "laws" "LWallChapels$Laws;", .fieldLink RX11 45 "WallChapels" "walks" "LWallChapels$Walks;", .fieldLink RX11 10 "WallChapels" "tape" "LWallChapels$Tape;", .fieldLink RX11 75 "WallChapels" "now" "LWallChapels$Scene;", .fieldLink RX11 102 "WallChapels" "councilShare" "I", .fieldLink RX11 68 "WallChapels" "sightings" "LWallChapels$Sightings;", .initialized RX11, .instanceMethod yX11_logLength, .selects RX11 yX11_logLength yX11_logLength, .methodLink RX11 289 yJ9_min_7cf53, .static yJ9_min_7cf53, .initialized RJ9, .code yJ9_min_7cf53 cJ9_min_7cf53 2 (some .int), .code yX11_logLength cX11_logLength 1 (some .int), .methodLink RX11 229 yX11_logLength, .fieldLink RX11 85 "WallChapels" "acts" "LWallChapels$Acts;", .constant RX11 235 (-1000000)] ++ (u_ws RX11 TX11 17 ++ (u_ws RX5 TX5 8 ++ (u_ws RX3 TX3 12 ++ (u_ws RX9 TX9 5 ++ (u_ws RX8 TX8 4 ++ (u_ws RX6 TX6 7 ++ (u_ws RX7 TX7 6 ++ (u_ws RX0 TX0 3)))))))))
theorem vs_f_X11_count_uX11 : ∀ w ∈ u_ws RX11 TX11 17, w ∈ vs_f_X11_count := fun _ h => List.mem_cons_of_mem _ (List.mem_append_right _ (List.mem_append_left _ h))
theorem vs_f_X11_count_uX5 : ∀ w ∈ u_ws RX5 TX5 8, w ∈ vs_f_X11_count := fun _ h => List.mem_cons_of_mem _ (List.mem_append_right _ (List.mem_append_right _ (List.mem_append_left _ h)))
theorem vs_f_X11_count_uX3 : ∀ w ∈ u_ws RX3 TX3 12, w ∈ vs_f_X11_count := fun _ h => List.mem_cons_of_mem _ (List.mem_append_right _ (List.mem_append_right _ (List.mem_append_right _ (List.mem_append_left _ h))))
theorem vs_f_X11_count_uX9 : ∀ w ∈ u_ws RX9 TX9 5, w ∈ vs_f_X11_count := fun _ h => List.mem_cons_of_mem _ (List.mem_append_right _ (List.mem_append_right _ (List.mem_append_right _ (List.mem_append_right _ (List.mem_append_left _ h)))))
theorem vs_f_X11_count_uX8 : ∀ w ∈ u_ws RX8 TX8 4, w ∈ vs_f_X11_count := fun _ h => List.mem_cons_of_mem _ (List.mem_append_right _ (List.mem_append_right _ (List.mem_append_right _ (List.mem_append_right _ (List.mem_append_right _ (List.mem_append_left _ h))))))
theorem vs_f_X11_count_uX6 : ∀ w ∈ u_ws RX6 TX6 7, w ∈ vs_f_X11_count := fun _ h => List.mem_cons_of_mem _ (List.mem_append_right _ (List.mem_append_right _ (List.mem_append_right _ (List.mem_append_right _ (List.mem_append_right _ (List.mem_append_right _ (List.mem_append_left _ h)))))))
theorem vs_f_X11_count_uX7 : ∀ w ∈ u_ws RX7 TX7 6, w ∈ vs_f_X11_count := fun _ h => List.mem_cons_of_mem _ (List.mem_append_right _ (List.mem_append_right _ (List.mem_append_right _ (List.mem_append_right _ (List.mem_append_right _ (List.mem_append_right _ (List.mem_append_right _ (List.mem_append_left _ h))))))))
theorem vs_f_X11_count_uX0 : ∀ w ∈ u_ws RX0 TX0 3, w ∈ vs_f_X11_count := fun _ h => List.mem_cons_of_mem _ (List.mem_append_right _ (List.mem_append_right _ (List.mem_append_right _ (List.mem_append_right _ (List.mem_append_right _ (List.mem_append_right _ (List.mem_append_right _ (List.mem_append_right _ (h)))))))))
set_option maxRecDepth 20000 in
theorem g_f_X11_count_f_X11_logLength : GoodIn vs_f_X11_count (wsV RX11 229 RX11 yX11_logLength vs_f_X11_logLength) := goodIn_r _ [16, 9, 10, 8, 15, 5, 11, 12, 13, 14, 19, 20, 21, 22, 23, 24, 25, 26, 27, 28, 29, 30, 31, 32, 33, 34, 35, 65, 66, 67, 68, 69, 70, 71] (by decide +kernel) (by decide +kernel)
set_option maxHeartbeats 4000000 in
set_option maxRecDepth 100000 in
theorem f_X11_count (l : Launch) (dC : Nat → ClassId) (dI : Nat → Nat → Nat) (sz : Nat) (q : Nat → Nat) (p0 : Int32) : Met l yX11_count vs_f_X11_count ({ frames := 2, cells := 0, slots := 0, locals := 33 }) (va_Pc [.ref (q 15), .int p0] (cW dC dI [((q 15), .inr (11, xF q 0 1)), ((q 1), .inr (5, [.int 0, .int 0, .int 0, .int 0, .ref (q 20), .ref (q 21), .ref (q 22), .ref (q 23)])), ((q 4), .inr (3, [.ref (q 30), .ref (q 31), .ref (q 32), .int 0, .int 0, .int (-1), .int 0, .int 0, .int 0, .int 0, .int 0, .int 0])), ((q 5), .inr (9, [.ref (q 33), .ref (q 34), .ref (q 35), .int 0, .int 0])), ((q 0), .inr (8, [.ref (q 16), .int 0, .int 0, .int 0])), ((q 9), .inr (6, [.int 0, .int 0, .int 0, .ref (q 40), .ref (q 41), .ref (q 42), .ref (q 43)])), ((q 8), .inr (7, [.ref (q 36), .ref (q 37), .ref (q 38), .ref (q 39), .int 0, .int 0])), ((q 11), .inr (0, [.ref (q 44), .int 0, .int 0]))] [] sz)) (va_Qi (fun (r : Int32) (_ : Unit) => r = cntF p0) (fun (_ : Unit) (t : State) => True) (va_A [((q 15), .inr (11, xF q 0 1)), ((q 1), .inr (5, [.int 0, .int 0, .int 0, .int 0, .ref (q 20), .ref (q 21), .ref (q 22), .ref (q 23)])), ((q 4), .inr (3, [.ref (q 30), .ref (q 31), .ref (q 32), .int 0, .int 0, .int (-1), .int 0, .int 0, .int 0, .int 0, .int 0, .int 0])), ((q 5), .inr (9, [.ref (q 33), .ref (q 34), .ref (q 35), .int 0, .int 0])), ((q 0), .inr (8, [.ref (q 16), .int 0, .int 0, .int 0])), ((q 9), .inr (6, [.int 0, .int 0, .int 0, .ref (q 40), .ref (q 41), .ref (q 42), .ref (q 43)])), ((q 8), .inr (7, [.ref (q 36), .ref (q 37), .ref (q 38), .ref (q 39), .int 0, .int 0])), ((q 11), .inr (0, [.ref (q 44), .int 0, .int 0]))] sz)) 0 0 (va_A [((q 15), .inr (11, xF q 0 1)), ((q 1), .inr (5, [.int 0, .int 0, .int 0, .int 0, .ref (q 20), .ref (q 21), .ref (q 22), .ref (q 23)])), ((q 4), .inr (3, [.ref (q 30), .ref (q 31), .ref (q 32), .int 0, .int 0, .int (-1), .int 0, .int 0, .int 0, .int 0, .int 0, .int 0])), ((q 5), .inr (9, [.ref (q 33), .ref (q 34), .ref (q 35), .int 0, .int 0])), ((q 0), .inr (8, [.ref (q 16), .int 0, .int 0, .int 0])), ((q 9), .inr (6, [.int 0, .int 0, .int 0, .ref (q 40), .ref (q 41), .ref (q 42), .ref (q 43)])), ((q 8), .inr (7, [.ref (q 36), .ref (q 37), .ref (q 38), .ref (q 39), .int 0, .int 0])), ((q 11), .inr (0, [.ref (q 44), .int 0, .int 0]))] sz) := by
  refine Met.ofW (cc := cX11_count) (maxL := 2) (ret := (some .int)) (by decide) rfl ?_
  intro p e s m args below meth c s₁ B hml hv
  obtain ⟨rfl, hsz, hP, hK, hD0, hG⟩ := hv
  have hx := B.exec
  have hb := B.bytes
  have hr := B.returns
  have hts := atoms_spec (ws := vs_f_X11_count) B.pre
  have hown : s.vm.findClass RX11 = some m.cls := findClass_of_methodNamed B.named
  have hlocks := B.notSynchronized
  have hiX11 : ∀ w ∈ u_ws RX11 TX11 17, w ∈ vs_f_X11_count := vs_f_X11_count_uX11
  have hiX5 : ∀ w ∈ u_ws RX5 TX5 8, w ∈ vs_f_X11_count := vs_f_X11_count_uX5
  have hiX3 : ∀ w ∈ u_ws RX3 TX3 12, w ∈ vs_f_X11_count := vs_f_X11_count_uX3
  have hiX9 : ∀ w ∈ u_ws RX9 TX9 5, w ∈ vs_f_X11_count := vs_f_X11_count_uX9
  have hiX8 : ∀ w ∈ u_ws RX8 TX8 4, w ∈ vs_f_X11_count := vs_f_X11_count_uX8
  have hiX6 : ∀ w ∈ u_ws RX6 TX6 7, w ∈ vs_f_X11_count := vs_f_X11_count_uX6
  have hiX7 : ∀ w ∈ u_ws RX7 TX7 6, w ∈ vs_f_X11_count := vs_f_X11_count_uX7
  have hiX0 : ∀ w ∈ u_ws RX0 TX0 3, w ∈ vs_f_X11_count := vs_f_X11_count_uX0
  subst hsz
  have hD := hD0.self (sz := s.heap.size)
  generalize hAe : va_A [((q 15), .inr (11, xF q 0 1)), ((q 1), .inr (5, [.int 0, .int 0, .int 0, .int 0, .ref (q 20), .ref (q 21), .ref (q 22), .ref (q 23)])), ((q 4), .inr (3, [.ref (q 30), .ref (q 31), .ref (q 32), .int 0, .int 0, .int (-1), .int 0, .int 0, .int 0, .int 0, .int 0, .int 0])), ((q 5), .inr (9, [.ref (q 33), .ref (q 34), .ref (q 35), .int 0, .int 0])), ((q 0), .inr (8, [.ref (q 16), .int 0, .int 0, .int 0])), ((q 9), .inr (6, [.int 0, .int 0, .int 0, .ref (q 40), .ref (q 41), .ref (q 42), .ref (q 43)])), ((q 8), .inr (7, [.ref (q 36), .ref (q 37), .ref (q 38), .ref (q 39), .int 0, .int 0])), ((q 11), .inr (0, [.ref (q 44), .int 0, .int 0]))] s.heap.size = A at hD ⊢
  have hA : ∀ q : Nat, s.heap.size ≤ q → A q := fun q h => by rw [← hAe]; exact Or.inr h
  have hS : va_S A s.heap s.heap [] := va_S.rf
  have hP : va_P (dC, dI) vwCl [((q 15), .inr (11, xF q 0 1)), ((q 1), .inr (5, [.int 0, .int 0, .int 0, .int 0, .ref (q 20), .ref (q 21), .ref (q 22), .ref (q 23)])), ((q 4), .inr (3, [.ref (q 30), .ref (q 31), .ref (q 32), .int 0, .int 0, .int (-1), .int 0, .int 0, .int 0, .int 0, .int 0, .int 0])), ((q 5), .inr (9, [.ref (q 33), .ref (q 34), .ref (q 35), .int 0, .int 0])), ((q 0), .inr (8, [.ref (q 16), .int 0, .int 0, .int 0])), ((q 9), .inr (6, [.int 0, .int 0, .int 0, .ref (q 40), .ref (q 41), .ref (q 42), .ref (q 43)])), ((q 8), .inr (7, [.ref (q 36), .ref (q 37), .ref (q 38), .ref (q 39), .int 0, .int 0])), ((q 11), .inr (0, [.ref (q 44), .int 0, .int 0]))] s.heap := hP
  have hl := lv_entry ([.ref (q 15), .int p0]) (n := 2) (Nat.le_of_ble_eq_true rfl)
  rw [lg_entry_eq]
  generalize (lg_sl ([.ref (q 15), .int p0]) ++ List.replicate (2 - (lg_sl ([.ref (q 15), .int p0])).length) Slot.unset).toArray = ls at hl ⊢
  have hl : lv_has ls 2 [(0, .ref (q 15)), (1, .int p0)] := hl
  refine lv_iload_n hx hb dX11_count_0 rfl (lv_at hl 1 rfl) ?_
  by_cases c_1 : p0 = 0
  · refine lv_tableIn (off := 67) (tgt := 68) hx hb dX11_count_1 (by rw [c_1]; decide) (by rw [c_1]; decide) (by rw [c_1]; rfl) (by decide) ?_
    refine lv_aload_n hx hb dX11_count_68 rfl (lv_at hl 0 rfl) ?_
    refine va_get (D := (dC, dI)) (ci := 11) (v := .ref (q 1)) (C := RX11) (T := TX11) (N := 17) hx hb hts hiX11 hown hK hP 0 rfl rfl 1 (by decide) (hts (.fieldLink RX11 19 "WallChapels" "town" "LWallChapels$Plan;") (by decide +kernel)) (fun _ h9 => h9) rfl dX11_count_69 ?_
    refine va_getN (D := (dC, dI)) (ci := 5) (v := .int 0) (C := RX5) (T := TX5) (N := 8) hx hb hts hiX5 hown hK hP 1 rfl rfl 0 (by decide) (gx_u hG 10 rfl rfl) (fun _ h9 => h9) rfl dX11_count_72 ?_
    exact W.iret (v := 0) hx hb hr (fun t ht hW => ⟨⟨0, (), rfl, by rw [c_1]; decide, trivial⟩, hS.F ht⟩) hS.2.2 dX11_count_75
  by_cases c_2 : p0 = 1
  · refine lv_tableIn (off := 75) (tgt := 76) hx hb dX11_count_1 (by rw [c_2]; decide) (by rw [c_2]; decide) (by rw [c_2]; rfl) (by decide) ?_
    refine lv_aload_n hx hb dX11_count_76 rfl (lv_at hl 0 rfl) ?_
    refine va_get (D := (dC, dI)) (ci := 11) (v := .ref (q 1)) (C := RX11) (T := TX11) (N := 17) hx hb hts hiX11 hown hK hP 0 rfl rfl 1 (by decide) (hts (.fieldLink RX11 19 "WallChapels" "town" "LWallChapels$Plan;") (by decide +kernel)) (fun _ h9 => h9) rfl dX11_count_77 ?_
    refine va_getN (D := (dC, dI)) (ci := 5) (v := .int 0) (C := RX5) (T := TX5) (N := 8) hx hb hts hiX5 hown hK hP 1 rfl rfl 1 (by decide) (gx_u hG 13 rfl rfl) (fun _ h9 => h9) rfl dX11_count_80 ?_
    exact W.iret (v := 0) hx hb hr (fun t ht hW => ⟨⟨0, (), rfl, by rw [c_2]; decide, trivial⟩, hS.F ht⟩) hS.2.2 dX11_count_83
  by_cases c_3 : p0 = 2
  · refine lv_tableIn (off := 83) (tgt := 84) hx hb dX11_count_1 (by rw [c_3]; decide) (by rw [c_3]; decide) (by rw [c_3]; rfl) (by decide) ?_
    refine lv_aload_n hx hb dX11_count_84 rfl (lv_at hl 0 rfl) ?_
    refine va_get (D := (dC, dI)) (ci := 11) (v := .ref (q 1)) (C := RX11) (T := TX11) (N := 17) hx hb hts hiX11 hown hK hP 0 rfl rfl 1 (by decide) (hts (.fieldLink RX11 19 "WallChapels" "town" "LWallChapels$Plan;") (by decide +kernel)) (fun _ h9 => h9) rfl dX11_count_85 ?_
    refine va_getN (D := (dC, dI)) (ci := 5) (v := .int 0) (C := RX5) (T := TX5) (N := 8) hx hb hts hiX5 hown hK hP 1 rfl rfl 2 (by decide) (gx_u hG 16 rfl rfl) (fun _ h9 => h9) rfl dX11_count_88 ?_
    exact W.iret (v := 0) hx hb hr (fun t ht hW => ⟨⟨0, (), rfl, by rw [c_3]; decide, trivial⟩, hS.F ht⟩) hS.2.2 dX11_count_91
  by_cases c_4 : p0 = 3
  · refine lv_tableIn (off := 91) (tgt := 92) hx hb dX11_count_1 (by rw [c_4]; decide) (by rw [c_4]; decide) (by rw [c_4]; rfl) (by decide) ?_
    refine lv_aload_n hx hb dX11_count_92 rfl (lv_at hl 0 rfl) ?_
    refine va_get (D := (dC, dI)) (ci := 11) (v := .ref (q 4)) (C := RX11) (T := TX11) (N := 17) hx hb hts hiX11 hown hK hP 0 rfl rfl 4 (by decide) (hts (.fieldLink RX11 38 "WallChapels" "laws" "LWallChapels$Laws;") (by decide +kernel)) (fun _ h9 => h9) rfl dX11_count_93 ?_
    refine va_getN (D := (dC, dI)) (ci := 3) (v := .int 0) (C := RX3) (T := TX3) (N := 12) hx hb hts hiX3 hown hK hP 2 rfl rfl 4 (by decide) (gx_u hG 24 rfl rfl) (fun _ h9 => h9) rfl dX11_count_96 ?_
    exact W.iret (v := 0) hx hb hr (fun t ht hW => ⟨⟨0, (), rfl, by rw [c_4]; decide, trivial⟩, hS.F ht⟩) hS.2.2 dX11_count_99
  by_cases c_5 : p0 = 4
  · refine lv_tableIn (off := 99) (tgt := 100) hx hb dX11_count_1 (by rw [c_5]; decide) (by rw [c_5]; decide) (by rw [c_5]; rfl) (by decide) ?_
    refine lv_aload_n hx hb dX11_count_100 rfl (lv_at hl 0 rfl) ?_
    refine va_get (D := (dC, dI)) (ci := 11) (v := .ref (q 5)) (C := RX11) (T := TX11) (N := 17) hx hb hts hiX11 hown hK hP 0 rfl rfl 5 (by decide) (hts (.fieldLink RX11 45 "WallChapels" "walks" "LWallChapels$Walks;") (by decide +kernel)) (fun _ h9 => h9) rfl dX11_count_101 ?_
    refine va_getN (D := (dC, dI)) (ci := 9) (v := .int 0) (C := RX9) (T := TX9) (N := 5) hx hb hts hiX9 hown hK hP 3 rfl rfl 4 (by decide) (gx_u hG 30 rfl rfl) (fun _ h9 => h9) rfl dX11_count_104 ?_
    exact W.iret (v := 0) hx hb hr (fun t ht hW => ⟨⟨0, (), rfl, by rw [c_5]; decide, trivial⟩, hS.F ht⟩) hS.2.2 dX11_count_107
  by_cases c_6 : p0 = 5
  · refine lv_tableIn (off := 107) (tgt := 108) hx hb dX11_count_1 (by rw [c_6]; decide) (by rw [c_6]; decide) (by rw [c_6]; rfl) (by decide) ?_
    refine lv_aload_n hx hb dX11_count_108 rfl (lv_at hl 0 rfl) ?_
    refine va_get (D := (dC, dI)) (ci := 11) (v := .ref (q 0)) (C := RX11) (T := TX11) (N := 17) hx hb hts hiX11 hown hK hP 0 rfl rfl 0 (by decide) (hts (.fieldLink RX11 10 "WallChapels" "tape" "LWallChapels$Tape;") (by decide +kernel)) (fun _ h9 => h9) rfl dX11_count_109 ?_
    refine va_getN (D := (dC, dI)) (ci := 8) (v := .int 0) (C := RX8) (T := TX8) (N := 4) hx hb hts hiX8 hown hK hP 4 rfl rfl 1 (by decide) (gx_u hG 1 rfl rfl) (fun _ h9 => h9) rfl dX11_count_112 ?_
    exact W.iret (v := 0) hx hb hr (fun t ht hW => ⟨⟨0, (), rfl, by rw [c_6]; decide, trivial⟩, hS.F ht⟩) hS.2.2 dX11_count_115
  by_cases c_7 : p0 = 6
  · refine lv_tableIn (off := 115) (tgt := 116) hx hb dX11_count_1 (by rw [c_7]; decide) (by rw [c_7]; decide) (by rw [c_7]; rfl) (by decide) ?_
    refine lv_aload_n hx hb dX11_count_116 rfl (lv_at hl 0 rfl) ?_
    refine va_get (D := (dC, dI)) (ci := 11) (v := .ref (q 4)) (C := RX11) (T := TX11) (N := 17) hx hb hts hiX11 hown hK hP 0 rfl rfl 4 (by decide) (hts (.fieldLink RX11 38 "WallChapels" "laws" "LWallChapels$Laws;") (by decide +kernel)) (fun _ h9 => h9) rfl dX11_count_117 ?_
    refine va_getN (D := (dC, dI)) (ci := 3) (v := .int (-1)) (C := RX3) (T := TX3) (N := 12) hx hb hts hiX3 hown hK hP 2 rfl rfl 5 (by decide) (gx_u hG 26 rfl rfl) (fun _ h9 => h9) rfl dX11_count_120 ?_
    exact W.iret (v := (-1)) hx hb hr (fun t ht hW => ⟨⟨(-1), (), rfl, by rw [c_7]; decide, trivial⟩, hS.F ht⟩) hS.2.2 dX11_count_123
  by_cases c_8 : p0 = 7
  · refine lv_tableIn (off := 123) (tgt := 124) hx hb dX11_count_1 (by rw [c_8]; decide) (by rw [c_8]; decide) (by rw [c_8]; rfl) (by decide) ?_
    refine lv_aload_n hx hb dX11_count_124 rfl (lv_at hl 0 rfl) ?_
    refine va_get (D := (dC, dI)) (ci := 11) (v := .ref (q 9)) (C := RX11) (T := TX11) (N := 17) hx hb hts hiX11 hown hK hP 0 rfl rfl 9 (by decide) (hts (.fieldLink RX11 75 "WallChapels" "now" "LWallChapels$Scene;") (by decide +kernel)) (fun _ h9 => h9) rfl dX11_count_125 ?_
    refine va_getN (D := (dC, dI)) (ci := 6) (v := .int 0) (C := RX6) (T := TX6) (N := 7) hx hb hts hiX6 hown hK hP 5 rfl rfl 2 (by decide) (gx_u hG 46 rfl rfl) (fun _ h9 => h9) rfl dX11_count_128 ?_
    exact W.iret (v := 0) hx hb hr (fun t ht hW => ⟨⟨0, (), rfl, by rw [c_8]; decide, trivial⟩, hS.F ht⟩) hS.2.2 dX11_count_131
  by_cases c_9 : p0 = 8
  · refine lv_tableIn (off := 131) (tgt := 132) hx hb dX11_count_1 (by rw [c_9]; decide) (by rw [c_9]; decide) (by rw [c_9]; rfl) (by decide) ?_
    refine lv_aload_n hx hb dX11_count_132 rfl (lv_at hl 0 rfl) ?_
    refine va_get (D := (dC, dI)) (ci := 11) (v := .ref (q 9)) (C := RX11) (T := TX11) (N := 17) hx hb hts hiX11 hown hK hP 0 rfl rfl 9 (by decide) (hts (.fieldLink RX11 75 "WallChapels" "now" "LWallChapels$Scene;") (by decide +kernel)) (fun _ h9 => h9) rfl dX11_count_133 ?_
    refine va_getN (D := (dC, dI)) (ci := 6) (v := .int 0) (C := RX6) (T := TX6) (N := 7) hx hb hts hiX6 hown hK hP 5 rfl rfl 1 (by decide) (gx_u hG 44 rfl rfl) (fun _ h9 => h9) rfl dX11_count_136 ?_
    exact W.iret (v := 0) hx hb hr (fun t ht hW => ⟨⟨0, (), rfl, by rw [c_9]; decide, trivial⟩, hS.F ht⟩) hS.2.2 dX11_count_139
  by_cases c_10 : p0 = 9
  · refine lv_tableIn (off := 139) (tgt := 140) hx hb dX11_count_1 (by rw [c_10]; decide) (by rw [c_10]; decide) (by rw [c_10]; rfl) (by decide) ?_
    refine lv_aload_n hx hb dX11_count_140 rfl (lv_at hl 0 rfl) ?_
    refine va_get (D := (dC, dI)) (ci := 11) (v := .int 1) (C := RX11) (T := TX11) (N := 17) hx hb hts hiX11 hown hK hP 0 rfl rfl 16 (by decide) (hts (.fieldLink RX11 102 "WallChapels" "councilShare" "I") (by decide +kernel)) (fun _ h9 => h9) rfl dX11_count_141 ?_
    exact W.iret (v := 1) hx hb hr (fun t ht hW => ⟨⟨1, (), rfl, by rw [c_10]; decide, trivial⟩, hS.F ht⟩) hS.2.2 dX11_count_144
  by_cases c_11 : p0 = 10
  · refine lv_tableIn (off := 144) (tgt := 145) hx hb dX11_count_1 (by rw [c_11]; decide) (by rw [c_11]; decide) (by rw [c_11]; rfl) (by decide) ?_
    refine lv_aload_n hx hb dX11_count_145 rfl (lv_at hl 0 rfl) ?_
    refine va_get (D := (dC, dI)) (ci := 11) (v := .ref (q 8)) (C := RX11) (T := TX11) (N := 17) hx hb hts hiX11 hown hK hP 0 rfl rfl 8 (by decide) (hts (.fieldLink RX11 68 "WallChapels" "sightings" "LWallChapels$Sightings;") (by decide +kernel)) (fun _ h9 => h9) rfl dX11_count_146 ?_
    refine va_getN (D := (dC, dI)) (ci := 7) (v := .int 0) (C := RX7) (T := TX7) (N := 6) hx hb hts hiX7 hown hK hP 6 rfl rfl 4 (by decide) (gx_u hG 39 rfl rfl) (fun _ h9 => h9) rfl dX11_count_149 ?_
    exact W.iret (v := 0) hx hb hr (fun t ht hW => ⟨⟨0, (), rfl, by rw [c_11]; decide, trivial⟩, hS.F ht⟩) hS.2.2 dX11_count_152
  by_cases c_12 : p0 = 11
  · refine lv_tableIn (off := 152) (tgt := 153) hx hb dX11_count_1 (by rw [c_12]; decide) (by rw [c_12]; decide) (by rw [c_12]; rfl) (by decide) ?_
    refine lv_aload_n hx hb dX11_count_153 rfl (lv_at hl 0 rfl) ?_
    have hPc := hP.sub (ws' := [((q 15), .inr (11, xF q 0 1)), ((q 9), .inr (6, [.int 0, .int 0, .int 0, .ref (q 40), .ref (q 41), .ref (q 42), .ref (q 43)]))]) [0, 5] rfl
    have hDc := hD.sub (ws' := [((q 15), .inr (11, xF q 0 1)), ((q 9), .inr (6, [.int 0, .int 0, .int 0, .ref (q 40), .ref (q 41), .ref (q 42), .ref (q 43)]))]) [0, 5] (by decide) rfl
    have hKc := hK.sub (tys' := []) [] rfl
    have hFc := va_free (wc := [((q 15), .inr (11, xF q 0 1)), ((q 9), .inr (6, [.int 0, .int 0, .int 0, .ref (q 40), .ref (q 41), .ref (q 42), .ref (q 43)]))]) hD hS hA [0, 5] rfl
    refine va_calli (va_runV (As := []) (rest := []) ⟨hx, hb, hml, hown, hts⟩ (f_X11_logLength l dC dI s.heap.size q ) (cwV 0 hts g_f_X11_count_f_X11_logLength rfl rfl rfl (by decide +kernel) ⟨Nat.le_of_ble_eq_true rfl, Nat.le_of_ble_eq_true rfl⟩) ⟨cW_blind, va_recv hKc hPc (ci := 11) (q0 := 0) rfl rfl, fun U hU hW => ⟨rfl, cW_use hU hW hPc hKc hDc hG⟩⟩ rfl rfl hl.1 rfl (lv_room (Nat.le_of_ble_eq_true rfl)) dX11_count_154 ⟨Nat.le_of_ble_eq_true rfl, Nat.le_of_ble_eq_true rfl⟩) hS (fun q _ h => hFc q h) hFc (fun r_13 u t H1 locs ht hvm hw hB hz1 hk1 hS => ?_)
    obtain ⟨hP, hD⟩ := va_join (wr := [((q 1), .inr (5, [.int 0, .int 0, .int 0, .int 0, .ref (q 20), .ref (q 21), .ref (q 22), .ref (q 23)])), ((q 4), .inr (3, [.ref (q 30), .ref (q 31), .ref (q 32), .int 0, .int 0, .int (-1), .int 0, .int 0, .int 0, .int 0, .int 0, .int 0])), ((q 5), .inr (9, [.ref (q 33), .ref (q 34), .ref (q 35), .int 0, .int 0])), ((q 0), .inr (8, [.ref (q 16), .int 0, .int 0, .int 0])), ((q 8), .inr (7, [.ref (q 36), .ref (q 37), .ref (q 38), .ref (q 39), .int 0, .int 0])), ((q 11), .inr (0, [.ref (q 44), .int 0, .int 0]))]) (w1 := []) hP hD [0, 5] [1, 2, 3, 4, 6, 7] rfl rfl (by decide) (by decide) hk1 hFc (va_P_nil H1) va_D_nil
    generalize H1 = H at hP hS ⊢
    have hP : va_P (dC, dI) vwCl [((q 1), .inr (5, [.int 0, .int 0, .int 0, .int 0, .ref (q 20), .ref (q 21), .ref (q 22), .ref (q 23)])), ((q 4), .inr (3, [.ref (q 30), .ref (q 31), .ref (q 32), .int 0, .int 0, .int (-1), .int 0, .int 0, .int 0, .int 0, .int 0, .int 0])), ((q 5), .inr (9, [.ref (q 33), .ref (q 34), .ref (q 35), .int 0, .int 0])), ((q 0), .inr (8, [.ref (q 16), .int 0, .int 0, .int 0])), ((q 8), .inr (7, [.ref (q 36), .ref (q 37), .ref (q 38), .ref (q 39), .int 0, .int 0])), ((q 11), .inr (0, [.ref (q 44), .int 0, .int 0]))] H := hP
    have hD : va_D A [((q 1), .inr (5, [.int 0, .int 0, .int 0, .int 0, .ref (q 20), .ref (q 21), .ref (q 22), .ref (q 23)])), ((q 4), .inr (3, [.ref (q 30), .ref (q 31), .ref (q 32), .int 0, .int 0, .int (-1), .int 0, .int 0, .int 0, .int 0, .int 0, .int 0])), ((q 5), .inr (9, [.ref (q 33), .ref (q 34), .ref (q 35), .int 0, .int 0])), ((q 0), .inr (8, [.ref (q 16), .int 0, .int 0, .int 0])), ((q 8), .inr (7, [.ref (q 36), .ref (q 37), .ref (q 38), .ref (q 39), .int 0, .int 0])), ((q 11), .inr (0, [.ref (q 44), .int 0, .int 0]))] := hD
    refine W.widen (k := 0) (n := 0) (Nat.le_of_ble_eq_true rfl) (Nat.le_of_ble_eq_true rfl) ?_
    obtain rfl : r_13 = 0 := hw
    exact W.iret (v := 0) hx hb hr (fun t ht hW => ⟨⟨0, (), rfl, by rw [c_12]; decide, trivial⟩, hS.F ht⟩) hS.2.2 dX11_count_157
  by_cases c_14 : p0 = 12
  · refine lv_tableIn (off := 157) (tgt := 158) hx hb dX11_count_1 (by rw [c_14]; decide) (by rw [c_14]; decide) (by rw [c_14]; rfl) (by decide) ?_
    refine lv_aload_n hx hb dX11_count_158 rfl (lv_at hl 0 rfl) ?_
    refine va_get (D := (dC, dI)) (ci := 11) (v := .ref (q 11)) (C := RX11) (T := TX11) (N := 17) hx hb hts hiX11 hown hK hP 0 rfl rfl 11 (by decide) (hts (.fieldLink RX11 85 "WallChapels" "acts" "LWallChapels$Acts;") (by decide +kernel)) (fun _ h9 => h9) rfl dX11_count_159 ?_
    refine va_getN (D := (dC, dI)) (ci := 0) (v := .int 0) (C := RX0) (T := TX0) (N := 3) hx hb hts hiX0 hown hK hP 7 rfl rfl 2 (by decide) (gx_u hG 57 rfl rfl) (fun _ h9 => h9) rfl dX11_count_162 ?_
    exact W.iret (v := 0) hx hb hr (fun t ht hW => ⟨⟨0, (), rfl, by rw [c_14]; decide, trivial⟩, hS.F ht⟩) hS.2.2 dX11_count_165
  refine lv_tableOut (tgt := 166) hx hb dX11_count_1 (by have z0 := c_1; have z1 := c_2; have z2 := c_3; have z3 := c_4; have z4 := c_5; have z5 := c_6; have z6 := c_7; have z7 := c_8; have z8 := c_9; have z9 := c_10; have z10 := c_11; have z11 := c_12; have z12 := c_14; simp only [i_eq, i_zm1000000, i_zm30, i_zm20, i_zm2, i_zm1, i_z0, i_z1, i_z2, i_z3, i_z4, i_z5, i_z6, i_z7, i_z8, i_z9, i_z10, i_z11, i_z12, i_z13, i_z14, i_z15, i_z16, i_z17, i_z18, i_z19, i_z20, i_z21, i_z22, i_z23, i_z24, i_z30, i_z32, i_z40, i_z41, i_z50, i_z58, i_z59, i_z60, i_z63, i_z99, i_z100, i_z240, i_z255, i_z999] at z0 z1 z2 z3 z4 z5 z6 z7 z8 z9 z10 z11 z12; omega) (by decide) ?_
  refine lv_ldc hx hb hown (hts (.constant RX11 235 (-1000000)) (by decide +kernel)) dX11_count_166 ?_
  exact W.iret (v := (-1000000)) hx hb hr (fun t ht hW => ⟨⟨(-1000000), (), rfl, by rw [cntF, if_neg (show ¬ p0 = 6 by have z0 := c_1; have z1 := c_2; have z2 := c_3; have z3 := c_4; have z4 := c_5; have z5 := c_6; have z6 := c_7; have z7 := c_8; have z8 := c_9; have z9 := c_10; have z10 := c_11; have z11 := c_12; have z12 := c_14; simp only [i_lt, i_le, i_eq, i_zm1000000, i_zm30, i_zm20, i_zm2, i_zm1, i_z0, i_z1, i_z2, i_z3, i_z4, i_z5, i_z6, i_z7, i_z8, i_z9, i_z10, i_z11, i_z12, i_z13, i_z14, i_z15, i_z16, i_z17, i_z18, i_z19, i_z20, i_z21, i_z22, i_z23, i_z24, i_z30, i_z32, i_z40, i_z41, i_z50, i_z58, i_z59, i_z60, i_z63, i_z99, i_z100, i_z240, i_z255, i_z999] at z0 z1 z2 z3 z4 z5 z6 z7 z8 z9 z10 z11 z12; simp only [i_lt, i_le, i_eq, i_zm1000000, i_zm30, i_zm20, i_zm2, i_zm1, i_z0, i_z1, i_z2, i_z3, i_z4, i_z5, i_z6, i_z7, i_z8, i_z9, i_z10, i_z11, i_z12, i_z13, i_z14, i_z15, i_z16, i_z17, i_z18, i_z19, i_z20, i_z21, i_z22, i_z23, i_z24, i_z30, i_z32, i_z40, i_z41, i_z50, i_z58, i_z59, i_z60, i_z63, i_z99, i_z100, i_z240, i_z255, i_z999]; omega), if_neg (show ¬ p0 = 9 by have z0 := c_1; have z1 := c_2; have z2 := c_3; have z3 := c_4; have z4 := c_5; have z5 := c_6; have z6 := c_7; have z7 := c_8; have z8 := c_9; have z9 := c_10; have z10 := c_11; have z11 := c_12; have z12 := c_14; simp only [i_lt, i_le, i_eq, i_zm1000000, i_zm30, i_zm20, i_zm2, i_zm1, i_z0, i_z1, i_z2, i_z3, i_z4, i_z5, i_z6, i_z7, i_z8, i_z9, i_z10, i_z11, i_z12, i_z13, i_z14, i_z15, i_z16, i_z17, i_z18, i_z19, i_z20, i_z21, i_z22, i_z23, i_z24, i_z30, i_z32, i_z40, i_z41, i_z50, i_z58, i_z59, i_z60, i_z63, i_z99, i_z100, i_z240, i_z255, i_z999] at z0 z1 z2 z3 z4 z5 z6 z7 z8 z9 z10 z11 z12; simp only [i_lt, i_le, i_eq, i_zm1000000, i_zm30, i_zm20, i_zm2, i_zm1, i_z0, i_z1, i_z2, i_z3, i_z4, i_z5, i_z6, i_z7, i_z8, i_z9, i_z10, i_z11, i_z12, i_z13, i_z14, i_z15, i_z16, i_z17, i_z18, i_z19, i_z20, i_z21, i_z22, i_z23, i_z24, i_z30, i_z32, i_z40, i_z41, i_z50, i_z58, i_z59, i_z60, i_z63, i_z99, i_z100, i_z240, i_z255, i_z999]; omega), if_neg (show ¬ (0 ≤ p0 ∧ p0 ≤ 12) by have z0 := c_1; have z1 := c_2; have z2 := c_3; have z3 := c_4; have z4 := c_5; have z5 := c_6; have z6 := c_7; have z7 := c_8; have z8 := c_9; have z9 := c_10; have z10 := c_11; have z11 := c_12; have z12 := c_14; simp only [i_lt, i_le, i_eq, i_zm1000000, i_zm30, i_zm20, i_zm2, i_zm1, i_z0, i_z1, i_z2, i_z3, i_z4, i_z5, i_z6, i_z7, i_z8, i_z9, i_z10, i_z11, i_z12, i_z13, i_z14, i_z15, i_z16, i_z17, i_z18, i_z19, i_z20, i_z21, i_z22, i_z23, i_z24, i_z30, i_z32, i_z40, i_z41, i_z50, i_z58, i_z59, i_z60, i_z63, i_z99, i_z100, i_z240, i_z255, i_z999] at z0 z1 z2 z3 z4 z5 z6 z7 z8 z9 z10 z11 z12; simp only [i_lt, i_le, i_eq, i_zm1000000, i_zm30, i_zm20, i_zm2, i_zm1, i_z0, i_z1, i_z2, i_z3, i_z4, i_z5, i_z6, i_z7, i_z8, i_z9, i_z10, i_z11, i_z12, i_z13, i_z14, i_z15, i_z16, i_z17, i_z18, i_z19, i_z20, i_z21, i_z22, i_z23, i_z24, i_z30, i_z32, i_z40, i_z41, i_z50, i_z58, i_z59, i_z60, i_z63, i_z99, i_z100, i_z240, i_z255, i_z999]; omega)], trivial⟩, hS.F ht⟩) hS.2.2 dX11_count_168
def vs_f_X12_count : List Cond := .code yX12_count cX12_count 2 (some .int) :: ([.fieldLink RX12 90 "WallChapelsModel" "thrown" "I", .fieldLink RX12 280 "WallChapelsModel" "corners" "I", .fieldLink RX12 283 "WallChapelsModel" "streets" "I", .fieldLink RX12 286 "WallChapelsModel" "walkers" "I", .fieldLink RX12 272 "WallChapelsModel" "lawMany" "I", .fieldLink RX12 275 "WallChapelsModel" "walks" "I", .fieldLink RX12 103 "WallChapelsModel" "length" "I", .fieldLink RX12 64 "WallChapelsModel" "law" "I", .fieldLink RX12 58 "WallChapelsModel" "now" "[I", .fieldLink RX12 68 "WallChapelsModel" "busy" "I", .fieldLink RX12 289 "WallChapelsModel" "sights" "I", .fieldLink RX12 292 "WallChapelsModel" "acts" "I", .constant RX12 325 (-1000000)] ++ (u_ws RX12 TX12 54))
theorem vs_f_X12_count_uX12 : ∀ w ∈ u_ws RX12 TX12 54, w ∈ vs_f_X12_count := fun _ h => List.mem_cons_of_mem _ (List.mem_append_right _ (h))
set_option maxHeartbeats 4000000 in
set_option maxRecDepth 100000 in
theorem f_X12_count (l : Launch) (dC : Nat → ClassId) (dI : Nat → Nat → Nat) (sz : Nat) (r : Nat → Nat) (kN : ClassId) (p0 : Int32) : Met l yX12_count vs_f_X12_count ({ frames := 0, cells := 0, slots := 0, locals := 0 }) (va_Pc [.ref (r 100), .int p0] (cW dC dI [((r 100), .inr (12, mF r 0 0 0 0 0 0 0 0 0 0 0 0 0 (-1) 1)), ((r 32), .inl (kN, 208, .inl (fun _ => 0)))] [(kN, .int)] sz)) (va_Qi (fun (r : Int32) (_ : Unit) => r = cntF p0) (fun (_ : Unit) (t : State) => True) (va_A [((r 100), .inr (12, mF r 0 0 0 0 0 0 0 0 0 0 0 0 0 (-1) 1)), ((r 32), .inl (kN, 208, .inl (fun _ => 0)))] sz)) 0 0 (va_A [((r 100), .inr (12, mF r 0 0 0 0 0 0 0 0 0 0 0 0 0 (-1) 1)), ((r 32), .inl (kN, 208, .inl (fun _ => 0)))] sz) := by
  refine Met.ofW (cc := cX12_count) (maxL := 2) (ret := (some .int)) (by decide) rfl ?_
  intro p e s m args below meth c s₁ B hml hv
  obtain ⟨rfl, hsz, hP, hK, hD0, hG⟩ := hv
  have hx := B.exec
  have hb := B.bytes
  have hr := B.returns
  have hts := atoms_spec (ws := vs_f_X12_count) B.pre
  have hown : s.vm.findClass RX12 = some m.cls := findClass_of_methodNamed B.named
  have hlocks := B.notSynchronized
  have hiX12 : ∀ w ∈ u_ws RX12 TX12 54, w ∈ vs_f_X12_count := vs_f_X12_count_uX12
  subst hsz
  have hD := hD0.self (sz := s.heap.size)
  generalize hAe : va_A [((r 100), .inr (12, mF r 0 0 0 0 0 0 0 0 0 0 0 0 0 (-1) 1)), ((r 32), .inl (kN, 208, .inl (fun _ => 0)))] s.heap.size = A at hD ⊢
  have hA : ∀ q : Nat, s.heap.size ≤ q → A q := fun q h => by rw [← hAe]; exact Or.inr h
  have hS : va_S A s.heap s.heap [] := va_S.rf
  have hP : va_P (dC, dI) vwCl [((r 100), .inr (12, mF r 0 0 0 0 0 0 0 0 0 0 0 0 0 (-1) 1)), ((r 32), .inl (kN, 208, .inl (fun _ => 0)))] s.heap := hP
  have hl := lv_entry ([.ref (r 100), .int p0]) (n := 2) (Nat.le_of_ble_eq_true rfl)
  rw [lg_entry_eq]
  generalize (lg_sl ([.ref (r 100), .int p0]) ++ List.replicate (2 - (lg_sl ([.ref (r 100), .int p0])).length) Slot.unset).toArray = ls at hl ⊢
  have hl : lv_has ls 2 [(0, .ref (r 100)), (1, .int p0)] := hl
  refine lv_aload_n hx hb dX12_count_0 rfl (lv_at hl 0 rfl) ?_
  refine lv_iconst (v := 0) hx hb dX12_count_1 (by decide) ?_
  refine va_put (D := (dC, dI)) (ci := 12) (v := .int 0) (ty := .int) (C := RX12) (T := TX12) (N := 54) hx hb hts hiX12 tyX12 tyX12_ok nmX12 hown hK hP hD hS 0 rfl rfl 0 (by decide) (hts (.fieldLink RX12 90 "WallChapelsModel" "thrown" "I") (by decide +kernel)) (fun _ h9 => h9) rfl (by decide +kernel) rfl rfl (Nat.le_of_ble_eq_true rfl) dX12_count_2 (fun H locs hP hD hS => ?_)
  have hP : va_P (dC, dI) vwCl [((r 100), .inr (12, mF r 0 0 0 0 0 0 0 0 0 0 0 0 0 (-1) 1)), ((r 32), .inl (kN, 208, .inl (fun _ => 0)))] H := hP
  have hD : va_D A [((r 100), .inr (12, mF r 0 0 0 0 0 0 0 0 0 0 0 0 0 (-1) 1)), ((r 32), .inl (kN, 208, .inl (fun _ => 0)))] := hD
  refine lv_iload_n hx hb dX12_count_5 rfl (lv_at hl 1 rfl) ?_
  by_cases c_1 : p0 = 0
  · refine lv_tableIn (off := 66) (tgt := 72) hx hb dX12_count_6 (by rw [c_1]; decide) (by rw [c_1]; decide) (by rw [c_1]; rfl) (by decide) ?_
    refine lv_aload_n hx hb dX12_count_72 rfl (lv_at hl 0 rfl) ?_
    refine va_get (D := (dC, dI)) (ci := 12) (v := .int 0) (C := RX12) (T := TX12) (N := 54) hx hb hts hiX12 hown hK hP 0 rfl rfl 25 (by decide) (hts (.fieldLink RX12 280 "WallChapelsModel" "corners" "I") (by decide +kernel)) (fun _ h9 => h9) rfl dX12_count_73 ?_
    exact W.iret (v := 0) hx hb hr (fun t ht hW => ⟨⟨0, (), rfl, by rw [c_1]; decide, trivial⟩, hS.F ht⟩) hS.2.2 dX12_count_76
  by_cases c_2 : p0 = 1
  · refine lv_tableIn (off := 71) (tgt := 77) hx hb dX12_count_6 (by rw [c_2]; decide) (by rw [c_2]; decide) (by rw [c_2]; rfl) (by decide) ?_
    refine lv_aload_n hx hb dX12_count_77 rfl (lv_at hl 0 rfl) ?_
    refine va_get (D := (dC, dI)) (ci := 12) (v := .int 0) (C := RX12) (T := TX12) (N := 54) hx hb hts hiX12 hown hK hP 0 rfl rfl 26 (by decide) (hts (.fieldLink RX12 283 "WallChapelsModel" "streets" "I") (by decide +kernel)) (fun _ h9 => h9) rfl dX12_count_78 ?_
    exact W.iret (v := 0) hx hb hr (fun t ht hW => ⟨⟨0, (), rfl, by rw [c_2]; decide, trivial⟩, hS.F ht⟩) hS.2.2 dX12_count_81
  by_cases c_3 : p0 = 2
  · refine lv_tableIn (off := 76) (tgt := 82) hx hb dX12_count_6 (by rw [c_3]; decide) (by rw [c_3]; decide) (by rw [c_3]; rfl) (by decide) ?_
    refine lv_aload_n hx hb dX12_count_82 rfl (lv_at hl 0 rfl) ?_
    refine va_get (D := (dC, dI)) (ci := 12) (v := .int 0) (C := RX12) (T := TX12) (N := 54) hx hb hts hiX12 hown hK hP 0 rfl rfl 27 (by decide) (hts (.fieldLink RX12 286 "WallChapelsModel" "walkers" "I") (by decide +kernel)) (fun _ h9 => h9) rfl dX12_count_83 ?_
    exact W.iret (v := 0) hx hb hr (fun t ht hW => ⟨⟨0, (), rfl, by rw [c_3]; decide, trivial⟩, hS.F ht⟩) hS.2.2 dX12_count_86
  by_cases c_4 : p0 = 3
  · refine lv_tableIn (off := 81) (tgt := 87) hx hb dX12_count_6 (by rw [c_4]; decide) (by rw [c_4]; decide) (by rw [c_4]; rfl) (by decide) ?_
    refine lv_aload_n hx hb dX12_count_87 rfl (lv_at hl 0 rfl) ?_
    refine va_get (D := (dC, dI)) (ci := 12) (v := .int 0) (C := RX12) (T := TX12) (N := 54) hx hb hts hiX12 hown hK hP 0 rfl rfl 7 (by decide) (hts (.fieldLink RX12 272 "WallChapelsModel" "lawMany" "I") (by decide +kernel)) (fun _ h9 => h9) rfl dX12_count_88 ?_
    exact W.iret (v := 0) hx hb hr (fun t ht hW => ⟨⟨0, (), rfl, by rw [c_4]; decide, trivial⟩, hS.F ht⟩) hS.2.2 dX12_count_91
  by_cases c_5 : p0 = 4
  · refine lv_tableIn (off := 86) (tgt := 92) hx hb dX12_count_6 (by rw [c_5]; decide) (by rw [c_5]; decide) (by rw [c_5]; rfl) (by decide) ?_
    refine lv_aload_n hx hb dX12_count_92 rfl (lv_at hl 0 rfl) ?_
    refine va_get (D := (dC, dI)) (ci := 12) (v := .int 0) (C := RX12) (T := TX12) (N := 54) hx hb hts hiX12 hown hK hP 0 rfl rfl 30 (by decide) (hts (.fieldLink RX12 275 "WallChapelsModel" "walks" "I") (by decide +kernel)) (fun _ h9 => h9) rfl dX12_count_93 ?_
    exact W.iret (v := 0) hx hb hr (fun t ht hW => ⟨⟨0, (), rfl, by rw [c_5]; decide, trivial⟩, hS.F ht⟩) hS.2.2 dX12_count_96
  by_cases c_6 : p0 = 5
  · refine lv_tableIn (off := 91) (tgt := 97) hx hb dX12_count_6 (by rw [c_6]; decide) (by rw [c_6]; decide) (by rw [c_6]; rfl) (by decide) ?_
    refine lv_aload_n hx hb dX12_count_97 rfl (lv_at hl 0 rfl) ?_
    refine va_get (D := (dC, dI)) (ci := 12) (v := .int 0) (C := RX12) (T := TX12) (N := 54) hx hb hts hiX12 hown hK hP 0 rfl rfl 6 (by decide) (hts (.fieldLink RX12 103 "WallChapelsModel" "length" "I") (by decide +kernel)) (fun _ h9 => h9) rfl dX12_count_98 ?_
    exact W.iret (v := 0) hx hb hr (fun t ht hW => ⟨⟨0, (), rfl, by rw [c_6]; decide, trivial⟩, hS.F ht⟩) hS.2.2 dX12_count_101
  by_cases c_7 : p0 = 6
  · refine lv_tableIn (off := 96) (tgt := 102) hx hb dX12_count_6 (by rw [c_7]; decide) (by rw [c_7]; decide) (by rw [c_7]; rfl) (by decide) ?_
    refine lv_aload_n hx hb dX12_count_102 rfl (lv_at hl 0 rfl) ?_
    refine va_get (D := (dC, dI)) (ci := 12) (v := .int (-1)) (C := RX12) (T := TX12) (N := 54) hx hb hts hiX12 hown hK hP 0 rfl rfl 34 (by decide) (hts (.fieldLink RX12 64 "WallChapelsModel" "law" "I") (by decide +kernel)) (fun _ h9 => h9) rfl dX12_count_103 ?_
    exact W.iret (v := (-1)) hx hb hr (fun t ht hW => ⟨⟨(-1), (), rfl, by rw [c_7]; decide, trivial⟩, hS.F ht⟩) hS.2.2 dX12_count_106
  by_cases c_8 : p0 = 7
  · refine lv_tableIn (off := 101) (tgt := 107) hx hb dX12_count_6 (by rw [c_8]; decide) (by rw [c_8]; decide) (by rw [c_8]; rfl) (by decide) ?_
    refine lv_aload_n hx hb dX12_count_107 rfl (lv_at hl 0 rfl) ?_
    refine va_get (D := (dC, dI)) (ci := 12) (v := .ref (r 32)) (C := RX12) (T := TX12) (N := 54) hx hb hts hiX12 hown hK hP 0 rfl rfl 32 (by decide) (hts (.fieldLink RX12 58 "WallChapelsModel" "now" "[I") (by decide +kernel)) (fun _ h9 => h9) rfl dX12_count_108 ?_
    refine lv_bipush (v := 26) hx hb dX12_count_111 (by decide) ?_
    refine va_iald (D := (dC, dI)) hx hb hK hP 1 0 rfl rfl (i := 26) (vp_in_nI (n := 26) (by decide) (by decide)) dX12_count_113 ?_
    refine W.eq (g2 := F0 m 114 ls [.int 0]) rfl ?_
    exact W.iret (v := 0) hx hb hr (fun t ht hW => ⟨⟨0, (), rfl, by rw [c_8]; decide, trivial⟩, hS.F ht⟩) hS.2.2 dX12_count_114
  by_cases c_9 : p0 = 8
  · refine lv_tableIn (off := 109) (tgt := 115) hx hb dX12_count_6 (by rw [c_9]; decide) (by rw [c_9]; decide) (by rw [c_9]; rfl) (by decide) ?_
    refine lv_aload_n hx hb dX12_count_115 rfl (lv_at hl 0 rfl) ?_
    refine va_get (D := (dC, dI)) (ci := 12) (v := .ref (r 32)) (C := RX12) (T := TX12) (N := 54) hx hb hts hiX12 hown hK hP 0 rfl rfl 32 (by decide) (hts (.fieldLink RX12 58 "WallChapelsModel" "now" "[I") (by decide +kernel)) (fun _ h9 => h9) rfl dX12_count_116 ?_
    refine lv_bipush (v := 25) hx hb dX12_count_119 (by decide) ?_
    refine va_iald (D := (dC, dI)) hx hb hK hP 1 0 rfl rfl (i := 25) (vp_in_nI (n := 25) (by decide) (by decide)) dX12_count_121 ?_
    refine W.eq (g2 := F0 m 122 ls [.int 0]) rfl ?_
    exact W.iret (v := 0) hx hb hr (fun t ht hW => ⟨⟨0, (), rfl, by rw [c_9]; decide, trivial⟩, hS.F ht⟩) hS.2.2 dX12_count_122
  by_cases c_10 : p0 = 9
  · refine lv_tableIn (off := 117) (tgt := 123) hx hb dX12_count_6 (by rw [c_10]; decide) (by rw [c_10]; decide) (by rw [c_10]; rfl) (by decide) ?_
    refine lv_aload_n hx hb dX12_count_123 rfl (lv_at hl 0 rfl) ?_
    refine va_get (D := (dC, dI)) (ci := 12) (v := .int 1) (C := RX12) (T := TX12) (N := 54) hx hb hts hiX12 hown hK hP 0 rfl rfl 35 (by decide) (hts (.fieldLink RX12 68 "WallChapelsModel" "busy" "I") (by decide +kernel)) (fun _ h9 => h9) rfl dX12_count_124 ?_
    exact W.iret (v := 1) hx hb hr (fun t ht hW => ⟨⟨1, (), rfl, by rw [c_10]; decide, trivial⟩, hS.F ht⟩) hS.2.2 dX12_count_127
  by_cases c_11 : p0 = 10
  · refine lv_tableIn (off := 122) (tgt := 128) hx hb dX12_count_6 (by rw [c_11]; decide) (by rw [c_11]; decide) (by rw [c_11]; rfl) (by decide) ?_
    refine lv_aload_n hx hb dX12_count_128 rfl (lv_at hl 0 rfl) ?_
    refine va_get (D := (dC, dI)) (ci := 12) (v := .int 0) (C := RX12) (T := TX12) (N := 54) hx hb hts hiX12 hown hK hP 0 rfl rfl 51 (by decide) (hts (.fieldLink RX12 289 "WallChapelsModel" "sights" "I") (by decide +kernel)) (fun _ h9 => h9) rfl dX12_count_129 ?_
    exact W.iret (v := 0) hx hb hr (fun t ht hW => ⟨⟨0, (), rfl, by rw [c_11]; decide, trivial⟩, hS.F ht⟩) hS.2.2 dX12_count_132
  by_cases c_12 : p0 = 11
  · refine lv_tableIn (off := 127) (tgt := 133) hx hb dX12_count_6 (by rw [c_12]; decide) (by rw [c_12]; decide) (by rw [c_12]; rfl) (by decide) ?_
    refine lv_aload_n hx hb dX12_count_133 rfl (lv_at hl 0 rfl) ?_
    refine va_get (D := (dC, dI)) (ci := 12) (v := .ref (r 32)) (C := RX12) (T := TX12) (N := 54) hx hb hts hiX12 hown hK hP 0 rfl rfl 32 (by decide) (hts (.fieldLink RX12 58 "WallChapelsModel" "now" "[I") (by decide +kernel)) (fun _ h9 => h9) rfl dX12_count_134 ?_
    refine lv_bipush (v := 27) hx hb dX12_count_137 (by decide) ?_
    refine va_iald (D := (dC, dI)) hx hb hK hP 1 0 rfl rfl (i := 27) (vp_in_nI (n := 27) (by decide) (by decide)) dX12_count_139 ?_
    refine W.eq (g2 := F0 m 140 ls [.int 0]) rfl ?_
    exact W.iret (v := 0) hx hb hr (fun t ht hW => ⟨⟨0, (), rfl, by rw [c_12]; decide, trivial⟩, hS.F ht⟩) hS.2.2 dX12_count_140
  by_cases c_13 : p0 = 12
  · refine lv_tableIn (off := 135) (tgt := 141) hx hb dX12_count_6 (by rw [c_13]; decide) (by rw [c_13]; decide) (by rw [c_13]; rfl) (by decide) ?_
    refine lv_aload_n hx hb dX12_count_141 rfl (lv_at hl 0 rfl) ?_
    refine va_get (D := (dC, dI)) (ci := 12) (v := .int 0) (C := RX12) (T := TX12) (N := 54) hx hb hts hiX12 hown hK hP 0 rfl rfl 42 (by decide) (hts (.fieldLink RX12 292 "WallChapelsModel" "acts" "I") (by decide +kernel)) (fun _ h9 => h9) rfl dX12_count_142 ?_
    exact W.iret (v := 0) hx hb hr (fun t ht hW => ⟨⟨0, (), rfl, by rw [c_13]; decide, trivial⟩, hS.F ht⟩) hS.2.2 dX12_count_145
  refine lv_tableOut (tgt := 146) hx hb dX12_count_6 (by have z0 := c_1; have z1 := c_2; have z2 := c_3; have z3 := c_4; have z4 := c_5; have z5 := c_6; have z6 := c_7; have z7 := c_8; have z8 := c_9; have z9 := c_10; have z10 := c_11; have z11 := c_12; have z12 := c_13; simp only [i_eq, i_zm1000000, i_zm30, i_zm20, i_zm2, i_zm1, i_z0, i_z1, i_z2, i_z3, i_z4, i_z5, i_z6, i_z7, i_z8, i_z9, i_z10, i_z11, i_z12, i_z13, i_z14, i_z15, i_z16, i_z17, i_z18, i_z19, i_z20, i_z21, i_z22, i_z23, i_z24, i_z30, i_z32, i_z40, i_z41, i_z50, i_z58, i_z59, i_z60, i_z63, i_z99, i_z100, i_z240, i_z255, i_z999] at z0 z1 z2 z3 z4 z5 z6 z7 z8 z9 z10 z11 z12; omega) (by decide) ?_
  refine lv_ldcw hx hb hown (hts (.constant RX12 325 (-1000000)) (by decide +kernel)) dX12_count_146 ?_
  exact W.iret (v := (-1000000)) hx hb hr (fun t ht hW => ⟨⟨(-1000000), (), rfl, by rw [cntF, if_neg (show ¬ p0 = 6 by have z0 := c_1; have z1 := c_2; have z2 := c_3; have z3 := c_4; have z4 := c_5; have z5 := c_6; have z6 := c_7; have z7 := c_8; have z8 := c_9; have z9 := c_10; have z10 := c_11; have z11 := c_12; have z12 := c_13; simp only [i_lt, i_le, i_eq, i_zm1000000, i_zm30, i_zm20, i_zm2, i_zm1, i_z0, i_z1, i_z2, i_z3, i_z4, i_z5, i_z6, i_z7, i_z8, i_z9, i_z10, i_z11, i_z12, i_z13, i_z14, i_z15, i_z16, i_z17, i_z18, i_z19, i_z20, i_z21, i_z22, i_z23, i_z24, i_z30, i_z32, i_z40, i_z41, i_z50, i_z58, i_z59, i_z60, i_z63, i_z99, i_z100, i_z240, i_z255, i_z999] at z0 z1 z2 z3 z4 z5 z6 z7 z8 z9 z10 z11 z12; simp only [i_lt, i_le, i_eq, i_zm1000000, i_zm30, i_zm20, i_zm2, i_zm1, i_z0, i_z1, i_z2, i_z3, i_z4, i_z5, i_z6, i_z7, i_z8, i_z9, i_z10, i_z11, i_z12, i_z13, i_z14, i_z15, i_z16, i_z17, i_z18, i_z19, i_z20, i_z21, i_z22, i_z23, i_z24, i_z30, i_z32, i_z40, i_z41, i_z50, i_z58, i_z59, i_z60, i_z63, i_z99, i_z100, i_z240, i_z255, i_z999]; omega), if_neg (show ¬ p0 = 9 by have z0 := c_1; have z1 := c_2; have z2 := c_3; have z3 := c_4; have z4 := c_5; have z5 := c_6; have z6 := c_7; have z7 := c_8; have z8 := c_9; have z9 := c_10; have z10 := c_11; have z11 := c_12; have z12 := c_13; simp only [i_lt, i_le, i_eq, i_zm1000000, i_zm30, i_zm20, i_zm2, i_zm1, i_z0, i_z1, i_z2, i_z3, i_z4, i_z5, i_z6, i_z7, i_z8, i_z9, i_z10, i_z11, i_z12, i_z13, i_z14, i_z15, i_z16, i_z17, i_z18, i_z19, i_z20, i_z21, i_z22, i_z23, i_z24, i_z30, i_z32, i_z40, i_z41, i_z50, i_z58, i_z59, i_z60, i_z63, i_z99, i_z100, i_z240, i_z255, i_z999] at z0 z1 z2 z3 z4 z5 z6 z7 z8 z9 z10 z11 z12; simp only [i_lt, i_le, i_eq, i_zm1000000, i_zm30, i_zm20, i_zm2, i_zm1, i_z0, i_z1, i_z2, i_z3, i_z4, i_z5, i_z6, i_z7, i_z8, i_z9, i_z10, i_z11, i_z12, i_z13, i_z14, i_z15, i_z16, i_z17, i_z18, i_z19, i_z20, i_z21, i_z22, i_z23, i_z24, i_z30, i_z32, i_z40, i_z41, i_z50, i_z58, i_z59, i_z60, i_z63, i_z99, i_z100, i_z240, i_z255, i_z999]; omega), if_neg (show ¬ (0 ≤ p0 ∧ p0 ≤ 12) by have z0 := c_1; have z1 := c_2; have z2 := c_3; have z3 := c_4; have z4 := c_5; have z5 := c_6; have z6 := c_7; have z7 := c_8; have z8 := c_9; have z9 := c_10; have z10 := c_11; have z11 := c_12; have z12 := c_13; simp only [i_lt, i_le, i_eq, i_zm1000000, i_zm30, i_zm20, i_zm2, i_zm1, i_z0, i_z1, i_z2, i_z3, i_z4, i_z5, i_z6, i_z7, i_z8, i_z9, i_z10, i_z11, i_z12, i_z13, i_z14, i_z15, i_z16, i_z17, i_z18, i_z19, i_z20, i_z21, i_z22, i_z23, i_z24, i_z30, i_z32, i_z40, i_z41, i_z50, i_z58, i_z59, i_z60, i_z63, i_z99, i_z100, i_z240, i_z255, i_z999] at z0 z1 z2 z3 z4 z5 z6 z7 z8 z9 z10 z11 z12; simp only [i_lt, i_le, i_eq, i_zm1000000, i_zm30, i_zm20, i_zm2, i_zm1, i_z0, i_z1, i_z2, i_z3, i_z4, i_z5, i_z6, i_z7, i_z8, i_z9, i_z10, i_z11, i_z12, i_z13, i_z14, i_z15, i_z16, i_z17, i_z18, i_z19, i_z20, i_z21, i_z22, i_z23, i_z24, i_z30, i_z32, i_z40, i_z41, i_z50, i_z58, i_z59, i_z60, i_z63, i_z99, i_z100, i_z240, i_z255, i_z999]; omega)], trivial⟩, hS.F ht⟩) hS.2.2 dX12_count_149
def vs_f_X12_council : List Cond := .code yX12_council cX12_council 2 (some .boolean) :: ([.fieldLink RX12 90 "WallChapelsModel" "thrown" "I", .constantLong RX12 365 (9), .initialized RX12, .static yX12_isIn, .code yX12_isIn cX12_isIn 6 (some .boolean), .methodLink RX12 211 yX12_isIn, .fieldLink RX12 68 "WallChapelsModel" "busy" "I"] ++ (u_ws RX12 TX12 54))
theorem vs_f_X12_council_uX12 : ∀ w ∈ u_ws RX12 TX12 54, w ∈ vs_f_X12_council := fun _ h => List.mem_cons_of_mem _ (List.mem_append_right _ (h))
set_option maxRecDepth 20000 in
theorem g_f_X12_council_f_X12_isIn : GoodIn vs_f_X12_council (va_wsS RX12 211 yX12_isIn vs_f_X12_isIn) := goodIn_r _ [6, 4, 3, 5] (by decide +kernel) (by decide +kernel)
set_option maxHeartbeats 4000000 in
set_option maxRecDepth 100000 in
theorem f_X12_council (l : Launch) (dC : Nat → ClassId) (dI : Nat → Nat → Nat) (sz : Nat) (r : Nat → Nat) (p0 : Int32) : Met l yX12_council vs_f_X12_council ({ frames := 1, cells := 0, slots := 0, locals := 25 }) (va_Pc [.ref (r 100), .int p0] (cW dC dI [((r 100), .inr (12, mF r 0 0 0 0 0 0 0 0 0 0 0 0 0 (-1) 1))] [] sz)) (va_Qi (fun (r : Int32) (_ : Unit) => r = (if p0 < 0 ∨ 9 < p0 ∨ p0 = 1 then 0 else 1)) (fun (_ : Unit) (t : State) => True) (va_A [((r 100), .inr (12, mF r 0 0 0 0 0 0 0 0 0 0 0 0 0 (-1) 1))] sz)) 0 0 (va_A [((r 100), .inr (12, mF r 0 0 0 0 0 0 0 0 0 0 0 0 0 (-1) 1))] sz) := by
  refine Met.ofW (cc := cX12_council) (maxL := 2) (ret := (some .boolean)) (by decide) rfl ?_
  intro p e s m args below meth c s₁ B hml hv
  obtain ⟨rfl, hsz, hP, hK, hD0, hG⟩ := hv
  have hx := B.exec
  have hb := B.bytes
  have hr := B.returns
  have hts := atoms_spec (ws := vs_f_X12_council) B.pre
  have hown : s.vm.findClass RX12 = some m.cls := findClass_of_methodNamed B.named
  have hlocks := B.notSynchronized
  have hiX12 : ∀ w ∈ u_ws RX12 TX12 54, w ∈ vs_f_X12_council := vs_f_X12_council_uX12
  subst hsz
  have hD := hD0.self (sz := s.heap.size)
  generalize hAe : va_A [((r 100), .inr (12, mF r 0 0 0 0 0 0 0 0 0 0 0 0 0 (-1) 1))] s.heap.size = A at hD ⊢
  have hA : ∀ q : Nat, s.heap.size ≤ q → A q := fun q h => by rw [← hAe]; exact Or.inr h
  have hS : va_S A s.heap s.heap [] := va_S.rf
  have hP : va_P (dC, dI) vwCl [((r 100), .inr (12, mF r 0 0 0 0 0 0 0 0 0 0 0 0 0 (-1) 1))] s.heap := hP
  have hl := lv_entry ([.ref (r 100), .int p0]) (n := 2) (Nat.le_of_ble_eq_true rfl)
  rw [lg_entry_eq]
  generalize (lg_sl ([.ref (r 100), .int p0]) ++ List.replicate (2 - (lg_sl ([.ref (r 100), .int p0])).length) Slot.unset).toArray = ls at hl ⊢
  have hl : lv_has ls 2 [(0, .ref (r 100)), (1, .int p0)] := hl
  refine lv_aload_n hx hb dX12_council_0 rfl (lv_at hl 0 rfl) ?_
  refine lv_iconst (v := 0) hx hb dX12_council_1 (by decide) ?_
  refine va_put (D := (dC, dI)) (ci := 12) (v := .int 0) (ty := .int) (C := RX12) (T := TX12) (N := 54) hx hb hts hiX12 tyX12 tyX12_ok nmX12 hown hK hP hD hS 0 rfl rfl 0 (by decide) (hts (.fieldLink RX12 90 "WallChapelsModel" "thrown" "I") (by decide +kernel)) (fun _ h9 => h9) rfl (by decide +kernel) rfl rfl (Nat.le_of_ble_eq_true rfl) dX12_council_2 (fun H locs hP hD hS => ?_)
  have hP : va_P (dC, dI) vwCl [((r 100), .inr (12, mF r 0 0 0 0 0 0 0 0 0 0 0 0 0 (-1) 1))] H := hP
  have hD : va_D A [((r 100), .inr (12, mF r 0 0 0 0 0 0 0 0 0 0 0 0 0 (-1) 1))] := hD
  refine lv_iload_n hx hb dX12_council_5 rfl (lv_at hl 1 rfl) ?_
  refine lv_i2l (v := p0.toInt64) hx hb dX12_council_6 rfl ?_
  refine lv_lconst (v := 0) hx hb dX12_council_7 rfl ?_
  refine lv_ldc2 hx hb hown (hts (.constantLong RX12 365 (9)) (by decide +kernel)) dX12_council_8 ?_
  have hPc := hP.sub (ws' := []) [] rfl
  have hDc := hD.sub (ws' := []) [] (by decide) rfl
  have hKc := hK.sub (tys' := []) [] rfl
  have hFc := va_free (wc := []) hD hS hA [] rfl
  refine va_calli (va_runS (As := [.long (p0.toInt64), .long 0, .long 9]) (rest := []) ⟨hx, hb, hml, hown, hts⟩ (f_X12_isIn l dC dI H.size p0 0 9 0 9 (by decide) (by decide)) (va_cwS 3 hts g_f_X12_council_f_X12_isIn rfl rfl rfl (by decide +kernel) ⟨Nat.le_of_ble_eq_true rfl, Nat.le_of_ble_eq_true rfl⟩) ⟨cW_blind, fun U hU hW => ⟨rfl, cW_use hU hW hPc hKc hDc hG⟩⟩ rfl rfl hl.1 rfl (lv_room (Nat.le_of_ble_eq_true rfl)) dX12_council_11 ⟨Nat.le_of_ble_eq_true rfl, Nat.le_of_ble_eq_true rfl⟩) hS (fun q _ h => hFc q h) hFc (fun r_1 u t H1 locs ht hvm hw hB hz1 hk1 hS => ?_)
  obtain ⟨hP, hD⟩ := va_join (wr := [((r 100), .inr (12, mF r 0 0 0 0 0 0 0 0 0 0 0 0 0 (-1) 1))]) (w1 := []) hP hD [] [0] rfl rfl (by decide) (by decide) hk1 hFc (va_P_nil H1) va_D_nil
  generalize H1 = H at hP hS ⊢
  have hP : va_P (dC, dI) vwCl [((r 100), .inr (12, mF r 0 0 0 0 0 0 0 0 0 0 0 0 0 (-1) 1))] H := hP
  have hD : va_D A [((r 100), .inr (12, mF r 0 0 0 0 0 0 0 0 0 0 0 0 0 (-1) 1))] := hD
  refine W.widen (k := 0) (n := 0) (Nat.le_of_ble_eq_true rfl) (Nat.le_of_ble_eq_true rfl) ?_
  by_cases c_2 : (p0 < 0 ∨ 9 < p0)
  · rw [if_pos c_2] at hw
    obtain rfl : r_1 = 0 := hw
    refine lv_if_eq (tgt := 25) hx hb dX12_council_14 (by decide) (fun c_3 => ?_) (fun c_3 => absurd (by decide) c_3)
    refine lv_iconst (v := 0) hx hb dX12_council_25 (by decide) ?_
    exact W.zret (v := 0) hx hb hr rfl (fun t ht hW => ⟨⟨0, (), rfl, by rw [if_pos (show (p0 < 0 ∨ 9 < p0 ∨ p0 = 1) by have zI := c_2; simp only [i_lt, i_le, i_eq, i_zm1000000, i_zm30, i_zm20, i_zm2, i_zm1, i_z0, i_z1, i_z2, i_z3, i_z4, i_z5, i_z6, i_z7, i_z8, i_z9, i_z10, i_z11, i_z12, i_z13, i_z14, i_z15, i_z16, i_z17, i_z18, i_z19, i_z20, i_z21, i_z22, i_z23, i_z24, i_z30, i_z32, i_z40, i_z41, i_z50, i_z58, i_z59, i_z60, i_z63, i_z99, i_z100, i_z240, i_z255, i_z999] at zI; simp only [i_lt, i_le, i_eq, i_zm1000000, i_zm30, i_zm20, i_zm2, i_zm1, i_z0, i_z1, i_z2, i_z3, i_z4, i_z5, i_z6, i_z7, i_z8, i_z9, i_z10, i_z11, i_z12, i_z13, i_z14, i_z15, i_z16, i_z17, i_z18, i_z19, i_z20, i_z21, i_z22, i_z23, i_z24, i_z30, i_z32, i_z40, i_z41, i_z50, i_z58, i_z59, i_z60, i_z63, i_z99, i_z100, i_z240, i_z255, i_z999]; omega)], trivial⟩, hS.F ht⟩) hS.2.2 dX12_council_26
  · rw [if_neg c_2] at hw
    obtain rfl : r_1 = 1 := hw
    refine lv_if_eq (tgt := 25) hx hb dX12_council_14 (by decide) (fun c_4 => absurd c_4 (by decide)) (fun c_4 => ?_)
    refine lv_iload_n hx hb dX12_council_17 rfl (lv_at hl 1 rfl) ?_
    refine lv_aload_n hx hb dX12_council_18 rfl (lv_at hl 0 rfl) ?_
    refine va_get (D := (dC, dI)) (ci := 12) (v := .int 1) (C := RX12) (T := TX12) (N := 54) hx hb hts hiX12 hown hK hP 0 rfl rfl 35 (by decide) (hts (.fieldLink RX12 68 "WallChapelsModel" "busy" "I") (by decide +kernel)) (fun _ h9 => h9) rfl dX12_council_19 ?_
    refine lv_icmp_ne (tgt := 27) hx hb dX12_council_22 (by decide) (fun c_5 => ?_) (fun c_5 => ?_)
    · refine lv_aload_n hx hb dX12_council_27 rfl (lv_at hl 0 rfl) ?_
      refine lv_iload_n hx hb dX12_council_28 rfl (lv_at hl 1 rfl) ?_
      refine va_put (D := (dC, dI)) (ci := 12) (v := .int p0) (ty := .int) (C := RX12) (T := TX12) (N := 54) hx hb hts hiX12 tyX12 tyX12_ok nmX12 hown hK hP hD hS 0 rfl rfl 35 (by decide) (hts (.fieldLink RX12 68 "WallChapelsModel" "busy" "I") (by decide +kernel)) (fun _ h9 => h9) rfl (by decide +kernel) rfl rfl (Nat.le_of_ble_eq_true rfl) dX12_council_29 (fun H locs hP hD hS => ?_)
      have hP : va_P (dC, dI) vwCl [((r 100), .inr (12, mF r 0 0 0 0 0 0 0 0 0 0 0 0 0 (-1) p0))] H := hP
      have hD : va_D A [((r 100), .inr (12, mF r 0 0 0 0 0 0 0 0 0 0 0 0 0 (-1) p0))] := hD
      refine lv_iconst (v := 1) hx hb dX12_council_32 (by decide) ?_
      exact W.zret (v := 1) hx hb hr rfl (fun t ht hW => ⟨⟨1, (), rfl, by rw [if_neg (show ¬ (p0 < 0 ∨ 9 < p0 ∨ p0 = 1) by have zI := c_2; simp only [i_lt, i_le, i_eq, i_zm1000000, i_zm30, i_zm20, i_zm2, i_zm1, i_z0, i_z1, i_z2, i_z3, i_z4, i_z5, i_z6, i_z7, i_z8, i_z9, i_z10, i_z11, i_z12, i_z13, i_z14, i_z15, i_z16, i_z17, i_z18, i_z19, i_z20, i_z21, i_z22, i_z23, i_z24, i_z30, i_z32, i_z40, i_z41, i_z50, i_z58, i_z59, i_z60, i_z63, i_z99, i_z100, i_z240, i_z255, i_z999] at zI; have z0 := (not_or.mp c_2).1; have z1 := (not_or.mp c_2).2; have z2 := c_5; simp only [i_lt, i_le, i_eq, i_zm1000000, i_zm30, i_zm20, i_zm2, i_zm1, i_z0, i_z1, i_z2, i_z3, i_z4, i_z5, i_z6, i_z7, i_z8, i_z9, i_z10, i_z11, i_z12, i_z13, i_z14, i_z15, i_z16, i_z17, i_z18, i_z19, i_z20, i_z21, i_z22, i_z23, i_z24, i_z30, i_z32, i_z40, i_z41, i_z50, i_z58, i_z59, i_z60, i_z63, i_z99, i_z100, i_z240, i_z255, i_z999] at z0 z1 z2; simp only [i_lt, i_le, i_eq, i_zm1000000, i_zm30, i_zm20, i_zm2, i_zm1, i_z0, i_z1, i_z2, i_z3, i_z4, i_z5, i_z6, i_z7, i_z8, i_z9, i_z10, i_z11, i_z12, i_z13, i_z14, i_z15, i_z16, i_z17, i_z18, i_z19, i_z20, i_z21, i_z22, i_z23, i_z24, i_z30, i_z32, i_z40, i_z41, i_z50, i_z58, i_z59, i_z60, i_z63, i_z99, i_z100, i_z240, i_z255, i_z999]; omega)], trivial⟩, hS.F ht⟩) hS.2.2 dX12_council_33
    · refine lv_iconst (v := 0) hx hb dX12_council_25 (by decide) ?_
      exact W.zret (v := 0) hx hb hr rfl (fun t ht hW => ⟨⟨0, (), rfl, by rw [if_pos (show (p0 < 0 ∨ 9 < p0 ∨ p0 = 1) by have zI := c_2; simp only [i_lt, i_le, i_eq, i_zm1000000, i_zm30, i_zm20, i_zm2, i_zm1, i_z0, i_z1, i_z2, i_z3, i_z4, i_z5, i_z6, i_z7, i_z8, i_z9, i_z10, i_z11, i_z12, i_z13, i_z14, i_z15, i_z16, i_z17, i_z18, i_z19, i_z20, i_z21, i_z22, i_z23, i_z24, i_z30, i_z32, i_z40, i_z41, i_z50, i_z58, i_z59, i_z60, i_z63, i_z99, i_z100, i_z240, i_z255, i_z999] at zI; have z0 := (not_or.mp c_2).1; have z1 := (not_or.mp c_2).2; have z2 := c_5; simp only [i_lt, i_le, i_eq, i_zm1000000, i_zm30, i_zm20, i_zm2, i_zm1, i_z0, i_z1, i_z2, i_z3, i_z4, i_z5, i_z6, i_z7, i_z8, i_z9, i_z10, i_z11, i_z12, i_z13, i_z14, i_z15, i_z16, i_z17, i_z18, i_z19, i_z20, i_z21, i_z22, i_z23, i_z24, i_z30, i_z32, i_z40, i_z41, i_z50, i_z58, i_z59, i_z60, i_z63, i_z99, i_z100, i_z240, i_z255, i_z999] at z0 z1 z2; simp only [i_lt, i_le, i_eq, i_zm1000000, i_zm30, i_zm20, i_zm2, i_zm1, i_z0, i_z1, i_z2, i_z3, i_z4, i_z5, i_z6, i_z7, i_z8, i_z9, i_z10, i_z11, i_z12, i_z13, i_z14, i_z15, i_z16, i_z17, i_z18, i_z19, i_z20, i_z21, i_z22, i_z23, i_z24, i_z30, i_z32, i_z40, i_z41, i_z50, i_z58, i_z59, i_z60, i_z63, i_z99, i_z100, i_z240, i_z255, i_z999]; omega)], trivial⟩, hS.F ht⟩) hS.2.2 dX12_council_26
def vs_f_X12_law : List Cond := .code yX12_law cX12_law 2 (some .boolean) :: ([.fieldLink RX12 90 "WallChapelsModel" "thrown" "I", .fieldLink RX12 64 "WallChapelsModel" "law" "I", .fieldLink RX12 272 "WallChapelsModel" "lawMany" "I", .initialized RX12, .static yX12_isIn, .code yX12_isIn cX12_isIn 6 (some .boolean), .methodLink RX12 211 yX12_isIn] ++ (u_ws RX12 TX12 54))
theorem vs_f_X12_law_uX12 : ∀ w ∈ u_ws RX12 TX12 54, w ∈ vs_f_X12_law := fun _ h => List.mem_cons_of_mem _ (List.mem_append_right _ (h))
set_option maxRecDepth 20000 in
theorem g_f_X12_law_f_X12_isIn : GoodIn vs_f_X12_law (va_wsS RX12 211 yX12_isIn vs_f_X12_isIn) := goodIn_r _ [7, 5, 4, 6] (by decide +kernel) (by decide +kernel)
set_option maxHeartbeats 4000000 in
set_option maxRecDepth 100000 in
theorem f_X12_law (l : Launch) (dC : Nat → ClassId) (dI : Nat → Nat → Nat) (sz : Nat) (r : Nat → Nat) (p0 : Int32) : Met l yX12_law vs_f_X12_law ({ frames := 1, cells := 0, slots := 0, locals := 25 }) (va_Pc [.ref (r 100), .int p0] (cW dC dI [((r 100), .inr (12, mF r 0 0 0 0 0 0 0 0 0 0 0 0 0 (-1) 1))] [] sz)) (va_Qi (fun (r : Int32) (_ : Unit) => r = (if p0 = -1 then 1 else 0)) (fun (_ : Unit) (t : State) => True) (va_A [((r 100), .inr (12, mF r 0 0 0 0 0 0 0 0 0 0 0 0 0 (-1) 1))] sz)) 0 0 (va_A [((r 100), .inr (12, mF r 0 0 0 0 0 0 0 0 0 0 0 0 0 (-1) 1))] sz) := by
  refine Met.ofW (cc := cX12_law) (maxL := 2) (ret := (some .boolean)) (by decide) rfl ?_
  intro p e s m args below meth c s₁ B hml hv
  obtain ⟨rfl, hsz, hP, hK, hD0, hG⟩ := hv
  have hx := B.exec
  have hb := B.bytes
  have hr := B.returns
  have hts := atoms_spec (ws := vs_f_X12_law) B.pre
  have hown : s.vm.findClass RX12 = some m.cls := findClass_of_methodNamed B.named
  have hlocks := B.notSynchronized
  have hiX12 : ∀ w ∈ u_ws RX12 TX12 54, w ∈ vs_f_X12_law := vs_f_X12_law_uX12
  subst hsz
  have hD := hD0.self (sz := s.heap.size)
  generalize hAe : va_A [((r 100), .inr (12, mF r 0 0 0 0 0 0 0 0 0 0 0 0 0 (-1) 1))] s.heap.size = A at hD ⊢
  have hA : ∀ q : Nat, s.heap.size ≤ q → A q := fun q h => by rw [← hAe]; exact Or.inr h
  have hS : va_S A s.heap s.heap [] := va_S.rf
  have hP : va_P (dC, dI) vwCl [((r 100), .inr (12, mF r 0 0 0 0 0 0 0 0 0 0 0 0 0 (-1) 1))] s.heap := hP
  have hl := lv_entry ([.ref (r 100), .int p0]) (n := 2) (Nat.le_of_ble_eq_true rfl)
  rw [lg_entry_eq]
  generalize (lg_sl ([.ref (r 100), .int p0]) ++ List.replicate (2 - (lg_sl ([.ref (r 100), .int p0])).length) Slot.unset).toArray = ls at hl ⊢
  have hl : lv_has ls 2 [(0, .ref (r 100)), (1, .int p0)] := hl
  refine lv_aload_n hx hb dX12_law_0 rfl (lv_at hl 0 rfl) ?_
  refine lv_iconst (v := 0) hx hb dX12_law_1 (by decide) ?_
  refine va_put (D := (dC, dI)) (ci := 12) (v := .int 0) (ty := .int) (C := RX12) (T := TX12) (N := 54) hx hb hts hiX12 tyX12 tyX12_ok nmX12 hown hK hP hD hS 0 rfl rfl 0 (by decide) (hts (.fieldLink RX12 90 "WallChapelsModel" "thrown" "I") (by decide +kernel)) (fun _ h9 => h9) rfl (by decide +kernel) rfl rfl (Nat.le_of_ble_eq_true rfl) dX12_law_2 (fun H locs hP hD hS => ?_)
  have hP : va_P (dC, dI) vwCl [((r 100), .inr (12, mF r 0 0 0 0 0 0 0 0 0 0 0 0 0 (-1) 1))] H := hP
  have hD : va_D A [((r 100), .inr (12, mF r 0 0 0 0 0 0 0 0 0 0 0 0 0 (-1) 1))] := hD
  refine lv_iload_n hx hb dX12_law_5 rfl (lv_at hl 1 rfl) ?_
  refine lv_iconst (v := (-1)) hx hb dX12_law_6 (by decide) ?_
  refine lv_icmp_eq (tgt := 28) hx hb dX12_law_7 (by decide) (fun c_1 => ?_) (fun c_1 => ?_)
  · refine lv_aload_n hx hb dX12_law_28 rfl (lv_at hl 0 rfl) ?_
    refine lv_iload_n hx hb dX12_law_29 rfl (lv_at hl 1 rfl) ?_
    refine va_put (D := (dC, dI)) (ci := 12) (v := .int p0) (ty := .int) (C := RX12) (T := TX12) (N := 54) hx hb hts hiX12 tyX12 tyX12_ok nmX12 hown hK hP hD hS 0 rfl rfl 34 (by decide) (hts (.fieldLink RX12 64 "WallChapelsModel" "law" "I") (by decide +kernel)) (fun _ h9 => h9) rfl (by decide +kernel) rfl rfl (Nat.le_of_ble_eq_true rfl) dX12_law_30 (fun H locs hP hD hS => ?_)
    have hP : va_P (dC, dI) vwCl [((r 100), .inr (12, mF r 0 0 0 0 0 0 0 0 0 0 0 0 0 p0 1))] H := hP
    have hD : va_D A [((r 100), .inr (12, mF r 0 0 0 0 0 0 0 0 0 0 0 0 0 p0 1))] := hD
    refine lv_iconst (v := 1) hx hb dX12_law_33 (by decide) ?_
    exact W.zret (v := 1) hx hb hr rfl (fun t ht hW => ⟨⟨1, (), rfl, by rw [if_pos (show (p0 = -1) by have z0 := c_1; simp only [i_lt, i_le, i_eq, i_zm1000000, i_zm30, i_zm20, i_zm2, i_zm1, i_z0, i_z1, i_z2, i_z3, i_z4, i_z5, i_z6, i_z7, i_z8, i_z9, i_z10, i_z11, i_z12, i_z13, i_z14, i_z15, i_z16, i_z17, i_z18, i_z19, i_z20, i_z21, i_z22, i_z23, i_z24, i_z30, i_z32, i_z40, i_z41, i_z50, i_z58, i_z59, i_z60, i_z63, i_z99, i_z100, i_z240, i_z255, i_z999] at z0; simp only [i_lt, i_le, i_eq, i_zm1000000, i_zm30, i_zm20, i_zm2, i_zm1, i_z0, i_z1, i_z2, i_z3, i_z4, i_z5, i_z6, i_z7, i_z8, i_z9, i_z10, i_z11, i_z12, i_z13, i_z14, i_z15, i_z16, i_z17, i_z18, i_z19, i_z20, i_z21, i_z22, i_z23, i_z24, i_z30, i_z32, i_z40, i_z41, i_z50, i_z58, i_z59, i_z60, i_z63, i_z99, i_z100, i_z240, i_z255, i_z999]; omega)], trivial⟩, hS.F ht⟩) hS.2.2 dX12_law_34
  · refine lv_iload_n hx hb dX12_law_10 rfl (lv_at hl 1 rfl) ?_
    refine lv_i2l (v := p0.toInt64) hx hb dX12_law_11 rfl ?_
    refine lv_lconst (v := 0) hx hb dX12_law_12 rfl ?_
    refine lv_aload_n hx hb dX12_law_13 rfl (lv_at hl 0 rfl) ?_
    refine va_get (D := (dC, dI)) (ci := 12) (v := .int 0) (C := RX12) (T := TX12) (N := 54) hx hb hts hiX12 hown hK hP 0 rfl rfl 7 (by decide) (hts (.fieldLink RX12 272 "WallChapelsModel" "lawMany" "I") (by decide +kernel)) (fun _ h9 => h9) rfl dX12_law_14 ?_
    refine lv_iconst (v := 1) hx hb dX12_law_17 (by decide) ?_
    refine lv_isub hx hb dX12_law_18 ?_
    refine lv_topi (fun v_2 e_2 => ?_)
    obtain rfl : v_2 = (-1) := by rw [e_2]; decide
    refine lv_i2l (v := (-1)) hx hb dX12_law_19 (by decide) ?_
    have hPc := hP.sub (ws' := []) [] rfl
    have hDc := hD.sub (ws' := []) [] (by decide) rfl
    have hKc := hK.sub (tys' := []) [] rfl
    have hFc := va_free (wc := []) hD hS hA [] rfl
    refine va_calli (va_runS (As := [.long (p0.toInt64), .long 0, .long (-1)]) (rest := []) ⟨hx, hb, hml, hown, hts⟩ (f_X12_isIn l dC dI H.size p0 0 (-1) 0 (-1) (by decide) (by decide)) (va_cwS 3 hts g_f_X12_law_f_X12_isIn rfl rfl rfl (by decide +kernel) ⟨Nat.le_of_ble_eq_true rfl, Nat.le_of_ble_eq_true rfl⟩) ⟨cW_blind, fun U hU hW => ⟨rfl, cW_use hU hW hPc hKc hDc hG⟩⟩ rfl rfl hl.1 rfl (lv_room (Nat.le_of_ble_eq_true rfl)) dX12_law_20 ⟨Nat.le_of_ble_eq_true rfl, Nat.le_of_ble_eq_true rfl⟩) hS (fun q _ h => hFc q h) hFc (fun r_3 u t H1 locs ht hvm hw hB hz1 hk1 hS => ?_)
    obtain ⟨hP, hD⟩ := va_join (wr := [((r 100), .inr (12, mF r 0 0 0 0 0 0 0 0 0 0 0 0 0 (-1) 1))]) (w1 := []) hP hD [] [0] rfl rfl (by decide) (by decide) hk1 hFc (va_P_nil H1) va_D_nil
    generalize H1 = H at hP hS ⊢
    have hP : va_P (dC, dI) vwCl [((r 100), .inr (12, mF r 0 0 0 0 0 0 0 0 0 0 0 0 0 (-1) 1))] H := hP
    have hD : va_D A [((r 100), .inr (12, mF r 0 0 0 0 0 0 0 0 0 0 0 0 0 (-1) 1))] := hD
    refine W.widen (k := 0) (n := 0) (Nat.le_of_ble_eq_true rfl) (Nat.le_of_ble_eq_true rfl) ?_
    by_cases c_4 : (p0 < 0 ∨ (-1) < p0)
    · rw [if_pos c_4] at hw
      obtain rfl : r_3 = 0 := hw
      refine lv_if_ne (tgt := 28) hx hb dX12_law_23 (by decide) (fun c_5 => absurd c_5 (by decide)) (fun c_5 => ?_)
      refine lv_iconst (v := 0) hx hb dX12_law_26 (by decide) ?_
      exact W.zret (v := 0) hx hb hr rfl (fun t ht hW => ⟨⟨0, (), rfl, by rw [if_neg (show ¬ (p0 = -1) by have zI := c_4; simp only [i_lt, i_le, i_eq, i_zm1000000, i_zm30, i_zm20, i_zm2, i_zm1, i_z0, i_z1, i_z2, i_z3, i_z4, i_z5, i_z6, i_z7, i_z8, i_z9, i_z10, i_z11, i_z12, i_z13, i_z14, i_z15, i_z16, i_z17, i_z18, i_z19, i_z20, i_z21, i_z22, i_z23, i_z24, i_z30, i_z32, i_z40, i_z41, i_z50, i_z58, i_z59, i_z60, i_z63, i_z99, i_z100, i_z240, i_z255, i_z999] at zI; have z0 := c_1; simp only [i_lt, i_le, i_eq, i_zm1000000, i_zm30, i_zm20, i_zm2, i_zm1, i_z0, i_z1, i_z2, i_z3, i_z4, i_z5, i_z6, i_z7, i_z8, i_z9, i_z10, i_z11, i_z12, i_z13, i_z14, i_z15, i_z16, i_z17, i_z18, i_z19, i_z20, i_z21, i_z22, i_z23, i_z24, i_z30, i_z32, i_z40, i_z41, i_z50, i_z58, i_z59, i_z60, i_z63, i_z99, i_z100, i_z240, i_z255, i_z999] at z0; simp only [i_lt, i_le, i_eq, i_zm1000000, i_zm30, i_zm20, i_zm2, i_zm1, i_z0, i_z1, i_z2, i_z3, i_z4, i_z5, i_z6, i_z7, i_z8, i_z9, i_z10, i_z11, i_z12, i_z13, i_z14, i_z15, i_z16, i_z17, i_z18, i_z19, i_z20, i_z21, i_z22, i_z23, i_z24, i_z30, i_z32, i_z40, i_z41, i_z50, i_z58, i_z59, i_z60, i_z63, i_z99, i_z100, i_z240, i_z255, i_z999]; omega)], trivial⟩, hS.F ht⟩) hS.2.2 dX12_law_27
    · rw [if_neg c_4] at hw
      obtain rfl : r_3 = 1 := hw
      exact (show False by have zI := c_4; simp only [i_lt, i_le, i_eq, i_zm1000000, i_zm30, i_zm20, i_zm2, i_zm1, i_z0, i_z1, i_z2, i_z3, i_z4, i_z5, i_z6, i_z7, i_z8, i_z9, i_z10, i_z11, i_z12, i_z13, i_z14, i_z15, i_z16, i_z17, i_z18, i_z19, i_z20, i_z21, i_z22, i_z23, i_z24, i_z30, i_z32, i_z40, i_z41, i_z50, i_z58, i_z59, i_z60, i_z63, i_z99, i_z100, i_z240, i_z255, i_z999] at zI; have z0 := c_1; have z1 := (not_or.mp c_4).1; have z2 := (not_or.mp c_4).2; simp only [i_lt, i_le, i_eq, i_zm1000000, i_zm30, i_zm20, i_zm2, i_zm1, i_z0, i_z1, i_z2, i_z3, i_z4, i_z5, i_z6, i_z7, i_z8, i_z9, i_z10, i_z11, i_z12, i_z13, i_z14, i_z15, i_z16, i_z17, i_z18, i_z19, i_z20, i_z21, i_z22, i_z23, i_z24, i_z30, i_z32, i_z40, i_z41, i_z50, i_z58, i_z59, i_z60, i_z63, i_z99, i_z100, i_z240, i_z255, i_z999] at z0 z1 z2; omega).elim
def vs_f_X12_end : List Cond := .code yX12_end cX12_end 2 (some .boolean) :: ([.fieldLink RX12 90 "WallChapelsModel" "thrown" "I", .fieldLink RX12 103 "WallChapelsModel" "length" "I"] ++ (u_ws RX12 TX12 54))
theorem vs_f_X12_end_uX12 : ∀ w ∈ u_ws RX12 TX12 54, w ∈ vs_f_X12_end := fun _ h => List.mem_cons_of_mem _ (List.mem_append_right _ (h))
set_option maxHeartbeats 4000000 in
set_option maxRecDepth 100000 in
theorem f_X12_end (l : Launch) (dC : Nat → ClassId) (dI : Nat → Nat → Nat) (sz : Nat) (r : Nat → Nat) (p0 : Int32) : Met l yX12_end vs_f_X12_end ({ frames := 0, cells := 0, slots := 0, locals := 0 }) (va_Pc [.ref (r 100), .int p0] (cW dC dI [((r 100), .inr (12, mF r 0 0 0 0 0 0 0 0 0 0 0 0 0 (-1) 1))] [] sz)) (va_Qi (fun (r : Int32) (_ : Unit) => r = (if p0 = 0 then 1 else 0)) (fun (_ : Unit) (t : State) => True) (va_A [((r 100), .inr (12, mF r 0 0 0 0 0 0 0 0 0 0 0 0 0 (-1) 1))] sz)) 0 0 (va_A [((r 100), .inr (12, mF r 0 0 0 0 0 0 0 0 0 0 0 0 0 (-1) 1))] sz) := by
  refine Met.ofW (cc := cX12_end) (maxL := 2) (ret := (some .boolean)) (by decide) rfl ?_
  intro p e s m args below meth c s₁ B hml hv
  obtain ⟨rfl, hsz, hP, hK, hD0, hG⟩ := hv
  have hx := B.exec
  have hb := B.bytes
  have hr := B.returns
  have hts := atoms_spec (ws := vs_f_X12_end) B.pre
  have hown : s.vm.findClass RX12 = some m.cls := findClass_of_methodNamed B.named
  have hlocks := B.notSynchronized
  have hiX12 : ∀ w ∈ u_ws RX12 TX12 54, w ∈ vs_f_X12_end := vs_f_X12_end_uX12
  subst hsz
  have hD := hD0.self (sz := s.heap.size)
  generalize hAe : va_A [((r 100), .inr (12, mF r 0 0 0 0 0 0 0 0 0 0 0 0 0 (-1) 1))] s.heap.size = A at hD ⊢
  have hA : ∀ q : Nat, s.heap.size ≤ q → A q := fun q h => by rw [← hAe]; exact Or.inr h
  have hS : va_S A s.heap s.heap [] := va_S.rf
  have hP : va_P (dC, dI) vwCl [((r 100), .inr (12, mF r 0 0 0 0 0 0 0 0 0 0 0 0 0 (-1) 1))] s.heap := hP
  have hl := lv_entry ([.ref (r 100), .int p0]) (n := 2) (Nat.le_of_ble_eq_true rfl)
  rw [lg_entry_eq]
  generalize (lg_sl ([.ref (r 100), .int p0]) ++ List.replicate (2 - (lg_sl ([.ref (r 100), .int p0])).length) Slot.unset).toArray = ls at hl ⊢
  have hl : lv_has ls 2 [(0, .ref (r 100)), (1, .int p0)] := hl
  refine lv_aload_n hx hb dX12_end_0 rfl (lv_at hl 0 rfl) ?_
  refine lv_iconst (v := 0) hx hb dX12_end_1 (by decide) ?_
  refine va_put (D := (dC, dI)) (ci := 12) (v := .int 0) (ty := .int) (C := RX12) (T := TX12) (N := 54) hx hb hts hiX12 tyX12 tyX12_ok nmX12 hown hK hP hD hS 0 rfl rfl 0 (by decide) (hts (.fieldLink RX12 90 "WallChapelsModel" "thrown" "I") (by decide +kernel)) (fun _ h9 => h9) rfl (by decide +kernel) rfl rfl (Nat.le_of_ble_eq_true rfl) dX12_end_2 (fun H locs hP hD hS => ?_)
  have hP : va_P (dC, dI) vwCl [((r 100), .inr (12, mF r 0 0 0 0 0 0 0 0 0 0 0 0 0 (-1) 1))] H := hP
  have hD : va_D A [((r 100), .inr (12, mF r 0 0 0 0 0 0 0 0 0 0 0 0 0 (-1) 1))] := hD
  refine lv_iload_n hx hb dX12_end_5 rfl (lv_at hl 1 rfl) ?_
  refine lv_if_lt (tgt := 17) hx hb dX12_end_6 (by decide) (fun c_1 => ?_) (fun c_1 => ?_)
  · refine lv_iconst (v := 0) hx hb dX12_end_17 (by decide) ?_
    exact W.zret (v := 0) hx hb hr rfl (fun t ht hW => ⟨⟨0, (), rfl, by rw [if_neg (show ¬ (p0 = 0) by have z0 := c_1; simp only [i_lt, i_le, i_eq, i_zm1000000, i_zm30, i_zm20, i_zm2, i_zm1, i_z0, i_z1, i_z2, i_z3, i_z4, i_z5, i_z6, i_z7, i_z8, i_z9, i_z10, i_z11, i_z12, i_z13, i_z14, i_z15, i_z16, i_z17, i_z18, i_z19, i_z20, i_z21, i_z22, i_z23, i_z24, i_z30, i_z32, i_z40, i_z41, i_z50, i_z58, i_z59, i_z60, i_z63, i_z99, i_z100, i_z240, i_z255, i_z999] at z0; simp only [i_lt, i_le, i_eq, i_zm1000000, i_zm30, i_zm20, i_zm2, i_zm1, i_z0, i_z1, i_z2, i_z3, i_z4, i_z5, i_z6, i_z7, i_z8, i_z9, i_z10, i_z11, i_z12, i_z13, i_z14, i_z15, i_z16, i_z17, i_z18, i_z19, i_z20, i_z21, i_z22, i_z23, i_z24, i_z30, i_z32, i_z40, i_z41, i_z50, i_z58, i_z59, i_z60, i_z63, i_z99, i_z100, i_z240, i_z255, i_z999]; omega)], trivial⟩, hS.F ht⟩) hS.2.2 dX12_end_18
  · refine lv_iload_n hx hb dX12_end_9 rfl (lv_at hl 1 rfl) ?_
    refine lv_aload_n hx hb dX12_end_10 rfl (lv_at hl 0 rfl) ?_
    refine va_get (D := (dC, dI)) (ci := 12) (v := .int 0) (C := RX12) (T := TX12) (N := 54) hx hb hts hiX12 hown hK hP 0 rfl rfl 6 (by decide) (hts (.fieldLink RX12 103 "WallChapelsModel" "length" "I") (by decide +kernel)) (fun _ h9 => h9) rfl dX12_end_11 ?_
    refine lv_icmp_le (tgt := 19) hx hb dX12_end_14 (by decide) (fun c_2 => ?_) (fun c_2 => ?_)
    · refine lv_aload_n hx hb dX12_end_19 rfl (lv_at hl 0 rfl) ?_
      refine lv_iload_n hx hb dX12_end_20 rfl (lv_at hl 1 rfl) ?_
      refine va_put (D := (dC, dI)) (ci := 12) (v := .int p0) (ty := .int) (C := RX12) (T := TX12) (N := 54) hx hb hts hiX12 tyX12 tyX12_ok nmX12 hown hK hP hD hS 0 rfl rfl 6 (by decide) (hts (.fieldLink RX12 103 "WallChapelsModel" "length" "I") (by decide +kernel)) (fun _ h9 => h9) rfl (by decide +kernel) rfl rfl (Nat.le_of_ble_eq_true rfl) dX12_end_21 (fun H locs hP hD hS => ?_)
      have hP : va_P (dC, dI) vwCl [((r 100), .inr (12, mF r 0 p0 0 0 0 0 0 0 0 0 0 0 0 (-1) 1))] H := hP
      have hD : va_D A [((r 100), .inr (12, mF r 0 p0 0 0 0 0 0 0 0 0 0 0 0 (-1) 1))] := hD
      refine lv_iconst (v := 1) hx hb dX12_end_24 (by decide) ?_
      exact W.zret (v := 1) hx hb hr rfl (fun t ht hW => ⟨⟨1, (), rfl, by rw [if_pos (show (p0 = 0) by have z0 := c_1; have z1 := c_2; simp only [i_lt, i_le, i_eq, i_zm1000000, i_zm30, i_zm20, i_zm2, i_zm1, i_z0, i_z1, i_z2, i_z3, i_z4, i_z5, i_z6, i_z7, i_z8, i_z9, i_z10, i_z11, i_z12, i_z13, i_z14, i_z15, i_z16, i_z17, i_z18, i_z19, i_z20, i_z21, i_z22, i_z23, i_z24, i_z30, i_z32, i_z40, i_z41, i_z50, i_z58, i_z59, i_z60, i_z63, i_z99, i_z100, i_z240, i_z255, i_z999] at z0 z1; simp only [i_lt, i_le, i_eq, i_zm1000000, i_zm30, i_zm20, i_zm2, i_zm1, i_z0, i_z1, i_z2, i_z3, i_z4, i_z5, i_z6, i_z7, i_z8, i_z9, i_z10, i_z11, i_z12, i_z13, i_z14, i_z15, i_z16, i_z17, i_z18, i_z19, i_z20, i_z21, i_z22, i_z23, i_z24, i_z30, i_z32, i_z40, i_z41, i_z50, i_z58, i_z59, i_z60, i_z63, i_z99, i_z100, i_z240, i_z255, i_z999]; omega)], trivial⟩, hS.F ht⟩) hS.2.2 dX12_end_25
    · refine lv_iconst (v := 0) hx hb dX12_end_17 (by decide) ?_
      exact W.zret (v := 0) hx hb hr rfl (fun t ht hW => ⟨⟨0, (), rfl, by rw [if_neg (show ¬ (p0 = 0) by have z0 := c_1; have z1 := c_2; simp only [i_lt, i_le, i_eq, i_zm1000000, i_zm30, i_zm20, i_zm2, i_zm1, i_z0, i_z1, i_z2, i_z3, i_z4, i_z5, i_z6, i_z7, i_z8, i_z9, i_z10, i_z11, i_z12, i_z13, i_z14, i_z15, i_z16, i_z17, i_z18, i_z19, i_z20, i_z21, i_z22, i_z23, i_z24, i_z30, i_z32, i_z40, i_z41, i_z50, i_z58, i_z59, i_z60, i_z63, i_z99, i_z100, i_z240, i_z255, i_z999] at z0 z1; simp only [i_lt, i_le, i_eq, i_zm1000000, i_zm30, i_zm20, i_zm2, i_zm1, i_z0, i_z1, i_z2, i_z3, i_z4, i_z5, i_z6, i_z7, i_z8, i_z9, i_z10, i_z11, i_z12, i_z13, i_z14, i_z15, i_z16, i_z17, i_z18, i_z19, i_z20, i_z21, i_z22, i_z23, i_z24, i_z30, i_z32, i_z40, i_z41, i_z50, i_z58, i_z59, i_z60, i_z63, i_z99, i_z100, i_z240, i_z255, i_z999]; omega)], trivial⟩, hS.F ht⟩) hS.2.2 dX12_end_18
def vs_f_X12_log : List Cond := .code yX12_log cX12_log 3 (some .int) :: ([.fieldLink RX12 90 "WallChapelsModel" "thrown" "I", .fieldLink RX12 58 "WallChapelsModel" "now" "[I", .initialized RX12, .static yX12_isIn, .code yX12_isIn cX12_isIn 6 (some .boolean), .methodLink RX12 211 yX12_isIn] ++ (u_ws RX12 TX12 54))
theorem vs_f_X12_log_uX12 : ∀ w ∈ u_ws RX12 TX12 54, w ∈ vs_f_X12_log := fun _ h => List.mem_cons_of_mem _ (List.mem_append_right _ (h))
set_option maxRecDepth 20000 in
theorem g_f_X12_log_f_X12_isIn : GoodIn vs_f_X12_log (va_wsS RX12 211 yX12_isIn vs_f_X12_isIn) := goodIn_r _ [6, 4, 3, 5] (by decide +kernel) (by decide +kernel)
set_option maxHeartbeats 4000000 in
set_option maxRecDepth 100000 in
theorem f_X12_log (l : Launch) (dC : Nat → ClassId) (dI : Nat → Nat → Nat) (sz : Nat) (r : Nat → Nat) (kN : ClassId) (p0 : Int32) (p1 : Int32) : Met l yX12_log vs_f_X12_log ({ frames := 1, cells := 0, slots := 0, locals := 25 }) (va_Pc [.ref (r 100), .int p0, .int p1] (cW dC dI [((r 100), .inr (12, mF r 0 0 0 0 0 0 0 0 0 0 0 0 0 (-1) 1)), ((r 32), .inl (kN, 208, .inl (fun _ => 0)))] [(kN, .int)] sz)) (va_Qi (fun (r : Int32) (_ : Unit) => r = (-1)) (fun (_ : Unit) (t : State) => True) (va_A [((r 100), .inr (12, mF r 0 0 0 0 0 0 0 0 0 0 0 0 0 (-1) 1)), ((r 32), .inl (kN, 208, .inl (fun _ => 0)))] sz)) 0 0 (va_A [((r 100), .inr (12, mF r 0 0 0 0 0 0 0 0 0 0 0 0 0 (-1) 1)), ((r 32), .inl (kN, 208, .inl (fun _ => 0)))] sz) := by
  refine Met.ofW (cc := cX12_log) (maxL := 3) (ret := (some .int)) (by decide) rfl ?_
  intro p e s m args below meth c s₁ B hml hv
  obtain ⟨rfl, hsz, hP, hK, hD0, hG⟩ := hv
  have hx := B.exec
  have hb := B.bytes
  have hr := B.returns
  have hts := atoms_spec (ws := vs_f_X12_log) B.pre
  have hown : s.vm.findClass RX12 = some m.cls := findClass_of_methodNamed B.named
  have hlocks := B.notSynchronized
  have hiX12 : ∀ w ∈ u_ws RX12 TX12 54, w ∈ vs_f_X12_log := vs_f_X12_log_uX12
  subst hsz
  have hD := hD0.self (sz := s.heap.size)
  generalize hAe : va_A [((r 100), .inr (12, mF r 0 0 0 0 0 0 0 0 0 0 0 0 0 (-1) 1)), ((r 32), .inl (kN, 208, .inl (fun _ => 0)))] s.heap.size = A at hD ⊢
  have hA : ∀ q : Nat, s.heap.size ≤ q → A q := fun q h => by rw [← hAe]; exact Or.inr h
  have hS : va_S A s.heap s.heap [] := va_S.rf
  have hP : va_P (dC, dI) vwCl [((r 100), .inr (12, mF r 0 0 0 0 0 0 0 0 0 0 0 0 0 (-1) 1)), ((r 32), .inl (kN, 208, .inl (fun _ => 0)))] s.heap := hP
  have hl := lv_entry ([.ref (r 100), .int p0, .int p1]) (n := 3) (Nat.le_of_ble_eq_true rfl)
  rw [lg_entry_eq]
  generalize (lg_sl ([.ref (r 100), .int p0, .int p1]) ++ List.replicate (3 - (lg_sl ([.ref (r 100), .int p0, .int p1])).length) Slot.unset).toArray = ls at hl ⊢
  have hl : lv_has ls 3 [(0, .ref (r 100)), (1, .int p0), (2, .int p1)] := hl
  refine lv_aload_n hx hb dX12_log_0 rfl (lv_at hl 0 rfl) ?_
  refine lv_iconst (v := 0) hx hb dX12_log_1 (by decide) ?_
  refine va_put (D := (dC, dI)) (ci := 12) (v := .int 0) (ty := .int) (C := RX12) (T := TX12) (N := 54) hx hb hts hiX12 tyX12 tyX12_ok nmX12 hown hK hP hD hS 0 rfl rfl 0 (by decide) (hts (.fieldLink RX12 90 "WallChapelsModel" "thrown" "I") (by decide +kernel)) (fun _ h9 => h9) rfl (by decide +kernel) rfl rfl (Nat.le_of_ble_eq_true rfl) dX12_log_2 (fun H locs hP hD hS => ?_)
  have hP : va_P (dC, dI) vwCl [((r 100), .inr (12, mF r 0 0 0 0 0 0 0 0 0 0 0 0 0 (-1) 1)), ((r 32), .inl (kN, 208, .inl (fun _ => 0)))] H := hP
  have hD : va_D A [((r 100), .inr (12, mF r 0 0 0 0 0 0 0 0 0 0 0 0 0 (-1) 1)), ((r 32), .inl (kN, 208, .inl (fun _ => 0)))] := hD
  refine lv_iload_n hx hb dX12_log_5 rfl (lv_at hl 1 rfl) ?_
  refine lv_i2l (v := p0.toInt64) hx hb dX12_log_6 rfl ?_
  refine lv_lconst (v := 0) hx hb dX12_log_7 rfl ?_
  refine lv_aload_n hx hb dX12_log_8 rfl (lv_at hl 0 rfl) ?_
  refine va_get (D := (dC, dI)) (ci := 12) (v := .ref (r 32)) (C := RX12) (T := TX12) (N := 54) hx hb hts hiX12 hown hK hP 0 rfl rfl 32 (by decide) (hts (.fieldLink RX12 58 "WallChapelsModel" "now" "[I") (by decide +kernel)) (fun _ h9 => h9) rfl dX12_log_9 ?_
  refine lv_bipush (v := 27) hx hb dX12_log_12 (by decide) ?_
  refine va_iald (D := (dC, dI)) hx hb hK hP 1 0 rfl rfl (i := 27) (vp_in_nI (n := 27) (by decide) (by decide)) dX12_log_14 ?_
  refine W.eq (g2 := F0 m 15 ls [.int 0, .long 0, .long (p0.toInt64)]) rfl ?_
  refine lv_iconst (v := 1) hx hb dX12_log_15 (by decide) ?_
  refine lv_isub hx hb dX12_log_16 ?_
  refine lv_topi (fun v_1 e_1 => ?_)
  obtain rfl : v_1 = (-1) := by rw [e_1]; decide
  refine lv_i2l (v := (-1)) hx hb dX12_log_17 (by decide) ?_
  have hPc := hP.sub (ws' := []) [] rfl
  have hDc := hD.sub (ws' := []) [] (by decide) rfl
  have hKc := hK.sub (tys' := []) [] rfl
  have hFc := va_free (wc := []) hD hS hA [] rfl
  refine va_calli (va_runS (As := [.long (p0.toInt64), .long 0, .long (-1)]) (rest := []) ⟨hx, hb, hml, hown, hts⟩ (f_X12_isIn l dC dI H.size p0 0 (-1) 0 (-1) (by decide) (by decide)) (va_cwS 3 hts g_f_X12_log_f_X12_isIn rfl rfl rfl (by decide +kernel) ⟨Nat.le_of_ble_eq_true rfl, Nat.le_of_ble_eq_true rfl⟩) ⟨cW_blind, fun U hU hW => ⟨rfl, cW_use hU hW hPc hKc hDc hG⟩⟩ rfl rfl hl.1 rfl (lv_room (Nat.le_of_ble_eq_true rfl)) dX12_log_18 ⟨Nat.le_of_ble_eq_true rfl, Nat.le_of_ble_eq_true rfl⟩) hS (fun q _ h => hFc q h) hFc (fun r_2 u t H1 locs ht hvm hw hB hz1 hk1 hS => ?_)
  obtain ⟨hP, hD⟩ := va_join (wr := [((r 100), .inr (12, mF r 0 0 0 0 0 0 0 0 0 0 0 0 0 (-1) 1)), ((r 32), .inl (kN, 208, .inl (fun _ => 0)))]) (w1 := []) hP hD [] [0, 1] rfl rfl (by decide) (by decide) hk1 hFc (va_P_nil H1) va_D_nil
  generalize H1 = H at hP hS ⊢
  have hP : va_P (dC, dI) vwCl [((r 100), .inr (12, mF r 0 0 0 0 0 0 0 0 0 0 0 0 0 (-1) 1)), ((r 32), .inl (kN, 208, .inl (fun _ => 0)))] H := hP
  have hD : va_D A [((r 100), .inr (12, mF r 0 0 0 0 0 0 0 0 0 0 0 0 0 (-1) 1)), ((r 32), .inl (kN, 208, .inl (fun _ => 0)))] := hD
  refine W.widen (k := 0) (n := 0) (Nat.le_of_ble_eq_true rfl) (Nat.le_of_ble_eq_true rfl) ?_
  by_cases c_3 : (p0 < 0 ∨ (-1) < p0)
  · rw [if_pos c_3] at hw
    obtain rfl : r_2 = 0 := hw
    refine lv_if_eq (tgt := 62) hx hb dX12_log_21 (by decide) (fun c_4 => ?_) (fun c_4 => absurd (by decide) c_4)
    refine lv_iconst (v := (-1)) hx hb dX12_log_62 (by decide) ?_
    exact W.iret (v := (-1)) hx hb hr (fun t ht hW => ⟨⟨(-1), (), rfl, rfl, trivial⟩, hS.F ht⟩) hS.2.2 dX12_log_63
  · rw [if_neg c_3] at hw
    obtain rfl : r_2 = 1 := hw
    exact (show False by have zI := c_3; simp only [i_lt, i_le, i_eq, i_zm1000000, i_zm30, i_zm20, i_zm2, i_zm1, i_z0, i_z1, i_z2, i_z3, i_z4, i_z5, i_z6, i_z7, i_z8, i_z9, i_z10, i_z11, i_z12, i_z13, i_z14, i_z15, i_z16, i_z17, i_z18, i_z19, i_z20, i_z21, i_z22, i_z23, i_z24, i_z30, i_z32, i_z40, i_z41, i_z50, i_z58, i_z59, i_z60, i_z63, i_z99, i_z100, i_z240, i_z255, i_z999] at zI; have z0 := (not_or.mp c_3).1; have z1 := (not_or.mp c_3).2; simp only [i_lt, i_le, i_eq, i_zm1000000, i_zm30, i_zm20, i_zm2, i_zm1, i_z0, i_z1, i_z2, i_z3, i_z4, i_z5, i_z6, i_z7, i_z8, i_z9, i_z10, i_z11, i_z12, i_z13, i_z14, i_z15, i_z16, i_z17, i_z18, i_z19, i_z20, i_z21, i_z22, i_z23, i_z24, i_z30, i_z32, i_z40, i_z41, i_z50, i_z58, i_z59, i_z60, i_z63, i_z99, i_z100, i_z240, i_z255, i_z999] at z0 z1; omega).elim
