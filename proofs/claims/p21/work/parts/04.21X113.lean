theorem dX11_suspect_7 : decode cX11_suspect 7 = .ok (.ifCond .ne 7, 3) := by decide +kernel
theorem dX11_suspect_10 : decode cX11_suspect 10 = .ok (.iconst 1, 1) := by decide +kernel
theorem dX11_suspect_11 : decode cX11_suspect 11 = .ok (.goto 30, 3) := by decide +kernel
theorem dX11_suspect_14 : decode cX11_suspect 14 = .ok (.aload_n 0, 1) := by decide +kernel
theorem dX11_suspect_15 : decode cX11_suspect 15 = .ok (.getfield 103, 3) := by decide +kernel
theorem dX11_suspect_18 : decode cX11_suspect 18 = .ok (.ifCond .ne 7, 3) := by decide +kernel
theorem dX11_suspect_21 : decode cX11_suspect 21 = .ok (.iconst 2, 1) := by decide +kernel
theorem dX11_suspect_22 : decode cX11_suspect 22 = .ok (.goto 19, 3) := by decide +kernel
theorem dX11_suspect_25 : decode cX11_suspect 25 = .ok (.iload_n 1, 1) := by decide +kernel
theorem dX11_suspect_26 : decode cX11_suspect 26 = .ok (.aload_n 0, 1) := by decide +kernel
theorem dX11_suspect_27 : decode cX11_suspect 27 = .ok (.getfield 107, 3) := by decide +kernel
theorem dX11_suspect_30 : decode cX11_suspect 30 = .ok (.invokestatic 119, 3) := by decide +kernel
theorem dX11_suspect_33 : decode cX11_suspect 33 = .ok (.ifCond .ne 7, 3) := by decide +kernel
theorem dX11_suspect_36 : decode cX11_suspect 36 = .ok (.iconst 1, 1) := by decide +kernel
theorem dX11_suspect_37 : decode cX11_suspect 37 = .ok (.goto 4, 3) := by decide +kernel
theorem dX11_suspect_40 : decode cX11_suspect 40 = .ok (.iconst 0, 1) := by decide +kernel
theorem dX11_suspect_41 : decode cX11_suspect 41 = .ok (.putfield 99, 3) := by decide +kernel
theorem dX11_suspect_44 : decode cX11_suspect 44 = .ok (.aload_n 0, 1) := by decide +kernel
theorem dX11_suspect_45 : decode cX11_suspect 45 = .ok (.getfield 99, 3) := by decide +kernel
theorem dX11_suspect_48 : decode cX11_suspect 48 = .ok (.ifCond .le 5, 3) := by decide +kernel
theorem dX11_suspect_51 : decode cX11_suspect 51 = .ok (.iconst 0, 1) := by decide +kernel
theorem dX11_suspect_52 : decode cX11_suspect 52 = .ok (.ireturn, 1) := by decide +kernel
theorem dX11_suspect_53 : decode cX11_suspect 53 = .ok (.aload_n 0, 1) := by decide +kernel
theorem dX11_suspect_54 : decode cX11_suspect 54 = .ok (.getfield 45, 3) := by decide +kernel
theorem dX11_suspect_57 : decode cX11_suspect 57 = .ok (.iload_n 1, 1) := by decide +kernel
theorem dX11_suspect_58 : decode cX11_suspect 58 = .ok (.iaload, 1) := by decide +kernel
theorem dX11_suspect_59 : decode cX11_suspect 59 = .ok (.iconst 2, 1) := by decide +kernel
theorem dX11_suspect_60 : decode cX11_suspect 60 = .ok (.if_icmp .ge 7, 3) := by decide +kernel
theorem dX11_suspect_63 : decode cX11_suspect 63 = .ok (.iconst 1, 1) := by decide +kernel
theorem dX11_suspect_64 : decode cX11_suspect 64 = .ok (.goto 4, 3) := by decide +kernel
theorem dX11_suspect_67 : decode cX11_suspect 67 = .ok (.iconst 0, 1) := by decide +kernel
theorem dX11_suspect_68 : decode cX11_suspect 68 = .ok (.istore_n 3, 1) := by decide +kernel
theorem dX11_suspect_69 : decode cX11_suspect 69 = .ok (.iload_n 2, 1) := by decide +kernel
theorem dX11_suspect_70 : decode cX11_suspect 70 = .ok (.tableswitch 111 0 5 #[38, 45, 70, 90, 97, 104], 38) := by decide +kernel
theorem dX11_suspect_108 : decode cX11_suspect 108 = .ok (.aload_n 0, 1) := by decide +kernel
theorem dX11_suspect_109 : decode cX11_suspect 109 = .ok (.getfield 45, 3) := by decide +kernel
theorem dX11_suspect_112 : decode cX11_suspect 112 = .ok (.iload_n 1, 1) := by decide +kernel
theorem dX11_suspect_113 : decode cX11_suspect 113 = .ok (.iaload, 1) := by decide +kernel
theorem dX11_suspect_114 : decode cX11_suspect 114 = .ok (.ireturn, 1) := by decide +kernel
theorem dX11_suspect_115 : decode cX11_suspect 115 = .ok (.iload_n 3, 1) := by decide +kernel
theorem dX11_suspect_116 : decode cX11_suspect 116 = .ok (.ifCond .eq 12, 3) := by decide +kernel
theorem dX11_suspect_119 : decode cX11_suspect 119 = .ok (.aload_n 0, 1) := by decide +kernel
theorem dX11_suspect_120 : decode cX11_suspect 120 = .ok (.getfield 48, 3) := by decide +kernel
theorem dX11_suspect_123 : decode cX11_suspect 123 = .ok (.iload_n 1, 1) := by decide +kernel
theorem dX11_suspect_124 : decode cX11_suspect 124 = .ok (.iaload, 1) := by decide +kernel
theorem dX11_suspect_125 : decode cX11_suspect 125 = .ok (.goto 14, 3) := by decide +kernel
theorem dX11_suspect_128 : decode cX11_suspect 128 = .ok (.aload_n 0, 1) := by decide +kernel
theorem dX11_suspect_129 : decode cX11_suspect 129 = .ok (.getfield 29, 3) := by decide +kernel
theorem dX11_suspect_132 : decode cX11_suspect 132 = .ok (.aload_n 0, 1) := by decide +kernel
theorem dX11_suspect_133 : decode cX11_suspect 133 = .ok (.getfield 48, 3) := by decide +kernel
theorem dX11_suspect_136 : decode cX11_suspect 136 = .ok (.iload_n 1, 1) := by decide +kernel
theorem dX11_suspect_137 : decode cX11_suspect 137 = .ok (.iaload, 1) := by decide +kernel
theorem dX11_suspect_138 : decode cX11_suspect 138 = .ok (.iaload, 1) := by decide +kernel
theorem dX11_suspect_139 : decode cX11_suspect 139 = .ok (.ireturn, 1) := by decide +kernel
theorem dX11_suspect_140 : decode cX11_suspect 140 = .ok (.iload_n 3, 1) := by decide +kernel
theorem dX11_suspect_141 : decode cX11_suspect 141 = .ok (.ifCond .eq 7, 3) := by decide +kernel
theorem dX11_suspect_144 : decode cX11_suspect 144 = .ok (.iconst (-1), 1) := by decide +kernel
theorem dX11_suspect_145 : decode cX11_suspect 145 = .ok (.goto 14, 3) := by decide +kernel
theorem dX11_suspect_148 : decode cX11_suspect 148 = .ok (.aload_n 0, 1) := by decide +kernel
theorem dX11_suspect_149 : decode cX11_suspect 149 = .ok (.getfield 32, 3) := by decide +kernel
theorem dX11_suspect_152 : decode cX11_suspect 152 = .ok (.aload_n 0, 1) := by decide +kernel
theorem dX11_suspect_153 : decode cX11_suspect 153 = .ok (.getfield 48, 3) := by decide +kernel
theorem dX11_suspect_156 : decode cX11_suspect 156 = .ok (.iload_n 1, 1) := by decide +kernel
theorem dX11_suspect_157 : decode cX11_suspect 157 = .ok (.iaload, 1) := by decide +kernel
theorem dX11_suspect_158 : decode cX11_suspect 158 = .ok (.iaload, 1) := by decide +kernel
theorem dX11_suspect_159 : decode cX11_suspect 159 = .ok (.ireturn, 1) := by decide +kernel
theorem dX11_suspect_160 : decode cX11_suspect 160 = .ok (.aload_n 0, 1) := by decide +kernel
theorem dX11_suspect_161 : decode cX11_suspect 161 = .ok (.getfield 51, 3) := by decide +kernel
theorem dX11_suspect_164 : decode cX11_suspect 164 = .ok (.iload_n 1, 1) := by decide +kernel
theorem dX11_suspect_165 : decode cX11_suspect 165 = .ok (.iaload, 1) := by decide +kernel
theorem dX11_suspect_166 : decode cX11_suspect 166 = .ok (.ireturn, 1) := by decide +kernel
theorem dX11_suspect_167 : decode cX11_suspect 167 = .ok (.aload_n 0, 1) := by decide +kernel
theorem dX11_suspect_168 : decode cX11_suspect 168 = .ok (.getfield 54, 3) := by decide +kernel
theorem dX11_suspect_171 : decode cX11_suspect 171 = .ok (.iload_n 1, 1) := by decide +kernel
theorem dX11_suspect_172 : decode cX11_suspect 172 = .ok (.iaload, 1) := by decide +kernel
theorem dX11_suspect_173 : decode cX11_suspect 173 = .ok (.ireturn, 1) := by decide +kernel
theorem dX11_suspect_174 : decode cX11_suspect 174 = .ok (.aload_n 0, 1) := by decide +kernel
theorem dX11_suspect_175 : decode cX11_suspect 175 = .ok (.getfield 57, 3) := by decide +kernel
theorem dX11_suspect_178 : decode cX11_suspect 178 = .ok (.iload_n 1, 1) := by decide +kernel
theorem dX11_suspect_179 : decode cX11_suspect 179 = .ok (.iaload, 1) := by decide +kernel
theorem dX11_suspect_180 : decode cX11_suspect 180 = .ok (.ireturn, 1) := by decide +kernel
theorem dX11_suspect_181 : decode cX11_suspect 181 = .ok (.aload_n 0, 1) := by decide +kernel
theorem dX11_suspect_182 : decode cX11_suspect 182 = .ok (.getfield 60, 3) := by decide +kernel
theorem dX11_suspect_185 : decode cX11_suspect 185 = .ok (.iload_n 1, 1) := by decide +kernel
theorem dX11_suspect_186 : decode cX11_suspect 186 = .ok (.iaload, 1) := by decide +kernel
theorem dX11_suspect_187 : decode cX11_suspect 187 = .ok (.ireturn, 1) := by decide +kernel
set_option maxRecDepth 20000 in
theorem ggX11_pair_X11_isIn : GoodIn wsX11_pair wsX11_isIn := goodIn_r _ [7] (by eq_refl) (by decide +kernel)
set_option maxRecDepth 20000 in
theorem gX11_pair_X11_isIn : GoodIn wsX11_pair (va_wsS RX11 119 yX11_isIn wsX11_isIn) := goodIn_app (goodIn_r _ [4, 5, 6] (by eq_refl) (by decide +kernel)) ggX11_pair_X11_isIn
theorem dX11_pair_0 : decode cX11_pair 0 = .ok (.aload_n 0, 1) := by decide +kernel
theorem dX11_pair_1 : decode cX11_pair 1 = .ok (.iload_n 1, 1) := by decide +kernel
theorem dX11_pair_2 : decode cX11_pair 2 = .ok (.bipush 6, 2) := by decide +kernel
theorem dX11_pair_4 : decode cX11_pair 4 = .ok (.invokestatic 119, 3) := by decide +kernel
theorem dX11_pair_7 : decode cX11_pair 7 = .ok (.ifCond .ne 7, 3) := by decide +kernel
theorem dX11_pair_10 : decode cX11_pair 10 = .ok (.iconst 1, 1) := by decide +kernel
theorem dX11_pair_11 : decode cX11_pair 11 = .ok (.goto 15, 3) := by decide +kernel
theorem dX11_pair_14 : decode cX11_pair 14 = .ok (.aload_n 0, 1) := by decide +kernel
theorem dX11_pair_15 : decode cX11_pair 15 = .ok (.getfield 103, 3) := by decide +kernel
theorem dX11_pair_18 : decode cX11_pair 18 = .ok (.ifCond .ne 7, 3) := by decide +kernel
theorem dX11_pair_21 : decode cX11_pair 21 = .ok (.iconst 2, 1) := by decide +kernel
theorem dX11_pair_22 : decode cX11_pair 22 = .ok (.goto 4, 3) := by decide +kernel
theorem dX11_pair_25 : decode cX11_pair 25 = .ok (.iconst 0, 1) := by decide +kernel
theorem dX11_pair_26 : decode cX11_pair 26 = .ok (.putfield 99, 3) := by decide +kernel
theorem dX11_pair_29 : decode cX11_pair 29 = .ok (.aload_n 0, 1) := by decide +kernel
theorem dX11_pair_30 : decode cX11_pair 30 = .ok (.getfield 99, 3) := by decide +kernel
theorem dX11_pair_33 : decode cX11_pair 33 = .ok (.ifCond .le 7, 3) := by decide +kernel
theorem dX11_pair_36 : decode cX11_pair 36 = .ok (.iconst 0, 1) := by decide +kernel
theorem dX11_pair_37 : decode cX11_pair 37 = .ok (.goto 9, 3) := by decide +kernel
theorem dX11_pair_40 : decode cX11_pair 40 = .ok (.aload_n 0, 1) := by decide +kernel
theorem dX11_pair_41 : decode cX11_pair 41 = .ok (.getfield 63, 3) := by decide +kernel
theorem dX11_pair_44 : decode cX11_pair 44 = .ok (.iload_n 1, 1) := by decide +kernel
theorem dX11_pair_45 : decode cX11_pair 45 = .ok (.iaload, 1) := by decide +kernel
theorem dX11_pair_46 : decode cX11_pair 46 = .ok (.ireturn, 1) := by decide +kernel
theorem dX11_join_0 : decode cX11_join 0 = .ok (.aload_n 0, 1) := by decide +kernel
theorem dX11_join_1 : decode cX11_join 1 = .ok (.aload_n 0, 1) := by decide +kernel
theorem dX11_join_2 : decode cX11_join 2 = .ok (.getfield 103, 3) := by decide +kernel
theorem dX11_join_5 : decode cX11_join 5 = .ok (.ifCond .eq 7, 3) := by decide +kernel
theorem dX11_join_8 : decode cX11_join 8 = .ok (.iconst 0, 1) := by decide +kernel
theorem dX11_join_9 : decode cX11_join 9 = .ok (.goto 4, 3) := by decide +kernel
theorem dX11_join_12 : decode cX11_join 12 = .ok (.iconst 1, 1) := by decide +kernel
theorem dX11_join_13 : decode cX11_join 13 = .ok (.putfield 99, 3) := by decide +kernel
theorem dX11_join_16 : decode cX11_join 16 = .ok (.aload_n 0, 1) := by decide +kernel
theorem dX11_join_17 : decode cX11_join 17 = .ok (.getfield 99, 3) := by decide +kernel
theorem dX11_join_20 : decode cX11_join 20 = .ok (.ifCond .le 5, 3) := by decide +kernel
theorem dX11_join_23 : decode cX11_join 23 = .ok (.iconst 0, 1) := by decide +kernel
theorem dX11_join_24 : decode cX11_join 24 = .ok (.ireturn, 1) := by decide +kernel
theorem dX11_join_25 : decode cX11_join 25 = .ok (.iconst 0, 1) := by decide +kernel
theorem dX11_join_26 : decode cX11_join 26 = .ok (.istore_n 1, 1) := by decide +kernel
theorem dX11_join_27 : decode cX11_join 27 = .ok (.iload_n 1, 1) := by decide +kernel
theorem dX11_join_28 : decode cX11_join 28 = .ok (.aload_n 0, 1) := by decide +kernel
theorem dX11_join_29 : decode cX11_join 29 = .ok (.getfield 107, 3) := by decide +kernel
theorem dX11_join_32 : decode cX11_join 32 = .ok (.if_icmp .ge 24, 3) := by decide +kernel
theorem dX11_join_35 : decode cX11_join 35 = .ok (.aload_n 0, 1) := by decide +kernel
theorem dX11_join_36 : decode cX11_join 36 = .ok (.getfield 51, 3) := by decide +kernel
theorem dX11_join_39 : decode cX11_join 39 = .ok (.iload_n 1, 1) := by decide +kernel
theorem dX11_join_40 : decode cX11_join 40 = .ok (.iaload, 1) := by decide +kernel
theorem dX11_join_41 : decode cX11_join 41 = .ok (.aload_n 0, 1) := by decide +kernel
theorem dX11_join_42 : decode cX11_join 42 = .ok (.getfield 51, 3) := by decide +kernel
theorem dX11_join_45 : decode cX11_join 45 = .ok (.iconst 0, 1) := by decide +kernel
theorem dX11_join_46 : decode cX11_join 46 = .ok (.iaload, 1) := by decide +kernel
theorem dX11_join_47 : decode cX11_join 47 = .ok (.if_icmp .ne 9, 3) := by decide +kernel
theorem dX11_join_50 : decode cX11_join 50 = .ok (.iinc 1 1, 3) := by decide +kernel
theorem dX11_join_53 : decode cX11_join 53 = .ok (.goto (-26), 3) := by decide +kernel
theorem dX11_join_56 : decode cX11_join 56 = .ok (.iconst 0, 1) := by decide +kernel
theorem dX11_join_57 : decode cX11_join 57 = .ok (.istore_n 2, 1) := by decide +kernel
theorem dX11_join_58 : decode cX11_join 58 = .ok (.iload_n 2, 1) := by decide +kernel
theorem dX11_join_59 : decode cX11_join 59 = .ok (.iload_n 1, 1) := by decide +kernel
theorem dX11_join_60 : decode cX11_join 60 = .ok (.if_icmp .ge 91, 3) := by decide +kernel
theorem dX11_join_63 : decode cX11_join 63 = .ok (.iload_n 1, 1) := by decide +kernel
theorem dX11_join_64 : decode cX11_join 64 = .ok (.bipush 10, 2) := by decide +kernel
theorem dX11_join_66 : decode cX11_join 66 = .ok (.if_icmp .gt 85, 3) := by decide +kernel
theorem dX11_join_69 : decode cX11_join 69 = .ok (.aload_n 0, 1) := by decide +kernel
theorem dX11_join_70 : decode cX11_join 70 = .ok (.getfield 48, 3) := by decide +kernel
theorem dX11_join_73 : decode cX11_join 73 = .ok (.iload_n 2, 1) := by decide +kernel
theorem dX11_join_74 : decode cX11_join 74 = .ok (.iaload, 1) := by decide +kernel
theorem dX11_join_75 : decode cX11_join 75 = .ok (.istore_n 3, 1) := by decide +kernel
theorem dX11_join_76 : decode cX11_join 76 = .ok (.aload_n 0, 1) := by decide +kernel
theorem dX11_join_77 : decode cX11_join 77 = .ok (.getfield 45, 3) := by decide +kernel
theorem dX11_join_80 : decode cX11_join 80 = .ok (.iload_n 2, 1) := by decide +kernel
theorem dX11_join_81 : decode cX11_join 81 = .ok (.iaload, 1) := by decide +kernel
theorem dX11_join_82 : decode cX11_join 82 = .ok (.iconst 2, 1) := by decide +kernel
theorem dX11_join_83 : decode cX11_join 83 = .ok (.if_icmp .ge 7, 3) := by decide +kernel
theorem dX11_join_86 : decode cX11_join 86 = .ok (.iconst 1, 1) := by decide +kernel
theorem dX11_join_87 : decode cX11_join 87 = .ok (.goto 4, 3) := by decide +kernel
theorem dX11_join_90 : decode cX11_join 90 = .ok (.iconst 0, 1) := by decide +kernel
theorem dX11_join_91 : decode cX11_join 91 = .ok (.istore 4, 2) := by decide +kernel
theorem dX11_join_93 : decode cX11_join 93 = .ok (.aload_n 0, 1) := by decide +kernel
theorem dX11_join_94 : decode cX11_join 94 = .ok (.getfield 66, 3) := by decide +kernel
theorem dX11_join_97 : decode cX11_join 97 = .ok (.iload 4, 2) := by decide +kernel
theorem dX11_join_99 : decode cX11_join 99 = .ok (.ifCond .eq 7, 3) := by decide +kernel
theorem dX11_join_102 : decode cX11_join 102 = .ok (.iload_n 3, 1) := by decide +kernel
theorem dX11_join_103 : decode cX11_join 103 = .ok (.goto 9, 3) := by decide +kernel
theorem dX11_join_106 : decode cX11_join 106 = .ok (.aload_n 0, 1) := by decide +kernel
theorem dX11_join_107 : decode cX11_join 107 = .ok (.getfield 29, 3) := by decide +kernel
theorem dX11_join_110 : decode cX11_join 110 = .ok (.iload_n 3, 1) := by decide +kernel
theorem dX11_join_111 : decode cX11_join 111 = .ok (.iaload, 1) := by decide +kernel
theorem dX11_join_112 : decode cX11_join 112 = .ok (.dup2, 1) := by decide +kernel
theorem dX11_join_113 : decode cX11_join 113 = .ok (.iaload, 1) := by decide +kernel
theorem dX11_join_114 : decode cX11_join 114 = .ok (.sipush 2520, 3) := by decide +kernel
theorem dX11_join_117 : decode cX11_join 117 = .ok (.iload_n 1, 1) := by decide +kernel
theorem dX11_join_118 : decode cX11_join 118 = .ok (.idiv, 1) := by decide +kernel
theorem dX11_join_119 : decode cX11_join 119 = .ok (.iadd, 1) := by decide +kernel
theorem dX11_join_120 : decode cX11_join 120 = .ok (.iastore, 1) := by decide +kernel
theorem dX11_join_121 : decode cX11_join 121 = .ok (.iload 4, 2) := by decide +kernel
theorem dX11_join_123 : decode cX11_join 123 = .ok (.ifCond .ne 22, 3) := by decide +kernel
theorem dX11_join_126 : decode cX11_join 126 = .ok (.aload_n 0, 1) := by decide +kernel
theorem dX11_join_127 : decode cX11_join 127 = .ok (.getfield 66, 3) := by decide +kernel
theorem dX11_join_130 : decode cX11_join 130 = .ok (.aload_n 0, 1) := by decide +kernel
theorem dX11_join_131 : decode cX11_join 131 = .ok (.getfield 32, 3) := by decide +kernel
theorem dX11_join_134 : decode cX11_join 134 = .ok (.iload_n 3, 1) := by decide +kernel
theorem dX11_join_135 : decode cX11_join 135 = .ok (.iaload, 1) := by decide +kernel
theorem dX11_join_136 : decode cX11_join 136 = .ok (.dup2, 1) := by decide +kernel
theorem dX11_join_137 : decode cX11_join 137 = .ok (.iaload, 1) := by decide +kernel
theorem dX11_join_138 : decode cX11_join 138 = .ok (.sipush 2520, 3) := by decide +kernel
theorem dX11_join_141 : decode cX11_join 141 = .ok (.iload_n 1, 1) := by decide +kernel
theorem dX11_join_142 : decode cX11_join 142 = .ok (.idiv, 1) := by decide +kernel
theorem dX11_join_143 : decode cX11_join 143 = .ok (.iadd, 1) := by decide +kernel
theorem dX11_join_144 : decode cX11_join 144 = .ok (.iastore, 1) := by decide +kernel
theorem dX11_join_145 : decode cX11_join 145 = .ok (.iinc 2 1, 3) := by decide +kernel
theorem dX11_join_148 : decode cX11_join 148 = .ok (.goto (-90), 3) := by decide +kernel
theorem dX11_join_151 : decode cX11_join 151 = .ok (.aload_n 0, 1) := by decide +kernel
theorem dX11_join_152 : decode cX11_join 152 = .ok (.dup, 1) := by decide +kernel
theorem dX11_join_153 : decode cX11_join 153 = .ok (.getfield 185, 3) := by decide +kernel
theorem dX11_join_156 : decode cX11_join 156 = .ok (.iconst 1, 1) := by decide +kernel
theorem dX11_join_157 : decode cX11_join 157 = .ok (.iadd, 1) := by decide +kernel
theorem dX11_join_158 : decode cX11_join 158 = .ok (.putfield 185, 3) := by decide +kernel
theorem dX11_join_161 : decode cX11_join 161 = .ok (.iload_n 1, 1) := by decide +kernel
theorem dX11_join_162 : decode cX11_join 162 = .ok (.ireturn, 1) := by decide +kernel
set_option maxRecDepth 20000 in
theorem ggX11_share_X11_isIn : GoodIn wsX11_share wsX11_isIn := goodIn_r _ [7] (by eq_refl) (by decide +kernel)
set_option maxRecDepth 20000 in
theorem gX11_share_X11_isIn : GoodIn wsX11_share (va_wsS RX11 119 yX11_isIn wsX11_isIn) := goodIn_app (goodIn_r _ [4, 5, 6] (by eq_refl) (by decide +kernel)) ggX11_share_X11_isIn
theorem dX11_share_0 : decode cX11_share 0 = .ok (.aload_n 0, 1) := by decide +kernel
theorem dX11_share_1 : decode cX11_share 1 = .ok (.iload_n 1, 1) := by decide +kernel
theorem dX11_share_2 : decode cX11_share 2 = .ok (.aload_n 0, 1) := by decide +kernel
theorem dX11_share_3 : decode cX11_share 3 = .ok (.getfield 113, 3) := by decide +kernel
theorem dX11_share_6 : decode cX11_share 6 = .ok (.invokestatic 119, 3) := by decide +kernel
theorem dX11_share_9 : decode cX11_share 9 = .ok (.ifCond .eq 7, 3) := by decide +kernel
theorem dX11_share_12 : decode cX11_share 12 = .ok (.iconst 0, 1) := by decide +kernel
theorem dX11_share_13 : decode cX11_share 13 = .ok (.goto 4, 3) := by decide +kernel
theorem dX11_share_16 : decode cX11_share 16 = .ok (.iconst 1, 1) := by decide +kernel
theorem dX11_share_17 : decode cX11_share 17 = .ok (.putfield 99, 3) := by decide +kernel
theorem dX11_share_20 : decode cX11_share 20 = .ok (.aload_n 0, 1) := by decide +kernel
theorem dX11_share_21 : decode cX11_share 21 = .ok (.getfield 99, 3) := by decide +kernel
theorem dX11_share_24 : decode cX11_share 24 = .ok (.ifCond .le 7, 3) := by decide +kernel
theorem dX11_share_27 : decode cX11_share 27 = .ok (.iconst 0, 1) := by decide +kernel
theorem dX11_share_28 : decode cX11_share 28 = .ok (.goto 9, 3) := by decide +kernel
theorem dX11_share_31 : decode cX11_share 31 = .ok (.aload_n 0, 1) := by decide +kernel
theorem dX11_share_32 : decode cX11_share 32 = .ok (.getfield 66, 3) := by decide +kernel
theorem dX11_share_35 : decode cX11_share 35 = .ok (.iload_n 1, 1) := by decide +kernel
theorem dX11_share_36 : decode cX11_share 36 = .ok (.iaload, 1) := by decide +kernel
theorem dX11_share_37 : decode cX11_share 37 = .ok (.ireturn, 1) := by decide +kernel
theorem dX11_chain_0 : decode cX11_chain 0 = .ok (.aload_n 0, 1) := by decide +kernel
theorem dX11_chain_1 : decode cX11_chain 1 = .ok (.iload_n 1, 1) := by decide +kernel
theorem dX11_chain_2 : decode cX11_chain 2 = .ok (.iconst 1, 1) := by decide +kernel
theorem dX11_chain_3 : decode cX11_chain 3 = .ok (.if_icmp .lt 13, 3) := by decide +kernel
theorem dX11_chain_6 : decode cX11_chain 6 = .ok (.iload_n 1, 1) := by decide +kernel
theorem dX11_chain_7 : decode cX11_chain 7 = .ok (.bipush 64, 2) := by decide +kernel
theorem dX11_chain_9 : decode cX11_chain 9 = .ok (.if_icmp .gt 7, 3) := by decide +kernel
theorem dX11_chain_12 : decode cX11_chain 12 = .ok (.iconst 0, 1) := by decide +kernel
theorem dX11_chain_13 : decode cX11_chain 13 = .ok (.goto 4, 3) := by decide +kernel
theorem dX11_chain_16 : decode cX11_chain 16 = .ok (.iconst 1, 1) := by decide +kernel
theorem dX11_chain_17 : decode cX11_chain 17 = .ok (.putfield 99, 3) := by decide +kernel
theorem dX11_chain_20 : decode cX11_chain 20 = .ok (.aload_n 0, 1) := by decide +kernel
theorem dX11_chain_21 : decode cX11_chain 21 = .ok (.getfield 99, 3) := by decide +kernel
theorem dX11_chain_24 : decode cX11_chain 24 = .ok (.ifCond .ne 13, 3) := by decide +kernel
theorem dX11_chain_27 : decode cX11_chain 27 = .ok (.aload_n 0, 1) := by decide +kernel
theorem dX11_chain_28 : decode cX11_chain 28 = .ok (.iload_n 1, 1) := by decide +kernel
theorem dX11_chain_29 : decode cX11_chain 29 = .ok (.putfield 188, 3) := by decide +kernel
theorem dX11_chain_32 : decode cX11_chain 32 = .ok (.aload_n 0, 1) := by decide +kernel
theorem dX11_chain_33 : decode cX11_chain 33 = .ok (.iconst 0, 1) := by decide +kernel
theorem dX11_chain_34 : decode cX11_chain 34 = .ok (.putfield 191, 3) := by decide +kernel
theorem dX11_chain_37 : decode cX11_chain 37 = .ok (.return_, 1) := by decide +kernel
theorem dX11_caught_0 : decode cX11_caught 0 = .ok (.aload_n 0, 1) := by decide +kernel
theorem dX11_caught_1 : decode cX11_caught 1 = .ok (.aload_n 0, 1) := by decide +kernel
theorem dX11_caught_2 : decode cX11_caught 2 = .ok (.getfield 188, 3) := by decide +kernel
theorem dX11_caught_5 : decode cX11_caught 5 = .ok (.ifCond .le 16, 3) := by decide +kernel
theorem dX11_caught_8 : decode cX11_caught 8 = .ok (.aload_n 0, 1) := by decide +kernel
theorem dX11_caught_9 : decode cX11_caught 9 = .ok (.getfield 191, 3) := by decide +kernel
theorem dX11_caught_12 : decode cX11_caught 12 = .ok (.bipush 30, 2) := by decide +kernel
theorem dX11_caught_14 : decode cX11_caught 14 = .ok (.if_icmp .ge 7, 3) := by decide +kernel
theorem dX11_caught_17 : decode cX11_caught 17 = .ok (.iconst 0, 1) := by decide +kernel
theorem dX11_caught_18 : decode cX11_caught 18 = .ok (.goto 4, 3) := by decide +kernel
theorem dX11_caught_21 : decode cX11_caught 21 = .ok (.iconst 1, 1) := by decide +kernel
theorem dX11_caught_22 : decode cX11_caught 22 = .ok (.putfield 99, 3) := by decide +kernel
theorem dX11_caught_25 : decode cX11_caught 25 = .ok (.aload_n 0, 1) := by decide +kernel
theorem dX11_caught_26 : decode cX11_caught 26 = .ok (.getfield 99, 3) := by decide +kernel
theorem dX11_caught_29 : decode cX11_caught 29 = .ok (.ifCond .le 5, 3) := by decide +kernel
theorem dX11_caught_32 : decode cX11_caught 32 = .ok (.iconst 0, 1) := by decide +kernel
theorem dX11_caught_33 : decode cX11_caught 33 = .ok (.ireturn, 1) := by decide +kernel
theorem dX11_caught_34 : decode cX11_caught 34 = .ok (.aload_n 0, 1) := by decide +kernel
theorem dX11_caught_35 : decode cX11_caught 35 = .ok (.getfield 69, 3) := by decide +kernel
theorem dX11_caught_38 : decode cX11_caught 38 = .ok (.aload_n 0, 1) := by decide +kernel
theorem dX11_caught_39 : decode cX11_caught 39 = .ok (.getfield 191, 3) := by decide +kernel
theorem dX11_caught_42 : decode cX11_caught 42 = .ok (.lload_n 1, 1) := by decide +kernel
theorem dX11_caught_43 : decode cX11_caught 43 = .ok (.lastore, 1) := by decide +kernel
theorem dX11_caught_44 : decode cX11_caught 44 = .ok (.aload_n 0, 1) := by decide +kernel
theorem dX11_caught_45 : decode cX11_caught 45 = .ok (.getfield 72, 3) := by decide +kernel
theorem dX11_caught_48 : decode cX11_caught 48 = .ok (.aload_n 0, 1) := by decide +kernel
theorem dX11_caught_49 : decode cX11_caught 49 = .ok (.getfield 191, 3) := by decide +kernel
theorem dX11_caught_52 : decode cX11_caught 52 = .ok (.lload_n 3, 1) := by decide +kernel
theorem dX11_caught_53 : decode cX11_caught 53 = .ok (.lastore, 1) := by decide +kernel
theorem dX11_caught_54 : decode cX11_caught 54 = .ok (.aload_n 0, 1) := by decide +kernel
theorem dX11_caught_55 : decode cX11_caught 55 = .ok (.dup, 1) := by decide +kernel
theorem dX11_caught_56 : decode cX11_caught 56 = .ok (.getfield 191, 3) := by decide +kernel
theorem dX11_caught_59 : decode cX11_caught 59 = .ok (.iconst 1, 1) := by decide +kernel
theorem dX11_caught_60 : decode cX11_caught 60 = .ok (.iadd, 1) := by decide +kernel
theorem dX11_caught_61 : decode cX11_caught 61 = .ok (.putfield 191, 3) := by decide +kernel
theorem dX11_caught_64 : decode cX11_caught 64 = .ok (.aload_n 0, 1) := by decide +kernel
theorem dX11_caught_65 : decode cX11_caught 65 = .ok (.getfield 191, 3) := by decide +kernel
theorem dX11_caught_68 : decode cX11_caught 68 = .ok (.ireturn, 1) := by decide +kernel
theorem dX11_mayBe_0 : decode cX11_mayBe 0 = .ok (.iconst 0, 1) := by decide +kernel
theorem dX11_mayBe_1 : decode cX11_mayBe 1 = .ok (.istore 4, 2) := by decide +kernel
theorem dX11_mayBe_3 : decode cX11_mayBe 3 = .ok (.iload 4, 2) := by decide +kernel
theorem dX11_mayBe_5 : decode cX11_mayBe 5 = .ok (.aload_n 0, 1) := by decide +kernel
theorem dX11_mayBe_6 : decode cX11_mayBe 6 = .ok (.getfield 191, 3) := by decide +kernel
theorem dX11_mayBe_9 : decode cX11_mayBe 9 = .ok (.if_icmp .ge 71, 3) := by decide +kernel
theorem dX11_mayBe_12 : decode cX11_mayBe 12 = .ok (.iconst 0, 1) := by decide +kernel
theorem dX11_mayBe_13 : decode cX11_mayBe 13 = .ok (.istore 5, 2) := by decide +kernel
theorem dX11_mayBe_15 : decode cX11_mayBe 15 = .ok (.iload 5, 2) := by decide +kernel
theorem dX11_mayBe_17 : decode cX11_mayBe 17 = .ok (.aload_n 0, 1) := by decide +kernel
theorem dX11_mayBe_18 : decode cX11_mayBe 18 = .ok (.getfield 188, 3) := by decide +kernel
theorem dX11_mayBe_21 : decode cX11_mayBe 21 = .ok (.if_icmp .ge 53, 3) := by decide +kernel
theorem dX11_mayBe_24 : decode cX11_mayBe 24 = .ok (.iload 5, 2) := by decide +kernel
theorem dX11_mayBe_26 : decode cX11_mayBe 26 = .ok (.iload_n 1, 1) := by decide +kernel
theorem dX11_mayBe_27 : decode cX11_mayBe 27 = .ok (.if_icmp .gt 7, 3) := by decide +kernel
theorem dX11_mayBe_30 : decode cX11_mayBe 30 = .ok (.lload_n 2, 1) := by decide +kernel
theorem dX11_mayBe_31 : decode cX11_mayBe 31 = .ok (.goto 15, 3) := by decide +kernel
theorem dX11_mayBe_34 : decode cX11_mayBe 34 = .ok (.aload_n 0, 1) := by decide +kernel
theorem dX11_mayBe_35 : decode cX11_mayBe 35 = .ok (.getfield 69, 3) := by decide +kernel
theorem dX11_mayBe_38 : decode cX11_mayBe 38 = .ok (.iload 4, 2) := by decide +kernel
theorem dX11_mayBe_40 : decode cX11_mayBe 40 = .ok (.laload, 1) := by decide +kernel
theorem dX11_mayBe_41 : decode cX11_mayBe 41 = .ok (.iload 5, 2) := by decide +kernel
theorem dX11_mayBe_43 : decode cX11_mayBe 43 = .ok (.lushr, 1) := by decide +kernel
theorem dX11_mayBe_44 : decode cX11_mayBe 44 = .ok (.lconst 1, 1) := by decide +kernel
theorem dX11_mayBe_45 : decode cX11_mayBe 45 = .ok (.land, 1) := by decide +kernel
theorem dX11_mayBe_46 : decode cX11_mayBe 46 = .ok (.lstore 6, 2) := by decide +kernel
theorem dX11_mayBe_48 : decode cX11_mayBe 48 = .ok (.aload_n 0, 1) := by decide +kernel
theorem dX11_mayBe_49 : decode cX11_mayBe 49 = .ok (.getfield 72, 3) := by decide +kernel
theorem dX11_mayBe_52 : decode cX11_mayBe 52 = .ok (.iload 4, 2) := by decide +kernel
theorem dX11_mayBe_54 : decode cX11_mayBe 54 = .ok (.laload, 1) := by decide +kernel
theorem dX11_mayBe_55 : decode cX11_mayBe 55 = .ok (.iload 5, 2) := by decide +kernel
theorem dX11_mayBe_57 : decode cX11_mayBe 57 = .ok (.lushr, 1) := by decide +kernel
theorem dX11_mayBe_58 : decode cX11_mayBe 58 = .ok (.lconst 1, 1) := by decide +kernel
theorem dX11_mayBe_59 : decode cX11_mayBe 59 = .ok (.land, 1) := by decide +kernel
theorem dX11_mayBe_60 : decode cX11_mayBe 60 = .ok (.lload 6, 2) := by decide +kernel
theorem dX11_mayBe_62 : decode cX11_mayBe 62 = .ok (.lcmp, 1) := by decide +kernel
theorem dX11_mayBe_63 : decode cX11_mayBe 63 = .ok (.ifCond .eq 5, 3) := by decide +kernel
theorem dX11_mayBe_66 : decode cX11_mayBe 66 = .ok (.iconst 0, 1) := by decide +kernel
theorem dX11_mayBe_67 : decode cX11_mayBe 67 = .ok (.ireturn, 1) := by decide +kernel
theorem dX11_mayBe_68 : decode cX11_mayBe 68 = .ok (.iinc 5 1, 3) := by decide +kernel
theorem dX11_mayBe_71 : decode cX11_mayBe 71 = .ok (.goto (-56), 3) := by decide +kernel
theorem dX11_mayBe_74 : decode cX11_mayBe 74 = .ok (.iinc 4 1, 3) := by decide +kernel
theorem dX11_mayBe_77 : decode cX11_mayBe 77 = .ok (.goto (-74), 3) := by decide +kernel
theorem dX11_mayBe_80 : decode cX11_mayBe 80 = .ok (.iconst 1, 1) := by decide +kernel
theorem dX11_mayBe_81 : decode cX11_mayBe 81 = .ok (.ireturn, 1) := by decide +kernel
set_option maxRecDepth 20000 in
theorem ggX11_span_X11_mayBe : GoodIn wsX11_span wsX11_mayBe := goodIn_r _ [7, 8, 1, 9, 10, 11, 12, 13, 14, 15, 16, 17, 18, 19, 20, 21, 22, 23, 24, 25, 26, 27, 28, 29, 30, 31, 32, 33, 34, 35, 36, 37, 38, 39, 40, 41, 42, 43, 44, 45, 46, 47, 48, 49, 50, 51, 52, 53] (by eq_refl) (by decide +kernel)
set_option maxRecDepth 20000 in
theorem gX11_span_X11_mayBe : GoodIn wsX11_span (wsV RX11 194 RX11 yX11_mayBe wsX11_mayBe) := goodIn_app (goodIn_r _ [3, 4, 5, 6] (by eq_refl) (by decide +kernel)) ggX11_span_X11_mayBe
theorem dX11_span_0 : decode cX11_span 0 = .ok (.iload_n 1, 1) := by decide +kernel
theorem dX11_span_1 : decode cX11_span 1 = .ok (.ifCond .eq 8, 3) := by decide +kernel
theorem dX11_span_4 : decode cX11_span 4 = .ok (.iload_n 1, 1) := by decide +kernel
theorem dX11_span_5 : decode cX11_span 5 = .ok (.iconst 1, 1) := by decide +kernel
theorem dX11_span_6 : decode cX11_span 6 = .ok (.if_icmp .ne 16, 3) := by decide +kernel
theorem dX11_span_9 : decode cX11_span 9 = .ok (.iload_n 2, 1) := by decide +kernel
theorem dX11_span_10 : decode cX11_span 10 = .ok (.ifCond .eq 8, 3) := by decide +kernel
theorem dX11_span_13 : decode cX11_span 13 = .ok (.iload_n 2, 1) := by decide +kernel
theorem dX11_span_14 : decode cX11_span 14 = .ok (.iconst 1, 1) := by decide +kernel
theorem dX11_span_15 : decode cX11_span 15 = .ok (.if_icmp .ne 7, 3) := by decide +kernel
theorem dX11_span_18 : decode cX11_span 18 = .ok (.iconst 1, 1) := by decide +kernel
theorem dX11_span_19 : decode cX11_span 19 = .ok (.goto 4, 3) := by decide +kernel
theorem dX11_span_22 : decode cX11_span 22 = .ok (.iconst 0, 1) := by decide +kernel
theorem dX11_span_23 : decode cX11_span 23 = .ok (.istore_n 3, 1) := by decide +kernel
theorem dX11_span_24 : decode cX11_span 24 = .ok (.aload_n 0, 1) := by decide +kernel
theorem dX11_span_25 : decode cX11_span 25 = .ok (.iload_n 3, 1) := by decide +kernel
theorem dX11_span_26 : decode cX11_span 26 = .ok (.ifCond .ne 7, 3) := by decide +kernel
theorem dX11_span_29 : decode cX11_span 29 = .ok (.iconst 1, 1) := by decide +kernel
theorem dX11_span_30 : decode cX11_span 30 = .ok (.goto 15, 3) := by decide +kernel
theorem dX11_span_33 : decode cX11_span 33 = .ok (.aload_n 0, 1) := by decide +kernel
theorem dX11_span_34 : decode cX11_span 34 = .ok (.getfield 188, 3) := by decide +kernel
theorem dX11_span_37 : decode cX11_span 37 = .ok (.ifCond .ne 7, 3) := by decide +kernel
theorem dX11_span_40 : decode cX11_span 40 = .ok (.iconst 2, 1) := by decide +kernel
theorem dX11_span_41 : decode cX11_span 41 = .ok (.goto 4, 3) := by decide +kernel
theorem dX11_span_44 : decode cX11_span 44 = .ok (.iconst 0, 1) := by decide +kernel
theorem dX11_span_45 : decode cX11_span 45 = .ok (.putfield 99, 3) := by decide +kernel
theorem dX11_span_48 : decode cX11_span 48 = .ok (.iconst (-1), 1) := by decide +kernel
theorem dX11_span_49 : decode cX11_span 49 = .ok (.istore 4, 2) := by decide +kernel
theorem dX11_span_51 : decode cX11_span 51 = .ok (.iconst 0, 1) := by decide +kernel
theorem dX11_span_52 : decode cX11_span 52 = .ok (.istore 5, 2) := by decide +kernel
theorem dX11_span_54 : decode cX11_span 54 = .ok (.iload 5, 2) := by decide +kernel
theorem dX11_span_56 : decode cX11_span 56 = .ok (.aload_n 0, 1) := by decide +kernel
theorem dX11_span_57 : decode cX11_span 57 = .ok (.getfield 188, 3) := by decide +kernel
theorem dX11_span_60 : decode cX11_span 60 = .ok (.if_icmp .ge 42, 3) := by decide +kernel
theorem dX11_span_63 : decode cX11_span 63 = .ok (.aload_n 0, 1) := by decide +kernel
theorem dX11_span_64 : decode cX11_span 64 = .ok (.getfield 99, 3) := by decide +kernel
theorem dX11_span_67 : decode cX11_span 67 = .ok (.ifCond .ne 35, 3) := by decide +kernel
theorem dX11_span_70 : decode cX11_span 70 = .ok (.aload_n 0, 1) := by decide +kernel
theorem dX11_span_71 : decode cX11_span 71 = .ok (.iload 5, 2) := by decide +kernel
theorem dX11_span_73 : decode cX11_span 73 = .ok (.iload_n 1, 1) := by decide +kernel
theorem dX11_span_74 : decode cX11_span 74 = .ok (.i2l, 1) := by decide +kernel
theorem dX11_span_75 : decode cX11_span 75 = .ok (.invokevirtual 194, 3) := by decide +kernel
theorem dX11_span_78 : decode cX11_span 78 = .ok (.ifCond .eq 18, 3) := by decide +kernel
theorem dX11_span_81 : decode cX11_span 81 = .ok (.iload_n 2, 1) := by decide +kernel
theorem dX11_span_82 : decode cX11_span 82 = .ok (.iconst 1, 1) := by decide +kernel
theorem dX11_span_83 : decode cX11_span 83 = .ok (.if_icmp .eq 9, 3) := by decide +kernel
theorem dX11_span_86 : decode cX11_span 86 = .ok (.iload 4, 2) := by decide +kernel
theorem dX11_span_88 : decode cX11_span 88 = .ok (.iconst (-1), 1) := by decide +kernel
theorem dX11_span_89 : decode cX11_span 89 = .ok (.if_icmp .ne 7, 3) := by decide +kernel
theorem dX11_span_92 : decode cX11_span 92 = .ok (.iload 5, 2) := by decide +kernel
theorem dX11_span_94 : decode cX11_span 94 = .ok (.istore 4, 2) := by decide +kernel
theorem dX11_span_96 : decode cX11_span 96 = .ok (.iinc 5 1, 3) := by decide +kernel
theorem dX11_span_99 : decode cX11_span 99 = .ok (.goto (-45), 3) := by decide +kernel
theorem dX11_span_102 : decode cX11_span 102 = .ok (.aload_n 0, 1) := by decide +kernel
theorem dX11_span_103 : decode cX11_span 103 = .ok (.getfield 99, 3) := by decide +kernel
theorem dX11_span_106 : decode cX11_span 106 = .ok (.ifCond .le 7, 3) := by decide +kernel
theorem dX11_span_109 : decode cX11_span 109 = .ok (.iconst 0, 1) := by decide +kernel
theorem dX11_span_110 : decode cX11_span 110 = .ok (.goto 5, 3) := by decide +kernel
theorem dX11_span_113 : decode cX11_span 113 = .ok (.iload 4, 2) := by decide +kernel
theorem dX11_span_115 : decode cX11_span 115 = .ok (.ireturn, 1) := by decide +kernel
set_option maxRecDepth 20000 in
theorem ggX11_shape_X11_isIn : GoodIn wsX11_shape wsX11_isIn := goodIn_r _ [12] (by eq_refl) (by decide +kernel)
set_option maxRecDepth 20000 in
theorem gX11_shape_X11_isIn : GoodIn wsX11_shape (va_wsS RX11 119 yX11_isIn wsX11_isIn) := goodIn_app (goodIn_r _ [9, 10, 11] (by eq_refl) (by decide +kernel)) ggX11_shape_X11_isIn
theorem dX11_shape_0 : decode cX11_shape 0 = .ok (.iload_n 2, 1) := by decide +kernel
theorem dX11_shape_1 : decode cX11_shape 1 = .ok (.ifCond .lt 39, 3) := by decide +kernel
theorem dX11_shape_4 : decode cX11_shape 4 = .ok (.iload_n 3, 1) := by decide +kernel
theorem dX11_shape_5 : decode cX11_shape 5 = .ok (.ifCond .lt 35, 3) := by decide +kernel
theorem dX11_shape_8 : decode cX11_shape 8 = .ok (.iload 4, 2) := by decide +kernel
theorem dX11_shape_10 : decode cX11_shape 10 = .ok (.sipush 1000, 3) := by decide +kernel
theorem dX11_shape_13 : decode cX11_shape 13 = .ok (.if_icmp .gt 27, 3) := by decide +kernel
theorem dX11_shape_16 : decode cX11_shape 16 = .ok (.iload 5, 2) := by decide +kernel
theorem dX11_shape_18 : decode cX11_shape 18 = .ok (.sipush 1000, 3) := by decide +kernel
theorem dX11_shape_21 : decode cX11_shape 21 = .ok (.if_icmp .gt 19, 3) := by decide +kernel
theorem dX11_shape_24 : decode cX11_shape 24 = .ok (.iload_n 2, 1) := by decide +kernel
theorem dX11_shape_25 : decode cX11_shape 25 = .ok (.iload 4, 2) := by decide +kernel
theorem dX11_shape_27 : decode cX11_shape 27 = .ok (.if_icmp .ge 13, 3) := by decide +kernel
theorem dX11_shape_30 : decode cX11_shape 30 = .ok (.iload_n 3, 1) := by decide +kernel
theorem dX11_shape_31 : decode cX11_shape 31 = .ok (.iload 5, 2) := by decide +kernel
theorem dX11_shape_33 : decode cX11_shape 33 = .ok (.if_icmp .ge 7, 3) := by decide +kernel
theorem dX11_shape_36 : decode cX11_shape 36 = .ok (.iconst 1, 1) := by decide +kernel
theorem dX11_shape_37 : decode cX11_shape 37 = .ok (.goto 4, 3) := by decide +kernel
theorem dX11_shape_40 : decode cX11_shape 40 = .ok (.iconst 0, 1) := by decide +kernel
theorem dX11_shape_41 : decode cX11_shape 41 = .ok (.istore 6, 2) := by decide +kernel
theorem dX11_shape_43 : decode cX11_shape 43 = .ok (.aload_n 0, 1) := by decide +kernel
theorem dX11_shape_44 : decode cX11_shape 44 = .ok (.iload_n 1, 1) := by decide +kernel
theorem dX11_shape_45 : decode cX11_shape 45 = .ok (.aload_n 0, 1) := by decide +kernel
theorem dX11_shape_46 : decode cX11_shape 46 = .ok (.getfield 113, 3) := by decide +kernel
theorem dX11_shape_49 : decode cX11_shape 49 = .ok (.invokestatic 119, 3) := by decide +kernel
theorem dX11_shape_52 : decode cX11_shape 52 = .ok (.ifCond .ne 7, 3) := by decide +kernel
theorem dX11_shape_55 : decode cX11_shape 55 = .ok (.iconst 1, 1) := by decide +kernel
theorem dX11_shape_56 : decode cX11_shape 56 = .ok (.goto 26, 3) := by decide +kernel
theorem dX11_shape_59 : decode cX11_shape 59 = .ok (.aload_n 0, 1) := by decide +kernel
theorem dX11_shape_60 : decode cX11_shape 60 = .ok (.getfield 198, 3) := by decide +kernel
theorem dX11_shape_63 : decode cX11_shape 63 = .ok (.bipush 60, 2) := by decide +kernel
theorem dX11_shape_65 : decode cX11_shape 65 = .ok (.if_icmp .ne 7, 3) := by decide +kernel
theorem dX11_shape_68 : decode cX11_shape 68 = .ok (.iconst 2, 1) := by decide +kernel
theorem dX11_shape_69 : decode cX11_shape 69 = .ok (.goto 13, 3) := by decide +kernel
theorem dX11_shape_72 : decode cX11_shape 72 = .ok (.iload 6, 2) := by decide +kernel
theorem dX11_shape_74 : decode cX11_shape 74 = .ok (.ifCond .ne 7, 3) := by decide +kernel
theorem dX11_shape_77 : decode cX11_shape 77 = .ok (.iconst 3, 1) := by decide +kernel
theorem dX11_shape_78 : decode cX11_shape 78 = .ok (.goto 4, 3) := by decide +kernel
theorem dX11_shape_81 : decode cX11_shape 81 = .ok (.iconst 0, 1) := by decide +kernel
theorem dX11_shape_82 : decode cX11_shape 82 = .ok (.putfield 99, 3) := by decide +kernel
theorem dX11_shape_85 : decode cX11_shape 85 = .ok (.aload_n 0, 1) := by decide +kernel
theorem dX11_shape_86 : decode cX11_shape 86 = .ok (.getfield 99, 3) := by decide +kernel
theorem dX11_shape_89 : decode cX11_shape 89 = .ok (.ifCond .le 5, 3) := by decide +kernel
theorem dX11_shape_92 : decode cX11_shape 92 = .ok (.iconst 0, 1) := by decide +kernel
theorem dX11_shape_93 : decode cX11_shape 93 = .ok (.ireturn, 1) := by decide +kernel
theorem dX11_shape_94 : decode cX11_shape 94 = .ok (.aload_n 0, 1) := by decide +kernel
theorem dX11_shape_95 : decode cX11_shape 95 = .ok (.getfield 75, 3) := by decide +kernel
theorem dX11_shape_98 : decode cX11_shape 98 = .ok (.aload_n 0, 1) := by decide +kernel
theorem dX11_shape_99 : decode cX11_shape 99 = .ok (.getfield 198, 3) := by decide +kernel
theorem dX11_shape_102 : decode cX11_shape 102 = .ok (.iload_n 1, 1) := by decide +kernel
theorem dX11_shape_103 : decode cX11_shape 103 = .ok (.iastore, 1) := by decide +kernel
theorem dX11_shape_104 : decode cX11_shape 104 = .ok (.aload_n 0, 1) := by decide +kernel
theorem dX11_shape_105 : decode cX11_shape 105 = .ok (.getfield 78, 3) := by decide +kernel
