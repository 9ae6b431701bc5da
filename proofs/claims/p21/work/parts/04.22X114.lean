theorem dX11_shape_108 : decode cX11_shape 108 = .ok (.aload_n 0, 1) := by decide +kernel
theorem dX11_shape_109 : decode cX11_shape 109 = .ok (.getfield 198, 3) := by decide +kernel
theorem dX11_shape_112 : decode cX11_shape 112 = .ok (.iload_n 2, 1) := by decide +kernel
theorem dX11_shape_113 : decode cX11_shape 113 = .ok (.iastore, 1) := by decide +kernel
theorem dX11_shape_114 : decode cX11_shape 114 = .ok (.aload_n 0, 1) := by decide +kernel
theorem dX11_shape_115 : decode cX11_shape 115 = .ok (.getfield 81, 3) := by decide +kernel
theorem dX11_shape_118 : decode cX11_shape 118 = .ok (.aload_n 0, 1) := by decide +kernel
theorem dX11_shape_119 : decode cX11_shape 119 = .ok (.getfield 198, 3) := by decide +kernel
theorem dX11_shape_122 : decode cX11_shape 122 = .ok (.iload_n 3, 1) := by decide +kernel
theorem dX11_shape_123 : decode cX11_shape 123 = .ok (.iastore, 1) := by decide +kernel
theorem dX11_shape_124 : decode cX11_shape 124 = .ok (.aload_n 0, 1) := by decide +kernel
theorem dX11_shape_125 : decode cX11_shape 125 = .ok (.getfield 84, 3) := by decide +kernel
theorem dX11_shape_128 : decode cX11_shape 128 = .ok (.aload_n 0, 1) := by decide +kernel
theorem dX11_shape_129 : decode cX11_shape 129 = .ok (.getfield 198, 3) := by decide +kernel
theorem dX11_shape_132 : decode cX11_shape 132 = .ok (.iload 4, 2) := by decide +kernel
theorem dX11_shape_134 : decode cX11_shape 134 = .ok (.iastore, 1) := by decide +kernel
theorem dX11_shape_135 : decode cX11_shape 135 = .ok (.aload_n 0, 1) := by decide +kernel
theorem dX11_shape_136 : decode cX11_shape 136 = .ok (.getfield 87, 3) := by decide +kernel
theorem dX11_shape_139 : decode cX11_shape 139 = .ok (.aload_n 0, 1) := by decide +kernel
theorem dX11_shape_140 : decode cX11_shape 140 = .ok (.getfield 198, 3) := by decide +kernel
theorem dX11_shape_143 : decode cX11_shape 143 = .ok (.iload 5, 2) := by decide +kernel
theorem dX11_shape_145 : decode cX11_shape 145 = .ok (.iastore, 1) := by decide +kernel
theorem dX11_shape_146 : decode cX11_shape 146 = .ok (.aload_n 0, 1) := by decide +kernel
theorem dX11_shape_147 : decode cX11_shape 147 = .ok (.dup, 1) := by decide +kernel
theorem dX11_shape_148 : decode cX11_shape 148 = .ok (.getfield 198, 3) := by decide +kernel
theorem dX11_shape_151 : decode cX11_shape 151 = .ok (.iconst 1, 1) := by decide +kernel
theorem dX11_shape_152 : decode cX11_shape 152 = .ok (.iadd, 1) := by decide +kernel
theorem dX11_shape_153 : decode cX11_shape 153 = .ok (.putfield 198, 3) := by decide +kernel
theorem dX11_shape_156 : decode cX11_shape 156 = .ok (.iconst 0, 1) := by decide +kernel
theorem dX11_shape_157 : decode cX11_shape 157 = .ok (.istore 7, 2) := by decide +kernel
theorem dX11_shape_159 : decode cX11_shape 159 = .ok (.iconst 0, 1) := by decide +kernel
theorem dX11_shape_160 : decode cX11_shape 160 = .ok (.istore 8, 2) := by decide +kernel
theorem dX11_shape_162 : decode cX11_shape 162 = .ok (.iload 8, 2) := by decide +kernel
theorem dX11_shape_164 : decode cX11_shape 164 = .ok (.aload_n 0, 1) := by decide +kernel
theorem dX11_shape_165 : decode cX11_shape 165 = .ok (.getfield 198, 3) := by decide +kernel
theorem dX11_shape_168 : decode cX11_shape 168 = .ok (.if_icmp .ge 31, 3) := by decide +kernel
theorem dX11_shape_171 : decode cX11_shape 171 = .ok (.aload_n 0, 1) := by decide +kernel
theorem dX11_shape_172 : decode cX11_shape 172 = .ok (.getfield 75, 3) := by decide +kernel
theorem dX11_shape_175 : decode cX11_shape 175 = .ok (.iload 8, 2) := by decide +kernel
theorem dX11_shape_177 : decode cX11_shape 177 = .ok (.iaload, 1) := by decide +kernel
theorem dX11_shape_178 : decode cX11_shape 178 = .ok (.iload_n 1, 1) := by decide +kernel
theorem dX11_shape_179 : decode cX11_shape 179 = .ok (.if_icmp .ne 10, 3) := by decide +kernel
theorem dX11_shape_182 : decode cX11_shape 182 = .ok (.iload 7, 2) := by decide +kernel
theorem dX11_shape_184 : decode cX11_shape 184 = .ok (.iconst 1, 1) := by decide +kernel
theorem dX11_shape_185 : decode cX11_shape 185 = .ok (.iadd, 1) := by decide +kernel
theorem dX11_shape_186 : decode cX11_shape 186 = .ok (.goto 5, 3) := by decide +kernel
theorem dX11_shape_189 : decode cX11_shape 189 = .ok (.iload 7, 2) := by decide +kernel
theorem dX11_shape_191 : decode cX11_shape 191 = .ok (.istore 7, 2) := by decide +kernel
theorem dX11_shape_193 : decode cX11_shape 193 = .ok (.iinc 8 1, 3) := by decide +kernel
theorem dX11_shape_196 : decode cX11_shape 196 = .ok (.goto (-34), 3) := by decide +kernel
theorem dX11_shape_199 : decode cX11_shape 199 = .ok (.iload 7, 2) := by decide +kernel
theorem dX11_shape_201 : decode cX11_shape 201 = .ok (.ireturn, 1) := by decide +kernel
theorem dX11_insert_0 : decode cX11_insert 0 = .ok (.iconst 0, 1) := by decide +kernel
theorem dX11_insert_1 : decode cX11_insert 1 = .ok (.istore_n 3, 1) := by decide +kernel
theorem dX11_insert_2 : decode cX11_insert 2 = .ok (.iload_n 3, 1) := by decide +kernel
theorem dX11_insert_3 : decode cX11_insert 3 = .ok (.iload_n 1, 1) := by decide +kernel
theorem dX11_insert_4 : decode cX11_insert 4 = .ok (.if_icmp .ge 16, 3) := by decide +kernel
theorem dX11_insert_7 : decode cX11_insert 7 = .ok (.aload_n 0, 1) := by decide +kernel
theorem dX11_insert_8 : decode cX11_insert 8 = .ok (.iload_n 3, 1) := by decide +kernel
theorem dX11_insert_9 : decode cX11_insert 9 = .ok (.iaload, 1) := by decide +kernel
theorem dX11_insert_10 : decode cX11_insert 10 = .ok (.iload_n 2, 1) := by decide +kernel
theorem dX11_insert_11 : decode cX11_insert 11 = .ok (.if_icmp .ge 9, 3) := by decide +kernel
theorem dX11_insert_14 : decode cX11_insert 14 = .ok (.iinc 3 1, 3) := by decide +kernel
theorem dX11_insert_17 : decode cX11_insert 17 = .ok (.goto (-15), 3) := by decide +kernel
theorem dX11_insert_20 : decode cX11_insert 20 = .ok (.iload_n 3, 1) := by decide +kernel
theorem dX11_insert_21 : decode cX11_insert 21 = .ok (.iload_n 1, 1) := by decide +kernel
theorem dX11_insert_22 : decode cX11_insert 22 = .ok (.if_icmp .ge 12, 3) := by decide +kernel
theorem dX11_insert_25 : decode cX11_insert 25 = .ok (.aload_n 0, 1) := by decide +kernel
theorem dX11_insert_26 : decode cX11_insert 26 = .ok (.iload_n 3, 1) := by decide +kernel
theorem dX11_insert_27 : decode cX11_insert 27 = .ok (.iaload, 1) := by decide +kernel
theorem dX11_insert_28 : decode cX11_insert 28 = .ok (.iload_n 2, 1) := by decide +kernel
theorem dX11_insert_29 : decode cX11_insert 29 = .ok (.if_icmp .ne 5, 3) := by decide +kernel
theorem dX11_insert_32 : decode cX11_insert 32 = .ok (.iload_n 1, 1) := by decide +kernel
theorem dX11_insert_33 : decode cX11_insert 33 = .ok (.ireturn, 1) := by decide +kernel
theorem dX11_insert_34 : decode cX11_insert 34 = .ok (.iload_n 1, 1) := by decide +kernel
theorem dX11_insert_35 : decode cX11_insert 35 = .ok (.istore 4, 2) := by decide +kernel
theorem dX11_insert_37 : decode cX11_insert 37 = .ok (.iload 4, 2) := by decide +kernel
theorem dX11_insert_39 : decode cX11_insert 39 = .ok (.iload_n 3, 1) := by decide +kernel
theorem dX11_insert_40 : decode cX11_insert 40 = .ok (.if_icmp .le 19, 3) := by decide +kernel
theorem dX11_insert_43 : decode cX11_insert 43 = .ok (.aload_n 0, 1) := by decide +kernel
theorem dX11_insert_44 : decode cX11_insert 44 = .ok (.iload 4, 2) := by decide +kernel
theorem dX11_insert_46 : decode cX11_insert 46 = .ok (.aload_n 0, 1) := by decide +kernel
theorem dX11_insert_47 : decode cX11_insert 47 = .ok (.iload 4, 2) := by decide +kernel
theorem dX11_insert_49 : decode cX11_insert 49 = .ok (.iconst 1, 1) := by decide +kernel
theorem dX11_insert_50 : decode cX11_insert 50 = .ok (.isub, 1) := by decide +kernel
theorem dX11_insert_51 : decode cX11_insert 51 = .ok (.iaload, 1) := by decide +kernel
theorem dX11_insert_52 : decode cX11_insert 52 = .ok (.iastore, 1) := by decide +kernel
theorem dX11_insert_53 : decode cX11_insert 53 = .ok (.iinc 4 (-1), 3) := by decide +kernel
theorem dX11_insert_56 : decode cX11_insert 56 = .ok (.goto (-19), 3) := by decide +kernel
theorem dX11_insert_59 : decode cX11_insert 59 = .ok (.aload_n 0, 1) := by decide +kernel
theorem dX11_insert_60 : decode cX11_insert 60 = .ok (.iload_n 3, 1) := by decide +kernel
theorem dX11_insert_61 : decode cX11_insert 61 = .ok (.iload_n 2, 1) := by decide +kernel
theorem dX11_insert_62 : decode cX11_insert 62 = .ok (.iastore, 1) := by decide +kernel
theorem dX11_insert_63 : decode cX11_insert 63 = .ok (.iload_n 1, 1) := by decide +kernel
theorem dX11_insert_64 : decode cX11_insert 64 = .ok (.iconst 1, 1) := by decide +kernel
theorem dX11_insert_65 : decode cX11_insert 65 = .ok (.iadd, 1) := by decide +kernel
theorem dX11_insert_66 : decode cX11_insert 66 = .ok (.ireturn, 1) := by decide +kernel
theorem dX11_covers_0 : decode cX11_covers 0 = .ok (.iconst 0, 1) := by decide +kernel
theorem dX11_covers_1 : decode cX11_covers 1 = .ok (.istore 5, 2) := by decide +kernel
theorem dX11_covers_3 : decode cX11_covers 3 = .ok (.iload 5, 2) := by decide +kernel
theorem dX11_covers_5 : decode cX11_covers 5 = .ok (.aload_n 0, 1) := by decide +kernel
theorem dX11_covers_6 : decode cX11_covers 6 = .ok (.getfield 198, 3) := by decide +kernel
theorem dX11_covers_9 : decode cX11_covers 9 = .ok (.if_icmp .ge 78, 3) := by decide +kernel
theorem dX11_covers_12 : decode cX11_covers 12 = .ok (.aload_n 0, 1) := by decide +kernel
theorem dX11_covers_13 : decode cX11_covers 13 = .ok (.getfield 75, 3) := by decide +kernel
theorem dX11_covers_16 : decode cX11_covers 16 = .ok (.iload 5, 2) := by decide +kernel
theorem dX11_covers_18 : decode cX11_covers 18 = .ok (.iaload, 1) := by decide +kernel
theorem dX11_covers_19 : decode cX11_covers 19 = .ok (.iload_n 1, 1) := by decide +kernel
theorem dX11_covers_20 : decode cX11_covers 20 = .ok (.if_icmp .ne 61, 3) := by decide +kernel
theorem dX11_covers_23 : decode cX11_covers 23 = .ok (.aload_n 0, 1) := by decide +kernel
theorem dX11_covers_24 : decode cX11_covers 24 = .ok (.getfield 78, 3) := by decide +kernel
theorem dX11_covers_27 : decode cX11_covers 27 = .ok (.iload 5, 2) := by decide +kernel
theorem dX11_covers_29 : decode cX11_covers 29 = .ok (.iaload, 1) := by decide +kernel
theorem dX11_covers_30 : decode cX11_covers 30 = .ok (.iload 4, 2) := by decide +kernel
theorem dX11_covers_32 : decode cX11_covers 32 = .ok (.isub, 1) := by decide +kernel
theorem dX11_covers_33 : decode cX11_covers 33 = .ok (.iload_n 2, 1) := by decide +kernel
theorem dX11_covers_34 : decode cX11_covers 34 = .ok (.if_icmp .gt 47, 3) := by decide +kernel
theorem dX11_covers_37 : decode cX11_covers 37 = .ok (.iload_n 2, 1) := by decide +kernel
theorem dX11_covers_38 : decode cX11_covers 38 = .ok (.aload_n 0, 1) := by decide +kernel
theorem dX11_covers_39 : decode cX11_covers 39 = .ok (.getfield 84, 3) := by decide +kernel
theorem dX11_covers_42 : decode cX11_covers 42 = .ok (.iload 5, 2) := by decide +kernel
theorem dX11_covers_44 : decode cX11_covers 44 = .ok (.iaload, 1) := by decide +kernel
theorem dX11_covers_45 : decode cX11_covers 45 = .ok (.iload 4, 2) := by decide +kernel
theorem dX11_covers_47 : decode cX11_covers 47 = .ok (.iadd, 1) := by decide +kernel
theorem dX11_covers_48 : decode cX11_covers 48 = .ok (.if_icmp .ge 33, 3) := by decide +kernel
theorem dX11_covers_51 : decode cX11_covers 51 = .ok (.aload_n 0, 1) := by decide +kernel
theorem dX11_covers_52 : decode cX11_covers 52 = .ok (.getfield 81, 3) := by decide +kernel
theorem dX11_covers_55 : decode cX11_covers 55 = .ok (.iload 5, 2) := by decide +kernel
theorem dX11_covers_57 : decode cX11_covers 57 = .ok (.iaload, 1) := by decide +kernel
theorem dX11_covers_58 : decode cX11_covers 58 = .ok (.iload 4, 2) := by decide +kernel
theorem dX11_covers_60 : decode cX11_covers 60 = .ok (.isub, 1) := by decide +kernel
theorem dX11_covers_61 : decode cX11_covers 61 = .ok (.iload_n 3, 1) := by decide +kernel
theorem dX11_covers_62 : decode cX11_covers 62 = .ok (.if_icmp .gt 19, 3) := by decide +kernel
theorem dX11_covers_65 : decode cX11_covers 65 = .ok (.iload_n 3, 1) := by decide +kernel
theorem dX11_covers_66 : decode cX11_covers 66 = .ok (.aload_n 0, 1) := by decide +kernel
theorem dX11_covers_67 : decode cX11_covers 67 = .ok (.getfield 87, 3) := by decide +kernel
theorem dX11_covers_70 : decode cX11_covers 70 = .ok (.iload 5, 2) := by decide +kernel
theorem dX11_covers_72 : decode cX11_covers 72 = .ok (.iaload, 1) := by decide +kernel
theorem dX11_covers_73 : decode cX11_covers 73 = .ok (.iload 4, 2) := by decide +kernel
theorem dX11_covers_75 : decode cX11_covers 75 = .ok (.iadd, 1) := by decide +kernel
theorem dX11_covers_76 : decode cX11_covers 76 = .ok (.if_icmp .ge 5, 3) := by decide +kernel
theorem dX11_covers_79 : decode cX11_covers 79 = .ok (.iconst 1, 1) := by decide +kernel
theorem dX11_covers_80 : decode cX11_covers 80 = .ok (.ireturn, 1) := by decide +kernel
theorem dX11_covers_81 : decode cX11_covers 81 = .ok (.iinc 5 1, 3) := by decide +kernel
theorem dX11_covers_84 : decode cX11_covers 84 = .ok (.goto (-81), 3) := by decide +kernel
theorem dX11_covers_87 : decode cX11_covers 87 = .ok (.iconst 0, 1) := by decide +kernel
theorem dX11_covers_88 : decode cX11_covers 88 = .ok (.ireturn, 1) := by decide +kernel
set_option maxRecDepth 20000 in
theorem ggX11_areaOf_X11_insert : GoodIn wsX11_areaOf wsX11_insert := goodIn_r _ [11] (by eq_refl) (by decide +kernel)
set_option maxRecDepth 20000 in
theorem gX11_areaOf_X11_insert : GoodIn wsX11_areaOf (va_wsS RX11 201 yX11_insert wsX11_insert) := goodIn_app (goodIn_r _ [8, 9, 10] (by eq_refl) (by decide +kernel)) ggX11_areaOf_X11_insert
set_option maxRecDepth 20000 in
theorem ggX11_areaOf_X11_covers : GoodIn wsX11_areaOf wsX11_covers := goodIn_r _ [15, 1, 16, 3, 4, 6, 7, 17, 18, 19, 20, 21, 22, 23, 24, 25, 26, 27, 28, 29, 30, 31, 32, 33, 34, 35, 36, 37, 38, 39, 40, 41, 42, 43, 44, 45, 46, 47, 48, 49, 50, 51, 52, 53, 54, 55, 56, 57, 58, 59] (by eq_refl) (by decide +kernel)
set_option maxRecDepth 20000 in
theorem gX11_areaOf_X11_covers : GoodIn wsX11_areaOf (wsV RX11 205 RX11 yX11_covers wsX11_covers) := goodIn_app (goodIn_r _ [12, 13, 14, 10] (by eq_refl) (by decide +kernel)) ggX11_areaOf_X11_covers
theorem dX11_areaOf_0 : decode cX11_areaOf 0 = .ok (.iconst 0, 1) := by decide +kernel
theorem dX11_areaOf_1 : decode cX11_areaOf 1 = .ok (.istore 4, 2) := by decide +kernel
theorem dX11_areaOf_3 : decode cX11_areaOf 3 = .ok (.iconst 0, 1) := by decide +kernel
theorem dX11_areaOf_4 : decode cX11_areaOf 4 = .ok (.istore 5, 2) := by decide +kernel
theorem dX11_areaOf_6 : decode cX11_areaOf 6 = .ok (.iconst 0, 1) := by decide +kernel
theorem dX11_areaOf_7 : decode cX11_areaOf 7 = .ok (.istore 6, 2) := by decide +kernel
theorem dX11_areaOf_9 : decode cX11_areaOf 9 = .ok (.iload 6, 2) := by decide +kernel
theorem dX11_areaOf_11 : decode cX11_areaOf 11 = .ok (.aload_n 0, 1) := by decide +kernel
theorem dX11_areaOf_12 : decode cX11_areaOf 12 = .ok (.getfield 198, 3) := by decide +kernel
theorem dX11_areaOf_15 : decode cX11_areaOf 15 = .ok (.if_icmp .ge 89, 3) := by decide +kernel
theorem dX11_areaOf_18 : decode cX11_areaOf 18 = .ok (.aload_n 0, 1) := by decide +kernel
theorem dX11_areaOf_19 : decode cX11_areaOf 19 = .ok (.getfield 90, 3) := by decide +kernel
theorem dX11_areaOf_22 : decode cX11_areaOf 22 = .ok (.iload 4, 2) := by decide +kernel
theorem dX11_areaOf_24 : decode cX11_areaOf 24 = .ok (.aload_n 0, 1) := by decide +kernel
theorem dX11_areaOf_25 : decode cX11_areaOf 25 = .ok (.getfield 78, 3) := by decide +kernel
theorem dX11_areaOf_28 : decode cX11_areaOf 28 = .ok (.iload 6, 2) := by decide +kernel
theorem dX11_areaOf_30 : decode cX11_areaOf 30 = .ok (.iaload, 1) := by decide +kernel
theorem dX11_areaOf_31 : decode cX11_areaOf 31 = .ok (.iload_n 3, 1) := by decide +kernel
theorem dX11_areaOf_32 : decode cX11_areaOf 32 = .ok (.isub, 1) := by decide +kernel
theorem dX11_areaOf_33 : decode cX11_areaOf 33 = .ok (.invokestatic 201, 3) := by decide +kernel
theorem dX11_areaOf_36 : decode cX11_areaOf 36 = .ok (.istore 4, 2) := by decide +kernel
theorem dX11_areaOf_38 : decode cX11_areaOf 38 = .ok (.aload_n 0, 1) := by decide +kernel
theorem dX11_areaOf_39 : decode cX11_areaOf 39 = .ok (.getfield 90, 3) := by decide +kernel
theorem dX11_areaOf_42 : decode cX11_areaOf 42 = .ok (.iload 4, 2) := by decide +kernel
theorem dX11_areaOf_44 : decode cX11_areaOf 44 = .ok (.aload_n 0, 1) := by decide +kernel
theorem dX11_areaOf_45 : decode cX11_areaOf 45 = .ok (.getfield 84, 3) := by decide +kernel
theorem dX11_areaOf_48 : decode cX11_areaOf 48 = .ok (.iload 6, 2) := by decide +kernel
theorem dX11_areaOf_50 : decode cX11_areaOf 50 = .ok (.iaload, 1) := by decide +kernel
theorem dX11_areaOf_51 : decode cX11_areaOf 51 = .ok (.iload_n 3, 1) := by decide +kernel
theorem dX11_areaOf_52 : decode cX11_areaOf 52 = .ok (.iadd, 1) := by decide +kernel
theorem dX11_areaOf_53 : decode cX11_areaOf 53 = .ok (.invokestatic 201, 3) := by decide +kernel
theorem dX11_areaOf_56 : decode cX11_areaOf 56 = .ok (.istore 4, 2) := by decide +kernel
theorem dX11_areaOf_58 : decode cX11_areaOf 58 = .ok (.aload_n 0, 1) := by decide +kernel
theorem dX11_areaOf_59 : decode cX11_areaOf 59 = .ok (.getfield 93, 3) := by decide +kernel
theorem dX11_areaOf_62 : decode cX11_areaOf 62 = .ok (.iload 5, 2) := by decide +kernel
theorem dX11_areaOf_64 : decode cX11_areaOf 64 = .ok (.aload_n 0, 1) := by decide +kernel
theorem dX11_areaOf_65 : decode cX11_areaOf 65 = .ok (.getfield 81, 3) := by decide +kernel
theorem dX11_areaOf_68 : decode cX11_areaOf 68 = .ok (.iload 6, 2) := by decide +kernel
theorem dX11_areaOf_70 : decode cX11_areaOf 70 = .ok (.iaload, 1) := by decide +kernel
theorem dX11_areaOf_71 : decode cX11_areaOf 71 = .ok (.iload_n 3, 1) := by decide +kernel
theorem dX11_areaOf_72 : decode cX11_areaOf 72 = .ok (.isub, 1) := by decide +kernel
theorem dX11_areaOf_73 : decode cX11_areaOf 73 = .ok (.invokestatic 201, 3) := by decide +kernel
theorem dX11_areaOf_76 : decode cX11_areaOf 76 = .ok (.istore 5, 2) := by decide +kernel
theorem dX11_areaOf_78 : decode cX11_areaOf 78 = .ok (.aload_n 0, 1) := by decide +kernel
theorem dX11_areaOf_79 : decode cX11_areaOf 79 = .ok (.getfield 93, 3) := by decide +kernel
theorem dX11_areaOf_82 : decode cX11_areaOf 82 = .ok (.iload 5, 2) := by decide +kernel
theorem dX11_areaOf_84 : decode cX11_areaOf 84 = .ok (.aload_n 0, 1) := by decide +kernel
theorem dX11_areaOf_85 : decode cX11_areaOf 85 = .ok (.getfield 87, 3) := by decide +kernel
theorem dX11_areaOf_88 : decode cX11_areaOf 88 = .ok (.iload 6, 2) := by decide +kernel
theorem dX11_areaOf_90 : decode cX11_areaOf 90 = .ok (.iaload, 1) := by decide +kernel
theorem dX11_areaOf_91 : decode cX11_areaOf 91 = .ok (.iload_n 3, 1) := by decide +kernel
theorem dX11_areaOf_92 : decode cX11_areaOf 92 = .ok (.iadd, 1) := by decide +kernel
theorem dX11_areaOf_93 : decode cX11_areaOf 93 = .ok (.invokestatic 201, 3) := by decide +kernel
theorem dX11_areaOf_96 : decode cX11_areaOf 96 = .ok (.istore 5, 2) := by decide +kernel
theorem dX11_areaOf_98 : decode cX11_areaOf 98 = .ok (.iinc 6 1, 3) := by decide +kernel
theorem dX11_areaOf_101 : decode cX11_areaOf 101 = .ok (.goto (-92), 3) := by decide +kernel
theorem dX11_areaOf_104 : decode cX11_areaOf 104 = .ok (.iconst 0, 1) := by decide +kernel
theorem dX11_areaOf_105 : decode cX11_areaOf 105 = .ok (.istore 6, 2) := by decide +kernel
theorem dX11_areaOf_107 : decode cX11_areaOf 107 = .ok (.iconst 0, 1) := by decide +kernel
theorem dX11_areaOf_108 : decode cX11_areaOf 108 = .ok (.istore 7, 2) := by decide +kernel
theorem dX11_areaOf_110 : decode cX11_areaOf 110 = .ok (.iload 7, 2) := by decide +kernel
theorem dX11_areaOf_112 : decode cX11_areaOf 112 = .ok (.iconst 1, 1) := by decide +kernel
theorem dX11_areaOf_113 : decode cX11_areaOf 113 = .ok (.iadd, 1) := by decide +kernel
theorem dX11_areaOf_114 : decode cX11_areaOf 114 = .ok (.iload 4, 2) := by decide +kernel
theorem dX11_areaOf_116 : decode cX11_areaOf 116 = .ok (.if_icmp .ge 113, 3) := by decide +kernel
theorem dX11_areaOf_119 : decode cX11_areaOf 119 = .ok (.iconst 0, 1) := by decide +kernel
theorem dX11_areaOf_120 : decode cX11_areaOf 120 = .ok (.istore 8, 2) := by decide +kernel
theorem dX11_areaOf_122 : decode cX11_areaOf 122 = .ok (.iload 8, 2) := by decide +kernel
theorem dX11_areaOf_124 : decode cX11_areaOf 124 = .ok (.iconst 1, 1) := by decide +kernel
theorem dX11_areaOf_125 : decode cX11_areaOf 125 = .ok (.iadd, 1) := by decide +kernel
theorem dX11_areaOf_126 : decode cX11_areaOf 126 = .ok (.iload 5, 2) := by decide +kernel
theorem dX11_areaOf_128 : decode cX11_areaOf 128 = .ok (.if_icmp .ge 95, 3) := by decide +kernel
theorem dX11_areaOf_131 : decode cX11_areaOf 131 = .ok (.aload_n 0, 1) := by decide +kernel
theorem dX11_areaOf_132 : decode cX11_areaOf 132 = .ok (.iload_n 1, 1) := by decide +kernel
theorem dX11_areaOf_133 : decode cX11_areaOf 133 = .ok (.aload_n 0, 1) := by decide +kernel
theorem dX11_areaOf_134 : decode cX11_areaOf 134 = .ok (.getfield 90, 3) := by decide +kernel
theorem dX11_areaOf_137 : decode cX11_areaOf 137 = .ok (.iload 7, 2) := by decide +kernel
theorem dX11_areaOf_139 : decode cX11_areaOf 139 = .ok (.iaload, 1) := by decide +kernel
theorem dX11_areaOf_140 : decode cX11_areaOf 140 = .ok (.aload_n 0, 1) := by decide +kernel
theorem dX11_areaOf_141 : decode cX11_areaOf 141 = .ok (.getfield 93, 3) := by decide +kernel
theorem dX11_areaOf_144 : decode cX11_areaOf 144 = .ok (.iload 8, 2) := by decide +kernel
theorem dX11_areaOf_146 : decode cX11_areaOf 146 = .ok (.iaload, 1) := by decide +kernel
theorem dX11_areaOf_147 : decode cX11_areaOf 147 = .ok (.iload_n 3, 1) := by decide +kernel
theorem dX11_areaOf_148 : decode cX11_areaOf 148 = .ok (.invokevirtual 205, 3) := by decide +kernel
theorem dX11_areaOf_151 : decode cX11_areaOf 151 = .ok (.ifCond .eq 66, 3) := by decide +kernel
theorem dX11_areaOf_154 : decode cX11_areaOf 154 = .ok (.aload_n 0, 1) := by decide +kernel
theorem dX11_areaOf_155 : decode cX11_areaOf 155 = .ok (.iload_n 2, 1) := by decide +kernel
theorem dX11_areaOf_156 : decode cX11_areaOf 156 = .ok (.aload_n 0, 1) := by decide +kernel
theorem dX11_areaOf_157 : decode cX11_areaOf 157 = .ok (.getfield 90, 3) := by decide +kernel
theorem dX11_areaOf_160 : decode cX11_areaOf 160 = .ok (.iload 7, 2) := by decide +kernel
theorem dX11_areaOf_162 : decode cX11_areaOf 162 = .ok (.iaload, 1) := by decide +kernel
theorem dX11_areaOf_163 : decode cX11_areaOf 163 = .ok (.aload_n 0, 1) := by decide +kernel
theorem dX11_areaOf_164 : decode cX11_areaOf 164 = .ok (.getfield 93, 3) := by decide +kernel
theorem dX11_areaOf_167 : decode cX11_areaOf 167 = .ok (.iload 8, 2) := by decide +kernel
theorem dX11_areaOf_169 : decode cX11_areaOf 169 = .ok (.iaload, 1) := by decide +kernel
theorem dX11_areaOf_170 : decode cX11_areaOf 170 = .ok (.iload_n 3, 1) := by decide +kernel
theorem dX11_areaOf_171 : decode cX11_areaOf 171 = .ok (.invokevirtual 205, 3) := by decide +kernel
theorem dX11_areaOf_174 : decode cX11_areaOf 174 = .ok (.ifCond .eq 43, 3) := by decide +kernel
theorem dX11_areaOf_177 : decode cX11_areaOf 177 = .ok (.iload 6, 2) := by decide +kernel
theorem dX11_areaOf_179 : decode cX11_areaOf 179 = .ok (.aload_n 0, 1) := by decide +kernel
theorem dX11_areaOf_180 : decode cX11_areaOf 180 = .ok (.getfield 90, 3) := by decide +kernel
theorem dX11_areaOf_183 : decode cX11_areaOf 183 = .ok (.iload 7, 2) := by decide +kernel
theorem dX11_areaOf_185 : decode cX11_areaOf 185 = .ok (.iconst 1, 1) := by decide +kernel
theorem dX11_areaOf_186 : decode cX11_areaOf 186 = .ok (.iadd, 1) := by decide +kernel
theorem dX11_areaOf_187 : decode cX11_areaOf 187 = .ok (.iaload, 1) := by decide +kernel
theorem dX11_areaOf_188 : decode cX11_areaOf 188 = .ok (.aload_n 0, 1) := by decide +kernel
theorem dX11_areaOf_189 : decode cX11_areaOf 189 = .ok (.getfield 90, 3) := by decide +kernel
theorem dX11_areaOf_192 : decode cX11_areaOf 192 = .ok (.iload 7, 2) := by decide +kernel
theorem dX11_areaOf_194 : decode cX11_areaOf 194 = .ok (.iaload, 1) := by decide +kernel
theorem dX11_areaOf_195 : decode cX11_areaOf 195 = .ok (.isub, 1) := by decide +kernel
theorem dX11_areaOf_196 : decode cX11_areaOf 196 = .ok (.aload_n 0, 1) := by decide +kernel
theorem dX11_areaOf_197 : decode cX11_areaOf 197 = .ok (.getfield 93, 3) := by decide +kernel
theorem dX11_areaOf_200 : decode cX11_areaOf 200 = .ok (.iload 8, 2) := by decide +kernel
theorem dX11_areaOf_202 : decode cX11_areaOf 202 = .ok (.iconst 1, 1) := by decide +kernel
theorem dX11_areaOf_203 : decode cX11_areaOf 203 = .ok (.iadd, 1) := by decide +kernel
theorem dX11_areaOf_204 : decode cX11_areaOf 204 = .ok (.iaload, 1) := by decide +kernel
theorem dX11_areaOf_205 : decode cX11_areaOf 205 = .ok (.aload_n 0, 1) := by decide +kernel
theorem dX11_areaOf_206 : decode cX11_areaOf 206 = .ok (.getfield 93, 3) := by decide +kernel
theorem dX11_areaOf_209 : decode cX11_areaOf 209 = .ok (.iload 8, 2) := by decide +kernel
theorem dX11_areaOf_211 : decode cX11_areaOf 211 = .ok (.iaload, 1) := by decide +kernel
theorem dX11_areaOf_212 : decode cX11_areaOf 212 = .ok (.isub, 1) := by decide +kernel
theorem dX11_areaOf_213 : decode cX11_areaOf 213 = .ok (.imul, 1) := by decide +kernel
theorem dX11_areaOf_214 : decode cX11_areaOf 214 = .ok (.iadd, 1) := by decide +kernel
theorem dX11_areaOf_215 : decode cX11_areaOf 215 = .ok (.istore 6, 2) := by decide +kernel
theorem dX11_areaOf_217 : decode cX11_areaOf 217 = .ok (.iinc 8 1, 3) := by decide +kernel
theorem dX11_areaOf_220 : decode cX11_areaOf 220 = .ok (.goto (-98), 3) := by decide +kernel
theorem dX11_areaOf_223 : decode cX11_areaOf 223 = .ok (.iinc 7 1, 3) := by decide +kernel
theorem dX11_areaOf_226 : decode cX11_areaOf 226 = .ok (.goto (-116), 3) := by decide +kernel
theorem dX11_areaOf_229 : decode cX11_areaOf 229 = .ok (.iload 6, 2) := by decide +kernel
theorem dX11_areaOf_231 : decode cX11_areaOf 231 = .ok (.ireturn, 1) := by decide +kernel
set_option maxRecDepth 20000 in
theorem ggX11_area_X11_isIn : GoodIn wsX11_area wsX11_isIn := goodIn_r _ [6] (by eq_refl) (by decide +kernel)
set_option maxRecDepth 20000 in
theorem gX11_area_X11_isIn : GoodIn wsX11_area (va_wsS RX11 119 yX11_isIn wsX11_isIn) := goodIn_app (goodIn_r _ [3, 4, 5] (by eq_refl) (by decide +kernel)) ggX11_area_X11_isIn
set_option maxRecDepth 20000 in
theorem ggX11_area_X11_areaOf : GoodIn wsX11_area wsX11_areaOf := goodIn_r _ [10, 11, 12, 13, 14, 15, 16, 17, 18, 19, 5, 20, 21, 22, 23, 24, 25, 26, 27, 28, 29, 30, 31, 32, 33, 34, 35, 36, 37, 38, 39, 40, 41, 42, 43, 44, 45, 46, 47, 48, 49, 50, 51, 52, 53, 54, 55, 56, 57, 58, 59, 60, 61, 62, 63, 64, 65, 66, 67, 68] (by eq_refl) (by decide +kernel)
set_option maxRecDepth 20000 in
theorem gX11_area_X11_areaOf : GoodIn wsX11_area (wsV RX11 209 RX11 yX11_areaOf wsX11_areaOf) := goodIn_app (goodIn_r _ [7, 8, 9, 5] (by eq_refl) (by decide +kernel)) ggX11_area_X11_areaOf
theorem dX11_area_0 : decode cX11_area 0 = .ok (.aload_n 0, 1) := by decide +kernel
theorem dX11_area_1 : decode cX11_area 1 = .ok (.iload_n 1, 1) := by decide +kernel
theorem dX11_area_2 : decode cX11_area 2 = .ok (.aload_n 0, 1) := by decide +kernel
theorem dX11_area_3 : decode cX11_area 3 = .ok (.getfield 113, 3) := by decide +kernel
theorem dX11_area_6 : decode cX11_area 6 = .ok (.invokestatic 119, 3) := by decide +kernel
theorem dX11_area_9 : decode cX11_area 9 = .ok (.ifCond .ne 7, 3) := by decide +kernel
theorem dX11_area_12 : decode cX11_area 12 = .ok (.iconst 1, 1) := by decide +kernel
theorem dX11_area_13 : decode cX11_area 13 = .ok (.goto 18, 3) := by decide +kernel
theorem dX11_area_16 : decode cX11_area 16 = .ok (.iload_n 2, 1) := by decide +kernel
theorem dX11_area_17 : decode cX11_area 17 = .ok (.ifCond .lt 9, 3) := by decide +kernel
theorem dX11_area_20 : decode cX11_area 20 = .ok (.iload_n 2, 1) := by decide +kernel
theorem dX11_area_21 : decode cX11_area 21 = .ok (.bipush 100, 2) := by decide +kernel
theorem dX11_area_23 : decode cX11_area 23 = .ok (.if_icmp .le 7, 3) := by decide +kernel
theorem dX11_area_26 : decode cX11_area 26 = .ok (.iconst 2, 1) := by decide +kernel
theorem dX11_area_27 : decode cX11_area 27 = .ok (.goto 4, 3) := by decide +kernel
theorem dX11_area_30 : decode cX11_area 30 = .ok (.iconst 0, 1) := by decide +kernel
theorem dX11_area_31 : decode cX11_area 31 = .ok (.putfield 99, 3) := by decide +kernel
theorem dX11_area_34 : decode cX11_area 34 = .ok (.aload_n 0, 1) := by decide +kernel
theorem dX11_area_35 : decode cX11_area 35 = .ok (.getfield 99, 3) := by decide +kernel
theorem dX11_area_38 : decode cX11_area 38 = .ok (.ifCond .le 7, 3) := by decide +kernel
theorem dX11_area_41 : decode cX11_area 41 = .ok (.iconst 0, 1) := by decide +kernel
theorem dX11_area_42 : decode cX11_area 42 = .ok (.goto 10, 3) := by decide +kernel
theorem dX11_area_45 : decode cX11_area 45 = .ok (.aload_n 0, 1) := by decide +kernel
theorem dX11_area_46 : decode cX11_area 46 = .ok (.iload_n 1, 1) := by decide +kernel
theorem dX11_area_47 : decode cX11_area 47 = .ok (.iload_n 1, 1) := by decide +kernel
theorem dX11_area_48 : decode cX11_area 48 = .ok (.iload_n 2, 1) := by decide +kernel
theorem dX11_area_49 : decode cX11_area 49 = .ok (.invokevirtual 209, 3) := by decide +kernel
theorem dX11_area_52 : decode cX11_area 52 = .ok (.ireturn, 1) := by decide +kernel
set_option maxRecDepth 20000 in
theorem ggX11_common_X11_isIn : GoodIn wsX11_common wsX11_isIn := goodIn_r _ [6] (by eq_refl) (by decide +kernel)
set_option maxRecDepth 20000 in
theorem gX11_common_X11_isIn : GoodIn wsX11_common (va_wsS RX11 119 yX11_isIn wsX11_isIn) := goodIn_app (goodIn_r _ [3, 4, 5] (by eq_refl) (by decide +kernel)) ggX11_common_X11_isIn
set_option maxRecDepth 20000 in
theorem ggX11_common_X11_areaOf : GoodIn wsX11_common wsX11_areaOf := goodIn_r _ [10, 11, 12, 13, 14, 15, 16, 17, 18, 19, 5, 20, 21, 22, 23, 24, 25, 26, 27, 28, 29, 30, 31, 32, 33, 34, 35, 36, 37, 38, 39, 40, 41, 42, 43, 44, 45, 46, 47, 48, 49, 50, 51, 52, 53, 54, 55, 56, 57, 58, 59, 60, 61, 62, 63, 64, 65, 66, 67, 68] (by eq_refl) (by decide +kernel)
set_option maxRecDepth 20000 in
theorem gX11_common_X11_areaOf : GoodIn wsX11_common (wsV RX11 209 RX11 yX11_areaOf wsX11_areaOf) := goodIn_app (goodIn_r _ [7, 8, 9, 5] (by eq_refl) (by decide +kernel)) ggX11_common_X11_areaOf
theorem dX11_common_0 : decode cX11_common 0 = .ok (.aload_n 0, 1) := by decide +kernel
theorem dX11_common_1 : decode cX11_common 1 = .ok (.iload_n 1, 1) := by decide +kernel
theorem dX11_common_2 : decode cX11_common 2 = .ok (.aload_n 0, 1) := by decide +kernel
theorem dX11_common_3 : decode cX11_common 3 = .ok (.getfield 113, 3) := by decide +kernel
theorem dX11_common_6 : decode cX11_common 6 = .ok (.invokestatic 119, 3) := by decide +kernel
theorem dX11_common_9 : decode cX11_common 9 = .ok (.ifCond .eq 14, 3) := by decide +kernel
theorem dX11_common_12 : decode cX11_common 12 = .ok (.iload_n 2, 1) := by decide +kernel
theorem dX11_common_13 : decode cX11_common 13 = .ok (.aload_n 0, 1) := by decide +kernel
theorem dX11_common_14 : decode cX11_common 14 = .ok (.getfield 113, 3) := by decide +kernel
theorem dX11_common_17 : decode cX11_common 17 = .ok (.invokestatic 119, 3) := by decide +kernel
theorem dX11_common_20 : decode cX11_common 20 = .ok (.ifCond .ne 7, 3) := by decide +kernel
theorem dX11_common_23 : decode cX11_common 23 = .ok (.iconst 1, 1) := by decide +kernel
theorem dX11_common_24 : decode cX11_common 24 = .ok (.goto 18, 3) := by decide +kernel
theorem dX11_common_27 : decode cX11_common 27 = .ok (.iload_n 3, 1) := by decide +kernel
theorem dX11_common_28 : decode cX11_common 28 = .ok (.ifCond .lt 9, 3) := by decide +kernel
theorem dX11_common_31 : decode cX11_common 31 = .ok (.iload_n 3, 1) := by decide +kernel
theorem dX11_common_32 : decode cX11_common 32 = .ok (.bipush 100, 2) := by decide +kernel
theorem dX11_common_34 : decode cX11_common 34 = .ok (.if_icmp .le 7, 3) := by decide +kernel
theorem dX11_common_37 : decode cX11_common 37 = .ok (.iconst 2, 1) := by decide +kernel
theorem dX11_common_38 : decode cX11_common 38 = .ok (.goto 4, 3) := by decide +kernel
theorem dX11_common_41 : decode cX11_common 41 = .ok (.iconst 0, 1) := by decide +kernel
theorem dX11_common_42 : decode cX11_common 42 = .ok (.putfield 99, 3) := by decide +kernel
theorem dX11_common_45 : decode cX11_common 45 = .ok (.aload_n 0, 1) := by decide +kernel
theorem dX11_common_46 : decode cX11_common 46 = .ok (.getfield 99, 3) := by decide +kernel
theorem dX11_common_49 : decode cX11_common 49 = .ok (.ifCond .le 7, 3) := by decide +kernel
theorem dX11_common_52 : decode cX11_common 52 = .ok (.iconst 0, 1) := by decide +kernel
theorem dX11_common_53 : decode cX11_common 53 = .ok (.goto 10, 3) := by decide +kernel
theorem dX11_common_56 : decode cX11_common 56 = .ok (.aload_n 0, 1) := by decide +kernel
theorem dX11_common_57 : decode cX11_common 57 = .ok (.iload_n 1, 1) := by decide +kernel
theorem dX11_common_58 : decode cX11_common 58 = .ok (.iload_n 2, 1) := by decide +kernel
theorem dX11_common_59 : decode cX11_common 59 = .ok (.iload_n 3, 1) := by decide +kernel
theorem dX11_common_60 : decode cX11_common 60 = .ok (.invokevirtual 209, 3) := by decide +kernel
theorem dX11_common_63 : decode cX11_common 63 = .ok (.ireturn, 1) := by decide +kernel
set_option maxRecDepth 20000 in
theorem ggX11_count_X11_isIn : GoodIn wsX11_count wsX11_isIn := goodIn_r _ [15] (by eq_refl) (by decide +kernel)
set_option maxRecDepth 20000 in
theorem gX11_count_X11_isIn : GoodIn wsX11_count (va_wsS RX11 119 yX11_isIn wsX11_isIn) := goodIn_app (goodIn_r _ [12, 13, 14] (by eq_refl) (by decide +kernel)) ggX11_count_X11_isIn
theorem dX11_count_0 : decode cX11_count 0 = .ok (.aload_n 0, 1) := by decide +kernel
theorem dX11_count_1 : decode cX11_count 1 = .ok (.iload_n 1, 1) := by decide +kernel
theorem dX11_count_2 : decode cX11_count 2 = .ok (.bipush 9, 2) := by decide +kernel
theorem dX11_count_4 : decode cX11_count 4 = .ok (.invokestatic 119, 3) := by decide +kernel
theorem dX11_count_7 : decode cX11_count 7 = .ok (.ifCond .eq 7, 3) := by decide +kernel
theorem dX11_count_10 : decode cX11_count 10 = .ok (.iconst 0, 1) := by decide +kernel
theorem dX11_count_11 : decode cX11_count 11 = .ok (.goto 4, 3) := by decide +kernel
theorem dX11_count_14 : decode cX11_count 14 = .ok (.iconst 1, 1) := by decide +kernel
theorem dX11_count_15 : decode cX11_count 15 = .ok (.putfield 99, 3) := by decide +kernel
theorem dX11_count_18 : decode cX11_count 18 = .ok (.iload_n 1, 1) := by decide +kernel
theorem dX11_count_19 : decode cX11_count 19 = .ok (.tableswitch 105 0 8 #[49, 54, 59, 64, 69, 85, 90, 95, 100], 49) := by decide +kernel
theorem dX11_count_68 : decode cX11_count 68 = .ok (.aload_n 0, 1) := by decide +kernel
theorem dX11_count_69 : decode cX11_count 69 = .ok (.getfield 113, 3) := by decide +kernel
theorem dX11_count_72 : decode cX11_count 72 = .ok (.ireturn, 1) := by decide +kernel
theorem dX11_count_73 : decode cX11_count 73 = .ok (.aload_n 0, 1) := by decide +kernel
theorem dX11_count_74 : decode cX11_count 74 = .ok (.getfield 110, 3) := by decide +kernel
theorem dX11_count_77 : decode cX11_count 77 = .ok (.ireturn, 1) := by decide +kernel
theorem dX11_count_78 : decode cX11_count 78 = .ok (.aload_n 0, 1) := by decide +kernel
theorem dX11_count_79 : decode cX11_count 79 = .ok (.getfield 123, 3) := by decide +kernel
theorem dX11_count_82 : decode cX11_count 82 = .ok (.ireturn, 1) := by decide +kernel
theorem dX11_count_83 : decode cX11_count 83 = .ok (.aload_n 0, 1) := by decide +kernel
theorem dX11_count_84 : decode cX11_count 84 = .ok (.getfield 150, 3) := by decide +kernel
theorem dX11_count_87 : decode cX11_count 87 = .ok (.ireturn, 1) := by decide +kernel
theorem dX11_count_88 : decode cX11_count 88 = .ok (.aload_n 0, 1) := by decide +kernel
theorem dX11_count_89 : decode cX11_count 89 = .ok (.getfield 103, 3) := by decide +kernel
theorem dX11_count_92 : decode cX11_count 92 = .ok (.ifCond .eq 10, 3) := by decide +kernel
theorem dX11_count_95 : decode cX11_count 95 = .ok (.aload_n 0, 1) := by decide +kernel
theorem dX11_count_96 : decode cX11_count 96 = .ok (.getfield 107, 3) := by decide +kernel
theorem dX11_count_99 : decode cX11_count 99 = .ok (.goto 4, 3) := by decide +kernel
theorem dX11_count_102 : decode cX11_count 102 = .ok (.iconst 0, 1) := by decide +kernel
theorem dX11_count_103 : decode cX11_count 103 = .ok (.ireturn, 1) := by decide +kernel
theorem dX11_count_104 : decode cX11_count 104 = .ok (.aload_n 0, 1) := by decide +kernel
theorem dX11_count_105 : decode cX11_count 105 = .ok (.getfield 198, 3) := by decide +kernel
theorem dX11_count_108 : decode cX11_count 108 = .ok (.ireturn, 1) := by decide +kernel
theorem dX11_count_109 : decode cX11_count 109 = .ok (.aload_n 0, 1) := by decide +kernel
theorem dX11_count_110 : decode cX11_count 110 = .ok (.getfield 126, 3) := by decide +kernel
theorem dX11_count_113 : decode cX11_count 113 = .ok (.ireturn, 1) := by decide +kernel
theorem dX11_count_114 : decode cX11_count 114 = .ok (.aload_n 0, 1) := by decide +kernel
theorem dX11_count_115 : decode cX11_count 115 = .ok (.getfield 191, 3) := by decide +kernel
theorem dX11_count_118 : decode cX11_count 118 = .ok (.ireturn, 1) := by decide +kernel
theorem dX11_count_119 : decode cX11_count 119 = .ok (.aload_n 0, 1) := by decide +kernel
theorem dX11_count_120 : decode cX11_count 120 = .ok (.getfield 185, 3) := by decide +kernel
theorem dX11_count_123 : decode cX11_count 123 = .ok (.ireturn, 1) := by decide +kernel
theorem dX11_count_124 : decode cX11_count 124 = .ok (.iconst 0, 1) := by decide +kernel
theorem dX11_count_125 : decode cX11_count 125 = .ok (.ireturn, 1) := by decide +kernel
theorem dX11_clear_0 : decode cX11_clear 0 = .ok (.aload_n 0, 1) := by decide +kernel
theorem dX11_clear_1 : decode cX11_clear 1 = .ok (.iconst 0, 1) := by decide +kernel
theorem dX11_clear_2 : decode cX11_clear 2 = .ok (.putfield 113, 3) := by decide +kernel
theorem dX11_clear_5 : decode cX11_clear 5 = .ok (.aload_n 0, 1) := by decide +kernel
theorem dX11_clear_6 : decode cX11_clear 6 = .ok (.iconst 0, 1) := by decide +kernel
theorem dX11_clear_7 : decode cX11_clear 7 = .ok (.putfield 110, 3) := by decide +kernel
theorem dX11_clear_10 : decode cX11_clear 10 = .ok (.aload_n 0, 1) := by decide +kernel
theorem dX11_clear_11 : decode cX11_clear 11 = .ok (.iconst 0, 1) := by decide +kernel
theorem dX11_clear_12 : decode cX11_clear 12 = .ok (.putfield 123, 3) := by decide +kernel
theorem dX11_clear_15 : decode cX11_clear 15 = .ok (.aload_n 0, 1) := by decide +kernel
theorem dX11_clear_16 : decode cX11_clear 16 = .ok (.iconst 0, 1) := by decide +kernel
theorem dX11_clear_17 : decode cX11_clear 17 = .ok (.putfield 126, 3) := by decide +kernel
theorem dX11_clear_20 : decode cX11_clear 20 = .ok (.aload_n 0, 1) := by decide +kernel
theorem dX11_clear_21 : decode cX11_clear 21 = .ok (.iconst 0, 1) := by decide +kernel
theorem dX11_clear_22 : decode cX11_clear 22 = .ok (.putfield 150, 3) := by decide +kernel
theorem dX11_clear_25 : decode cX11_clear 25 = .ok (.aload_n 0, 1) := by decide +kernel
theorem dX11_clear_26 : decode cX11_clear 26 = .ok (.iconst 0, 1) := by decide +kernel
theorem dX11_clear_27 : decode cX11_clear 27 = .ok (.putfield 103, 3) := by decide +kernel
theorem dX11_clear_30 : decode cX11_clear 30 = .ok (.aload_n 0, 1) := by decide +kernel
theorem dX11_clear_31 : decode cX11_clear 31 = .ok (.iconst 0, 1) := by decide +kernel
theorem dX11_clear_32 : decode cX11_clear 32 = .ok (.putfield 107, 3) := by decide +kernel
theorem dX11_clear_35 : decode cX11_clear 35 = .ok (.aload_n 0, 1) := by decide +kernel
theorem dX11_clear_36 : decode cX11_clear 36 = .ok (.iconst 0, 1) := by decide +kernel
theorem dX11_clear_37 : decode cX11_clear 37 = .ok (.putfield 185, 3) := by decide +kernel
theorem dX11_clear_40 : decode cX11_clear 40 = .ok (.aload_n 0, 1) := by decide +kernel
theorem dX11_clear_41 : decode cX11_clear 41 = .ok (.iconst 0, 1) := by decide +kernel
theorem dX11_clear_42 : decode cX11_clear 42 = .ok (.putfield 188, 3) := by decide +kernel
theorem dX11_clear_45 : decode cX11_clear 45 = .ok (.aload_n 0, 1) := by decide +kernel
theorem dX11_clear_46 : decode cX11_clear 46 = .ok (.iconst 0, 1) := by decide +kernel
theorem dX11_clear_47 : decode cX11_clear 47 = .ok (.putfield 191, 3) := by decide +kernel
theorem dX11_clear_50 : decode cX11_clear 50 = .ok (.aload_n 0, 1) := by decide +kernel
theorem dX11_clear_51 : decode cX11_clear 51 = .ok (.iconst 0, 1) := by decide +kernel
theorem dX11_clear_52 : decode cX11_clear 52 = .ok (.putfield 198, 3) := by decide +kernel
theorem dX11_clear_55 : decode cX11_clear 55 = .ok (.iconst 0, 1) := by decide +kernel
theorem dX11_clear_56 : decode cX11_clear 56 = .ok (.istore_n 1, 1) := by decide +kernel
theorem dX11_clear_57 : decode cX11_clear 57 = .ok (.iload_n 1, 1) := by decide +kernel
theorem dX11_clear_58 : decode cX11_clear 58 = .ok (.sipush 200, 3) := by decide +kernel
theorem dX11_clear_61 : decode cX11_clear 61 = .ok (.if_icmp .ge 16, 3) := by decide +kernel
theorem dX11_clear_64 : decode cX11_clear 64 = .ok (.aload_n 0, 1) := by decide +kernel
theorem dX11_clear_65 : decode cX11_clear 65 = .ok (.getfield 66, 3) := by decide +kernel
theorem dX11_clear_68 : decode cX11_clear 68 = .ok (.iload_n 1, 1) := by decide +kernel
theorem dX11_clear_69 : decode cX11_clear 69 = .ok (.iconst 0, 1) := by decide +kernel
theorem dX11_clear_70 : decode cX11_clear 70 = .ok (.iastore, 1) := by decide +kernel
theorem dX11_clear_71 : decode cX11_clear 71 = .ok (.iinc 1 1, 3) := by decide +kernel
theorem dX11_clear_74 : decode cX11_clear 74 = .ok (.goto (-17), 3) := by decide +kernel
theorem dX11_clear_77 : decode cX11_clear 77 = .ok (.return_, 1) := by decide +kernel
