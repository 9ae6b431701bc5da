set_option maxRecDepth 20000 in
theorem ggX11_init_X11_clear : GoodIn wsX11_init wsX11_clear := goodIn_r _ [39, 40, 41, 42, 43, 44, 45, 46, 47, 48, 49, 50, 25, 51, 52, 53, 54, 55, 56, 57, 58, 59, 60, 61, 62, 63, 64, 65, 66, 67, 68, 69, 70, 71, 72, 73, 74, 75, 76, 77, 78, 79, 80, 81, 82, 83, 84, 85, 86, 87, 88, 89, 90, 91, 92, 93] (by eq_refl) (by decide +kernel)
set_option maxRecDepth 20000 in
theorem gX11_init_X11_clear : GoodIn wsX11_init (wsV RX11 96 RX11 yX11_clear wsX11_clear) := goodIn_app (goodIn_r _ [35, 36, 37, 38] (by eq_refl) (by decide +kernel)) ggX11_init_X11_clear
theorem dX11_init_0 : decode cX11_init 0 = .ok (.aload_n 0, 1) := by decide +kernel
theorem dX11_init_1 : decode cX11_init 1 = .ok (.invokespecial 1, 3) := by decide +kernel
theorem dX11_init_4 : decode cX11_init 4 = .ok (.aload_n 0, 1) := by decide +kernel
theorem dX11_init_5 : decode cX11_init 5 = .ok (.sipush 200, 3) := by decide +kernel
theorem dX11_init_8 : decode cX11_init 8 = .ok (.newarray .int, 2) := by decide +kernel
theorem dX11_init_10 : decode cX11_init 10 = .ok (.putfield 7, 3) := by decide +kernel
theorem dX11_init_13 : decode cX11_init 13 = .ok (.aload_n 0, 1) := by decide +kernel
theorem dX11_init_14 : decode cX11_init 14 = .ok (.sipush 200, 3) := by decide +kernel
theorem dX11_init_17 : decode cX11_init 17 = .ok (.newarray .int, 2) := by decide +kernel
theorem dX11_init_19 : decode cX11_init 19 = .ok (.putfield 13, 3) := by decide +kernel
theorem dX11_init_22 : decode cX11_init 22 = .ok (.aload_n 0, 1) := by decide +kernel
theorem dX11_init_23 : decode cX11_init 23 = .ok (.sipush 200, 3) := by decide +kernel
theorem dX11_init_26 : decode cX11_init 26 = .ok (.newarray .int, 2) := by decide +kernel
theorem dX11_init_28 : decode cX11_init 28 = .ok (.putfield 16, 3) := by decide +kernel
theorem dX11_init_31 : decode cX11_init 31 = .ok (.aload_n 0, 1) := by decide +kernel
theorem dX11_init_32 : decode cX11_init 32 = .ok (.sipush 200, 3) := by decide +kernel
theorem dX11_init_35 : decode cX11_init 35 = .ok (.newarray .long, 2) := by decide +kernel
theorem dX11_init_37 : decode cX11_init 37 = .ok (.putfield 19, 3) := by decide +kernel
theorem dX11_init_40 : decode cX11_init 40 = .ok (.aload_n 0, 1) := by decide +kernel
theorem dX11_init_41 : decode cX11_init 41 = .ok (.bipush 32, 2) := by decide +kernel
theorem dX11_init_43 : decode cX11_init 43 = .ok (.newarray .int, 2) := by decide +kernel
theorem dX11_init_45 : decode cX11_init 45 = .ok (.putfield 23, 3) := by decide +kernel
theorem dX11_init_48 : decode cX11_init 48 = .ok (.aload_n 0, 1) := by decide +kernel
theorem dX11_init_49 : decode cX11_init 49 = .ok (.bipush 32, 2) := by decide +kernel
theorem dX11_init_51 : decode cX11_init 51 = .ok (.newarray .long, 2) := by decide +kernel
theorem dX11_init_53 : decode cX11_init 53 = .ok (.putfield 26, 3) := by decide +kernel
theorem dX11_init_56 : decode cX11_init 56 = .ok (.aload_n 0, 1) := by decide +kernel
theorem dX11_init_57 : decode cX11_init 57 = .ok (.bipush 40, 2) := by decide +kernel
theorem dX11_init_59 : decode cX11_init 59 = .ok (.newarray .int, 2) := by decide +kernel
theorem dX11_init_61 : decode cX11_init 61 = .ok (.putfield 29, 3) := by decide +kernel
theorem dX11_init_64 : decode cX11_init 64 = .ok (.aload_n 0, 1) := by decide +kernel
theorem dX11_init_65 : decode cX11_init 65 = .ok (.bipush 40, 2) := by decide +kernel
theorem dX11_init_67 : decode cX11_init 67 = .ok (.newarray .int, 2) := by decide +kernel
theorem dX11_init_69 : decode cX11_init 69 = .ok (.putfield 32, 3) := by decide +kernel
theorem dX11_init_72 : decode cX11_init 72 = .ok (.aload_n 0, 1) := by decide +kernel
theorem dX11_init_73 : decode cX11_init 73 = .ok (.sipush 200, 3) := by decide +kernel
theorem dX11_init_76 : decode cX11_init 76 = .ok (.newarray .long, 2) := by decide +kernel
theorem dX11_init_78 : decode cX11_init 78 = .ok (.putfield 35, 3) := by decide +kernel
theorem dX11_init_81 : decode cX11_init 81 = .ok (.aload_n 0, 1) := by decide +kernel
theorem dX11_init_82 : decode cX11_init 82 = .ok (.sipush 200, 3) := by decide +kernel
theorem dX11_init_85 : decode cX11_init 85 = .ok (.newarray .long, 2) := by decide +kernel
theorem dX11_init_87 : decode cX11_init 87 = .ok (.putfield 38, 3) := by decide +kernel
theorem dX11_init_90 : decode cX11_init 90 = .ok (.aload_n 0, 1) := by decide +kernel
theorem dX11_init_91 : decode cX11_init 91 = .ok (.sipush 200, 3) := by decide +kernel
theorem dX11_init_94 : decode cX11_init 94 = .ok (.newarray .boolean, 2) := by decide +kernel
theorem dX11_init_96 : decode cX11_init 96 = .ok (.putfield 41, 3) := by decide +kernel
theorem dX11_init_99 : decode cX11_init 99 = .ok (.aload_n 0, 1) := by decide +kernel
theorem dX11_init_100 : decode cX11_init 100 = .ok (.sipush 480, 3) := by decide +kernel
theorem dX11_init_103 : decode cX11_init 103 = .ok (.newarray .int, 2) := by decide +kernel
theorem dX11_init_105 : decode cX11_init 105 = .ok (.putfield 45, 3) := by decide +kernel
theorem dX11_init_108 : decode cX11_init 108 = .ok (.aload_n 0, 1) := by decide +kernel
theorem dX11_init_109 : decode cX11_init 109 = .ok (.sipush 480, 3) := by decide +kernel
theorem dX11_init_112 : decode cX11_init 112 = .ok (.newarray .int, 2) := by decide +kernel
theorem dX11_init_114 : decode cX11_init 114 = .ok (.putfield 48, 3) := by decide +kernel
theorem dX11_init_117 : decode cX11_init 117 = .ok (.aload_n 0, 1) := by decide +kernel
theorem dX11_init_118 : decode cX11_init 118 = .ok (.sipush 480, 3) := by decide +kernel
theorem dX11_init_121 : decode cX11_init 121 = .ok (.newarray .int, 2) := by decide +kernel
theorem dX11_init_123 : decode cX11_init 123 = .ok (.putfield 51, 3) := by decide +kernel
theorem dX11_init_126 : decode cX11_init 126 = .ok (.aload_n 0, 1) := by decide +kernel
theorem dX11_init_127 : decode cX11_init 127 = .ok (.sipush 480, 3) := by decide +kernel
theorem dX11_init_130 : decode cX11_init 130 = .ok (.newarray .int, 2) := by decide +kernel
theorem dX11_init_132 : decode cX11_init 132 = .ok (.putfield 54, 3) := by decide +kernel
theorem dX11_init_135 : decode cX11_init 135 = .ok (.aload_n 0, 1) := by decide +kernel
theorem dX11_init_136 : decode cX11_init 136 = .ok (.sipush 480, 3) := by decide +kernel
theorem dX11_init_139 : decode cX11_init 139 = .ok (.newarray .int, 2) := by decide +kernel
theorem dX11_init_141 : decode cX11_init 141 = .ok (.putfield 57, 3) := by decide +kernel
theorem dX11_init_144 : decode cX11_init 144 = .ok (.aload_n 0, 1) := by decide +kernel
theorem dX11_init_145 : decode cX11_init 145 = .ok (.sipush 480, 3) := by decide +kernel
theorem dX11_init_148 : decode cX11_init 148 = .ok (.newarray .int, 2) := by decide +kernel
theorem dX11_init_150 : decode cX11_init 150 = .ok (.putfield 60, 3) := by decide +kernel
theorem dX11_init_153 : decode cX11_init 153 = .ok (.aload_n 0, 1) := by decide +kernel
theorem dX11_init_154 : decode cX11_init 154 = .ok (.bipush 6, 2) := by decide +kernel
theorem dX11_init_156 : decode cX11_init 156 = .ok (.newarray .int, 2) := by decide +kernel
theorem dX11_init_158 : decode cX11_init 158 = .ok (.putfield 63, 3) := by decide +kernel
theorem dX11_init_161 : decode cX11_init 161 = .ok (.aload_n 0, 1) := by decide +kernel
theorem dX11_init_162 : decode cX11_init 162 = .ok (.sipush 200, 3) := by decide +kernel
theorem dX11_init_165 : decode cX11_init 165 = .ok (.newarray .int, 2) := by decide +kernel
theorem dX11_init_167 : decode cX11_init 167 = .ok (.putfield 66, 3) := by decide +kernel
theorem dX11_init_170 : decode cX11_init 170 = .ok (.aload_n 0, 1) := by decide +kernel
theorem dX11_init_171 : decode cX11_init 171 = .ok (.bipush 30, 2) := by decide +kernel
theorem dX11_init_173 : decode cX11_init 173 = .ok (.newarray .long, 2) := by decide +kernel
theorem dX11_init_175 : decode cX11_init 175 = .ok (.putfield 69, 3) := by decide +kernel
theorem dX11_init_178 : decode cX11_init 178 = .ok (.aload_n 0, 1) := by decide +kernel
theorem dX11_init_179 : decode cX11_init 179 = .ok (.bipush 30, 2) := by decide +kernel
theorem dX11_init_181 : decode cX11_init 181 = .ok (.newarray .long, 2) := by decide +kernel
theorem dX11_init_183 : decode cX11_init 183 = .ok (.putfield 72, 3) := by decide +kernel
theorem dX11_init_186 : decode cX11_init 186 = .ok (.aload_n 0, 1) := by decide +kernel
theorem dX11_init_187 : decode cX11_init 187 = .ok (.bipush 60, 2) := by decide +kernel
theorem dX11_init_189 : decode cX11_init 189 = .ok (.newarray .int, 2) := by decide +kernel
theorem dX11_init_191 : decode cX11_init 191 = .ok (.putfield 75, 3) := by decide +kernel
theorem dX11_init_194 : decode cX11_init 194 = .ok (.aload_n 0, 1) := by decide +kernel
theorem dX11_init_195 : decode cX11_init 195 = .ok (.bipush 60, 2) := by decide +kernel
theorem dX11_init_197 : decode cX11_init 197 = .ok (.newarray .int, 2) := by decide +kernel
theorem dX11_init_199 : decode cX11_init 199 = .ok (.putfield 78, 3) := by decide +kernel
theorem dX11_init_202 : decode cX11_init 202 = .ok (.aload_n 0, 1) := by decide +kernel
theorem dX11_init_203 : decode cX11_init 203 = .ok (.bipush 60, 2) := by decide +kernel
theorem dX11_init_205 : decode cX11_init 205 = .ok (.newarray .int, 2) := by decide +kernel
theorem dX11_init_207 : decode cX11_init 207 = .ok (.putfield 81, 3) := by decide +kernel
theorem dX11_init_210 : decode cX11_init 210 = .ok (.aload_n 0, 1) := by decide +kernel
theorem dX11_init_211 : decode cX11_init 211 = .ok (.bipush 60, 2) := by decide +kernel
theorem dX11_init_213 : decode cX11_init 213 = .ok (.newarray .int, 2) := by decide +kernel
theorem dX11_init_215 : decode cX11_init 215 = .ok (.putfield 84, 3) := by decide +kernel
theorem dX11_init_218 : decode cX11_init 218 = .ok (.aload_n 0, 1) := by decide +kernel
theorem dX11_init_219 : decode cX11_init 219 = .ok (.bipush 60, 2) := by decide +kernel
theorem dX11_init_221 : decode cX11_init 221 = .ok (.newarray .int, 2) := by decide +kernel
theorem dX11_init_223 : decode cX11_init 223 = .ok (.putfield 87, 3) := by decide +kernel
theorem dX11_init_226 : decode cX11_init 226 = .ok (.aload_n 0, 1) := by decide +kernel
theorem dX11_init_227 : decode cX11_init 227 = .ok (.bipush 122, 2) := by decide +kernel
theorem dX11_init_229 : decode cX11_init 229 = .ok (.newarray .int, 2) := by decide +kernel
theorem dX11_init_231 : decode cX11_init 231 = .ok (.putfield 90, 3) := by decide +kernel
theorem dX11_init_234 : decode cX11_init 234 = .ok (.aload_n 0, 1) := by decide +kernel
theorem dX11_init_235 : decode cX11_init 235 = .ok (.bipush 122, 2) := by decide +kernel
theorem dX11_init_237 : decode cX11_init 237 = .ok (.newarray .int, 2) := by decide +kernel
theorem dX11_init_239 : decode cX11_init 239 = .ok (.putfield 93, 3) := by decide +kernel
theorem dX11_init_242 : decode cX11_init 242 = .ok (.aload_n 0, 1) := by decide +kernel
theorem dX11_init_243 : decode cX11_init 243 = .ok (.invokevirtual 96, 3) := by decide +kernel
theorem dX11_init_246 : decode cX11_init 246 = .ok (.return_, 1) := by decide +kernel
theorem dX11_thrown_0 : decode cX11_thrown 0 = .ok (.aload_n 0, 1) := by decide +kernel
theorem dX11_thrown_1 : decode cX11_thrown 1 = .ok (.getfield 99, 3) := by decide +kernel
theorem dX11_thrown_4 : decode cX11_thrown 4 = .ok (.ireturn, 1) := by decide +kernel
theorem dX11_isIn_0 : decode cX11_isIn 0 = .ok (.iload_n 0, 1) := by decide +kernel
theorem dX11_isIn_1 : decode cX11_isIn 1 = .ok (.ifCond .lt 12, 3) := by decide +kernel
theorem dX11_isIn_4 : decode cX11_isIn 4 = .ok (.iload_n 0, 1) := by decide +kernel
theorem dX11_isIn_5 : decode cX11_isIn 5 = .ok (.iload_n 1, 1) := by decide +kernel
theorem dX11_isIn_6 : decode cX11_isIn 6 = .ok (.if_icmp .ge 7, 3) := by decide +kernel
theorem dX11_isIn_9 : decode cX11_isIn 9 = .ok (.iconst 1, 1) := by decide +kernel
theorem dX11_isIn_10 : decode cX11_isIn 10 = .ok (.goto 4, 3) := by decide +kernel
theorem dX11_isIn_13 : decode cX11_isIn 13 = .ok (.iconst 0, 1) := by decide +kernel
theorem dX11_isIn_14 : decode cX11_isIn 14 = .ok (.ireturn, 1) := by decide +kernel
theorem dX11_changed_0 : decode cX11_changed 0 = .ok (.aload_n 0, 1) := by decide +kernel
theorem dX11_changed_1 : decode cX11_changed 1 = .ok (.iconst 0, 1) := by decide +kernel
theorem dX11_changed_2 : decode cX11_changed 2 = .ok (.putfield 103, 3) := by decide +kernel
theorem dX11_changed_5 : decode cX11_changed 5 = .ok (.aload_n 0, 1) := by decide +kernel
theorem dX11_changed_6 : decode cX11_changed 6 = .ok (.iconst 0, 1) := by decide +kernel
theorem dX11_changed_7 : decode cX11_changed 7 = .ok (.putfield 107, 3) := by decide +kernel
theorem dX11_changed_10 : decode cX11_changed 10 = .ok (.return_, 1) := by decide +kernel
set_option maxRecDepth 20000 in
theorem ggX11_input_X11_changed : GoodIn wsX11_input wsX11_changed := goodIn_r _ [10, 11, 12, 13, 14, 15, 16, 17, 18, 19, 20, 21, 22, 23, 24, 25, 26, 27, 28, 29, 30, 31, 32, 33, 34, 35, 36, 37, 38, 39, 40, 41, 42, 43, 44, 45, 46, 47, 48, 49, 50, 51, 52, 53, 54, 55] (by eq_refl) (by decide +kernel)
set_option maxRecDepth 20000 in
theorem gX11_input_X11_changed : GoodIn wsX11_input (wsV RX11 116 RX11 yX11_changed wsX11_changed) := goodIn_app (goodIn_r _ [6, 7, 8, 9] (by eq_refl) (by decide +kernel)) ggX11_input_X11_changed
theorem dX11_input_0 : decode cX11_input 0 = .ok (.aload_n 0, 1) := by decide +kernel
theorem dX11_input_1 : decode cX11_input 1 = .ok (.aload_n 0, 1) := by decide +kernel
theorem dX11_input_2 : decode cX11_input 2 = .ok (.getfield 110, 3) := by decide +kernel
theorem dX11_input_5 : decode cX11_input 5 = .ok (.bipush 32, 2) := by decide +kernel
theorem dX11_input_7 : decode cX11_input 7 = .ok (.if_icmp .ge 17, 3) := by decide +kernel
theorem dX11_input_10 : decode cX11_input 10 = .ok (.aload_n 0, 1) := by decide +kernel
theorem dX11_input_11 : decode cX11_input 11 = .ok (.getfield 113, 3) := by decide +kernel
theorem dX11_input_14 : decode cX11_input 14 = .ok (.sipush 200, 3) := by decide +kernel
theorem dX11_input_17 : decode cX11_input 17 = .ok (.if_icmp .ge 7, 3) := by decide +kernel
theorem dX11_input_20 : decode cX11_input 20 = .ok (.iconst 0, 1) := by decide +kernel
theorem dX11_input_21 : decode cX11_input 21 = .ok (.goto 4, 3) := by decide +kernel
theorem dX11_input_24 : decode cX11_input 24 = .ok (.iconst 1, 1) := by decide +kernel
theorem dX11_input_25 : decode cX11_input 25 = .ok (.putfield 99, 3) := by decide +kernel
theorem dX11_input_28 : decode cX11_input 28 = .ok (.aload_n 0, 1) := by decide +kernel
theorem dX11_input_29 : decode cX11_input 29 = .ok (.getfield 99, 3) := by decide +kernel
theorem dX11_input_32 : decode cX11_input 32 = .ok (.ifCond .le 5, 3) := by decide +kernel
theorem dX11_input_35 : decode cX11_input 35 = .ok (.iconst 0, 1) := by decide +kernel
theorem dX11_input_36 : decode cX11_input 36 = .ok (.ireturn, 1) := by decide +kernel
theorem dX11_input_37 : decode cX11_input 37 = .ok (.aload_n 0, 1) := by decide +kernel
theorem dX11_input_38 : decode cX11_input 38 = .ok (.getfield 7, 3) := by decide +kernel
theorem dX11_input_41 : decode cX11_input 41 = .ok (.aload_n 0, 1) := by decide +kernel
theorem dX11_input_42 : decode cX11_input 42 = .ok (.getfield 113, 3) := by decide +kernel
theorem dX11_input_45 : decode cX11_input 45 = .ok (.iconst (-1), 1) := by decide +kernel
theorem dX11_input_46 : decode cX11_input 46 = .ok (.iastore, 1) := by decide +kernel
theorem dX11_input_47 : decode cX11_input 47 = .ok (.aload_n 0, 1) := by decide +kernel
theorem dX11_input_48 : decode cX11_input 48 = .ok (.getfield 19, 3) := by decide +kernel
theorem dX11_input_51 : decode cX11_input 51 = .ok (.aload_n 0, 1) := by decide +kernel
theorem dX11_input_52 : decode cX11_input 52 = .ok (.getfield 113, 3) := by decide +kernel
theorem dX11_input_55 : decode cX11_input 55 = .ok (.lconst 0, 1) := by decide +kernel
theorem dX11_input_56 : decode cX11_input 56 = .ok (.lastore, 1) := by decide +kernel
theorem dX11_input_57 : decode cX11_input 57 = .ok (.aload_n 0, 1) := by decide +kernel
theorem dX11_input_58 : decode cX11_input 58 = .ok (.dup, 1) := by decide +kernel
theorem dX11_input_59 : decode cX11_input 59 = .ok (.getfield 110, 3) := by decide +kernel
theorem dX11_input_62 : decode cX11_input 62 = .ok (.iconst 1, 1) := by decide +kernel
theorem dX11_input_63 : decode cX11_input 63 = .ok (.iadd, 1) := by decide +kernel
theorem dX11_input_64 : decode cX11_input 64 = .ok (.putfield 110, 3) := by decide +kernel
theorem dX11_input_67 : decode cX11_input 67 = .ok (.aload_n 0, 1) := by decide +kernel
theorem dX11_input_68 : decode cX11_input 68 = .ok (.dup, 1) := by decide +kernel
theorem dX11_input_69 : decode cX11_input 69 = .ok (.getfield 113, 3) := by decide +kernel
theorem dX11_input_72 : decode cX11_input 72 = .ok (.iconst 1, 1) := by decide +kernel
theorem dX11_input_73 : decode cX11_input 73 = .ok (.iadd, 1) := by decide +kernel
theorem dX11_input_74 : decode cX11_input 74 = .ok (.putfield 113, 3) := by decide +kernel
theorem dX11_input_77 : decode cX11_input 77 = .ok (.aload_n 0, 1) := by decide +kernel
theorem dX11_input_78 : decode cX11_input 78 = .ok (.invokevirtual 116, 3) := by decide +kernel
theorem dX11_input_81 : decode cX11_input 81 = .ok (.aload_n 0, 1) := by decide +kernel
theorem dX11_input_82 : decode cX11_input 82 = .ok (.getfield 113, 3) := by decide +kernel
theorem dX11_input_85 : decode cX11_input 85 = .ok (.iconst 1, 1) := by decide +kernel
theorem dX11_input_86 : decode cX11_input 86 = .ok (.isub, 1) := by decide +kernel
theorem dX11_input_87 : decode cX11_input 87 = .ok (.ireturn, 1) := by decide +kernel
set_option maxRecDepth 20000 in
theorem ggX11_gate_X11_isIn : GoodIn wsX11_gate wsX11_isIn := goodIn_r _ [9] (by eq_refl) (by decide +kernel)
set_option maxRecDepth 20000 in
theorem gX11_gate_X11_isIn : GoodIn wsX11_gate (va_wsS RX11 119 yX11_isIn wsX11_isIn) := goodIn_app (goodIn_r _ [6, 7, 8] (by eq_refl) (by decide +kernel)) ggX11_gate_X11_isIn
set_option maxRecDepth 20000 in
theorem ggX11_gate_X11_changed : GoodIn wsX11_gate wsX11_changed := goodIn_r _ [13, 14, 15, 16, 17, 18, 19, 20, 21, 22, 23, 24, 25, 26, 27, 28, 29, 30, 31, 32, 33, 34, 35, 36, 37, 38, 39, 40, 41, 42, 43, 44, 45, 46, 47, 48, 49, 50, 51, 52, 53, 54, 55, 56, 57, 58] (by eq_refl) (by decide +kernel)
set_option maxRecDepth 20000 in
theorem gX11_gate_X11_changed : GoodIn wsX11_gate (wsV RX11 116 RX11 yX11_changed wsX11_changed) := goodIn_app (goodIn_r _ [10, 11, 12, 8] (by eq_refl) (by decide +kernel)) ggX11_gate_X11_changed
theorem dX11_gate_0 : decode cX11_gate 0 = .ok (.iload_n 1, 1) := by decide +kernel
theorem dX11_gate_1 : decode cX11_gate 1 = .ok (.iconst 5, 1) := by decide +kernel
theorem dX11_gate_2 : decode cX11_gate 2 = .ok (.if_icmp .eq 9, 3) := by decide +kernel
theorem dX11_gate_5 : decode cX11_gate 5 = .ok (.iload_n 1, 1) := by decide +kernel
theorem dX11_gate_6 : decode cX11_gate 6 = .ok (.bipush 6, 2) := by decide +kernel
theorem dX11_gate_8 : decode cX11_gate 8 = .ok (.if_icmp .ne 7, 3) := by decide +kernel
theorem dX11_gate_11 : decode cX11_gate 11 = .ok (.iconst 1, 1) := by decide +kernel
theorem dX11_gate_12 : decode cX11_gate 12 = .ok (.goto 4, 3) := by decide +kernel
theorem dX11_gate_15 : decode cX11_gate 15 = .ok (.iconst 0, 1) := by decide +kernel
theorem dX11_gate_16 : decode cX11_gate 16 = .ok (.istore 4, 2) := by decide +kernel
theorem dX11_gate_18 : decode cX11_gate 18 = .ok (.iload_n 2, 1) := by decide +kernel
theorem dX11_gate_19 : decode cX11_gate 19 = .ok (.aload_n 0, 1) := by decide +kernel
theorem dX11_gate_20 : decode cX11_gate 20 = .ok (.getfield 113, 3) := by decide +kernel
theorem dX11_gate_23 : decode cX11_gate 23 = .ok (.invokestatic 119, 3) := by decide +kernel
theorem dX11_gate_26 : decode cX11_gate 26 = .ok (.ifCond .eq 23, 3) := by decide +kernel
theorem dX11_gate_29 : decode cX11_gate 29 = .ok (.iload 4, 2) := by decide +kernel
theorem dX11_gate_31 : decode cX11_gate 31 = .ok (.ifCond .ne 14, 3) := by decide +kernel
theorem dX11_gate_34 : decode cX11_gate 34 = .ok (.iload_n 3, 1) := by decide +kernel
theorem dX11_gate_35 : decode cX11_gate 35 = .ok (.aload_n 0, 1) := by decide +kernel
theorem dX11_gate_36 : decode cX11_gate 36 = .ok (.getfield 113, 3) := by decide +kernel
theorem dX11_gate_39 : decode cX11_gate 39 = .ok (.invokestatic 119, 3) := by decide +kernel
theorem dX11_gate_42 : decode cX11_gate 42 = .ok (.ifCond .eq 7, 3) := by decide +kernel
theorem dX11_gate_45 : decode cX11_gate 45 = .ok (.iconst 1, 1) := by decide +kernel
theorem dX11_gate_46 : decode cX11_gate 46 = .ok (.goto 4, 3) := by decide +kernel
theorem dX11_gate_49 : decode cX11_gate 49 = .ok (.iconst 0, 1) := by decide +kernel
theorem dX11_gate_50 : decode cX11_gate 50 = .ok (.istore 5, 2) := by decide +kernel
theorem dX11_gate_52 : decode cX11_gate 52 = .ok (.aload_n 0, 1) := by decide +kernel
theorem dX11_gate_53 : decode cX11_gate 53 = .ok (.iload 5, 2) := by decide +kernel
theorem dX11_gate_55 : decode cX11_gate 55 = .ok (.ifCond .ne 7, 3) := by decide +kernel
theorem dX11_gate_58 : decode cX11_gate 58 = .ok (.iconst 1, 1) := by decide +kernel
theorem dX11_gate_59 : decode cX11_gate 59 = .ok (.goto 32, 3) := by decide +kernel
theorem dX11_gate_62 : decode cX11_gate 62 = .ok (.aload_n 0, 1) := by decide +kernel
theorem dX11_gate_63 : decode cX11_gate 63 = .ok (.getfield 113, 3) := by decide +kernel
theorem dX11_gate_66 : decode cX11_gate 66 = .ok (.sipush 200, 3) := by decide +kernel
theorem dX11_gate_69 : decode cX11_gate 69 = .ok (.if_icmp .ne 7, 3) := by decide +kernel
theorem dX11_gate_72 : decode cX11_gate 72 = .ok (.iconst 2, 1) := by decide +kernel
theorem dX11_gate_73 : decode cX11_gate 73 = .ok (.goto 18, 3) := by decide +kernel
theorem dX11_gate_76 : decode cX11_gate 76 = .ok (.iload_n 1, 1) := by decide +kernel
theorem dX11_gate_77 : decode cX11_gate 77 = .ok (.ifCond .lt 9, 3) := by decide +kernel
theorem dX11_gate_80 : decode cX11_gate 80 = .ok (.iload_n 1, 1) := by decide +kernel
theorem dX11_gate_81 : decode cX11_gate 81 = .ok (.bipush 6, 2) := by decide +kernel
theorem dX11_gate_83 : decode cX11_gate 83 = .ok (.if_icmp .le 7, 3) := by decide +kernel
theorem dX11_gate_86 : decode cX11_gate 86 = .ok (.iconst 3, 1) := by decide +kernel
theorem dX11_gate_87 : decode cX11_gate 87 = .ok (.goto 4, 3) := by decide +kernel
theorem dX11_gate_90 : decode cX11_gate 90 = .ok (.iconst 0, 1) := by decide +kernel
theorem dX11_gate_91 : decode cX11_gate 91 = .ok (.putfield 99, 3) := by decide +kernel
theorem dX11_gate_94 : decode cX11_gate 94 = .ok (.aload_n 0, 1) := by decide +kernel
theorem dX11_gate_95 : decode cX11_gate 95 = .ok (.getfield 99, 3) := by decide +kernel
theorem dX11_gate_98 : decode cX11_gate 98 = .ok (.ifCond .le 5, 3) := by decide +kernel
theorem dX11_gate_101 : decode cX11_gate 101 = .ok (.iconst 0, 1) := by decide +kernel
theorem dX11_gate_102 : decode cX11_gate 102 = .ok (.ireturn, 1) := by decide +kernel
theorem dX11_gate_103 : decode cX11_gate 103 = .ok (.aload_n 0, 1) := by decide +kernel
theorem dX11_gate_104 : decode cX11_gate 104 = .ok (.getfield 7, 3) := by decide +kernel
theorem dX11_gate_107 : decode cX11_gate 107 = .ok (.aload_n 0, 1) := by decide +kernel
theorem dX11_gate_108 : decode cX11_gate 108 = .ok (.getfield 113, 3) := by decide +kernel
theorem dX11_gate_111 : decode cX11_gate 111 = .ok (.iload_n 1, 1) := by decide +kernel
theorem dX11_gate_112 : decode cX11_gate 112 = .ok (.iastore, 1) := by decide +kernel
theorem dX11_gate_113 : decode cX11_gate 113 = .ok (.aload_n 0, 1) := by decide +kernel
theorem dX11_gate_114 : decode cX11_gate 114 = .ok (.getfield 13, 3) := by decide +kernel
theorem dX11_gate_117 : decode cX11_gate 117 = .ok (.aload_n 0, 1) := by decide +kernel
theorem dX11_gate_118 : decode cX11_gate 118 = .ok (.getfield 113, 3) := by decide +kernel
theorem dX11_gate_121 : decode cX11_gate 121 = .ok (.iload_n 2, 1) := by decide +kernel
theorem dX11_gate_122 : decode cX11_gate 122 = .ok (.iastore, 1) := by decide +kernel
theorem dX11_gate_123 : decode cX11_gate 123 = .ok (.aload_n 0, 1) := by decide +kernel
theorem dX11_gate_124 : decode cX11_gate 124 = .ok (.getfield 16, 3) := by decide +kernel
theorem dX11_gate_127 : decode cX11_gate 127 = .ok (.aload_n 0, 1) := by decide +kernel
theorem dX11_gate_128 : decode cX11_gate 128 = .ok (.getfield 113, 3) := by decide +kernel
theorem dX11_gate_131 : decode cX11_gate 131 = .ok (.iload 4, 2) := by decide +kernel
theorem dX11_gate_133 : decode cX11_gate 133 = .ok (.ifCond .eq 7, 3) := by decide +kernel
theorem dX11_gate_136 : decode cX11_gate 136 = .ok (.iload_n 2, 1) := by decide +kernel
theorem dX11_gate_137 : decode cX11_gate 137 = .ok (.goto 4, 3) := by decide +kernel
theorem dX11_gate_140 : decode cX11_gate 140 = .ok (.iload_n 3, 1) := by decide +kernel
theorem dX11_gate_141 : decode cX11_gate 141 = .ok (.iastore, 1) := by decide +kernel
theorem dX11_gate_142 : decode cX11_gate 142 = .ok (.aload_n 0, 1) := by decide +kernel
theorem dX11_gate_143 : decode cX11_gate 143 = .ok (.dup, 1) := by decide +kernel
theorem dX11_gate_144 : decode cX11_gate 144 = .ok (.getfield 113, 3) := by decide +kernel
theorem dX11_gate_147 : decode cX11_gate 147 = .ok (.iconst 1, 1) := by decide +kernel
theorem dX11_gate_148 : decode cX11_gate 148 = .ok (.iadd, 1) := by decide +kernel
theorem dX11_gate_149 : decode cX11_gate 149 = .ok (.putfield 113, 3) := by decide +kernel
theorem dX11_gate_152 : decode cX11_gate 152 = .ok (.aload_n 0, 1) := by decide +kernel
theorem dX11_gate_153 : decode cX11_gate 153 = .ok (.invokevirtual 116, 3) := by decide +kernel
theorem dX11_gate_156 : decode cX11_gate 156 = .ok (.aload_n 0, 1) := by decide +kernel
theorem dX11_gate_157 : decode cX11_gate 157 = .ok (.getfield 113, 3) := by decide +kernel
theorem dX11_gate_160 : decode cX11_gate 160 = .ok (.iconst 1, 1) := by decide +kernel
theorem dX11_gate_161 : decode cX11_gate 161 = .ok (.isub, 1) := by decide +kernel
theorem dX11_gate_162 : decode cX11_gate 162 = .ok (.ireturn, 1) := by decide +kernel
set_option maxRecDepth 20000 in
theorem ggX11_output_X11_isIn : GoodIn wsX11_output wsX11_isIn := goodIn_r _ [9] (by eq_refl) (by decide +kernel)
set_option maxRecDepth 20000 in
theorem gX11_output_X11_isIn : GoodIn wsX11_output (va_wsS RX11 119 yX11_isIn wsX11_isIn) := goodIn_app (goodIn_r _ [6, 7, 8] (by eq_refl) (by decide +kernel)) ggX11_output_X11_isIn
set_option maxRecDepth 20000 in
theorem ggX11_output_X11_changed : GoodIn wsX11_output wsX11_changed := goodIn_r _ [13, 14, 15, 16, 17, 18, 19, 20, 21, 22, 23, 24, 25, 26, 27, 28, 29, 30, 31, 32, 33, 34, 35, 36, 37, 38, 39, 40, 41, 42, 43, 44, 45, 46, 47, 48, 49, 50, 51, 52, 53, 54, 55, 56, 57, 58] (by eq_refl) (by decide +kernel)
set_option maxRecDepth 20000 in
theorem gX11_output_X11_changed : GoodIn wsX11_output (wsV RX11 116 RX11 yX11_changed wsX11_changed) := goodIn_app (goodIn_r _ [10, 11, 12, 8] (by eq_refl) (by decide +kernel)) ggX11_output_X11_changed
theorem dX11_output_0 : decode cX11_output 0 = .ok (.aload_n 0, 1) := by decide +kernel
theorem dX11_output_1 : decode cX11_output 1 = .ok (.iload_n 1, 1) := by decide +kernel
theorem dX11_output_2 : decode cX11_output 2 = .ok (.aload_n 0, 1) := by decide +kernel
theorem dX11_output_3 : decode cX11_output 3 = .ok (.getfield 113, 3) := by decide +kernel
theorem dX11_output_6 : decode cX11_output 6 = .ok (.invokestatic 119, 3) := by decide +kernel
theorem dX11_output_9 : decode cX11_output 9 = .ok (.ifCond .ne 7, 3) := by decide +kernel
theorem dX11_output_12 : decode cX11_output 12 = .ok (.iconst 1, 1) := by decide +kernel
theorem dX11_output_13 : decode cX11_output 13 = .ok (.goto 17, 3) := by decide +kernel
theorem dX11_output_16 : decode cX11_output 16 = .ok (.aload_n 0, 1) := by decide +kernel
theorem dX11_output_17 : decode cX11_output 17 = .ok (.getfield 123, 3) := by decide +kernel
theorem dX11_output_20 : decode cX11_output 20 = .ok (.bipush 32, 2) := by decide +kernel
theorem dX11_output_22 : decode cX11_output 22 = .ok (.if_icmp .ne 7, 3) := by decide +kernel
theorem dX11_output_25 : decode cX11_output 25 = .ok (.iconst 2, 1) := by decide +kernel
theorem dX11_output_26 : decode cX11_output 26 = .ok (.goto 4, 3) := by decide +kernel
theorem dX11_output_29 : decode cX11_output 29 = .ok (.iconst 0, 1) := by decide +kernel
theorem dX11_output_30 : decode cX11_output 30 = .ok (.putfield 99, 3) := by decide +kernel
theorem dX11_output_33 : decode cX11_output 33 = .ok (.aload_n 0, 1) := by decide +kernel
theorem dX11_output_34 : decode cX11_output 34 = .ok (.getfield 99, 3) := by decide +kernel
theorem dX11_output_37 : decode cX11_output 37 = .ok (.ifCond .le 5, 3) := by decide +kernel
theorem dX11_output_40 : decode cX11_output 40 = .ok (.iconst 0, 1) := by decide +kernel
theorem dX11_output_41 : decode cX11_output 41 = .ok (.ireturn, 1) := by decide +kernel
theorem dX11_output_42 : decode cX11_output 42 = .ok (.aload_n 0, 1) := by decide +kernel
theorem dX11_output_43 : decode cX11_output 43 = .ok (.getfield 23, 3) := by decide +kernel
theorem dX11_output_46 : decode cX11_output 46 = .ok (.aload_n 0, 1) := by decide +kernel
theorem dX11_output_47 : decode cX11_output 47 = .ok (.getfield 123, 3) := by decide +kernel
theorem dX11_output_50 : decode cX11_output 50 = .ok (.iload_n 1, 1) := by decide +kernel
theorem dX11_output_51 : decode cX11_output 51 = .ok (.iastore, 1) := by decide +kernel
theorem dX11_output_52 : decode cX11_output 52 = .ok (.aload_n 0, 1) := by decide +kernel
theorem dX11_output_53 : decode cX11_output 53 = .ok (.getfield 26, 3) := by decide +kernel
theorem dX11_output_56 : decode cX11_output 56 = .ok (.aload_n 0, 1) := by decide +kernel
theorem dX11_output_57 : decode cX11_output 57 = .ok (.getfield 123, 3) := by decide +kernel
theorem dX11_output_60 : decode cX11_output 60 = .ok (.lconst 0, 1) := by decide +kernel
theorem dX11_output_61 : decode cX11_output 61 = .ok (.lastore, 1) := by decide +kernel
theorem dX11_output_62 : decode cX11_output 62 = .ok (.aload_n 0, 1) := by decide +kernel
theorem dX11_output_63 : decode cX11_output 63 = .ok (.dup, 1) := by decide +kernel
theorem dX11_output_64 : decode cX11_output 64 = .ok (.getfield 123, 3) := by decide +kernel
theorem dX11_output_67 : decode cX11_output 67 = .ok (.iconst 1, 1) := by decide +kernel
theorem dX11_output_68 : decode cX11_output 68 = .ok (.iadd, 1) := by decide +kernel
theorem dX11_output_69 : decode cX11_output 69 = .ok (.putfield 123, 3) := by decide +kernel
theorem dX11_output_72 : decode cX11_output 72 = .ok (.aload_n 0, 1) := by decide +kernel
theorem dX11_output_73 : decode cX11_output 73 = .ok (.invokevirtual 116, 3) := by decide +kernel
theorem dX11_output_76 : decode cX11_output 76 = .ok (.aload_n 0, 1) := by decide +kernel
theorem dX11_output_77 : decode cX11_output 77 = .ok (.getfield 123, 3) := by decide +kernel
theorem dX11_output_80 : decode cX11_output 80 = .ok (.iconst 1, 1) := by decide +kernel
theorem dX11_output_81 : decode cX11_output 81 = .ok (.isub, 1) := by decide +kernel
theorem dX11_output_82 : decode cX11_output 82 = .ok (.ireturn, 1) := by decide +kernel
set_option maxRecDepth 20000 in
theorem ggX11_patterns_X11_changed : GoodIn wsX11_patterns wsX11_changed := goodIn_r _ [7, 8, 9, 10, 11, 12, 13, 14, 15, 16, 17, 18, 19, 20, 21, 22, 23, 24, 25, 26, 27, 28, 29, 30, 31, 32, 33, 34, 35, 36, 37, 38, 39, 40, 41, 42, 43, 44, 45, 46, 47, 48, 49, 50, 51, 52] (by eq_refl) (by decide +kernel)
set_option maxRecDepth 20000 in
theorem gX11_patterns_X11_changed : GoodIn wsX11_patterns (wsV RX11 116 RX11 yX11_changed wsX11_changed) := goodIn_app (goodIn_r _ [3, 4, 5, 6] (by eq_refl) (by decide +kernel)) ggX11_patterns_X11_changed
theorem dX11_patterns_0 : decode cX11_patterns 0 = .ok (.aload_n 0, 1) := by decide +kernel
theorem dX11_patterns_1 : decode cX11_patterns 1 = .ok (.iload_n 1, 1) := by decide +kernel
theorem dX11_patterns_2 : decode cX11_patterns 2 = .ok (.ifCond .lt 13, 3) := by decide +kernel
theorem dX11_patterns_5 : decode cX11_patterns 5 = .ok (.iload_n 1, 1) := by decide +kernel
theorem dX11_patterns_6 : decode cX11_patterns 6 = .ok (.bipush 64, 2) := by decide +kernel
theorem dX11_patterns_8 : decode cX11_patterns 8 = .ok (.if_icmp .gt 7, 3) := by decide +kernel
theorem dX11_patterns_11 : decode cX11_patterns 11 = .ok (.iconst 0, 1) := by decide +kernel
theorem dX11_patterns_12 : decode cX11_patterns 12 = .ok (.goto 4, 3) := by decide +kernel
theorem dX11_patterns_15 : decode cX11_patterns 15 = .ok (.iconst 1, 1) := by decide +kernel
theorem dX11_patterns_16 : decode cX11_patterns 16 = .ok (.putfield 99, 3) := by decide +kernel
theorem dX11_patterns_19 : decode cX11_patterns 19 = .ok (.aload_n 0, 1) := by decide +kernel
theorem dX11_patterns_20 : decode cX11_patterns 20 = .ok (.getfield 99, 3) := by decide +kernel
theorem dX11_patterns_23 : decode cX11_patterns 23 = .ok (.ifCond .le 5, 3) := by decide +kernel
theorem dX11_patterns_26 : decode cX11_patterns 26 = .ok (.iconst 0, 1) := by decide +kernel
theorem dX11_patterns_27 : decode cX11_patterns 27 = .ok (.ireturn, 1) := by decide +kernel
theorem dX11_patterns_28 : decode cX11_patterns 28 = .ok (.aload_n 0, 1) := by decide +kernel
theorem dX11_patterns_29 : decode cX11_patterns 29 = .ok (.getfield 126, 3) := by decide +kernel
theorem dX11_patterns_32 : decode cX11_patterns 32 = .ok (.istore_n 2, 1) := by decide +kernel
theorem dX11_patterns_33 : decode cX11_patterns 33 = .ok (.aload_n 0, 1) := by decide +kernel
theorem dX11_patterns_34 : decode cX11_patterns 34 = .ok (.iload_n 1, 1) := by decide +kernel
theorem dX11_patterns_35 : decode cX11_patterns 35 = .ok (.putfield 126, 3) := by decide +kernel
theorem dX11_patterns_38 : decode cX11_patterns 38 = .ok (.aload_n 0, 1) := by decide +kernel
theorem dX11_patterns_39 : decode cX11_patterns 39 = .ok (.invokevirtual 116, 3) := by decide +kernel
theorem dX11_patterns_42 : decode cX11_patterns 42 = .ok (.iload_n 2, 1) := by decide +kernel
theorem dX11_patterns_43 : decode cX11_patterns 43 = .ok (.ireturn, 1) := by decide +kernel
theorem dX11_mask_0 : decode cX11_mask 0 = .ok (.aload_n 0, 1) := by decide +kernel
theorem dX11_mask_1 : decode cX11_mask 1 = .ok (.getfield 126, 3) := by decide +kernel
theorem dX11_mask_4 : decode cX11_mask 4 = .ok (.bipush 64, 2) := by decide +kernel
theorem dX11_mask_6 : decode cX11_mask 6 = .ok (.if_icmp .ne 9, 3) := by decide +kernel
theorem dX11_mask_9 : decode cX11_mask 9 = .ok (.ldc2_w 129, 3) := by decide +kernel
theorem dX11_mask_12 : decode cX11_mask 12 = .ok (.goto 11, 3) := by decide +kernel
theorem dX11_mask_15 : decode cX11_mask 15 = .ok (.lconst 1, 1) := by decide +kernel
theorem dX11_mask_16 : decode cX11_mask 16 = .ok (.aload_n 0, 1) := by decide +kernel
theorem dX11_mask_17 : decode cX11_mask 17 = .ok (.getfield 126, 3) := by decide +kernel
theorem dX11_mask_20 : decode cX11_mask 20 = .ok (.lshl, 1) := by decide +kernel
theorem dX11_mask_21 : decode cX11_mask 21 = .ok (.lconst 1, 1) := by decide +kernel
theorem dX11_mask_22 : decode cX11_mask 22 = .ok (.lsub, 1) := by decide +kernel
theorem dX11_mask_23 : decode cX11_mask 23 = .ok (.lreturn, 1) := by decide +kernel
set_option maxRecDepth 20000 in
theorem ggX11_pattern_X11_isIn : GoodIn wsX11_pattern wsX11_isIn := goodIn_r _ [8] (by eq_refl) (by decide +kernel)
set_option maxRecDepth 20000 in
theorem gX11_pattern_X11_isIn : GoodIn wsX11_pattern (va_wsS RX11 119 yX11_isIn wsX11_isIn) := goodIn_app (goodIn_r _ [5, 6, 7] (by eq_refl) (by decide +kernel)) ggX11_pattern_X11_isIn
set_option maxRecDepth 20000 in
theorem ggX11_pattern_X11_changed : GoodIn wsX11_pattern wsX11_changed := goodIn_r _ [12, 13, 14, 15, 16, 17, 18, 19, 20, 21, 22, 23, 24, 25, 26, 27, 28, 29, 30, 31, 32, 33, 34, 35, 36, 37, 38, 39, 40, 41, 42, 43, 44, 45, 46, 47, 48, 49, 50, 51, 52, 53, 54, 55, 56, 57] (by eq_refl) (by decide +kernel)
set_option maxRecDepth 20000 in
theorem gX11_pattern_X11_changed : GoodIn wsX11_pattern (wsV RX11 116 RX11 yX11_changed wsX11_changed) := goodIn_app (goodIn_r _ [9, 10, 11, 7] (by eq_refl) (by decide +kernel)) ggX11_pattern_X11_changed
theorem dX11_pattern_0 : decode cX11_pattern 0 = .ok (.aload_n 0, 1) := by decide +kernel
theorem dX11_pattern_1 : decode cX11_pattern 1 = .ok (.iload_n 1, 1) := by decide +kernel
theorem dX11_pattern_2 : decode cX11_pattern 2 = .ok (.aload_n 0, 1) := by decide +kernel
theorem dX11_pattern_3 : decode cX11_pattern 3 = .ok (.getfield 113, 3) := by decide +kernel
theorem dX11_pattern_6 : decode cX11_pattern 6 = .ok (.invokestatic 119, 3) := by decide +kernel
theorem dX11_pattern_9 : decode cX11_pattern 9 = .ok (.ifCond .eq 17, 3) := by decide +kernel
theorem dX11_pattern_12 : decode cX11_pattern 12 = .ok (.aload_n 0, 1) := by decide +kernel
theorem dX11_pattern_13 : decode cX11_pattern 13 = .ok (.getfield 7, 3) := by decide +kernel
theorem dX11_pattern_16 : decode cX11_pattern 16 = .ok (.iload_n 1, 1) := by decide +kernel
theorem dX11_pattern_17 : decode cX11_pattern 17 = .ok (.iaload, 1) := by decide +kernel
theorem dX11_pattern_18 : decode cX11_pattern 18 = .ok (.iconst (-1), 1) := by decide +kernel
theorem dX11_pattern_19 : decode cX11_pattern 19 = .ok (.if_icmp .ne 7, 3) := by decide +kernel
theorem dX11_pattern_22 : decode cX11_pattern 22 = .ok (.iconst 0, 1) := by decide +kernel
theorem dX11_pattern_23 : decode cX11_pattern 23 = .ok (.goto 4, 3) := by decide +kernel
theorem dX11_pattern_26 : decode cX11_pattern 26 = .ok (.iconst 1, 1) := by decide +kernel
theorem dX11_pattern_27 : decode cX11_pattern 27 = .ok (.putfield 99, 3) := by decide +kernel
theorem dX11_pattern_30 : decode cX11_pattern 30 = .ok (.aload_n 0, 1) := by decide +kernel
theorem dX11_pattern_31 : decode cX11_pattern 31 = .ok (.getfield 99, 3) := by decide +kernel
theorem dX11_pattern_34 : decode cX11_pattern 34 = .ok (.ifCond .le 5, 3) := by decide +kernel
theorem dX11_pattern_37 : decode cX11_pattern 37 = .ok (.lconst 0, 1) := by decide +kernel
theorem dX11_pattern_38 : decode cX11_pattern 38 = .ok (.lreturn, 1) := by decide +kernel
theorem dX11_pattern_39 : decode cX11_pattern 39 = .ok (.aload_n 0, 1) := by decide +kernel
theorem dX11_pattern_40 : decode cX11_pattern 40 = .ok (.getfield 19, 3) := by decide +kernel
theorem dX11_pattern_43 : decode cX11_pattern 43 = .ok (.iload_n 1, 1) := by decide +kernel
theorem dX11_pattern_44 : decode cX11_pattern 44 = .ok (.laload, 1) := by decide +kernel
theorem dX11_pattern_45 : decode cX11_pattern 45 = .ok (.lstore 4, 2) := by decide +kernel
theorem dX11_pattern_47 : decode cX11_pattern 47 = .ok (.aload_n 0, 1) := by decide +kernel
theorem dX11_pattern_48 : decode cX11_pattern 48 = .ok (.getfield 19, 3) := by decide +kernel
theorem dX11_pattern_51 : decode cX11_pattern 51 = .ok (.iload_n 1, 1) := by decide +kernel
theorem dX11_pattern_52 : decode cX11_pattern 52 = .ok (.lload_n 2, 1) := by decide +kernel
theorem dX11_pattern_53 : decode cX11_pattern 53 = .ok (.lastore, 1) := by decide +kernel
theorem dX11_pattern_54 : decode cX11_pattern 54 = .ok (.aload_n 0, 1) := by decide +kernel
theorem dX11_pattern_55 : decode cX11_pattern 55 = .ok (.invokevirtual 116, 3) := by decide +kernel
theorem dX11_pattern_58 : decode cX11_pattern 58 = .ok (.lload 4, 2) := by decide +kernel
theorem dX11_pattern_60 : decode cX11_pattern 60 = .ok (.lreturn, 1) := by decide +kernel
theorem dX11_tell_0 : decode cX11_tell 0 = .ok (.iload_n 0, 1) := by decide +kernel
theorem dX11_tell_1 : decode cX11_tell 1 = .ok (.tableswitch 73 0 5 #[39, 43, 47, 51, 59, 67], 39) := by decide +kernel
theorem dX11_tell_40 : decode cX11_tell 40 = .ok (.lload_n 1, 1) := by decide +kernel
theorem dX11_tell_41 : decode cX11_tell 41 = .ok (.lload_n 3, 1) := by decide +kernel
theorem dX11_tell_42 : decode cX11_tell 42 = .ok (.land, 1) := by decide +kernel
theorem dX11_tell_43 : decode cX11_tell 43 = .ok (.lreturn, 1) := by decide +kernel
theorem dX11_tell_44 : decode cX11_tell 44 = .ok (.lload_n 1, 1) := by decide +kernel
theorem dX11_tell_45 : decode cX11_tell 45 = .ok (.lload_n 3, 1) := by decide +kernel
theorem dX11_tell_46 : decode cX11_tell 46 = .ok (.lor, 1) := by decide +kernel
theorem dX11_tell_47 : decode cX11_tell 47 = .ok (.lreturn, 1) := by decide +kernel
theorem dX11_tell_48 : decode cX11_tell 48 = .ok (.lload_n 1, 1) := by decide +kernel
theorem dX11_tell_49 : decode cX11_tell 49 = .ok (.lload_n 3, 1) := by decide +kernel
theorem dX11_tell_50 : decode cX11_tell 50 = .ok (.lxor, 1) := by decide +kernel
theorem dX11_tell_51 : decode cX11_tell 51 = .ok (.lreturn, 1) := by decide +kernel
theorem dX11_tell_52 : decode cX11_tell 52 = .ok (.lload_n 1, 1) := by decide +kernel
theorem dX11_tell_53 : decode cX11_tell 53 = .ok (.lload_n 3, 1) := by decide +kernel
theorem dX11_tell_54 : decode cX11_tell 54 = .ok (.land, 1) := by decide +kernel
theorem dX11_tell_55 : decode cX11_tell 55 = .ok (.ldc2_w 129, 3) := by decide +kernel
theorem dX11_tell_58 : decode cX11_tell 58 = .ok (.lxor, 1) := by decide +kernel
theorem dX11_tell_59 : decode cX11_tell 59 = .ok (.lreturn, 1) := by decide +kernel
theorem dX11_tell_60 : decode cX11_tell 60 = .ok (.lload_n 1, 1) := by decide +kernel
theorem dX11_tell_61 : decode cX11_tell 61 = .ok (.lload_n 3, 1) := by decide +kernel
theorem dX11_tell_62 : decode cX11_tell 62 = .ok (.lor, 1) := by decide +kernel
theorem dX11_tell_63 : decode cX11_tell 63 = .ok (.ldc2_w 129, 3) := by decide +kernel
theorem dX11_tell_66 : decode cX11_tell 66 = .ok (.lxor, 1) := by decide +kernel
theorem dX11_tell_67 : decode cX11_tell 67 = .ok (.lreturn, 1) := by decide +kernel
theorem dX11_tell_68 : decode cX11_tell 68 = .ok (.lload_n 1, 1) := by decide +kernel
theorem dX11_tell_69 : decode cX11_tell 69 = .ok (.ldc2_w 129, 3) := by decide +kernel
theorem dX11_tell_72 : decode cX11_tell 72 = .ok (.lxor, 1) := by decide +kernel
theorem dX11_tell_73 : decode cX11_tell 73 = .ok (.lreturn, 1) := by decide +kernel
theorem dX11_tell_74 : decode cX11_tell 74 = .ok (.lload_n 1, 1) := by decide +kernel
theorem dX11_tell_75 : decode cX11_tell 75 = .ok (.lreturn, 1) := by decide +kernel
set_option maxRecDepth 20000 in
theorem ggX11_own_X11_tell : GoodIn wsX11_own wsX11_tell := goodIn_r _ [8, 9] (by eq_refl) (by decide +kernel)
set_option maxRecDepth 20000 in
theorem gX11_own_X11_tell : GoodIn wsX11_own (va_wsS RX11 131 yX11_tell wsX11_tell) := goodIn_app (goodIn_r _ [5, 6, 7] (by eq_refl) (by decide +kernel)) ggX11_own_X11_tell
set_option maxRecDepth 20000 in
theorem ggX11_own_X11_mask : GoodIn wsX11_own wsX11_mask := goodIn_r _ [13, 14, 9, 15, 16, 17, 18, 19, 20, 21, 22, 23, 24, 25, 26, 27, 28, 29, 30, 31, 32, 33, 34, 35, 36, 37, 38, 39, 40, 41, 42, 43, 44, 45, 46, 47, 48, 49, 50, 51, 52, 53, 54, 55, 56, 57] (by eq_refl) (by decide +kernel)
set_option maxRecDepth 20000 in
theorem gX11_own_X11_mask : GoodIn wsX11_own (wsV RX11 135 RX11 yX11_mask wsX11_mask) := goodIn_app (goodIn_r _ [10, 11, 12, 7] (by eq_refl) (by decide +kernel)) ggX11_own_X11_mask
theorem dX11_own_0 : decode cX11_own 0 = .ok (.aload_n 0, 1) := by decide +kernel
theorem dX11_own_1 : decode cX11_own 1 = .ok (.getfield 7, 3) := by decide +kernel
theorem dX11_own_4 : decode cX11_own 4 = .ok (.iload_n 1, 1) := by decide +kernel
theorem dX11_own_5 : decode cX11_own 5 = .ok (.iaload, 1) := by decide +kernel
theorem dX11_own_6 : decode cX11_own 6 = .ok (.iconst (-1), 1) := by decide +kernel
theorem dX11_own_7 : decode cX11_own 7 = .ok (.if_icmp .ne 12, 3) := by decide +kernel
