abbrev b_MO_init : ByteArray := prog_12_method_1_code
def y_MO_init : MethodName := ⟨"ExploreSharesModel", "<init>", "(II)V"⟩
def w_MO_init : List Cond := .code y_MO_init b_MO_init 3 (none) :: xU
theorem d_MO_init_0 : decode b_MO_init 0 = .ok (.aload_n 0, 1) := by decide +kernel
theorem d_MO_init_1 : decode b_MO_init 1 = .ok (.invokespecial 1, 3) := by decide +kernel
theorem d_MO_init_4 : decode b_MO_init 4 = .ok (.aload_n 0, 1) := by decide +kernel
theorem d_MO_init_5 : decode b_MO_init 5 = .ok (.sipush 600, 3) := by decide +kernel
theorem d_MO_init_8 : decode b_MO_init 8 = .ok (.newarray .int, 2) := by decide +kernel
theorem d_MO_init_10 : decode b_MO_init 10 = .ok (.putfield 7, 3) := by decide +kernel
theorem d_MO_init_13 : decode b_MO_init 13 = .ok (.aload_n 0, 1) := by decide +kernel
theorem d_MO_init_14 : decode b_MO_init 14 = .ok (.sipush 600, 3) := by decide +kernel
theorem d_MO_init_17 : decode b_MO_init 17 = .ok (.newarray .int, 2) := by decide +kernel
theorem d_MO_init_19 : decode b_MO_init 19 = .ok (.putfield 13, 3) := by decide +kernel
theorem d_MO_init_22 : decode b_MO_init 22 = .ok (.aload_n 0, 1) := by decide +kernel
theorem d_MO_init_23 : decode b_MO_init 23 = .ok (.bipush 20, 2) := by decide +kernel
theorem d_MO_init_25 : decode b_MO_init 25 = .ok (.newarray .int, 2) := by decide +kernel
theorem d_MO_init_27 : decode b_MO_init 27 = .ok (.putfield 16, 3) := by decide +kernel
theorem d_MO_init_30 : decode b_MO_init 30 = .ok (.aload_n 0, 1) := by decide +kernel
theorem d_MO_init_31 : decode b_MO_init 31 = .ok (.bipush 20, 2) := by decide +kernel
theorem d_MO_init_33 : decode b_MO_init 33 = .ok (.newarray .int, 2) := by decide +kernel
theorem d_MO_init_35 : decode b_MO_init 35 = .ok (.putfield 19, 3) := by decide +kernel
theorem d_MO_init_38 : decode b_MO_init 38 = .ok (.aload_n 0, 1) := by decide +kernel
theorem d_MO_init_39 : decode b_MO_init 39 = .ok (.bipush 20, 2) := by decide +kernel
theorem d_MO_init_41 : decode b_MO_init 41 = .ok (.newarray .int, 2) := by decide +kernel
theorem d_MO_init_43 : decode b_MO_init 43 = .ok (.putfield 22, 3) := by decide +kernel
theorem d_MO_init_46 : decode b_MO_init 46 = .ok (.aload_n 0, 1) := by decide +kernel
theorem d_MO_init_47 : decode b_MO_init 47 = .ok (.sipush 200, 3) := by decide +kernel
theorem d_MO_init_50 : decode b_MO_init 50 = .ok (.newarray .int, 2) := by decide +kernel
theorem d_MO_init_52 : decode b_MO_init 52 = .ok (.putfield 25, 3) := by decide +kernel
theorem d_MO_init_55 : decode b_MO_init 55 = .ok (.aload_n 0, 1) := by decide +kernel
theorem d_MO_init_56 : decode b_MO_init 56 = .ok (.sipush 200, 3) := by decide +kernel
theorem d_MO_init_59 : decode b_MO_init 59 = .ok (.newarray .int, 2) := by decide +kernel
theorem d_MO_init_61 : decode b_MO_init 61 = .ok (.putfield 28, 3) := by decide +kernel
theorem d_MO_init_64 : decode b_MO_init 64 = .ok (.aload_n 0, 1) := by decide +kernel
theorem d_MO_init_65 : decode b_MO_init 65 = .ok (.sipush 201, 3) := by decide +kernel
theorem d_MO_init_68 : decode b_MO_init 68 = .ok (.newarray .int, 2) := by decide +kernel
theorem d_MO_init_70 : decode b_MO_init 70 = .ok (.putfield 31, 3) := by decide +kernel
theorem d_MO_init_73 : decode b_MO_init 73 = .ok (.aload_n 0, 1) := by decide +kernel
theorem d_MO_init_74 : decode b_MO_init 74 = .ok (.sipush 200, 3) := by decide +kernel
theorem d_MO_init_77 : decode b_MO_init 77 = .ok (.newarray .boolean, 2) := by decide +kernel
theorem d_MO_init_79 : decode b_MO_init 79 = .ok (.putfield 34, 3) := by decide +kernel
theorem d_MO_init_82 : decode b_MO_init 82 = .ok (.aload_n 0, 1) := by decide +kernel
theorem d_MO_init_83 : decode b_MO_init 83 = .ok (.bipush 16, 2) := by decide +kernel
theorem d_MO_init_85 : decode b_MO_init 85 = .ok (.newarray .boolean, 2) := by decide +kernel
theorem d_MO_init_87 : decode b_MO_init 87 = .ok (.putfield 38, 3) := by decide +kernel
theorem d_MO_init_90 : decode b_MO_init 90 = .ok (.aload_n 0, 1) := by decide +kernel
theorem d_MO_init_91 : decode b_MO_init 91 = .ok (.bipush 16, 2) := by decide +kernel
theorem d_MO_init_93 : decode b_MO_init 93 = .ok (.newarray .boolean, 2) := by decide +kernel
theorem d_MO_init_95 : decode b_MO_init 95 = .ok (.putfield 41, 3) := by decide +kernel
theorem d_MO_init_98 : decode b_MO_init 98 = .ok (.aload_n 0, 1) := by decide +kernel
theorem d_MO_init_99 : decode b_MO_init 99 = .ok (.bipush 16, 2) := by decide +kernel
theorem d_MO_init_101 : decode b_MO_init 101 = .ok (.newarray .int, 2) := by decide +kernel
theorem d_MO_init_103 : decode b_MO_init 103 = .ok (.putfield 44, 3) := by decide +kernel
theorem d_MO_init_106 : decode b_MO_init 106 = .ok (.aload_n 0, 1) := by decide +kernel
theorem d_MO_init_107 : decode b_MO_init 107 = .ok (.bipush 16, 2) := by decide +kernel
theorem d_MO_init_109 : decode b_MO_init 109 = .ok (.newarray .int, 2) := by decide +kernel
theorem d_MO_init_111 : decode b_MO_init 111 = .ok (.putfield 47, 3) := by decide +kernel
theorem d_MO_init_114 : decode b_MO_init 114 = .ok (.aload_n 0, 1) := by decide +kernel
theorem d_MO_init_115 : decode b_MO_init 115 = .ok (.bipush 16, 2) := by decide +kernel
theorem d_MO_init_117 : decode b_MO_init 117 = .ok (.newarray .int, 2) := by decide +kernel
theorem d_MO_init_119 : decode b_MO_init 119 = .ok (.putfield 50, 3) := by decide +kernel
theorem d_MO_init_122 : decode b_MO_init 122 = .ok (.aload_n 0, 1) := by decide +kernel
theorem d_MO_init_123 : decode b_MO_init 123 = .ok (.bipush 16, 2) := by decide +kernel
theorem d_MO_init_125 : decode b_MO_init 125 = .ok (.newarray .int, 2) := by decide +kernel
theorem d_MO_init_127 : decode b_MO_init 127 = .ok (.putfield 53, 3) := by decide +kernel
theorem d_MO_init_130 : decode b_MO_init 130 = .ok (.aload_n 0, 1) := by decide +kernel
theorem d_MO_init_131 : decode b_MO_init 131 = .ok (.bipush 16, 2) := by decide +kernel
theorem d_MO_init_133 : decode b_MO_init 133 = .ok (.newarray .int, 2) := by decide +kernel
theorem d_MO_init_135 : decode b_MO_init 135 = .ok (.putfield 56, 3) := by decide +kernel
theorem d_MO_init_138 : decode b_MO_init 138 = .ok (.aload_n 0, 1) := by decide +kernel
theorem d_MO_init_139 : decode b_MO_init 139 = .ok (.bipush 16, 2) := by decide +kernel
theorem d_MO_init_141 : decode b_MO_init 141 = .ok (.newarray .int, 2) := by decide +kernel
theorem d_MO_init_143 : decode b_MO_init 143 = .ok (.putfield 59, 3) := by decide +kernel
theorem d_MO_init_146 : decode b_MO_init 146 = .ok (.aload_n 0, 1) := by decide +kernel
theorem d_MO_init_147 : decode b_MO_init 147 = .ok (.bipush 16, 2) := by decide +kernel
theorem d_MO_init_149 : decode b_MO_init 149 = .ok (.newarray .int, 2) := by decide +kernel
theorem d_MO_init_151 : decode b_MO_init 151 = .ok (.putfield 62, 3) := by decide +kernel
theorem d_MO_init_154 : decode b_MO_init 154 = .ok (.aload_n 0, 1) := by decide +kernel
theorem d_MO_init_155 : decode b_MO_init 155 = .ok (.sipush 128, 3) := by decide +kernel
theorem d_MO_init_158 : decode b_MO_init 158 = .ok (.newarray .int, 2) := by decide +kernel
theorem d_MO_init_160 : decode b_MO_init 160 = .ok (.putfield 65, 3) := by decide +kernel
theorem d_MO_init_163 : decode b_MO_init 163 = .ok (.aload_n 0, 1) := by decide +kernel
theorem d_MO_init_164 : decode b_MO_init 164 = .ok (.bipush 16, 2) := by decide +kernel
theorem d_MO_init_166 : decode b_MO_init 166 = .ok (.newarray .int, 2) := by decide +kernel
theorem d_MO_init_168 : decode b_MO_init 168 = .ok (.putfield 68, 3) := by decide +kernel
theorem d_MO_init_171 : decode b_MO_init 171 = .ok (.aload_n 0, 1) := by decide +kernel
theorem d_MO_init_172 : decode b_MO_init 172 = .ok (.bipush 16, 2) := by decide +kernel
theorem d_MO_init_174 : decode b_MO_init 174 = .ok (.newarray .int, 2) := by decide +kernel
theorem d_MO_init_176 : decode b_MO_init 176 = .ok (.putfield 71, 3) := by decide +kernel
theorem d_MO_init_179 : decode b_MO_init 179 = .ok (.aload_n 0, 1) := by decide +kernel
theorem d_MO_init_180 : decode b_MO_init 180 = .ok (.bipush 16, 2) := by decide +kernel
theorem d_MO_init_182 : decode b_MO_init 182 = .ok (.newarray .int, 2) := by decide +kernel
theorem d_MO_init_184 : decode b_MO_init 184 = .ok (.putfield 74, 3) := by decide +kernel
theorem d_MO_init_187 : decode b_MO_init 187 = .ok (.aload_n 0, 1) := by decide +kernel
theorem d_MO_init_188 : decode b_MO_init 188 = .ok (.sipush 200, 3) := by decide +kernel
theorem d_MO_init_191 : decode b_MO_init 191 = .ok (.newarray .boolean, 2) := by decide +kernel
theorem d_MO_init_193 : decode b_MO_init 193 = .ok (.putfield 77, 3) := by decide +kernel
theorem d_MO_init_196 : decode b_MO_init 196 = .ok (.aload_n 0, 1) := by decide +kernel
theorem d_MO_init_197 : decode b_MO_init 197 = .ok (.iconst 1, 1) := by decide +kernel
theorem d_MO_init_198 : decode b_MO_init 198 = .ok (.iload_n 1, 1) := by decide +kernel
theorem d_MO_init_199 : decode b_MO_init 199 = .ok (.iconst 1, 1) := by decide +kernel
theorem d_MO_init_200 : decode b_MO_init 200 = .ok (.isub, 1) := by decide +kernel
theorem d_MO_init_201 : decode b_MO_init 201 = .ok (.bipush 15, 2) := by decide +kernel
theorem d_MO_init_203 : decode b_MO_init 203 = .ok (.iand, 1) := by decide +kernel
theorem d_MO_init_204 : decode b_MO_init 204 = .ok (.iadd, 1) := by decide +kernel
theorem d_MO_init_205 : decode b_MO_init 205 = .ok (.putfield 80, 3) := by decide +kernel
theorem d_MO_init_208 : decode b_MO_init 208 = .ok (.aload_n 0, 1) := by decide +kernel
theorem d_MO_init_209 : decode b_MO_init 209 = .ok (.iconst 1, 1) := by decide +kernel
theorem d_MO_init_210 : decode b_MO_init 210 = .ok (.iload_n 2, 1) := by decide +kernel
theorem d_MO_init_211 : decode b_MO_init 211 = .ok (.iconst 1, 1) := by decide +kernel
theorem d_MO_init_212 : decode b_MO_init 212 = .ok (.isub, 1) := by decide +kernel
theorem d_MO_init_213 : decode b_MO_init 213 = .ok (.bipush 7, 2) := by decide +kernel
theorem d_MO_init_215 : decode b_MO_init 215 = .ok (.iand, 1) := by decide +kernel
theorem d_MO_init_216 : decode b_MO_init 216 = .ok (.iadd, 1) := by decide +kernel
theorem d_MO_init_217 : decode b_MO_init 217 = .ok (.putfield 84, 3) := by decide +kernel
theorem d_MO_init_220 : decode b_MO_init 220 = .ok (.aload_n 0, 1) := by decide +kernel
theorem d_MO_init_221 : decode b_MO_init 221 = .ok (.invokevirtual 87, 3) := by decide +kernel
theorem d_MO_init_224 : decode b_MO_init 224 = .ok (.return_, 1) := by decide +kernel
abbrev b_MO_beginLevel : ByteArray := prog_12_method_14_code
def y_MO_beginLevel : MethodName := ⟨"ExploreSharesModel", "beginLevel", "()V"⟩
def w_MO_beginLevel : List Cond := .code y_MO_beginLevel b_MO_beginLevel 2 (none) :: xU
theorem d_MO_beginLevel_0 : decode b_MO_beginLevel 0 = .ok (.iconst 0, 1) := by decide +kernel
theorem d_MO_beginLevel_1 : decode b_MO_beginLevel 1 = .ok (.istore_n 1, 1) := by decide +kernel
theorem d_MO_beginLevel_2 : decode b_MO_beginLevel 2 = .ok (.iload_n 1, 1) := by decide +kernel
theorem d_MO_beginLevel_3 : decode b_MO_beginLevel 3 = .ok (.aload_n 0, 1) := by decide +kernel
theorem d_MO_beginLevel_4 : decode b_MO_beginLevel 4 = .ok (.getfield 112, 3) := by decide +kernel
theorem d_MO_beginLevel_7 : decode b_MO_beginLevel 7 = .ok (.if_icmp .ge 16, 3) := by decide +kernel
theorem d_MO_beginLevel_10 : decode b_MO_beginLevel 10 = .ok (.aload_n 0, 1) := by decide +kernel
theorem d_MO_beginLevel_11 : decode b_MO_beginLevel 11 = .ok (.getfield 34, 3) := by decide +kernel
theorem d_MO_beginLevel_14 : decode b_MO_beginLevel 14 = .ok (.iload_n 1, 1) := by decide +kernel
theorem d_MO_beginLevel_15 : decode b_MO_beginLevel 15 = .ok (.iconst 0, 1) := by decide +kernel
theorem d_MO_beginLevel_16 : decode b_MO_beginLevel 16 = .ok (.bastore, 1) := by decide +kernel
theorem d_MO_beginLevel_17 : decode b_MO_beginLevel 17 = .ok (.iinc 1 1, 3) := by decide +kernel
theorem d_MO_beginLevel_20 : decode b_MO_beginLevel 20 = .ok (.goto (-18), 3) := by decide +kernel
theorem d_MO_beginLevel_23 : decode b_MO_beginLevel 23 = .ok (.iconst 0, 1) := by decide +kernel
theorem d_MO_beginLevel_24 : decode b_MO_beginLevel 24 = .ok (.istore_n 1, 1) := by decide +kernel
theorem d_MO_beginLevel_25 : decode b_MO_beginLevel 25 = .ok (.iload_n 1, 1) := by decide +kernel
theorem d_MO_beginLevel_26 : decode b_MO_beginLevel 26 = .ok (.aload_n 0, 1) := by decide +kernel
theorem d_MO_beginLevel_27 : decode b_MO_beginLevel 27 = .ok (.getfield 80, 3) := by decide +kernel
theorem d_MO_beginLevel_30 : decode b_MO_beginLevel 30 = .ok (.if_icmp .ge 62, 3) := by decide +kernel
theorem d_MO_beginLevel_33 : decode b_MO_beginLevel 33 = .ok (.aload_n 0, 1) := by decide +kernel
theorem d_MO_beginLevel_34 : decode b_MO_beginLevel 34 = .ok (.getfield 62, 3) := by decide +kernel
theorem d_MO_beginLevel_37 : decode b_MO_beginLevel 37 = .ok (.iload_n 1, 1) := by decide +kernel
theorem d_MO_beginLevel_38 : decode b_MO_beginLevel 38 = .ok (.iconst 0, 1) := by decide +kernel
theorem d_MO_beginLevel_39 : decode b_MO_beginLevel 39 = .ok (.iastore, 1) := by decide +kernel
theorem d_MO_beginLevel_40 : decode b_MO_beginLevel 40 = .ok (.aload_n 0, 1) := by decide +kernel
theorem d_MO_beginLevel_41 : decode b_MO_beginLevel 41 = .ok (.getfield 53, 3) := by decide +kernel
theorem d_MO_beginLevel_44 : decode b_MO_beginLevel 44 = .ok (.iload_n 1, 1) := by decide +kernel
theorem d_MO_beginLevel_45 : decode b_MO_beginLevel 45 = .ok (.iconst 0, 1) := by decide +kernel
theorem d_MO_beginLevel_46 : decode b_MO_beginLevel 46 = .ok (.iastore, 1) := by decide +kernel
theorem d_MO_beginLevel_47 : decode b_MO_beginLevel 47 = .ok (.aload_n 0, 1) := by decide +kernel
theorem d_MO_beginLevel_48 : decode b_MO_beginLevel 48 = .ok (.getfield 59, 3) := by decide +kernel
theorem d_MO_beginLevel_51 : decode b_MO_beginLevel 51 = .ok (.iload_n 1, 1) := by decide +kernel
theorem d_MO_beginLevel_52 : decode b_MO_beginLevel 52 = .ok (.iconst 0, 1) := by decide +kernel
theorem d_MO_beginLevel_53 : decode b_MO_beginLevel 53 = .ok (.iastore, 1) := by decide +kernel
theorem d_MO_beginLevel_54 : decode b_MO_beginLevel 54 = .ok (.aload_n 0, 1) := by decide +kernel
theorem d_MO_beginLevel_55 : decode b_MO_beginLevel 55 = .ok (.getfield 41, 3) := by decide +kernel
theorem d_MO_beginLevel_58 : decode b_MO_beginLevel 58 = .ok (.iload_n 1, 1) := by decide +kernel
theorem d_MO_beginLevel_59 : decode b_MO_beginLevel 59 = .ok (.iconst 0, 1) := by decide +kernel
theorem d_MO_beginLevel_60 : decode b_MO_beginLevel 60 = .ok (.bastore, 1) := by decide +kernel
theorem d_MO_beginLevel_61 : decode b_MO_beginLevel 61 = .ok (.aload_n 0, 1) := by decide +kernel
theorem d_MO_beginLevel_62 : decode b_MO_beginLevel 62 = .ok (.getfield 56, 3) := by decide +kernel
theorem d_MO_beginLevel_65 : decode b_MO_beginLevel 65 = .ok (.iload_n 1, 1) := by decide +kernel
theorem d_MO_beginLevel_66 : decode b_MO_beginLevel 66 = .ok (.aload_n 0, 1) := by decide +kernel
theorem d_MO_beginLevel_67 : decode b_MO_beginLevel 67 = .ok (.getfield 38, 3) := by decide +kernel
theorem d_MO_beginLevel_70 : decode b_MO_beginLevel 70 = .ok (.iload_n 1, 1) := by decide +kernel
theorem d_MO_beginLevel_71 : decode b_MO_beginLevel 71 = .ok (.baload, 1) := by decide +kernel
theorem d_MO_beginLevel_72 : decode b_MO_beginLevel 72 = .ok (.ifCond .eq 12, 3) := by decide +kernel
theorem d_MO_beginLevel_75 : decode b_MO_beginLevel 75 = .ok (.aload_n 0, 1) := by decide +kernel
theorem d_MO_beginLevel_76 : decode b_MO_beginLevel 76 = .ok (.iload_n 1, 1) := by decide +kernel
theorem d_MO_beginLevel_77 : decode b_MO_beginLevel 77 = .ok (.iconst 0, 1) := by decide +kernel
theorem d_MO_beginLevel_78 : decode b_MO_beginLevel 78 = .ok (.invokevirtual 143, 3) := by decide +kernel
theorem d_MO_beginLevel_81 : decode b_MO_beginLevel 81 = .ok (.goto 4, 3) := by decide +kernel
theorem d_MO_beginLevel_84 : decode b_MO_beginLevel 84 = .ok (.iconst (-1), 1) := by decide +kernel
theorem d_MO_beginLevel_85 : decode b_MO_beginLevel 85 = .ok (.iastore, 1) := by decide +kernel
theorem d_MO_beginLevel_86 : decode b_MO_beginLevel 86 = .ok (.iinc 1 1, 3) := by decide +kernel
theorem d_MO_beginLevel_89 : decode b_MO_beginLevel 89 = .ok (.goto (-64), 3) := by decide +kernel
theorem d_MO_beginLevel_92 : decode b_MO_beginLevel 92 = .ok (.return_, 1) := by decide +kernel
abbrev b_MO_cameAll : ByteArray := prog_12_method_34_code
def y_MO_cameAll : MethodName := ⟨"ExploreSharesModel", "cameAll", "()I"⟩
def w_MO_cameAll : List Cond := .code y_MO_cameAll b_MO_cameAll 3 (some .int) :: xU
theorem d_MO_cameAll_0 : decode b_MO_cameAll 0 = .ok (.iconst 0, 1) := by decide +kernel
theorem d_MO_cameAll_1 : decode b_MO_cameAll 1 = .ok (.istore_n 1, 1) := by decide +kernel
theorem d_MO_cameAll_2 : decode b_MO_cameAll 2 = .ok (.iconst 0, 1) := by decide +kernel
theorem d_MO_cameAll_3 : decode b_MO_cameAll 3 = .ok (.istore_n 2, 1) := by decide +kernel
theorem d_MO_cameAll_4 : decode b_MO_cameAll 4 = .ok (.iload_n 2, 1) := by decide +kernel
theorem d_MO_cameAll_5 : decode b_MO_cameAll 5 = .ok (.aload_n 0, 1) := by decide +kernel
theorem d_MO_cameAll_6 : decode b_MO_cameAll 6 = .ok (.getfield 112, 3) := by decide +kernel
theorem d_MO_cameAll_9 : decode b_MO_cameAll 9 = .ok (.if_icmp .ge 26, 3) := by decide +kernel
theorem d_MO_cameAll_12 : decode b_MO_cameAll 12 = .ok (.iload_n 1, 1) := by decide +kernel
theorem d_MO_cameAll_13 : decode b_MO_cameAll 13 = .ok (.aload_n 0, 1) := by decide +kernel
theorem d_MO_cameAll_14 : decode b_MO_cameAll 14 = .ok (.getfield 25, 3) := by decide +kernel
theorem d_MO_cameAll_17 : decode b_MO_cameAll 17 = .ok (.iload_n 2, 1) := by decide +kernel
theorem d_MO_cameAll_18 : decode b_MO_cameAll 18 = .ok (.iaload, 1) := by decide +kernel
theorem d_MO_cameAll_19 : decode b_MO_cameAll 19 = .ok (.ifCond .lt 7, 3) := by decide +kernel
theorem d_MO_cameAll_22 : decode b_MO_cameAll 22 = .ok (.iconst 1, 1) := by decide +kernel
theorem d_MO_cameAll_23 : decode b_MO_cameAll 23 = .ok (.goto 4, 3) := by decide +kernel
theorem d_MO_cameAll_26 : decode b_MO_cameAll 26 = .ok (.iconst 0, 1) := by decide +kernel
theorem d_MO_cameAll_27 : decode b_MO_cameAll 27 = .ok (.iadd, 1) := by decide +kernel
theorem d_MO_cameAll_28 : decode b_MO_cameAll 28 = .ok (.istore_n 1, 1) := by decide +kernel
theorem d_MO_cameAll_29 : decode b_MO_cameAll 29 = .ok (.iinc 2 1, 3) := by decide +kernel
theorem d_MO_cameAll_32 : decode b_MO_cameAll 32 = .ok (.goto (-28), 3) := by decide +kernel
theorem d_MO_cameAll_35 : decode b_MO_cameAll 35 = .ok (.iload_n 1, 1) := by decide +kernel
theorem d_MO_cameAll_36 : decode b_MO_cameAll 36 = .ok (.ireturn, 1) := by decide +kernel
abbrev b_MO_count : ByteArray := prog_12_method_35_code
def y_MO_count : MethodName := ⟨"ExploreSharesModel", "count", "(I)I"⟩
def w_MO_count : List Cond := .code y_MO_count b_MO_count 2 (some .int) :: xU
theorem d_MO_count_0 : decode b_MO_count 0 = .ok (.aload_n 0, 1) := by decide +kernel
theorem d_MO_count_1 : decode b_MO_count 1 = .ok (.iconst 0, 1) := by decide +kernel
theorem d_MO_count_2 : decode b_MO_count 2 = .ok (.putfield 90, 3) := by decide +kernel
theorem d_MO_count_5 : decode b_MO_count 5 = .ok (.iload_n 1, 1) := by decide +kernel
theorem d_MO_count_6 : decode b_MO_count 6 = .ok (.tableswitch 113 0 10 #[58, 63, 68, 73, 78, 83, 88, 93, 98, 103, 108], 58) := by decide +kernel
theorem d_MO_count_64 : decode b_MO_count 64 = .ok (.aload_n 0, 1) := by decide +kernel
theorem d_MO_count_65 : decode b_MO_count 65 = .ok (.getfield 80, 3) := by decide +kernel
theorem d_MO_count_68 : decode b_MO_count 68 = .ok (.ireturn, 1) := by decide +kernel
theorem d_MO_count_69 : decode b_MO_count 69 = .ok (.aload_n 0, 1) := by decide +kernel
theorem d_MO_count_70 : decode b_MO_count 70 = .ok (.getfield 84, 3) := by decide +kernel
theorem d_MO_count_73 : decode b_MO_count 73 = .ok (.ireturn, 1) := by decide +kernel
theorem d_MO_count_74 : decode b_MO_count 74 = .ok (.aload_n 0, 1) := by decide +kernel
theorem d_MO_count_75 : decode b_MO_count 75 = .ok (.getfield 112, 3) := by decide +kernel
theorem d_MO_count_78 : decode b_MO_count 78 = .ok (.ireturn, 1) := by decide +kernel
theorem d_MO_count_79 : decode b_MO_count 79 = .ok (.aload_n 0, 1) := by decide +kernel
theorem d_MO_count_80 : decode b_MO_count 80 = .ok (.getfield 123, 3) := by decide +kernel
theorem d_MO_count_83 : decode b_MO_count 83 = .ok (.ireturn, 1) := by decide +kernel
theorem d_MO_count_84 : decode b_MO_count 84 = .ok (.aload_n 0, 1) := by decide +kernel
theorem d_MO_count_85 : decode b_MO_count 85 = .ok (.getfield 126, 3) := by decide +kernel
theorem d_MO_count_88 : decode b_MO_count 88 = .ok (.ireturn, 1) := by decide +kernel
theorem d_MO_count_89 : decode b_MO_count 89 = .ok (.aload_n 0, 1) := by decide +kernel
theorem d_MO_count_90 : decode b_MO_count 90 = .ok (.invokevirtual 191, 3) := by decide +kernel
theorem d_MO_count_93 : decode b_MO_count 93 = .ok (.ireturn, 1) := by decide +kernel
theorem d_MO_count_94 : decode b_MO_count 94 = .ok (.aload_n 0, 1) := by decide +kernel
theorem d_MO_count_95 : decode b_MO_count 95 = .ok (.getfield 100, 3) := by decide +kernel
theorem d_MO_count_98 : decode b_MO_count 98 = .ok (.ireturn, 1) := by decide +kernel
theorem d_MO_count_99 : decode b_MO_count 99 = .ok (.aload_n 0, 1) := by decide +kernel
theorem d_MO_count_100 : decode b_MO_count 100 = .ok (.getfield 103, 3) := by decide +kernel
theorem d_MO_count_103 : decode b_MO_count 103 = .ok (.ireturn, 1) := by decide +kernel
theorem d_MO_count_104 : decode b_MO_count 104 = .ok (.aload_n 0, 1) := by decide +kernel
theorem d_MO_count_105 : decode b_MO_count 105 = .ok (.getfield 106, 3) := by decide +kernel
theorem d_MO_count_108 : decode b_MO_count 108 = .ok (.ireturn, 1) := by decide +kernel
theorem d_MO_count_109 : decode b_MO_count 109 = .ok (.aload_n 0, 1) := by decide +kernel
theorem d_MO_count_110 : decode b_MO_count 110 = .ok (.invokevirtual 156, 3) := by decide +kernel
theorem d_MO_count_113 : decode b_MO_count 113 = .ok (.ireturn, 1) := by decide +kernel
theorem d_MO_count_114 : decode b_MO_count 114 = .ok (.aload_n 0, 1) := by decide +kernel
theorem d_MO_count_115 : decode b_MO_count 115 = .ok (.getfield 109, 3) := by decide +kernel
theorem d_MO_count_118 : decode b_MO_count 118 = .ok (.ireturn, 1) := by decide +kernel
theorem d_MO_count_119 : decode b_MO_count 119 = .ok (.iconst (-1), 1) := by decide +kernel
theorem d_MO_count_120 : decode b_MO_count 120 = .ok (.ireturn, 1) := by decide +kernel
abbrev b_MO_fail : ByteArray := prog_12_method_9_code
def y_MO_fail : MethodName := ⟨"ExploreSharesModel", "fail", "(III)I"⟩
def w_MO_fail : List Cond := .code y_MO_fail b_MO_fail 7 (some .int) :: xU
theorem d_MO_fail_0 : decode b_MO_fail 0 = .ok (.iload_n 1, 1) := by decide +kernel
theorem d_MO_fail_1 : decode b_MO_fail 1 = .ok (.aload_n 0, 1) := by decide +kernel
theorem d_MO_fail_2 : decode b_MO_fail 2 = .ok (.getfield 80, 3) := by decide +kernel
theorem d_MO_fail_5 : decode b_MO_fail 5 = .ok (.invokestatic 119, 3) := by decide +kernel
theorem d_MO_fail_8 : decode b_MO_fail 8 = .ok (.ifCond .ne 7, 3) := by decide +kernel
theorem d_MO_fail_11 : decode b_MO_fail 11 = .ok (.iconst 1, 1) := by decide +kernel
theorem d_MO_fail_12 : decode b_MO_fail 12 = .ok (.goto 4, 3) := by decide +kernel
theorem d_MO_fail_15 : decode b_MO_fail 15 = .ok (.iconst 0, 1) := by decide +kernel
theorem d_MO_fail_16 : decode b_MO_fail 16 = .ok (.istore 4, 2) := by decide +kernel
theorem d_MO_fail_18 : decode b_MO_fail 18 = .ok (.iload_n 2, 1) := by decide +kernel
theorem d_MO_fail_19 : decode b_MO_fail 19 = .ok (.sipush 200, 3) := by decide +kernel
theorem d_MO_fail_22 : decode b_MO_fail 22 = .ok (.invokestatic 119, 3) := by decide +kernel
theorem d_MO_fail_25 : decode b_MO_fail 25 = .ok (.ifCond .eq 14, 3) := by decide +kernel
theorem d_MO_fail_28 : decode b_MO_fail 28 = .ok (.iload_n 3, 1) := by decide +kernel
theorem d_MO_fail_29 : decode b_MO_fail 29 = .ok (.ifCond .lt 10, 3) := by decide +kernel
theorem d_MO_fail_32 : decode b_MO_fail 32 = .ok (.iload_n 3, 1) := by decide +kernel
theorem d_MO_fail_33 : decode b_MO_fail 33 = .ok (.sipush 1000, 3) := by decide +kernel
theorem d_MO_fail_36 : decode b_MO_fail 36 = .ok (.if_icmp .le 7, 3) := by decide +kernel
theorem d_MO_fail_39 : decode b_MO_fail 39 = .ok (.iconst 1, 1) := by decide +kernel
theorem d_MO_fail_40 : decode b_MO_fail 40 = .ok (.goto 4, 3) := by decide +kernel
theorem d_MO_fail_43 : decode b_MO_fail 43 = .ok (.iconst 0, 1) := by decide +kernel
theorem d_MO_fail_44 : decode b_MO_fail 44 = .ok (.istore 5, 2) := by decide +kernel
theorem d_MO_fail_46 : decode b_MO_fail 46 = .ok (.iload 4, 2) := by decide +kernel
theorem d_MO_fail_48 : decode b_MO_fail 48 = .ok (.ifCond .ne 8, 3) := by decide +kernel
theorem d_MO_fail_51 : decode b_MO_fail 51 = .ok (.iload 5, 2) := by decide +kernel
theorem d_MO_fail_53 : decode b_MO_fail 53 = .ok (.ifCond .eq 7, 3) := by decide +kernel
theorem d_MO_fail_56 : decode b_MO_fail 56 = .ok (.iconst (-1), 1) := by decide +kernel
theorem d_MO_fail_57 : decode b_MO_fail 57 = .ok (.goto 9, 3) := by decide +kernel
theorem d_MO_fail_60 : decode b_MO_fail 60 = .ok (.aload_n 0, 1) := by decide +kernel
theorem d_MO_fail_61 : decode b_MO_fail 61 = .ok (.iload_n 1, 1) := by decide +kernel
theorem d_MO_fail_62 : decode b_MO_fail 62 = .ok (.iload_n 2, 1) := by decide +kernel
theorem d_MO_fail_63 : decode b_MO_fail 63 = .ok (.invokevirtual 129, 3) := by decide +kernel
theorem d_MO_fail_66 : decode b_MO_fail 66 = .ok (.istore 6, 2) := by decide +kernel
theorem d_MO_fail_68 : decode b_MO_fail 68 = .ok (.aload_n 0, 1) := by decide +kernel
theorem d_MO_fail_69 : decode b_MO_fail 69 = .ok (.iload 4, 2) := by decide +kernel
theorem d_MO_fail_71 : decode b_MO_fail 71 = .ok (.iload 5, 2) := by decide +kernel
theorem d_MO_fail_73 : decode b_MO_fail 73 = .ok (.iload 6, 2) := by decide +kernel
theorem d_MO_fail_75 : decode b_MO_fail 75 = .ok (.ifCond .ge 20, 3) := by decide +kernel
theorem d_MO_fail_78 : decode b_MO_fail 78 = .ok (.iload_n 3, 1) := by decide +kernel
theorem d_MO_fail_79 : decode b_MO_fail 79 = .ok (.ifCond .le 16, 3) := by decide +kernel
theorem d_MO_fail_82 : decode b_MO_fail 82 = .ok (.aload_n 0, 1) := by decide +kernel
theorem d_MO_fail_83 : decode b_MO_fail 83 = .ok (.getfield 126, 3) := by decide +kernel
theorem d_MO_fail_86 : decode b_MO_fail 86 = .ok (.bipush 20, 2) := by decide +kernel
theorem d_MO_fail_88 : decode b_MO_fail 88 = .ok (.if_icmp .ne 7, 3) := by decide +kernel
theorem d_MO_fail_91 : decode b_MO_fail 91 = .ok (.iconst 1, 1) := by decide +kernel
theorem d_MO_fail_92 : decode b_MO_fail 92 = .ok (.goto 4, 3) := by decide +kernel
theorem d_MO_fail_95 : decode b_MO_fail 95 = .ok (.iconst 0, 1) := by decide +kernel
theorem d_MO_fail_96 : decode b_MO_fail 96 = .ok (.invokevirtual 115, 3) := by decide +kernel
theorem d_MO_fail_99 : decode b_MO_fail 99 = .ok (.ifCond .eq 5, 3) := by decide +kernel
theorem d_MO_fail_102 : decode b_MO_fail 102 = .ok (.iconst 0, 1) := by decide +kernel
theorem d_MO_fail_103 : decode b_MO_fail 103 = .ok (.ireturn, 1) := by decide +kernel
theorem d_MO_fail_104 : decode b_MO_fail 104 = .ok (.aload_n 0, 1) := by decide +kernel
theorem d_MO_fail_105 : decode b_MO_fail 105 = .ok (.invokevirtual 87, 3) := by decide +kernel
theorem d_MO_fail_108 : decode b_MO_fail 108 = .ok (.iload_n 3, 1) := by decide +kernel
theorem d_MO_fail_109 : decode b_MO_fail 109 = .ok (.ifCond .ne 76, 3) := by decide +kernel
theorem d_MO_fail_112 : decode b_MO_fail 112 = .ok (.iload 6, 2) := by decide +kernel
theorem d_MO_fail_114 : decode b_MO_fail 114 = .ok (.ifCond .ge 8, 3) := by decide +kernel
theorem d_MO_fail_117 : decode b_MO_fail 117 = .ok (.aload_n 0, 1) := by decide +kernel
theorem d_MO_fail_118 : decode b_MO_fail 118 = .ok (.getfield 126, 3) := by decide +kernel
theorem d_MO_fail_121 : decode b_MO_fail 121 = .ok (.ireturn, 1) := by decide +kernel
theorem d_MO_fail_122 : decode b_MO_fail 122 = .ok (.aload_n 0, 1) := by decide +kernel
theorem d_MO_fail_123 : decode b_MO_fail 123 = .ok (.dup, 1) := by decide +kernel
theorem d_MO_fail_124 : decode b_MO_fail 124 = .ok (.getfield 126, 3) := by decide +kernel
theorem d_MO_fail_127 : decode b_MO_fail 127 = .ok (.iconst 1, 1) := by decide +kernel
theorem d_MO_fail_128 : decode b_MO_fail 128 = .ok (.isub, 1) := by decide +kernel
theorem d_MO_fail_129 : decode b_MO_fail 129 = .ok (.putfield 126, 3) := by decide +kernel
theorem d_MO_fail_132 : decode b_MO_fail 132 = .ok (.aload_n 0, 1) := by decide +kernel
theorem d_MO_fail_133 : decode b_MO_fail 133 = .ok (.getfield 16, 3) := by decide +kernel
theorem d_MO_fail_136 : decode b_MO_fail 136 = .ok (.iload 6, 2) := by decide +kernel
theorem d_MO_fail_138 : decode b_MO_fail 138 = .ok (.aload_n 0, 1) := by decide +kernel
theorem d_MO_fail_139 : decode b_MO_fail 139 = .ok (.getfield 16, 3) := by decide +kernel
theorem d_MO_fail_142 : decode b_MO_fail 142 = .ok (.aload_n 0, 1) := by decide +kernel
theorem d_MO_fail_143 : decode b_MO_fail 143 = .ok (.getfield 126, 3) := by decide +kernel
theorem d_MO_fail_146 : decode b_MO_fail 146 = .ok (.iaload, 1) := by decide +kernel
theorem d_MO_fail_147 : decode b_MO_fail 147 = .ok (.iastore, 1) := by decide +kernel
theorem d_MO_fail_148 : decode b_MO_fail 148 = .ok (.aload_n 0, 1) := by decide +kernel
theorem d_MO_fail_149 : decode b_MO_fail 149 = .ok (.getfield 19, 3) := by decide +kernel
theorem d_MO_fail_152 : decode b_MO_fail 152 = .ok (.iload 6, 2) := by decide +kernel
theorem d_MO_fail_154 : decode b_MO_fail 154 = .ok (.aload_n 0, 1) := by decide +kernel
theorem d_MO_fail_155 : decode b_MO_fail 155 = .ok (.getfield 19, 3) := by decide +kernel
theorem d_MO_fail_158 : decode b_MO_fail 158 = .ok (.aload_n 0, 1) := by decide +kernel
theorem d_MO_fail_159 : decode b_MO_fail 159 = .ok (.getfield 126, 3) := by decide +kernel
theorem d_MO_fail_162 : decode b_MO_fail 162 = .ok (.iaload, 1) := by decide +kernel
theorem d_MO_fail_163 : decode b_MO_fail 163 = .ok (.iastore, 1) := by decide +kernel
theorem d_MO_fail_164 : decode b_MO_fail 164 = .ok (.aload_n 0, 1) := by decide +kernel
theorem d_MO_fail_165 : decode b_MO_fail 165 = .ok (.getfield 22, 3) := by decide +kernel
theorem d_MO_fail_168 : decode b_MO_fail 168 = .ok (.iload 6, 2) := by decide +kernel
theorem d_MO_fail_170 : decode b_MO_fail 170 = .ok (.aload_n 0, 1) := by decide +kernel
theorem d_MO_fail_171 : decode b_MO_fail 171 = .ok (.getfield 22, 3) := by decide +kernel
theorem d_MO_fail_174 : decode b_MO_fail 174 = .ok (.aload_n 0, 1) := by decide +kernel
theorem d_MO_fail_175 : decode b_MO_fail 175 = .ok (.getfield 126, 3) := by decide +kernel
theorem d_MO_fail_178 : decode b_MO_fail 178 = .ok (.iaload, 1) := by decide +kernel
theorem d_MO_fail_179 : decode b_MO_fail 179 = .ok (.iastore, 1) := by decide +kernel
theorem d_MO_fail_180 : decode b_MO_fail 180 = .ok (.aload_n 0, 1) := by decide +kernel
theorem d_MO_fail_181 : decode b_MO_fail 181 = .ok (.getfield 126, 3) := by decide +kernel
theorem d_MO_fail_184 : decode b_MO_fail 184 = .ok (.ireturn, 1) := by decide +kernel
theorem d_MO_fail_185 : decode b_MO_fail 185 = .ok (.iload 6, 2) := by decide +kernel
theorem d_MO_fail_187 : decode b_MO_fail 187 = .ok (.ifCond .ge 19, 3) := by decide +kernel
theorem d_MO_fail_190 : decode b_MO_fail 190 = .ok (.aload_n 0, 1) := by decide +kernel
theorem d_MO_fail_191 : decode b_MO_fail 191 = .ok (.getfield 126, 3) := by decide +kernel
theorem d_MO_fail_194 : decode b_MO_fail 194 = .ok (.istore 6, 2) := by decide +kernel
theorem d_MO_fail_196 : decode b_MO_fail 196 = .ok (.aload_n 0, 1) := by decide +kernel
theorem d_MO_fail_197 : decode b_MO_fail 197 = .ok (.dup, 1) := by decide +kernel
theorem d_MO_fail_198 : decode b_MO_fail 198 = .ok (.getfield 126, 3) := by decide +kernel
theorem d_MO_fail_201 : decode b_MO_fail 201 = .ok (.iconst 1, 1) := by decide +kernel
theorem d_MO_fail_202 : decode b_MO_fail 202 = .ok (.iadd, 1) := by decide +kernel
theorem d_MO_fail_203 : decode b_MO_fail 203 = .ok (.putfield 126, 3) := by decide +kernel
theorem d_MO_fail_206 : decode b_MO_fail 206 = .ok (.aload_n 0, 1) := by decide +kernel
theorem d_MO_fail_207 : decode b_MO_fail 207 = .ok (.getfield 16, 3) := by decide +kernel
theorem d_MO_fail_210 : decode b_MO_fail 210 = .ok (.iload 6, 2) := by decide +kernel
theorem d_MO_fail_212 : decode b_MO_fail 212 = .ok (.iload_n 1, 1) := by decide +kernel
theorem d_MO_fail_213 : decode b_MO_fail 213 = .ok (.iastore, 1) := by decide +kernel
theorem d_MO_fail_214 : decode b_MO_fail 214 = .ok (.aload_n 0, 1) := by decide +kernel
theorem d_MO_fail_215 : decode b_MO_fail 215 = .ok (.getfield 19, 3) := by decide +kernel
theorem d_MO_fail_218 : decode b_MO_fail 218 = .ok (.iload 6, 2) := by decide +kernel
theorem d_MO_fail_220 : decode b_MO_fail 220 = .ok (.iload_n 2, 1) := by decide +kernel
theorem d_MO_fail_221 : decode b_MO_fail 221 = .ok (.iastore, 1) := by decide +kernel
theorem d_MO_fail_222 : decode b_MO_fail 222 = .ok (.aload_n 0, 1) := by decide +kernel
theorem d_MO_fail_223 : decode b_MO_fail 223 = .ok (.getfield 22, 3) := by decide +kernel
theorem d_MO_fail_226 : decode b_MO_fail 226 = .ok (.iload 6, 2) := by decide +kernel
theorem d_MO_fail_228 : decode b_MO_fail 228 = .ok (.iload_n 3, 1) := by decide +kernel
theorem d_MO_fail_229 : decode b_MO_fail 229 = .ok (.iastore, 1) := by decide +kernel
theorem d_MO_fail_230 : decode b_MO_fail 230 = .ok (.aload_n 0, 1) := by decide +kernel
theorem d_MO_fail_231 : decode b_MO_fail 231 = .ok (.getfield 126, 3) := by decide +kernel
theorem d_MO_fail_234 : decode b_MO_fail 234 = .ok (.ireturn, 1) := by decide +kernel
abbrev b_MO_failed : ByteArray := prog_12_method_32_code
def y_MO_failed : MethodName := ⟨"ExploreSharesModel", "failed", "(II)I"⟩
def w_MO_failed : List Cond := .code y_MO_failed b_MO_failed 3 (some .int) :: xU
theorem d_MO_failed_0 : decode b_MO_failed 0 = .ok (.aload_n 0, 1) := by decide +kernel
theorem d_MO_failed_1 : decode b_MO_failed 1 = .ok (.iload_n 1, 1) := by decide +kernel
theorem d_MO_failed_2 : decode b_MO_failed 2 = .ok (.aload_n 0, 1) := by decide +kernel
theorem d_MO_failed_3 : decode b_MO_failed 3 = .ok (.getfield 109, 3) := by decide +kernel
theorem d_MO_failed_6 : decode b_MO_failed 6 = .ok (.invokestatic 119, 3) := by decide +kernel
theorem d_MO_failed_9 : decode b_MO_failed 9 = .ok (.ifCond .eq 11, 3) := by decide +kernel
theorem d_MO_failed_12 : decode b_MO_failed 12 = .ok (.iload_n 2, 1) := by decide +kernel
theorem d_MO_failed_13 : decode b_MO_failed 13 = .ok (.iconst 3, 1) := by decide +kernel
theorem d_MO_failed_14 : decode b_MO_failed 14 = .ok (.invokestatic 119, 3) := by decide +kernel
theorem d_MO_failed_17 : decode b_MO_failed 17 = .ok (.ifCond .ne 7, 3) := by decide +kernel
theorem d_MO_failed_20 : decode b_MO_failed 20 = .ok (.iconst 1, 1) := by decide +kernel
theorem d_MO_failed_21 : decode b_MO_failed 21 = .ok (.goto 4, 3) := by decide +kernel
theorem d_MO_failed_24 : decode b_MO_failed 24 = .ok (.iconst 0, 1) := by decide +kernel
theorem d_MO_failed_25 : decode b_MO_failed 25 = .ok (.iconst 0, 1) := by decide +kernel
theorem d_MO_failed_26 : decode b_MO_failed 26 = .ok (.iconst 0, 1) := by decide +kernel
theorem d_MO_failed_27 : decode b_MO_failed 27 = .ok (.invokevirtual 115, 3) := by decide +kernel
theorem d_MO_failed_30 : decode b_MO_failed 30 = .ok (.ifCond .eq 5, 3) := by decide +kernel
theorem d_MO_failed_33 : decode b_MO_failed 33 = .ok (.iconst 0, 1) := by decide +kernel
theorem d_MO_failed_34 : decode b_MO_failed 34 = .ok (.ireturn, 1) := by decide +kernel
theorem d_MO_failed_35 : decode b_MO_failed 35 = .ok (.iload_n 2, 1) := by decide +kernel
theorem d_MO_failed_36 : decode b_MO_failed 36 = .ok (.ifCond .ne 12, 3) := by decide +kernel
theorem d_MO_failed_39 : decode b_MO_failed 39 = .ok (.aload_n 0, 1) := by decide +kernel
theorem d_MO_failed_40 : decode b_MO_failed 40 = .ok (.getfield 68, 3) := by decide +kernel
theorem d_MO_failed_43 : decode b_MO_failed 43 = .ok (.iload_n 1, 1) := by decide +kernel
theorem d_MO_failed_44 : decode b_MO_failed 44 = .ok (.iaload, 1) := by decide +kernel
theorem d_MO_failed_45 : decode b_MO_failed 45 = .ok (.goto 23, 3) := by decide +kernel
theorem d_MO_failed_48 : decode b_MO_failed 48 = .ok (.iload_n 2, 1) := by decide +kernel
theorem d_MO_failed_49 : decode b_MO_failed 49 = .ok (.iconst 1, 1) := by decide +kernel
theorem d_MO_failed_50 : decode b_MO_failed 50 = .ok (.if_icmp .ne 12, 3) := by decide +kernel
theorem d_MO_failed_53 : decode b_MO_failed 53 = .ok (.aload_n 0, 1) := by decide +kernel
theorem d_MO_failed_54 : decode b_MO_failed 54 = .ok (.getfield 71, 3) := by decide +kernel
theorem d_MO_failed_57 : decode b_MO_failed 57 = .ok (.iload_n 1, 1) := by decide +kernel
theorem d_MO_failed_58 : decode b_MO_failed 58 = .ok (.iaload, 1) := by decide +kernel
theorem d_MO_failed_59 : decode b_MO_failed 59 = .ok (.goto 9, 3) := by decide +kernel
theorem d_MO_failed_62 : decode b_MO_failed 62 = .ok (.aload_n 0, 1) := by decide +kernel
theorem d_MO_failed_63 : decode b_MO_failed 63 = .ok (.getfield 74, 3) := by decide +kernel
theorem d_MO_failed_66 : decode b_MO_failed 66 = .ok (.iload_n 1, 1) := by decide +kernel
theorem d_MO_failed_67 : decode b_MO_failed 67 = .ok (.iaload, 1) := by decide +kernel
theorem d_MO_failed_68 : decode b_MO_failed 68 = .ok (.ireturn, 1) := by decide +kernel
abbrev b_MO_fails : ByteArray := prog_12_method_20_code
def y_MO_fails : MethodName := ⟨"ExploreSharesModel", "fails", "(I)Z"⟩
def w_MO_fails : List Cond := .code y_MO_fails b_MO_fails 3 (some .boolean) :: xU
theorem d_MO_fails_0 : decode b_MO_fails 0 = .ok (.aload_n 0, 1) := by decide +kernel
theorem d_MO_fails_1 : decode b_MO_fails 1 = .ok (.iload_n 1, 1) := by decide +kernel
theorem d_MO_fails_2 : decode b_MO_fails 2 = .ok (.aload_n 0, 1) := by decide +kernel
theorem d_MO_fails_3 : decode b_MO_fails 3 = .ok (.getfield 97, 3) := by decide +kernel
theorem d_MO_fails_6 : decode b_MO_fails 6 = .ok (.invokevirtual 129, 3) := by decide +kernel
theorem d_MO_fails_9 : decode b_MO_fails 9 = .ok (.istore_n 2, 1) := by decide +kernel
theorem d_MO_fails_10 : decode b_MO_fails 10 = .ok (.iload_n 2, 1) := by decide +kernel
theorem d_MO_fails_11 : decode b_MO_fails 11 = .ok (.ifCond .lt 32, 3) := by decide +kernel
theorem d_MO_fails_14 : decode b_MO_fails 14 = .ok (.aload_n 0, 1) := by decide +kernel
theorem d_MO_fails_15 : decode b_MO_fails 15 = .ok (.getfield 22, 3) := by decide +kernel
theorem d_MO_fails_18 : decode b_MO_fails 18 = .ok (.iload_n 2, 1) := by decide +kernel
theorem d_MO_fails_19 : decode b_MO_fails 19 = .ok (.iaload, 1) := by decide +kernel
theorem d_MO_fails_20 : decode b_MO_fails 20 = .ok (.aload_n 0, 1) := by decide +kernel
theorem d_MO_fails_21 : decode b_MO_fails 21 = .ok (.getfield 53, 3) := by decide +kernel
theorem d_MO_fails_24 : decode b_MO_fails 24 = .ok (.iload_n 1, 1) := by decide +kernel
theorem d_MO_fails_25 : decode b_MO_fails 25 = .ok (.iaload, 1) := by decide +kernel
theorem d_MO_fails_26 : decode b_MO_fails 26 = .ok (.iconst 1, 1) := by decide +kernel
theorem d_MO_fails_27 : decode b_MO_fails 27 = .ok (.iadd, 1) := by decide +kernel
theorem d_MO_fails_28 : decode b_MO_fails 28 = .ok (.if_icmp .ne 15, 3) := by decide +kernel
theorem d_MO_fails_31 : decode b_MO_fails 31 = .ok (.aload_n 0, 1) := by decide +kernel
theorem d_MO_fails_32 : decode b_MO_fails 32 = .ok (.invokevirtual 156, 3) := by decide +kernel
theorem d_MO_fails_35 : decode b_MO_fails 35 = .ok (.iconst 1, 1) := by decide +kernel
theorem d_MO_fails_36 : decode b_MO_fails 36 = .ok (.if_icmp .le 7, 3) := by decide +kernel
theorem d_MO_fails_39 : decode b_MO_fails 39 = .ok (.iconst 1, 1) := by decide +kernel
theorem d_MO_fails_40 : decode b_MO_fails 40 = .ok (.goto 4, 3) := by decide +kernel
theorem d_MO_fails_43 : decode b_MO_fails 43 = .ok (.iconst 0, 1) := by decide +kernel
theorem d_MO_fails_44 : decode b_MO_fails 44 = .ok (.ireturn, 1) := by decide +kernel
abbrev b_MO_findWays : ByteArray := prog_12_method_28_code
def y_MO_findWays : MethodName := ⟨"ExploreSharesModel", "findWays", "(I)V"⟩
def w_MO_findWays : List Cond := .code y_MO_findWays b_MO_findWays 5 (none) :: xU
theorem d_MO_findWays_0 : decode b_MO_findWays 0 = .ok (.iconst 0, 1) := by decide +kernel
theorem d_MO_findWays_1 : decode b_MO_findWays 1 = .ok (.istore_n 2, 1) := by decide +kernel
theorem d_MO_findWays_2 : decode b_MO_findWays 2 = .ok (.iload_n 2, 1) := by decide +kernel
theorem d_MO_findWays_3 : decode b_MO_findWays 3 = .ok (.aload_n 0, 1) := by decide +kernel
theorem d_MO_findWays_4 : decode b_MO_findWays 4 = .ok (.getfield 112, 3) := by decide +kernel
theorem d_MO_findWays_7 : decode b_MO_findWays 7 = .ok (.if_icmp .ge 25, 3) := by decide +kernel
theorem d_MO_findWays_10 : decode b_MO_findWays 10 = .ok (.aload_n 0, 1) := by decide +kernel
theorem d_MO_findWays_11 : decode b_MO_findWays 11 = .ok (.getfield 77, 3) := by decide +kernel
theorem d_MO_findWays_14 : decode b_MO_findWays 14 = .ok (.iload_n 2, 1) := by decide +kernel
theorem d_MO_findWays_15 : decode b_MO_findWays 15 = .ok (.iload_n 2, 1) := by decide +kernel
theorem d_MO_findWays_16 : decode b_MO_findWays 16 = .ok (.iload_n 1, 1) := by decide +kernel
theorem d_MO_findWays_17 : decode b_MO_findWays 17 = .ok (.if_icmp .ne 7, 3) := by decide +kernel
theorem d_MO_findWays_20 : decode b_MO_findWays 20 = .ok (.iconst 1, 1) := by decide +kernel
theorem d_MO_findWays_21 : decode b_MO_findWays 21 = .ok (.goto 4, 3) := by decide +kernel
theorem d_MO_findWays_24 : decode b_MO_findWays 24 = .ok (.iconst 0, 1) := by decide +kernel
theorem d_MO_findWays_25 : decode b_MO_findWays 25 = .ok (.bastore, 1) := by decide +kernel
theorem d_MO_findWays_26 : decode b_MO_findWays 26 = .ok (.iinc 2 1, 3) := by decide +kernel
theorem d_MO_findWays_29 : decode b_MO_findWays 29 = .ok (.goto (-27), 3) := by decide +kernel
theorem d_MO_findWays_32 : decode b_MO_findWays 32 = .ok (.aload_n 0, 1) := by decide +kernel
theorem d_MO_findWays_33 : decode b_MO_findWays 33 = .ok (.getfield 25, 3) := by decide +kernel
theorem d_MO_findWays_36 : decode b_MO_findWays 36 = .ok (.iload_n 1, 1) := by decide +kernel
theorem d_MO_findWays_37 : decode b_MO_findWays 37 = .ok (.iaload, 1) := by decide +kernel
theorem d_MO_findWays_38 : decode b_MO_findWays 38 = .ok (.iconst 1, 1) := by decide +kernel
theorem d_MO_findWays_39 : decode b_MO_findWays 39 = .ok (.isub, 1) := by decide +kernel
theorem d_MO_findWays_40 : decode b_MO_findWays 40 = .ok (.istore_n 2, 1) := by decide +kernel
theorem d_MO_findWays_41 : decode b_MO_findWays 41 = .ok (.iload_n 2, 1) := by decide +kernel
theorem d_MO_findWays_42 : decode b_MO_findWays 42 = .ok (.ifCond .lt 109, 3) := by decide +kernel
theorem d_MO_findWays_45 : decode b_MO_findWays 45 = .ok (.iconst 0, 1) := by decide +kernel
theorem d_MO_findWays_46 : decode b_MO_findWays 46 = .ok (.istore_n 3, 1) := by decide +kernel
theorem d_MO_findWays_47 : decode b_MO_findWays 47 = .ok (.iload_n 3, 1) := by decide +kernel
theorem d_MO_findWays_48 : decode b_MO_findWays 48 = .ok (.aload_n 0, 1) := by decide +kernel
theorem d_MO_findWays_49 : decode b_MO_findWays 49 = .ok (.getfield 112, 3) := by decide +kernel
theorem d_MO_findWays_52 : decode b_MO_findWays 52 = .ok (.if_icmp .ge 93, 3) := by decide +kernel
theorem d_MO_findWays_55 : decode b_MO_findWays 55 = .ok (.aload_n 0, 1) := by decide +kernel
theorem d_MO_findWays_56 : decode b_MO_findWays 56 = .ok (.getfield 25, 3) := by decide +kernel
theorem d_MO_findWays_59 : decode b_MO_findWays 59 = .ok (.iload_n 3, 1) := by decide +kernel
theorem d_MO_findWays_60 : decode b_MO_findWays 60 = .ok (.iaload, 1) := by decide +kernel
theorem d_MO_findWays_61 : decode b_MO_findWays 61 = .ok (.iload_n 2, 1) := by decide +kernel
theorem d_MO_findWays_62 : decode b_MO_findWays 62 = .ok (.if_icmp .eq 6, 3) := by decide +kernel
theorem d_MO_findWays_65 : decode b_MO_findWays 65 = .ok (.goto 74, 3) := by decide +kernel
theorem d_MO_findWays_68 : decode b_MO_findWays 68 = .ok (.iconst 0, 1) := by decide +kernel
theorem d_MO_findWays_69 : decode b_MO_findWays 69 = .ok (.istore 4, 2) := by decide +kernel
theorem d_MO_findWays_71 : decode b_MO_findWays 71 = .ok (.iload 4, 2) := by decide +kernel
theorem d_MO_findWays_73 : decode b_MO_findWays 73 = .ok (.aload_n 0, 1) := by decide +kernel
theorem d_MO_findWays_74 : decode b_MO_findWays 74 = .ok (.getfield 112, 3) := by decide +kernel
theorem d_MO_findWays_77 : decode b_MO_findWays 77 = .ok (.if_icmp .ge 62, 3) := by decide +kernel
theorem d_MO_findWays_80 : decode b_MO_findWays 80 = .ok (.aload_n 0, 1) := by decide +kernel
theorem d_MO_findWays_81 : decode b_MO_findWays 81 = .ok (.getfield 77, 3) := by decide +kernel
theorem d_MO_findWays_84 : decode b_MO_findWays 84 = .ok (.iload_n 3, 1) := by decide +kernel
theorem d_MO_findWays_85 : decode b_MO_findWays 85 = .ok (.baload, 1) := by decide +kernel
theorem d_MO_findWays_86 : decode b_MO_findWays 86 = .ok (.ifCond .ne 53, 3) := by decide +kernel
theorem d_MO_findWays_89 : decode b_MO_findWays 89 = .ok (.aload_n 0, 1) := by decide +kernel
theorem d_MO_findWays_90 : decode b_MO_findWays 90 = .ok (.getfield 77, 3) := by decide +kernel
theorem d_MO_findWays_93 : decode b_MO_findWays 93 = .ok (.iload_n 3, 1) := by decide +kernel
theorem d_MO_findWays_94 : decode b_MO_findWays 94 = .ok (.aload_n 0, 1) := by decide +kernel
theorem d_MO_findWays_95 : decode b_MO_findWays 95 = .ok (.getfield 77, 3) := by decide +kernel
theorem d_MO_findWays_98 : decode b_MO_findWays 98 = .ok (.iload 4, 2) := by decide +kernel
theorem d_MO_findWays_100 : decode b_MO_findWays 100 = .ok (.baload, 1) := by decide +kernel
theorem d_MO_findWays_101 : decode b_MO_findWays 101 = .ok (.ifCond .eq 30, 3) := by decide +kernel
theorem d_MO_findWays_104 : decode b_MO_findWays 104 = .ok (.aload_n 0, 1) := by decide +kernel
theorem d_MO_findWays_105 : decode b_MO_findWays 105 = .ok (.getfield 25, 3) := by decide +kernel
theorem d_MO_findWays_108 : decode b_MO_findWays 108 = .ok (.iload 4, 2) := by decide +kernel
theorem d_MO_findWays_110 : decode b_MO_findWays 110 = .ok (.iaload, 1) := by decide +kernel
theorem d_MO_findWays_111 : decode b_MO_findWays 111 = .ok (.iload_n 2, 1) := by decide +kernel
theorem d_MO_findWays_112 : decode b_MO_findWays 112 = .ok (.iconst 1, 1) := by decide +kernel
theorem d_MO_findWays_113 : decode b_MO_findWays 113 = .ok (.iadd, 1) := by decide +kernel
theorem d_MO_findWays_114 : decode b_MO_findWays 114 = .ok (.if_icmp .ne 17, 3) := by decide +kernel
theorem d_MO_findWays_117 : decode b_MO_findWays 117 = .ok (.aload_n 0, 1) := by decide +kernel
theorem d_MO_findWays_118 : decode b_MO_findWays 118 = .ok (.iload_n 3, 1) := by decide +kernel
theorem d_MO_findWays_119 : decode b_MO_findWays 119 = .ok (.iload 4, 2) := by decide +kernel
theorem d_MO_findWays_121 : decode b_MO_findWays 121 = .ok (.invokevirtual 182, 3) := by decide +kernel
theorem d_MO_findWays_124 : decode b_MO_findWays 124 = .ok (.ifCond .eq 7, 3) := by decide +kernel
theorem d_MO_findWays_127 : decode b_MO_findWays 127 = .ok (.iconst 1, 1) := by decide +kernel
theorem d_MO_findWays_128 : decode b_MO_findWays 128 = .ok (.goto 4, 3) := by decide +kernel
theorem d_MO_findWays_131 : decode b_MO_findWays 131 = .ok (.iconst 0, 1) := by decide +kernel
theorem d_MO_findWays_132 : decode b_MO_findWays 132 = .ok (.bastore, 1) := by decide +kernel
theorem d_MO_findWays_133 : decode b_MO_findWays 133 = .ok (.iinc 4 1, 3) := by decide +kernel
theorem d_MO_findWays_136 : decode b_MO_findWays 136 = .ok (.goto (-65), 3) := by decide +kernel
theorem d_MO_findWays_139 : decode b_MO_findWays 139 = .ok (.iinc 3 1, 3) := by decide +kernel
theorem d_MO_findWays_142 : decode b_MO_findWays 142 = .ok (.goto (-95), 3) := by decide +kernel
theorem d_MO_findWays_145 : decode b_MO_findWays 145 = .ok (.iinc 2 (-1), 3) := by decide +kernel
theorem d_MO_findWays_148 : decode b_MO_findWays 148 = .ok (.goto (-107), 3) := by decide +kernel
theorem d_MO_findWays_151 : decode b_MO_findWays 151 = .ok (.return_, 1) := by decide +kernel
abbrev b_MO_forget : ByteArray := prog_12_method_5_code
def y_MO_forget : MethodName := ⟨"ExploreSharesModel", "forget", "()V"⟩
def w_MO_forget : List Cond := .code y_MO_forget b_MO_forget 2 (none) :: xU
theorem d_MO_forget_0 : decode b_MO_forget 0 = .ok (.aload_n 0, 1) := by decide +kernel
theorem d_MO_forget_1 : decode b_MO_forget 1 = .ok (.iconst 0, 1) := by decide +kernel
theorem d_MO_forget_2 : decode b_MO_forget 2 = .ok (.putfield 93, 3) := by decide +kernel
theorem d_MO_forget_5 : decode b_MO_forget 5 = .ok (.aload_n 0, 1) := by decide +kernel
theorem d_MO_forget_6 : decode b_MO_forget 6 = .ok (.iconst 0, 1) := by decide +kernel
theorem d_MO_forget_7 : decode b_MO_forget 7 = .ok (.putfield 97, 3) := by decide +kernel
theorem d_MO_forget_10 : decode b_MO_forget 10 = .ok (.aload_n 0, 1) := by decide +kernel
theorem d_MO_forget_11 : decode b_MO_forget 11 = .ok (.iconst 0, 1) := by decide +kernel
theorem d_MO_forget_12 : decode b_MO_forget 12 = .ok (.putfield 100, 3) := by decide +kernel
theorem d_MO_forget_15 : decode b_MO_forget 15 = .ok (.aload_n 0, 1) := by decide +kernel
theorem d_MO_forget_16 : decode b_MO_forget 16 = .ok (.iconst 0, 1) := by decide +kernel
theorem d_MO_forget_17 : decode b_MO_forget 17 = .ok (.putfield 103, 3) := by decide +kernel
theorem d_MO_forget_20 : decode b_MO_forget 20 = .ok (.aload_n 0, 1) := by decide +kernel
theorem d_MO_forget_21 : decode b_MO_forget 21 = .ok (.iconst 0, 1) := by decide +kernel
theorem d_MO_forget_22 : decode b_MO_forget 22 = .ok (.putfield 106, 3) := by decide +kernel
theorem d_MO_forget_25 : decode b_MO_forget 25 = .ok (.aload_n 0, 1) := by decide +kernel
theorem d_MO_forget_26 : decode b_MO_forget 26 = .ok (.iconst 0, 1) := by decide +kernel
theorem d_MO_forget_27 : decode b_MO_forget 27 = .ok (.putfield 109, 3) := by decide +kernel
theorem d_MO_forget_30 : decode b_MO_forget 30 = .ok (.iconst 0, 1) := by decide +kernel
theorem d_MO_forget_31 : decode b_MO_forget 31 = .ok (.istore_n 1, 1) := by decide +kernel
theorem d_MO_forget_32 : decode b_MO_forget 32 = .ok (.iload_n 1, 1) := by decide +kernel
theorem d_MO_forget_33 : decode b_MO_forget 33 = .ok (.sipush 200, 3) := by decide +kernel
theorem d_MO_forget_36 : decode b_MO_forget 36 = .ok (.if_icmp .ge 30, 3) := by decide +kernel
theorem d_MO_forget_39 : decode b_MO_forget 39 = .ok (.aload_n 0, 1) := by decide +kernel
theorem d_MO_forget_40 : decode b_MO_forget 40 = .ok (.getfield 25, 3) := by decide +kernel
theorem d_MO_forget_43 : decode b_MO_forget 43 = .ok (.iload_n 1, 1) := by decide +kernel
theorem d_MO_forget_44 : decode b_MO_forget 44 = .ok (.iconst (-1), 1) := by decide +kernel
theorem d_MO_forget_45 : decode b_MO_forget 45 = .ok (.iastore, 1) := by decide +kernel
theorem d_MO_forget_46 : decode b_MO_forget 46 = .ok (.aload_n 0, 1) := by decide +kernel
theorem d_MO_forget_47 : decode b_MO_forget 47 = .ok (.getfield 28, 3) := by decide +kernel
theorem d_MO_forget_50 : decode b_MO_forget 50 = .ok (.iload_n 1, 1) := by decide +kernel
theorem d_MO_forget_51 : decode b_MO_forget 51 = .ok (.iconst 0, 1) := by decide +kernel
theorem d_MO_forget_52 : decode b_MO_forget 52 = .ok (.iastore, 1) := by decide +kernel
theorem d_MO_forget_53 : decode b_MO_forget 53 = .ok (.aload_n 0, 1) := by decide +kernel
theorem d_MO_forget_54 : decode b_MO_forget 54 = .ok (.getfield 34, 3) := by decide +kernel
theorem d_MO_forget_57 : decode b_MO_forget 57 = .ok (.iload_n 1, 1) := by decide +kernel
theorem d_MO_forget_58 : decode b_MO_forget 58 = .ok (.iconst 0, 1) := by decide +kernel
theorem d_MO_forget_59 : decode b_MO_forget 59 = .ok (.bastore, 1) := by decide +kernel
theorem d_MO_forget_60 : decode b_MO_forget 60 = .ok (.iinc 1 1, 3) := by decide +kernel
theorem d_MO_forget_63 : decode b_MO_forget 63 = .ok (.goto (-31), 3) := by decide +kernel
theorem d_MO_forget_66 : decode b_MO_forget 66 = .ok (.iconst 0, 1) := by decide +kernel
theorem d_MO_forget_67 : decode b_MO_forget 67 = .ok (.istore_n 1, 1) := by decide +kernel
theorem d_MO_forget_68 : decode b_MO_forget 68 = .ok (.iload_n 1, 1) := by decide +kernel
theorem d_MO_forget_69 : decode b_MO_forget 69 = .ok (.bipush 16, 2) := by decide +kernel
theorem d_MO_forget_71 : decode b_MO_forget 71 = .ok (.if_icmp .ge 56, 3) := by decide +kernel
theorem d_MO_forget_74 : decode b_MO_forget 74 = .ok (.aload_n 0, 1) := by decide +kernel
theorem d_MO_forget_75 : decode b_MO_forget 75 = .ok (.getfield 38, 3) := by decide +kernel
theorem d_MO_forget_78 : decode b_MO_forget 78 = .ok (.iload_n 1, 1) := by decide +kernel
theorem d_MO_forget_79 : decode b_MO_forget 79 = .ok (.iload_n 1, 1) := by decide +kernel
theorem d_MO_forget_80 : decode b_MO_forget 80 = .ok (.aload_n 0, 1) := by decide +kernel
theorem d_MO_forget_81 : decode b_MO_forget 81 = .ok (.getfield 80, 3) := by decide +kernel
theorem d_MO_forget_84 : decode b_MO_forget 84 = .ok (.if_icmp .ge 7, 3) := by decide +kernel
theorem d_MO_forget_87 : decode b_MO_forget 87 = .ok (.iconst 1, 1) := by decide +kernel
theorem d_MO_forget_88 : decode b_MO_forget 88 = .ok (.goto 4, 3) := by decide +kernel
theorem d_MO_forget_91 : decode b_MO_forget 91 = .ok (.iconst 0, 1) := by decide +kernel
theorem d_MO_forget_92 : decode b_MO_forget 92 = .ok (.bastore, 1) := by decide +kernel
theorem d_MO_forget_93 : decode b_MO_forget 93 = .ok (.aload_n 0, 1) := by decide +kernel
theorem d_MO_forget_94 : decode b_MO_forget 94 = .ok (.getfield 44, 3) := by decide +kernel
theorem d_MO_forget_97 : decode b_MO_forget 97 = .ok (.iload_n 1, 1) := by decide +kernel
theorem d_MO_forget_98 : decode b_MO_forget 98 = .ok (.iconst 0, 1) := by decide +kernel
theorem d_MO_forget_99 : decode b_MO_forget 99 = .ok (.iastore, 1) := by decide +kernel
theorem d_MO_forget_100 : decode b_MO_forget 100 = .ok (.aload_n 0, 1) := by decide +kernel
theorem d_MO_forget_101 : decode b_MO_forget 101 = .ok (.getfield 47, 3) := by decide +kernel
theorem d_MO_forget_104 : decode b_MO_forget 104 = .ok (.iload_n 1, 1) := by decide +kernel
theorem d_MO_forget_105 : decode b_MO_forget 105 = .ok (.iconst 0, 1) := by decide +kernel
theorem d_MO_forget_106 : decode b_MO_forget 106 = .ok (.iastore, 1) := by decide +kernel
theorem d_MO_forget_107 : decode b_MO_forget 107 = .ok (.aload_n 0, 1) := by decide +kernel
theorem d_MO_forget_108 : decode b_MO_forget 108 = .ok (.getfield 50, 3) := by decide +kernel
theorem d_MO_forget_111 : decode b_MO_forget 111 = .ok (.iload_n 1, 1) := by decide +kernel
theorem d_MO_forget_112 : decode b_MO_forget 112 = .ok (.iconst 0, 1) := by decide +kernel
theorem d_MO_forget_113 : decode b_MO_forget 113 = .ok (.iastore, 1) := by decide +kernel
theorem d_MO_forget_114 : decode b_MO_forget 114 = .ok (.aload_n 0, 1) := by decide +kernel
theorem d_MO_forget_115 : decode b_MO_forget 115 = .ok (.getfield 62, 3) := by decide +kernel
theorem d_MO_forget_118 : decode b_MO_forget 118 = .ok (.iload_n 1, 1) := by decide +kernel
theorem d_MO_forget_119 : decode b_MO_forget 119 = .ok (.iconst 0, 1) := by decide +kernel
theorem d_MO_forget_120 : decode b_MO_forget 120 = .ok (.iastore, 1) := by decide +kernel
theorem d_MO_forget_121 : decode b_MO_forget 121 = .ok (.iinc 1 1, 3) := by decide +kernel
theorem d_MO_forget_124 : decode b_MO_forget 124 = .ok (.goto (-56), 3) := by decide +kernel
theorem d_MO_forget_127 : decode b_MO_forget 127 = .ok (.return_, 1) := by decide +kernel
abbrev b_MO_goThrough : ByteArray := prog_12_method_22_code
def y_MO_goThrough : MethodName := ⟨"ExploreSharesModel", "goThrough", "()V"⟩
def w_MO_goThrough : List Cond := .code y_MO_goThrough b_MO_goThrough 2 (none) :: xU
theorem d_MO_goThrough_0 : decode b_MO_goThrough 0 = .ok (.aload_n 0, 1) := by decide +kernel
theorem d_MO_goThrough_1 : decode b_MO_goThrough 1 = .ok (.invokevirtual 167, 3) := by decide +kernel
theorem d_MO_goThrough_4 : decode b_MO_goThrough 4 = .ok (.aload_n 0, 1) := by decide +kernel
theorem d_MO_goThrough_5 : decode b_MO_goThrough 5 = .ok (.invokevirtual 170, 3) := by decide +kernel
theorem d_MO_goThrough_8 : decode b_MO_goThrough 8 = .ok (.istore_n 1, 1) := by decide +kernel
theorem d_MO_goThrough_9 : decode b_MO_goThrough 9 = .ok (.iload_n 1, 1) := by decide +kernel
theorem d_MO_goThrough_10 : decode b_MO_goThrough 10 = .ok (.ifCond .lt 84, 3) := by decide +kernel
theorem d_MO_goThrough_13 : decode b_MO_goThrough 13 = .ok (.aload_n 0, 1) := by decide +kernel
theorem d_MO_goThrough_14 : decode b_MO_goThrough 14 = .ok (.iload_n 1, 1) := by decide +kernel
theorem d_MO_goThrough_15 : decode b_MO_goThrough 15 = .ok (.invokevirtual 173, 3) := by decide +kernel
theorem d_MO_goThrough_18 : decode b_MO_goThrough 18 = .ok (.ifCond .eq 63, 3) := by decide +kernel
theorem d_MO_goThrough_21 : decode b_MO_goThrough 21 = .ok (.aload_n 0, 1) := by decide +kernel
theorem d_MO_goThrough_22 : decode b_MO_goThrough 22 = .ok (.getfield 68, 3) := by decide +kernel
theorem d_MO_goThrough_25 : decode b_MO_goThrough 25 = .ok (.aload_n 0, 1) := by decide +kernel
theorem d_MO_goThrough_26 : decode b_MO_goThrough 26 = .ok (.getfield 109, 3) := by decide +kernel
theorem d_MO_goThrough_29 : decode b_MO_goThrough 29 = .ok (.iload_n 1, 1) := by decide +kernel
theorem d_MO_goThrough_30 : decode b_MO_goThrough 30 = .ok (.iastore, 1) := by decide +kernel
theorem d_MO_goThrough_31 : decode b_MO_goThrough 31 = .ok (.aload_n 0, 1) := by decide +kernel
theorem d_MO_goThrough_32 : decode b_MO_goThrough 32 = .ok (.getfield 71, 3) := by decide +kernel
theorem d_MO_goThrough_35 : decode b_MO_goThrough 35 = .ok (.aload_n 0, 1) := by decide +kernel
theorem d_MO_goThrough_36 : decode b_MO_goThrough 36 = .ok (.getfield 109, 3) := by decide +kernel
theorem d_MO_goThrough_39 : decode b_MO_goThrough 39 = .ok (.aload_n 0, 1) := by decide +kernel
theorem d_MO_goThrough_40 : decode b_MO_goThrough 40 = .ok (.getfield 97, 3) := by decide +kernel
theorem d_MO_goThrough_43 : decode b_MO_goThrough 43 = .ok (.iastore, 1) := by decide +kernel
theorem d_MO_goThrough_44 : decode b_MO_goThrough 44 = .ok (.aload_n 0, 1) := by decide +kernel
theorem d_MO_goThrough_45 : decode b_MO_goThrough 45 = .ok (.getfield 74, 3) := by decide +kernel
theorem d_MO_goThrough_48 : decode b_MO_goThrough 48 = .ok (.aload_n 0, 1) := by decide +kernel
theorem d_MO_goThrough_49 : decode b_MO_goThrough 49 = .ok (.getfield 109, 3) := by decide +kernel
theorem d_MO_goThrough_52 : decode b_MO_goThrough 52 = .ok (.aload_n 0, 1) := by decide +kernel
theorem d_MO_goThrough_53 : decode b_MO_goThrough 53 = .ok (.getfield 103, 3) := by decide +kernel
theorem d_MO_goThrough_56 : decode b_MO_goThrough 56 = .ok (.iastore, 1) := by decide +kernel
theorem d_MO_goThrough_57 : decode b_MO_goThrough 57 = .ok (.aload_n 0, 1) := by decide +kernel
theorem d_MO_goThrough_58 : decode b_MO_goThrough 58 = .ok (.dup, 1) := by decide +kernel
theorem d_MO_goThrough_59 : decode b_MO_goThrough 59 = .ok (.getfield 109, 3) := by decide +kernel
theorem d_MO_goThrough_62 : decode b_MO_goThrough 62 = .ok (.iconst 1, 1) := by decide +kernel
theorem d_MO_goThrough_63 : decode b_MO_goThrough 63 = .ok (.iadd, 1) := by decide +kernel
theorem d_MO_goThrough_64 : decode b_MO_goThrough 64 = .ok (.putfield 109, 3) := by decide +kernel
theorem d_MO_goThrough_67 : decode b_MO_goThrough 67 = .ok (.aload_n 0, 1) := by decide +kernel
theorem d_MO_goThrough_68 : decode b_MO_goThrough 68 = .ok (.getfield 38, 3) := by decide +kernel
theorem d_MO_goThrough_71 : decode b_MO_goThrough 71 = .ok (.iload_n 1, 1) := by decide +kernel
theorem d_MO_goThrough_72 : decode b_MO_goThrough 72 = .ok (.iconst 0, 1) := by decide +kernel
theorem d_MO_goThrough_73 : decode b_MO_goThrough 73 = .ok (.bastore, 1) := by decide +kernel
theorem d_MO_goThrough_74 : decode b_MO_goThrough 74 = .ok (.aload_n 0, 1) := by decide +kernel
theorem d_MO_goThrough_75 : decode b_MO_goThrough 75 = .ok (.invokevirtual 167, 3) := by decide +kernel
theorem d_MO_goThrough_78 : decode b_MO_goThrough 78 = .ok (.goto 8, 3) := by decide +kernel
theorem d_MO_goThrough_81 : decode b_MO_goThrough 81 = .ok (.aload_n 0, 1) := by decide +kernel
theorem d_MO_goThrough_82 : decode b_MO_goThrough 82 = .ok (.iload_n 1, 1) := by decide +kernel
theorem d_MO_goThrough_83 : decode b_MO_goThrough 83 = .ok (.invokevirtual 176, 3) := by decide +kernel
theorem d_MO_goThrough_86 : decode b_MO_goThrough 86 = .ok (.aload_n 0, 1) := by decide +kernel
theorem d_MO_goThrough_87 : decode b_MO_goThrough 87 = .ok (.invokevirtual 170, 3) := by decide +kernel
theorem d_MO_goThrough_90 : decode b_MO_goThrough 90 = .ok (.istore_n 1, 1) := by decide +kernel
theorem d_MO_goThrough_91 : decode b_MO_goThrough 91 = .ok (.goto (-82), 3) := by decide +kernel
theorem d_MO_goThrough_94 : decode b_MO_goThrough 94 = .ok (.return_, 1) := by decide +kernel
abbrev b_MO_isDone : ByteArray := prog_12_method_15_code
def y_MO_isDone : MethodName := ⟨"ExploreSharesModel", "isDone", "(I)Z"⟩
def w_MO_isDone : List Cond := .code y_MO_isDone b_MO_isDone 2 (some .boolean) :: xU
theorem d_MO_isDone_0 : decode b_MO_isDone 0 = .ok (.aload_n 0, 1) := by decide +kernel
theorem d_MO_isDone_1 : decode b_MO_isDone 1 = .ok (.getfield 38, 3) := by decide +kernel
theorem d_MO_isDone_4 : decode b_MO_isDone 4 = .ok (.iload_n 1, 1) := by decide +kernel
theorem d_MO_isDone_5 : decode b_MO_isDone 5 = .ok (.baload, 1) := by decide +kernel
theorem d_MO_isDone_6 : decode b_MO_isDone 6 = .ok (.ifCond .eq 21, 3) := by decide +kernel
theorem d_MO_isDone_9 : decode b_MO_isDone 9 = .ok (.aload_n 0, 1) := by decide +kernel
theorem d_MO_isDone_10 : decode b_MO_isDone 10 = .ok (.getfield 62, 3) := by decide +kernel
theorem d_MO_isDone_13 : decode b_MO_isDone 13 = .ok (.iload_n 1, 1) := by decide +kernel
theorem d_MO_isDone_14 : decode b_MO_isDone 14 = .ok (.iaload, 1) := by decide +kernel
theorem d_MO_isDone_15 : decode b_MO_isDone 15 = .ok (.ifCond .ne 16, 3) := by decide +kernel
theorem d_MO_isDone_18 : decode b_MO_isDone 18 = .ok (.aload_n 0, 1) := by decide +kernel
theorem d_MO_isDone_19 : decode b_MO_isDone 19 = .ok (.getfield 56, 3) := by decide +kernel
theorem d_MO_isDone_22 : decode b_MO_isDone 22 = .ok (.iload_n 1, 1) := by decide +kernel
theorem d_MO_isDone_23 : decode b_MO_isDone 23 = .ok (.iaload, 1) := by decide +kernel
theorem d_MO_isDone_24 : decode b_MO_isDone 24 = .ok (.ifCond .ge 7, 3) := by decide +kernel
theorem d_MO_isDone_27 : decode b_MO_isDone 27 = .ok (.iconst 1, 1) := by decide +kernel
theorem d_MO_isDone_28 : decode b_MO_isDone 28 = .ok (.goto 4, 3) := by decide +kernel
theorem d_MO_isDone_31 : decode b_MO_isDone 31 = .ok (.iconst 0, 1) := by decide +kernel
theorem d_MO_isDone_32 : decode b_MO_isDone 32 = .ok (.ireturn, 1) := by decide +kernel
abbrev b_MO_isMove : ByteArray := prog_12_method_27_code
def y_MO_isMove : MethodName := ⟨"ExploreSharesModel", "isMove", "(II)Z"⟩
def w_MO_isMove : List Cond := .code y_MO_isMove b_MO_isMove 4 (some .boolean) :: xU
theorem d_MO_isMove_0 : decode b_MO_isMove 0 = .ok (.iconst 0, 1) := by decide +kernel
theorem d_MO_isMove_1 : decode b_MO_isMove 1 = .ok (.istore_n 3, 1) := by decide +kernel
theorem d_MO_isMove_2 : decode b_MO_isMove 2 = .ok (.iload_n 3, 1) := by decide +kernel
theorem d_MO_isMove_3 : decode b_MO_isMove 3 = .ok (.aload_n 0, 1) := by decide +kernel
theorem d_MO_isMove_4 : decode b_MO_isMove 4 = .ok (.getfield 123, 3) := by decide +kernel
theorem d_MO_isMove_7 : decode b_MO_isMove 7 = .ok (.if_icmp .ge 31, 3) := by decide +kernel
theorem d_MO_isMove_10 : decode b_MO_isMove 10 = .ok (.aload_n 0, 1) := by decide +kernel
theorem d_MO_isMove_11 : decode b_MO_isMove 11 = .ok (.getfield 7, 3) := by decide +kernel
theorem d_MO_isMove_14 : decode b_MO_isMove 14 = .ok (.iload_n 3, 1) := by decide +kernel
theorem d_MO_isMove_15 : decode b_MO_isMove 15 = .ok (.iaload, 1) := by decide +kernel
theorem d_MO_isMove_16 : decode b_MO_isMove 16 = .ok (.iload_n 1, 1) := by decide +kernel
theorem d_MO_isMove_17 : decode b_MO_isMove 17 = .ok (.if_icmp .ne 15, 3) := by decide +kernel
theorem d_MO_isMove_20 : decode b_MO_isMove 20 = .ok (.aload_n 0, 1) := by decide +kernel
theorem d_MO_isMove_21 : decode b_MO_isMove 21 = .ok (.getfield 13, 3) := by decide +kernel
theorem d_MO_isMove_24 : decode b_MO_isMove 24 = .ok (.iload_n 3, 1) := by decide +kernel
theorem d_MO_isMove_25 : decode b_MO_isMove 25 = .ok (.iaload, 1) := by decide +kernel
theorem d_MO_isMove_26 : decode b_MO_isMove 26 = .ok (.iload_n 2, 1) := by decide +kernel
theorem d_MO_isMove_27 : decode b_MO_isMove 27 = .ok (.if_icmp .ne 5, 3) := by decide +kernel
theorem d_MO_isMove_30 : decode b_MO_isMove 30 = .ok (.iconst 1, 1) := by decide +kernel
theorem d_MO_isMove_31 : decode b_MO_isMove 31 = .ok (.ireturn, 1) := by decide +kernel
theorem d_MO_isMove_32 : decode b_MO_isMove 32 = .ok (.iinc 3 1, 3) := by decide +kernel
theorem d_MO_isMove_35 : decode b_MO_isMove 35 = .ok (.goto (-33), 3) := by decide +kernel
theorem d_MO_isMove_38 : decode b_MO_isMove 38 = .ok (.iconst 0, 1) := by decide +kernel
theorem d_MO_isMove_39 : decode b_MO_isMove 39 = .ok (.ireturn, 1) := by decide +kernel
abbrev b_MO_isOf : ByteArray := prog_12_method_4_code
def y_MO_isOf : MethodName := ⟨"ExploreSharesModel", "isOf", "(II)Z"⟩
def w_MO_isOf : List Cond := .code y_MO_isOf b_MO_isOf 2 (some .boolean) :: xU
theorem d_MO_isOf_0 : decode b_MO_isOf 0 = .ok (.iload_n 0, 1) := by decide +kernel
theorem d_MO_isOf_1 : decode b_MO_isOf 1 = .ok (.ifCond .lt 12, 3) := by decide +kernel
theorem d_MO_isOf_4 : decode b_MO_isOf 4 = .ok (.iload_n 0, 1) := by decide +kernel
theorem d_MO_isOf_5 : decode b_MO_isOf 5 = .ok (.iload_n 1, 1) := by decide +kernel
theorem d_MO_isOf_6 : decode b_MO_isOf 6 = .ok (.if_icmp .ge 7, 3) := by decide +kernel
theorem d_MO_isOf_9 : decode b_MO_isOf 9 = .ok (.iconst 1, 1) := by decide +kernel
theorem d_MO_isOf_10 : decode b_MO_isOf 10 = .ok (.goto 4, 3) := by decide +kernel
theorem d_MO_isOf_13 : decode b_MO_isOf 13 = .ok (.iconst 0, 1) := by decide +kernel
theorem d_MO_isOf_14 : decode b_MO_isOf 14 = .ok (.ireturn, 1) := by decide +kernel
abbrev b_MO_level : ByteArray := prog_12_method_24_code
def y_MO_level : MethodName := ⟨"ExploreSharesModel", "level", "(I)I"⟩
def w_MO_level : List Cond := .code y_MO_level b_MO_level 2 (some .int) :: xU
theorem d_MO_level_0 : decode b_MO_level 0 = .ok (.aload_n 0, 1) := by decide +kernel
theorem d_MO_level_1 : decode b_MO_level 1 = .ok (.iload_n 1, 1) := by decide +kernel
theorem d_MO_level_2 : decode b_MO_level 2 = .ok (.aload_n 0, 1) := by decide +kernel
theorem d_MO_level_3 : decode b_MO_level 3 = .ok (.getfield 112, 3) := by decide +kernel
theorem d_MO_level_6 : decode b_MO_level 6 = .ok (.invokestatic 119, 3) := by decide +kernel
theorem d_MO_level_9 : decode b_MO_level 9 = .ok (.ifCond .ne 7, 3) := by decide +kernel
theorem d_MO_level_12 : decode b_MO_level 12 = .ok (.iconst 1, 1) := by decide +kernel
theorem d_MO_level_13 : decode b_MO_level 13 = .ok (.goto 4, 3) := by decide +kernel
theorem d_MO_level_16 : decode b_MO_level 16 = .ok (.iconst 0, 1) := by decide +kernel
theorem d_MO_level_17 : decode b_MO_level 17 = .ok (.iconst 0, 1) := by decide +kernel
theorem d_MO_level_18 : decode b_MO_level 18 = .ok (.iconst 0, 1) := by decide +kernel
theorem d_MO_level_19 : decode b_MO_level 19 = .ok (.invokevirtual 115, 3) := by decide +kernel
theorem d_MO_level_22 : decode b_MO_level 22 = .ok (.ifCond .eq 7, 3) := by decide +kernel
theorem d_MO_level_25 : decode b_MO_level 25 = .ok (.iconst 0, 1) := by decide +kernel
theorem d_MO_level_26 : decode b_MO_level 26 = .ok (.goto 9, 3) := by decide +kernel
theorem d_MO_level_29 : decode b_MO_level 29 = .ok (.aload_n 0, 1) := by decide +kernel
theorem d_MO_level_30 : decode b_MO_level 30 = .ok (.getfield 25, 3) := by decide +kernel
theorem d_MO_level_33 : decode b_MO_level 33 = .ok (.iload_n 1, 1) := by decide +kernel
theorem d_MO_level_34 : decode b_MO_level 34 = .ok (.iaload, 1) := by decide +kernel
theorem d_MO_level_35 : decode b_MO_level 35 = .ok (.ireturn, 1) := by decide +kernel
abbrev b_MO_live : ByteArray := prog_12_method_19_code
def y_MO_live : MethodName := ⟨"ExploreSharesModel", "live", "()I"⟩
def w_MO_live : List Cond := .code y_MO_live b_MO_live 3 (some .int) :: xU
theorem d_MO_live_0 : decode b_MO_live 0 = .ok (.iconst 0, 1) := by decide +kernel
theorem d_MO_live_1 : decode b_MO_live 1 = .ok (.istore_n 1, 1) := by decide +kernel
theorem d_MO_live_2 : decode b_MO_live 2 = .ok (.iconst 0, 1) := by decide +kernel
theorem d_MO_live_3 : decode b_MO_live 3 = .ok (.istore_n 2, 1) := by decide +kernel
theorem d_MO_live_4 : decode b_MO_live 4 = .ok (.iload_n 2, 1) := by decide +kernel
theorem d_MO_live_5 : decode b_MO_live 5 = .ok (.aload_n 0, 1) := by decide +kernel
theorem d_MO_live_6 : decode b_MO_live 6 = .ok (.getfield 80, 3) := by decide +kernel
theorem d_MO_live_9 : decode b_MO_live 9 = .ok (.if_icmp .ge 26, 3) := by decide +kernel
theorem d_MO_live_12 : decode b_MO_live 12 = .ok (.iload_n 1, 1) := by decide +kernel
theorem d_MO_live_13 : decode b_MO_live 13 = .ok (.aload_n 0, 1) := by decide +kernel
theorem d_MO_live_14 : decode b_MO_live 14 = .ok (.getfield 38, 3) := by decide +kernel
theorem d_MO_live_17 : decode b_MO_live 17 = .ok (.iload_n 2, 1) := by decide +kernel
theorem d_MO_live_18 : decode b_MO_live 18 = .ok (.baload, 1) := by decide +kernel
theorem d_MO_live_19 : decode b_MO_live 19 = .ok (.ifCond .eq 7, 3) := by decide +kernel
theorem d_MO_live_22 : decode b_MO_live 22 = .ok (.iconst 1, 1) := by decide +kernel
theorem d_MO_live_23 : decode b_MO_live 23 = .ok (.goto 4, 3) := by decide +kernel
theorem d_MO_live_26 : decode b_MO_live 26 = .ok (.iconst 0, 1) := by decide +kernel
theorem d_MO_live_27 : decode b_MO_live 27 = .ok (.iadd, 1) := by decide +kernel
theorem d_MO_live_28 : decode b_MO_live 28 = .ok (.istore_n 1, 1) := by decide +kernel
theorem d_MO_live_29 : decode b_MO_live 29 = .ok (.iinc 2 1, 3) := by decide +kernel
theorem d_MO_live_32 : decode b_MO_live 32 = .ok (.goto (-28), 3) := by decide +kernel
theorem d_MO_live_35 : decode b_MO_live 35 = .ok (.iload_n 1, 1) := by decide +kernel
theorem d_MO_live_36 : decode b_MO_live 36 = .ok (.ireturn, 1) := by decide +kernel
abbrev b_MO_meet : ByteArray := prog_12_method_16_code
def y_MO_meet : MethodName := ⟨"ExploreSharesModel", "meet", "(I)V"⟩
def w_MO_meet : List Cond := .code y_MO_meet b_MO_meet 2 (none) :: xU
theorem d_MO_meet_0 : decode b_MO_meet 0 = .ok (.aload_n 0, 1) := by decide +kernel
theorem d_MO_meet_1 : decode b_MO_meet 1 = .ok (.getfield 34, 3) := by decide +kernel
theorem d_MO_meet_4 : decode b_MO_meet 4 = .ok (.iload_n 1, 1) := by decide +kernel
theorem d_MO_meet_5 : decode b_MO_meet 5 = .ok (.aload_n 0, 1) := by decide +kernel
theorem d_MO_meet_6 : decode b_MO_meet 6 = .ok (.getfield 34, 3) := by decide +kernel
theorem d_MO_meet_9 : decode b_MO_meet 9 = .ok (.iload_n 1, 1) := by decide +kernel
theorem d_MO_meet_10 : decode b_MO_meet 10 = .ok (.baload, 1) := by decide +kernel
theorem d_MO_meet_11 : decode b_MO_meet 11 = .ok (.ifCond .ne 12, 3) := by decide +kernel
theorem d_MO_meet_14 : decode b_MO_meet 14 = .ok (.aload_n 0, 1) := by decide +kernel
theorem d_MO_meet_15 : decode b_MO_meet 15 = .ok (.getfield 25, 3) := by decide +kernel
theorem d_MO_meet_18 : decode b_MO_meet 18 = .ok (.iload_n 1, 1) := by decide +kernel
theorem d_MO_meet_19 : decode b_MO_meet 19 = .ok (.iaload, 1) := by decide +kernel
theorem d_MO_meet_20 : decode b_MO_meet 20 = .ok (.ifCond .ge 7, 3) := by decide +kernel
theorem d_MO_meet_23 : decode b_MO_meet 23 = .ok (.iconst 1, 1) := by decide +kernel
theorem d_MO_meet_24 : decode b_MO_meet 24 = .ok (.goto 4, 3) := by decide +kernel
theorem d_MO_meet_27 : decode b_MO_meet 27 = .ok (.iconst 0, 1) := by decide +kernel
theorem d_MO_meet_28 : decode b_MO_meet 28 = .ok (.bastore, 1) := by decide +kernel
theorem d_MO_meet_29 : decode b_MO_meet 29 = .ok (.return_, 1) := by decide +kernel
abbrev b_MO_move : ByteArray := prog_12_method_7_code
def y_MO_move : MethodName := ⟨"ExploreSharesModel", "move", "(II)I"⟩
def w_MO_move : List Cond := .code y_MO_move b_MO_move 3 (some .int) :: xU
theorem d_MO_move_0 : decode b_MO_move 0 = .ok (.aload_n 0, 1) := by decide +kernel
theorem d_MO_move_1 : decode b_MO_move 1 = .ok (.iload_n 1, 1) := by decide +kernel
theorem d_MO_move_2 : decode b_MO_move 2 = .ok (.aload_n 0, 1) := by decide +kernel
theorem d_MO_move_3 : decode b_MO_move 3 = .ok (.getfield 112, 3) := by decide +kernel
theorem d_MO_move_6 : decode b_MO_move 6 = .ok (.invokestatic 119, 3) := by decide +kernel
theorem d_MO_move_9 : decode b_MO_move 9 = .ok (.ifCond .eq 14, 3) := by decide +kernel
theorem d_MO_move_12 : decode b_MO_move 12 = .ok (.iload_n 2, 1) := by decide +kernel
theorem d_MO_move_13 : decode b_MO_move 13 = .ok (.aload_n 0, 1) := by decide +kernel
theorem d_MO_move_14 : decode b_MO_move 14 = .ok (.getfield 112, 3) := by decide +kernel
theorem d_MO_move_17 : decode b_MO_move 17 = .ok (.invokestatic 119, 3) := by decide +kernel
theorem d_MO_move_20 : decode b_MO_move 20 = .ok (.ifCond .ne 7, 3) := by decide +kernel
theorem d_MO_move_23 : decode b_MO_move 23 = .ok (.iconst 1, 1) := by decide +kernel
theorem d_MO_move_24 : decode b_MO_move 24 = .ok (.goto 4, 3) := by decide +kernel
theorem d_MO_move_27 : decode b_MO_move 27 = .ok (.iconst 0, 1) := by decide +kernel
theorem d_MO_move_28 : decode b_MO_move 28 = .ok (.aload_n 0, 1) := by decide +kernel
theorem d_MO_move_29 : decode b_MO_move 29 = .ok (.getfield 123, 3) := by decide +kernel
theorem d_MO_move_32 : decode b_MO_move 32 = .ok (.sipush 600, 3) := by decide +kernel
theorem d_MO_move_35 : decode b_MO_move 35 = .ok (.if_icmp .ne 7, 3) := by decide +kernel
theorem d_MO_move_38 : decode b_MO_move 38 = .ok (.iconst 1, 1) := by decide +kernel
theorem d_MO_move_39 : decode b_MO_move 39 = .ok (.goto 4, 3) := by decide +kernel
theorem d_MO_move_42 : decode b_MO_move 42 = .ok (.iconst 0, 1) := by decide +kernel
theorem d_MO_move_43 : decode b_MO_move 43 = .ok (.iconst 0, 1) := by decide +kernel
theorem d_MO_move_44 : decode b_MO_move 44 = .ok (.invokevirtual 115, 3) := by decide +kernel
theorem d_MO_move_47 : decode b_MO_move 47 = .ok (.ifCond .eq 5, 3) := by decide +kernel
theorem d_MO_move_50 : decode b_MO_move 50 = .ok (.iconst 0, 1) := by decide +kernel
theorem d_MO_move_51 : decode b_MO_move 51 = .ok (.ireturn, 1) := by decide +kernel
theorem d_MO_move_52 : decode b_MO_move 52 = .ok (.aload_n 0, 1) := by decide +kernel
theorem d_MO_move_53 : decode b_MO_move 53 = .ok (.invokevirtual 87, 3) := by decide +kernel
theorem d_MO_move_56 : decode b_MO_move 56 = .ok (.aload_n 0, 1) := by decide +kernel
theorem d_MO_move_57 : decode b_MO_move 57 = .ok (.getfield 7, 3) := by decide +kernel
theorem d_MO_move_60 : decode b_MO_move 60 = .ok (.aload_n 0, 1) := by decide +kernel
theorem d_MO_move_61 : decode b_MO_move 61 = .ok (.getfield 123, 3) := by decide +kernel
theorem d_MO_move_64 : decode b_MO_move 64 = .ok (.iload_n 1, 1) := by decide +kernel
theorem d_MO_move_65 : decode b_MO_move 65 = .ok (.iastore, 1) := by decide +kernel
theorem d_MO_move_66 : decode b_MO_move 66 = .ok (.aload_n 0, 1) := by decide +kernel
theorem d_MO_move_67 : decode b_MO_move 67 = .ok (.getfield 13, 3) := by decide +kernel
theorem d_MO_move_70 : decode b_MO_move 70 = .ok (.aload_n 0, 1) := by decide +kernel
theorem d_MO_move_71 : decode b_MO_move 71 = .ok (.getfield 123, 3) := by decide +kernel
theorem d_MO_move_74 : decode b_MO_move 74 = .ok (.iload_n 2, 1) := by decide +kernel
theorem d_MO_move_75 : decode b_MO_move 75 = .ok (.iastore, 1) := by decide +kernel
theorem d_MO_move_76 : decode b_MO_move 76 = .ok (.aload_n 0, 1) := by decide +kernel
theorem d_MO_move_77 : decode b_MO_move 77 = .ok (.dup, 1) := by decide +kernel
theorem d_MO_move_78 : decode b_MO_move 78 = .ok (.getfield 123, 3) := by decide +kernel
theorem d_MO_move_81 : decode b_MO_move 81 = .ok (.iconst 1, 1) := by decide +kernel
theorem d_MO_move_82 : decode b_MO_move 82 = .ok (.iadd, 1) := by decide +kernel
theorem d_MO_move_83 : decode b_MO_move 83 = .ok (.putfield 123, 3) := by decide +kernel
theorem d_MO_move_86 : decode b_MO_move 86 = .ok (.aload_n 0, 1) := by decide +kernel
theorem d_MO_move_87 : decode b_MO_move 87 = .ok (.getfield 123, 3) := by decide +kernel
theorem d_MO_move_90 : decode b_MO_move 90 = .ok (.ireturn, 1) := by decide +kernel
abbrev b_MO_nextState : ByteArray := prog_12_method_12_code
def y_MO_nextState : MethodName := ⟨"ExploreSharesModel", "nextState", "(II)I"⟩
def w_MO_nextState : List Cond := .code y_MO_nextState b_MO_nextState 4 (some .int) :: xU
theorem d_MO_nextState_0 : decode b_MO_nextState 0 = .ok (.iload_n 2, 1) := by decide +kernel
theorem d_MO_nextState_1 : decode b_MO_nextState 1 = .ok (.istore_n 3, 1) := by decide +kernel
theorem d_MO_nextState_2 : decode b_MO_nextState 2 = .ok (.iload_n 3, 1) := by decide +kernel
theorem d_MO_nextState_3 : decode b_MO_nextState 3 = .ok (.aload_n 0, 1) := by decide +kernel
theorem d_MO_nextState_4 : decode b_MO_nextState 4 = .ok (.getfield 112, 3) := by decide +kernel
theorem d_MO_nextState_7 : decode b_MO_nextState 7 = .ok (.if_icmp .ge 33, 3) := by decide +kernel
theorem d_MO_nextState_10 : decode b_MO_nextState 10 = .ok (.aload_n 0, 1) := by decide +kernel
theorem d_MO_nextState_11 : decode b_MO_nextState 11 = .ok (.getfield 25, 3) := by decide +kernel
theorem d_MO_nextState_14 : decode b_MO_nextState 14 = .ok (.iload_n 3, 1) := by decide +kernel
theorem d_MO_nextState_15 : decode b_MO_nextState 15 = .ok (.iaload, 1) := by decide +kernel
theorem d_MO_nextState_16 : decode b_MO_nextState 16 = .ok (.aload_n 0, 1) := by decide +kernel
theorem d_MO_nextState_17 : decode b_MO_nextState 17 = .ok (.getfield 97, 3) := by decide +kernel
theorem d_MO_nextState_20 : decode b_MO_nextState 20 = .ok (.if_icmp .ne 14, 3) := by decide +kernel
theorem d_MO_nextState_23 : decode b_MO_nextState 23 = .ok (.aload_n 0, 1) := by decide +kernel
theorem d_MO_nextState_24 : decode b_MO_nextState 24 = .ok (.iload_n 3, 1) := by decide +kernel
theorem d_MO_nextState_25 : decode b_MO_nextState 25 = .ok (.invokevirtual 140, 3) := by decide +kernel
theorem d_MO_nextState_28 : decode b_MO_nextState 28 = .ok (.iload_n 1, 1) := by decide +kernel
theorem d_MO_nextState_29 : decode b_MO_nextState 29 = .ok (.if_icmp .ne 5, 3) := by decide +kernel
theorem d_MO_nextState_32 : decode b_MO_nextState 32 = .ok (.iload_n 3, 1) := by decide +kernel
theorem d_MO_nextState_33 : decode b_MO_nextState 33 = .ok (.ireturn, 1) := by decide +kernel
theorem d_MO_nextState_34 : decode b_MO_nextState 34 = .ok (.iinc 3 1, 3) := by decide +kernel
theorem d_MO_nextState_37 : decode b_MO_nextState 37 = .ok (.goto (-35), 3) := by decide +kernel
theorem d_MO_nextState_40 : decode b_MO_nextState 40 = .ok (.iconst (-1), 1) := by decide +kernel
theorem d_MO_nextState_41 : decode b_MO_nextState 41 = .ok (.ireturn, 1) := by decide +kernel
abbrev b_MO_owned : ByteArray := prog_12_method_30_code
def y_MO_owned : MethodName := ⟨"ExploreSharesModel", "owned", "(I)I"⟩
def w_MO_owned : List Cond := .code y_MO_owned b_MO_owned 4 (some .int) :: xU
theorem d_MO_owned_0 : decode b_MO_owned 0 = .ok (.iconst 0, 1) := by decide +kernel
theorem d_MO_owned_1 : decode b_MO_owned 1 = .ok (.istore_n 2, 1) := by decide +kernel
theorem d_MO_owned_2 : decode b_MO_owned 2 = .ok (.iconst 0, 1) := by decide +kernel
theorem d_MO_owned_3 : decode b_MO_owned 3 = .ok (.istore_n 3, 1) := by decide +kernel
theorem d_MO_owned_4 : decode b_MO_owned 4 = .ok (.iload_n 3, 1) := by decide +kernel
theorem d_MO_owned_5 : decode b_MO_owned 5 = .ok (.aload_n 0, 1) := by decide +kernel
theorem d_MO_owned_6 : decode b_MO_owned 6 = .ok (.getfield 112, 3) := by decide +kernel
theorem d_MO_owned_9 : decode b_MO_owned 9 = .ok (.if_icmp .ge 35, 3) := by decide +kernel
theorem d_MO_owned_12 : decode b_MO_owned 12 = .ok (.iload_n 2, 1) := by decide +kernel
theorem d_MO_owned_13 : decode b_MO_owned 13 = .ok (.aload_n 0, 1) := by decide +kernel
theorem d_MO_owned_14 : decode b_MO_owned 14 = .ok (.getfield 25, 3) := by decide +kernel
theorem d_MO_owned_17 : decode b_MO_owned 17 = .ok (.iload_n 3, 1) := by decide +kernel
theorem d_MO_owned_18 : decode b_MO_owned 18 = .ok (.iaload, 1) := by decide +kernel
theorem d_MO_owned_19 : decode b_MO_owned 19 = .ok (.ifCond .lt 16, 3) := by decide +kernel
theorem d_MO_owned_22 : decode b_MO_owned 22 = .ok (.aload_n 0, 1) := by decide +kernel
theorem d_MO_owned_23 : decode b_MO_owned 23 = .ok (.iload_n 3, 1) := by decide +kernel
theorem d_MO_owned_24 : decode b_MO_owned 24 = .ok (.invokevirtual 140, 3) := by decide +kernel
theorem d_MO_owned_27 : decode b_MO_owned 27 = .ok (.iload_n 1, 1) := by decide +kernel
theorem d_MO_owned_28 : decode b_MO_owned 28 = .ok (.if_icmp .ne 7, 3) := by decide +kernel
theorem d_MO_owned_31 : decode b_MO_owned 31 = .ok (.iconst 1, 1) := by decide +kernel
theorem d_MO_owned_32 : decode b_MO_owned 32 = .ok (.goto 4, 3) := by decide +kernel
theorem d_MO_owned_35 : decode b_MO_owned 35 = .ok (.iconst 0, 1) := by decide +kernel
theorem d_MO_owned_36 : decode b_MO_owned 36 = .ok (.iadd, 1) := by decide +kernel
theorem d_MO_owned_37 : decode b_MO_owned 37 = .ok (.istore_n 2, 1) := by decide +kernel
theorem d_MO_owned_38 : decode b_MO_owned 38 = .ok (.iinc 3 1, 3) := by decide +kernel
theorem d_MO_owned_41 : decode b_MO_owned 41 = .ok (.goto (-37), 3) := by decide +kernel
theorem d_MO_owned_44 : decode b_MO_owned 44 = .ok (.iload_n 2, 1) := by decide +kernel
theorem d_MO_owned_45 : decode b_MO_owned 45 = .ok (.ireturn, 1) := by decide +kernel
abbrev b_MO_owner : ByteArray := prog_12_method_25_code
def y_MO_owner : MethodName := ⟨"ExploreSharesModel", "owner", "(I)I"⟩
def w_MO_owner : List Cond := .code y_MO_owner b_MO_owner 2 (some .int) :: xU
theorem d_MO_owner_0 : decode b_MO_owner 0 = .ok (.aload_n 0, 1) := by decide +kernel
theorem d_MO_owner_1 : decode b_MO_owner 1 = .ok (.iload_n 1, 1) := by decide +kernel
theorem d_MO_owner_2 : decode b_MO_owner 2 = .ok (.aload_n 0, 1) := by decide +kernel
theorem d_MO_owner_3 : decode b_MO_owner 3 = .ok (.getfield 112, 3) := by decide +kernel
theorem d_MO_owner_6 : decode b_MO_owner 6 = .ok (.invokestatic 119, 3) := by decide +kernel
theorem d_MO_owner_9 : decode b_MO_owner 9 = .ok (.ifCond .ne 7, 3) := by decide +kernel
theorem d_MO_owner_12 : decode b_MO_owner 12 = .ok (.iconst 1, 1) := by decide +kernel
theorem d_MO_owner_13 : decode b_MO_owner 13 = .ok (.goto 4, 3) := by decide +kernel
theorem d_MO_owner_16 : decode b_MO_owner 16 = .ok (.iconst 0, 1) := by decide +kernel
theorem d_MO_owner_17 : decode b_MO_owner 17 = .ok (.iconst 0, 1) := by decide +kernel
theorem d_MO_owner_18 : decode b_MO_owner 18 = .ok (.iconst 0, 1) := by decide +kernel
theorem d_MO_owner_19 : decode b_MO_owner 19 = .ok (.invokevirtual 115, 3) := by decide +kernel
theorem d_MO_owner_22 : decode b_MO_owner 22 = .ok (.ifCond .eq 7, 3) := by decide +kernel
theorem d_MO_owner_25 : decode b_MO_owner 25 = .ok (.iconst 0, 1) := by decide +kernel
theorem d_MO_owner_26 : decode b_MO_owner 26 = .ok (.goto 8, 3) := by decide +kernel
theorem d_MO_owner_29 : decode b_MO_owner 29 = .ok (.aload_n 0, 1) := by decide +kernel
theorem d_MO_owner_30 : decode b_MO_owner 30 = .ok (.iload_n 1, 1) := by decide +kernel
theorem d_MO_owner_31 : decode b_MO_owner 31 = .ok (.invokevirtual 140, 3) := by decide +kernel
theorem d_MO_owner_34 : decode b_MO_owner 34 = .ok (.ireturn, 1) := by decide +kernel
abbrev b_MO_ownerOf : ByteArray := prog_12_method_11_code
def y_MO_ownerOf : MethodName := ⟨"ExploreSharesModel", "ownerOf", "(I)I"⟩
def w_MO_ownerOf : List Cond := .code y_MO_ownerOf b_MO_ownerOf 3 (some .int) :: xU
theorem d_MO_ownerOf_0 : decode b_MO_ownerOf 0 = .ok (.iload_n 1, 1) := by decide +kernel
theorem d_MO_ownerOf_1 : decode b_MO_ownerOf 1 = .ok (.invokestatic 135, 3) := by decide +kernel
theorem d_MO_ownerOf_4 : decode b_MO_ownerOf 4 = .ok (.ldc 139, 2) := by decide +kernel
theorem d_MO_ownerOf_6 : decode b_MO_ownerOf 6 = .ok (.idiv, 1) := by decide +kernel
theorem d_MO_ownerOf_7 : decode b_MO_ownerOf 7 = .ok (.aload_n 0, 1) := by decide +kernel
theorem d_MO_ownerOf_8 : decode b_MO_ownerOf 8 = .ok (.getfield 80, 3) := by decide +kernel
theorem d_MO_ownerOf_11 : decode b_MO_ownerOf 11 = .ok (.irem, 1) := by decide +kernel
theorem d_MO_ownerOf_12 : decode b_MO_ownerOf 12 = .ok (.istore_n 2, 1) := by decide +kernel
theorem d_MO_ownerOf_13 : decode b_MO_ownerOf 13 = .ok (.aload_n 0, 1) := by decide +kernel
theorem d_MO_ownerOf_14 : decode b_MO_ownerOf 14 = .ok (.getfield 38, 3) := by decide +kernel
theorem d_MO_ownerOf_17 : decode b_MO_ownerOf 17 = .ok (.iload_n 2, 1) := by decide +kernel
theorem d_MO_ownerOf_18 : decode b_MO_ownerOf 18 = .ok (.baload, 1) := by decide +kernel
theorem d_MO_ownerOf_19 : decode b_MO_ownerOf 19 = .ok (.ifCond .ne 15, 3) := by decide +kernel
theorem d_MO_ownerOf_22 : decode b_MO_ownerOf 22 = .ok (.iload_n 2, 1) := by decide +kernel
theorem d_MO_ownerOf_23 : decode b_MO_ownerOf 23 = .ok (.iconst 1, 1) := by decide +kernel
theorem d_MO_ownerOf_24 : decode b_MO_ownerOf 24 = .ok (.iadd, 1) := by decide +kernel
theorem d_MO_ownerOf_25 : decode b_MO_ownerOf 25 = .ok (.aload_n 0, 1) := by decide +kernel
theorem d_MO_ownerOf_26 : decode b_MO_ownerOf 26 = .ok (.getfield 80, 3) := by decide +kernel
theorem d_MO_ownerOf_29 : decode b_MO_ownerOf 29 = .ok (.irem, 1) := by decide +kernel
theorem d_MO_ownerOf_30 : decode b_MO_ownerOf 30 = .ok (.istore_n 2, 1) := by decide +kernel
theorem d_MO_ownerOf_31 : decode b_MO_ownerOf 31 = .ok (.goto (-18), 3) := by decide +kernel
theorem d_MO_ownerOf_34 : decode b_MO_ownerOf 34 = .ok (.iload_n 2, 1) := by decide +kernel
theorem d_MO_ownerOf_35 : decode b_MO_ownerOf 35 = .ok (.ireturn, 1) := by decide +kernel
abbrev b_MO_pick : ByteArray := prog_12_method_21_code
def y_MO_pick : MethodName := ⟨"ExploreSharesModel", "pick", "()I"⟩
def w_MO_pick : List Cond := .code y_MO_pick b_MO_pick 4 (some .int) :: xU
theorem d_MO_pick_0 : decode b_MO_pick 0 = .ok (.iconst 0, 1) := by decide +kernel
theorem d_MO_pick_1 : decode b_MO_pick 1 = .ok (.istore_n 1, 1) := by decide +kernel
theorem d_MO_pick_2 : decode b_MO_pick 2 = .ok (.iconst 0, 1) := by decide +kernel
theorem d_MO_pick_3 : decode b_MO_pick 3 = .ok (.istore_n 2, 1) := by decide +kernel
theorem d_MO_pick_4 : decode b_MO_pick 4 = .ok (.iload_n 2, 1) := by decide +kernel
theorem d_MO_pick_5 : decode b_MO_pick 5 = .ok (.aload_n 0, 1) := by decide +kernel
theorem d_MO_pick_6 : decode b_MO_pick 6 = .ok (.getfield 80, 3) := by decide +kernel
theorem d_MO_pick_9 : decode b_MO_pick 9 = .ok (.if_icmp .ge 25, 3) := by decide +kernel
theorem d_MO_pick_12 : decode b_MO_pick 12 = .ok (.iload_n 1, 1) := by decide +kernel
theorem d_MO_pick_13 : decode b_MO_pick 13 = .ok (.aload_n 0, 1) := by decide +kernel
theorem d_MO_pick_14 : decode b_MO_pick 14 = .ok (.iload_n 2, 1) := by decide +kernel
theorem d_MO_pick_15 : decode b_MO_pick 15 = .ok (.invokevirtual 160, 3) := by decide +kernel
theorem d_MO_pick_18 : decode b_MO_pick 18 = .ok (.ifCond .eq 7, 3) := by decide +kernel
theorem d_MO_pick_21 : decode b_MO_pick 21 = .ok (.iconst 0, 1) := by decide +kernel
theorem d_MO_pick_22 : decode b_MO_pick 22 = .ok (.goto 4, 3) := by decide +kernel
theorem d_MO_pick_25 : decode b_MO_pick 25 = .ok (.iconst 1, 1) := by decide +kernel
theorem d_MO_pick_26 : decode b_MO_pick 26 = .ok (.iadd, 1) := by decide +kernel
theorem d_MO_pick_27 : decode b_MO_pick 27 = .ok (.istore_n 1, 1) := by decide +kernel
theorem d_MO_pick_28 : decode b_MO_pick 28 = .ok (.iinc 2 1, 3) := by decide +kernel
theorem d_MO_pick_31 : decode b_MO_pick 31 = .ok (.goto (-27), 3) := by decide +kernel
theorem d_MO_pick_34 : decode b_MO_pick 34 = .ok (.iload_n 1, 1) := by decide +kernel
theorem d_MO_pick_35 : decode b_MO_pick 35 = .ok (.ifCond .ne 5, 3) := by decide +kernel
theorem d_MO_pick_38 : decode b_MO_pick 38 = .ok (.iconst (-1), 1) := by decide +kernel
theorem d_MO_pick_39 : decode b_MO_pick 39 = .ok (.ireturn, 1) := by decide +kernel
theorem d_MO_pick_40 : decode b_MO_pick 40 = .ok (.aload_n 0, 1) := by decide +kernel
theorem d_MO_pick_41 : decode b_MO_pick 41 = .ok (.aload_n 0, 1) := by decide +kernel
theorem d_MO_pick_42 : decode b_MO_pick 42 = .ok (.getfield 164, 3) := by decide +kernel
theorem d_MO_pick_45 : decode b_MO_pick 45 = .ok (.invokestatic 135, 3) := by decide +kernel
theorem d_MO_pick_48 : decode b_MO_pick 48 = .ok (.putfield 164, 3) := by decide +kernel
theorem d_MO_pick_51 : decode b_MO_pick 51 = .ok (.aload_n 0, 1) := by decide +kernel
theorem d_MO_pick_52 : decode b_MO_pick 52 = .ok (.getfield 164, 3) := by decide +kernel
theorem d_MO_pick_55 : decode b_MO_pick 55 = .ok (.ldc 139, 2) := by decide +kernel
theorem d_MO_pick_57 : decode b_MO_pick 57 = .ok (.idiv, 1) := by decide +kernel
theorem d_MO_pick_58 : decode b_MO_pick 58 = .ok (.iload_n 1, 1) := by decide +kernel
theorem d_MO_pick_59 : decode b_MO_pick 59 = .ok (.irem, 1) := by decide +kernel
theorem d_MO_pick_60 : decode b_MO_pick 60 = .ok (.istore_n 2, 1) := by decide +kernel
theorem d_MO_pick_61 : decode b_MO_pick 61 = .ok (.iconst 0, 1) := by decide +kernel
theorem d_MO_pick_62 : decode b_MO_pick 62 = .ok (.istore_n 3, 1) := by decide +kernel
theorem d_MO_pick_63 : decode b_MO_pick 63 = .ok (.iload_n 3, 1) := by decide +kernel
theorem d_MO_pick_64 : decode b_MO_pick 64 = .ok (.aload_n 0, 1) := by decide +kernel
theorem d_MO_pick_65 : decode b_MO_pick 65 = .ok (.getfield 80, 3) := by decide +kernel
theorem d_MO_pick_68 : decode b_MO_pick 68 = .ok (.if_icmp .ge 29, 3) := by decide +kernel
theorem d_MO_pick_71 : decode b_MO_pick 71 = .ok (.aload_n 0, 1) := by decide +kernel
theorem d_MO_pick_72 : decode b_MO_pick 72 = .ok (.iload_n 3, 1) := by decide +kernel
theorem d_MO_pick_73 : decode b_MO_pick 73 = .ok (.invokevirtual 160, 3) := by decide +kernel
theorem d_MO_pick_76 : decode b_MO_pick 76 = .ok (.ifCond .eq 6, 3) := by decide +kernel
theorem d_MO_pick_79 : decode b_MO_pick 79 = .ok (.goto 12, 3) := by decide +kernel
theorem d_MO_pick_82 : decode b_MO_pick 82 = .ok (.iload_n 2, 1) := by decide +kernel
theorem d_MO_pick_83 : decode b_MO_pick 83 = .ok (.ifCond .ne 5, 3) := by decide +kernel
theorem d_MO_pick_86 : decode b_MO_pick 86 = .ok (.iload_n 3, 1) := by decide +kernel
theorem d_MO_pick_87 : decode b_MO_pick 87 = .ok (.ireturn, 1) := by decide +kernel
theorem d_MO_pick_88 : decode b_MO_pick 88 = .ok (.iinc 2 (-1), 3) := by decide +kernel
theorem d_MO_pick_91 : decode b_MO_pick 91 = .ok (.iinc 3 1, 3) := by decide +kernel
theorem d_MO_pick_94 : decode b_MO_pick 94 = .ok (.goto (-31), 3) := by decide +kernel
theorem d_MO_pick_97 : decode b_MO_pick 97 = .ok (.iconst (-1), 1) := by decide +kernel
theorem d_MO_pick_98 : decode b_MO_pick 98 = .ok (.ireturn, 1) := by decide +kernel
abbrev b_MO_run : ByteArray := prog_12_method_23_code
def y_MO_run : MethodName := ⟨"ExploreSharesModel", "run", "(I)I"⟩
def w_MO_run : List Cond := .code y_MO_run b_MO_run 5 (some .int) :: xU
theorem d_MO_run_0 : decode b_MO_run 0 = .ok (.aload_n 0, 1) := by decide +kernel
theorem d_MO_run_1 : decode b_MO_run 1 = .ok (.aload_n 0, 1) := by decide +kernel
theorem d_MO_run_2 : decode b_MO_run 2 = .ok (.getfield 112, 3) := by decide +kernel
theorem d_MO_run_5 : decode b_MO_run 5 = .ok (.ifCond .ne 7, 3) := by decide +kernel
theorem d_MO_run_8 : decode b_MO_run 8 = .ok (.iconst 1, 1) := by decide +kernel
theorem d_MO_run_9 : decode b_MO_run 9 = .ok (.goto 4, 3) := by decide +kernel
theorem d_MO_run_12 : decode b_MO_run 12 = .ok (.iconst 0, 1) := by decide +kernel
theorem d_MO_run_13 : decode b_MO_run 13 = .ok (.iconst 0, 1) := by decide +kernel
theorem d_MO_run_14 : decode b_MO_run 14 = .ok (.iconst 0, 1) := by decide +kernel
theorem d_MO_run_15 : decode b_MO_run 15 = .ok (.invokevirtual 115, 3) := by decide +kernel
theorem d_MO_run_18 : decode b_MO_run 18 = .ok (.ifCond .eq 5, 3) := by decide +kernel
theorem d_MO_run_21 : decode b_MO_run 21 = .ok (.iconst 0, 1) := by decide +kernel
theorem d_MO_run_22 : decode b_MO_run 22 = .ok (.ireturn, 1) := by decide +kernel
theorem d_MO_run_23 : decode b_MO_run 23 = .ok (.aload_n 0, 1) := by decide +kernel
theorem d_MO_run_24 : decode b_MO_run 24 = .ok (.invokevirtual 87, 3) := by decide +kernel
theorem d_MO_run_27 : decode b_MO_run 27 = .ok (.aload_n 0, 1) := by decide +kernel
theorem d_MO_run_28 : decode b_MO_run 28 = .ok (.iconst 1, 1) := by decide +kernel
theorem d_MO_run_29 : decode b_MO_run 29 = .ok (.putfield 93, 3) := by decide +kernel
theorem d_MO_run_32 : decode b_MO_run 32 = .ok (.aload_n 0, 1) := by decide +kernel
theorem d_MO_run_33 : decode b_MO_run 33 = .ok (.iload_n 1, 1) := by decide +kernel
theorem d_MO_run_34 : decode b_MO_run 34 = .ok (.ldc 134, 2) := by decide +kernel
theorem d_MO_run_36 : decode b_MO_run 36 = .ok (.iand, 1) := by decide +kernel
theorem d_MO_run_37 : decode b_MO_run 37 = .ok (.putfield 164, 3) := by decide +kernel
theorem d_MO_run_40 : decode b_MO_run 40 = .ok (.aload_n 0, 1) := by decide +kernel
theorem d_MO_run_41 : decode b_MO_run 41 = .ok (.getfield 25, 3) := by decide +kernel
theorem d_MO_run_44 : decode b_MO_run 44 = .ok (.iconst 0, 1) := by decide +kernel
theorem d_MO_run_45 : decode b_MO_run 45 = .ok (.iconst 0, 1) := by decide +kernel
theorem d_MO_run_46 : decode b_MO_run 46 = .ok (.iastore, 1) := by decide +kernel
theorem d_MO_run_47 : decode b_MO_run 47 = .ok (.aload_n 0, 1) := by decide +kernel
theorem d_MO_run_48 : decode b_MO_run 48 = .ok (.getfield 31, 3) := by decide +kernel
theorem d_MO_run_51 : decode b_MO_run 51 = .ok (.iconst 0, 1) := by decide +kernel
theorem d_MO_run_52 : decode b_MO_run 52 = .ok (.iconst 1, 1) := by decide +kernel
theorem d_MO_run_53 : decode b_MO_run 53 = .ok (.iastore, 1) := by decide +kernel
theorem d_MO_run_54 : decode b_MO_run 54 = .ok (.aload_n 0, 1) := by decide +kernel
theorem d_MO_run_55 : decode b_MO_run 55 = .ok (.iconst 1, 1) := by decide +kernel
theorem d_MO_run_56 : decode b_MO_run 56 = .ok (.putfield 100, 3) := by decide +kernel
theorem d_MO_run_59 : decode b_MO_run 59 = .ok (.iconst 1, 1) := by decide +kernel
theorem d_MO_run_60 : decode b_MO_run 60 = .ok (.istore_n 2, 1) := by decide +kernel
theorem d_MO_run_61 : decode b_MO_run 61 = .ok (.iconst 1, 1) := by decide +kernel
theorem d_MO_run_62 : decode b_MO_run 62 = .ok (.istore_n 3, 1) := by decide +kernel
theorem d_MO_run_63 : decode b_MO_run 63 = .ok (.iload_n 3, 1) := by decide +kernel
theorem d_MO_run_64 : decode b_MO_run 64 = .ok (.ifCond .le 101, 3) := by decide +kernel
theorem d_MO_run_67 : decode b_MO_run 67 = .ok (.aload_n 0, 1) := by decide +kernel
theorem d_MO_run_68 : decode b_MO_run 68 = .ok (.invokevirtual 179, 3) := by decide +kernel
theorem d_MO_run_71 : decode b_MO_run 71 = .ok (.iconst 0, 1) := by decide +kernel
theorem d_MO_run_72 : decode b_MO_run 72 = .ok (.istore_n 3, 1) := by decide +kernel
theorem d_MO_run_73 : decode b_MO_run 73 = .ok (.iconst 0, 1) := by decide +kernel
theorem d_MO_run_74 : decode b_MO_run 74 = .ok (.istore 4, 2) := by decide +kernel
theorem d_MO_run_76 : decode b_MO_run 76 = .ok (.iload 4, 2) := by decide +kernel
theorem d_MO_run_78 : decode b_MO_run 78 = .ok (.aload_n 0, 1) := by decide +kernel
theorem d_MO_run_79 : decode b_MO_run 79 = .ok (.getfield 112, 3) := by decide +kernel
theorem d_MO_run_82 : decode b_MO_run 82 = .ok (.if_icmp .ge 38, 3) := by decide +kernel
theorem d_MO_run_85 : decode b_MO_run 85 = .ok (.aload_n 0, 1) := by decide +kernel
theorem d_MO_run_86 : decode b_MO_run 86 = .ok (.getfield 34, 3) := by decide +kernel
theorem d_MO_run_89 : decode b_MO_run 89 = .ok (.iload 4, 2) := by decide +kernel
theorem d_MO_run_91 : decode b_MO_run 91 = .ok (.baload, 1) := by decide +kernel
theorem d_MO_run_92 : decode b_MO_run 92 = .ok (.ifCond .ne 6, 3) := by decide +kernel
theorem d_MO_run_95 : decode b_MO_run 95 = .ok (.goto 19, 3) := by decide +kernel
theorem d_MO_run_98 : decode b_MO_run 98 = .ok (.aload_n 0, 1) := by decide +kernel
theorem d_MO_run_99 : decode b_MO_run 99 = .ok (.getfield 25, 3) := by decide +kernel
theorem d_MO_run_102 : decode b_MO_run 102 = .ok (.iload 4, 2) := by decide +kernel
theorem d_MO_run_104 : decode b_MO_run 104 = .ok (.aload_n 0, 1) := by decide +kernel
theorem d_MO_run_105 : decode b_MO_run 105 = .ok (.getfield 97, 3) := by decide +kernel
theorem d_MO_run_108 : decode b_MO_run 108 = .ok (.iconst 1, 1) := by decide +kernel
theorem d_MO_run_109 : decode b_MO_run 109 = .ok (.iadd, 1) := by decide +kernel
theorem d_MO_run_110 : decode b_MO_run 110 = .ok (.iastore, 1) := by decide +kernel
theorem d_MO_run_111 : decode b_MO_run 111 = .ok (.iinc 3 1, 3) := by decide +kernel
theorem d_MO_run_114 : decode b_MO_run 114 = .ok (.iinc 4 1, 3) := by decide +kernel
theorem d_MO_run_117 : decode b_MO_run 117 = .ok (.goto (-41), 3) := by decide +kernel
theorem d_MO_run_120 : decode b_MO_run 120 = .ok (.aload_n 0, 1) := by decide +kernel
theorem d_MO_run_121 : decode b_MO_run 121 = .ok (.dup, 1) := by decide +kernel
theorem d_MO_run_122 : decode b_MO_run 122 = .ok (.getfield 97, 3) := by decide +kernel
theorem d_MO_run_125 : decode b_MO_run 125 = .ok (.iconst 1, 1) := by decide +kernel
theorem d_MO_run_126 : decode b_MO_run 126 = .ok (.iadd, 1) := by decide +kernel
theorem d_MO_run_127 : decode b_MO_run 127 = .ok (.putfield 97, 3) := by decide +kernel
theorem d_MO_run_130 : decode b_MO_run 130 = .ok (.aload_n 0, 1) := by decide +kernel
theorem d_MO_run_131 : decode b_MO_run 131 = .ok (.getfield 31, 3) := by decide +kernel
theorem d_MO_run_134 : decode b_MO_run 134 = .ok (.aload_n 0, 1) := by decide +kernel
theorem d_MO_run_135 : decode b_MO_run 135 = .ok (.getfield 97, 3) := by decide +kernel
theorem d_MO_run_138 : decode b_MO_run 138 = .ok (.iload_n 3, 1) := by decide +kernel
theorem d_MO_run_139 : decode b_MO_run 139 = .ok (.iastore, 1) := by decide +kernel
theorem d_MO_run_140 : decode b_MO_run 140 = .ok (.aload_n 0, 1) := by decide +kernel
theorem d_MO_run_141 : decode b_MO_run 141 = .ok (.dup, 1) := by decide +kernel
theorem d_MO_run_142 : decode b_MO_run 142 = .ok (.getfield 100, 3) := by decide +kernel
theorem d_MO_run_145 : decode b_MO_run 145 = .ok (.iload_n 3, 1) := by decide +kernel
theorem d_MO_run_146 : decode b_MO_run 146 = .ok (.ifCond .le 7, 3) := by decide +kernel
theorem d_MO_run_149 : decode b_MO_run 149 = .ok (.iconst 1, 1) := by decide +kernel
theorem d_MO_run_150 : decode b_MO_run 150 = .ok (.goto 4, 3) := by decide +kernel
theorem d_MO_run_153 : decode b_MO_run 153 = .ok (.iconst 0, 1) := by decide +kernel
theorem d_MO_run_154 : decode b_MO_run 154 = .ok (.iadd, 1) := by decide +kernel
theorem d_MO_run_155 : decode b_MO_run 155 = .ok (.putfield 100, 3) := by decide +kernel
theorem d_MO_run_158 : decode b_MO_run 158 = .ok (.iload_n 2, 1) := by decide +kernel
theorem d_MO_run_159 : decode b_MO_run 159 = .ok (.iload_n 3, 1) := by decide +kernel
theorem d_MO_run_160 : decode b_MO_run 160 = .ok (.iadd, 1) := by decide +kernel
theorem d_MO_run_161 : decode b_MO_run 161 = .ok (.istore_n 2, 1) := by decide +kernel
theorem d_MO_run_162 : decode b_MO_run 162 = .ok (.goto (-99), 3) := by decide +kernel
theorem d_MO_run_165 : decode b_MO_run 165 = .ok (.iload_n 2, 1) := by decide +kernel
theorem d_MO_run_166 : decode b_MO_run 166 = .ok (.ireturn, 1) := by decide +kernel
abbrev b_MO_size : ByteArray := prog_12_method_33_code
def y_MO_size : MethodName := ⟨"ExploreSharesModel", "size", "(I)I"⟩
def w_MO_size : List Cond := .code y_MO_size b_MO_size 2 (some .int) :: xU
theorem d_MO_size_0 : decode b_MO_size 0 = .ok (.aload_n 0, 1) := by decide +kernel
theorem d_MO_size_1 : decode b_MO_size 1 = .ok (.iload_n 1, 1) := by decide +kernel
theorem d_MO_size_2 : decode b_MO_size 2 = .ok (.aload_n 0, 1) := by decide +kernel
theorem d_MO_size_3 : decode b_MO_size 3 = .ok (.getfield 100, 3) := by decide +kernel
theorem d_MO_size_6 : decode b_MO_size 6 = .ok (.invokestatic 119, 3) := by decide +kernel
theorem d_MO_size_9 : decode b_MO_size 9 = .ok (.ifCond .ne 7, 3) := by decide +kernel
theorem d_MO_size_12 : decode b_MO_size 12 = .ok (.iconst 1, 1) := by decide +kernel
theorem d_MO_size_13 : decode b_MO_size 13 = .ok (.goto 4, 3) := by decide +kernel
theorem d_MO_size_16 : decode b_MO_size 16 = .ok (.iconst 0, 1) := by decide +kernel
theorem d_MO_size_17 : decode b_MO_size 17 = .ok (.iconst 0, 1) := by decide +kernel
theorem d_MO_size_18 : decode b_MO_size 18 = .ok (.iconst 0, 1) := by decide +kernel
theorem d_MO_size_19 : decode b_MO_size 19 = .ok (.invokevirtual 115, 3) := by decide +kernel
theorem d_MO_size_22 : decode b_MO_size 22 = .ok (.ifCond .eq 7, 3) := by decide +kernel
theorem d_MO_size_25 : decode b_MO_size 25 = .ok (.iconst 0, 1) := by decide +kernel
theorem d_MO_size_26 : decode b_MO_size 26 = .ok (.goto 9, 3) := by decide +kernel
theorem d_MO_size_29 : decode b_MO_size 29 = .ok (.aload_n 0, 1) := by decide +kernel
theorem d_MO_size_30 : decode b_MO_size 30 = .ok (.getfield 31, 3) := by decide +kernel
theorem d_MO_size_33 : decode b_MO_size 33 = .ok (.iload_n 1, 1) := by decide +kernel
theorem d_MO_size_34 : decode b_MO_size 34 = .ok (.iaload, 1) := by decide +kernel
theorem d_MO_size_35 : decode b_MO_size 35 = .ok (.ireturn, 1) := by decide +kernel
abbrev b_MO_state : ByteArray := prog_12_method_6_code
def y_MO_state : MethodName := ⟨"ExploreSharesModel", "state", "()I"⟩
def w_MO_state : List Cond := .code y_MO_state b_MO_state 1 (some .int) :: xU
theorem d_MO_state_0 : decode b_MO_state 0 = .ok (.aload_n 0, 1) := by decide +kernel
theorem d_MO_state_1 : decode b_MO_state 1 = .ok (.aload_n 0, 1) := by decide +kernel
theorem d_MO_state_2 : decode b_MO_state 2 = .ok (.getfield 112, 3) := by decide +kernel
theorem d_MO_state_5 : decode b_MO_state 5 = .ok (.sipush 200, 3) := by decide +kernel
theorem d_MO_state_8 : decode b_MO_state 8 = .ok (.if_icmp .ne 7, 3) := by decide +kernel
theorem d_MO_state_11 : decode b_MO_state 11 = .ok (.iconst 1, 1) := by decide +kernel
theorem d_MO_state_12 : decode b_MO_state 12 = .ok (.goto 4, 3) := by decide +kernel
theorem d_MO_state_15 : decode b_MO_state 15 = .ok (.iconst 0, 1) := by decide +kernel
theorem d_MO_state_16 : decode b_MO_state 16 = .ok (.iconst 0, 1) := by decide +kernel
theorem d_MO_state_17 : decode b_MO_state 17 = .ok (.iconst 0, 1) := by decide +kernel
theorem d_MO_state_18 : decode b_MO_state 18 = .ok (.invokevirtual 115, 3) := by decide +kernel
theorem d_MO_state_21 : decode b_MO_state 21 = .ok (.ifCond .eq 5, 3) := by decide +kernel
theorem d_MO_state_24 : decode b_MO_state 24 = .ok (.iconst 0, 1) := by decide +kernel
theorem d_MO_state_25 : decode b_MO_state 25 = .ok (.ireturn, 1) := by decide +kernel
theorem d_MO_state_26 : decode b_MO_state 26 = .ok (.aload_n 0, 1) := by decide +kernel
theorem d_MO_state_27 : decode b_MO_state 27 = .ok (.invokevirtual 87, 3) := by decide +kernel
theorem d_MO_state_30 : decode b_MO_state 30 = .ok (.aload_n 0, 1) := by decide +kernel
theorem d_MO_state_31 : decode b_MO_state 31 = .ok (.dup, 1) := by decide +kernel
theorem d_MO_state_32 : decode b_MO_state 32 = .ok (.getfield 112, 3) := by decide +kernel
theorem d_MO_state_35 : decode b_MO_state 35 = .ok (.iconst 1, 1) := by decide +kernel
theorem d_MO_state_36 : decode b_MO_state 36 = .ok (.iadd, 1) := by decide +kernel
theorem d_MO_state_37 : decode b_MO_state 37 = .ok (.putfield 112, 3) := by decide +kernel
theorem d_MO_state_40 : decode b_MO_state 40 = .ok (.aload_n 0, 1) := by decide +kernel
theorem d_MO_state_41 : decode b_MO_state 41 = .ok (.getfield 112, 3) := by decide +kernel
theorem d_MO_state_44 : decode b_MO_state 44 = .ok (.iconst 1, 1) := by decide +kernel
theorem d_MO_state_45 : decode b_MO_state 45 = .ok (.isub, 1) := by decide +kernel
theorem d_MO_state_46 : decode b_MO_state 46 = .ok (.ireturn, 1) := by decide +kernel
abbrev b_MO_step : ByteArray := prog_12_method_10_code
def y_MO_step : MethodName := ⟨"ExploreSharesModel", "step", "(I)I"⟩
def w_MO_step : List Cond := .code y_MO_step b_MO_step 1 (some .int) :: xU
theorem d_MO_step_0 : decode b_MO_step 0 = .ok (.ldc 133, 2) := by decide +kernel
theorem d_MO_step_2 : decode b_MO_step 2 = .ok (.iload_n 0, 1) := by decide +kernel
theorem d_MO_step_3 : decode b_MO_step 3 = .ok (.imul, 1) := by decide +kernel
theorem d_MO_step_4 : decode b_MO_step 4 = .ok (.sipush 12345, 3) := by decide +kernel
theorem d_MO_step_7 : decode b_MO_step 7 = .ok (.iadd, 1) := by decide +kernel
theorem d_MO_step_8 : decode b_MO_step 8 = .ok (.ldc 134, 2) := by decide +kernel
theorem d_MO_step_10 : decode b_MO_step 10 = .ok (.iand, 1) := by decide +kernel
theorem d_MO_step_11 : decode b_MO_step 11 = .ok (.ireturn, 1) := by decide +kernel
abbrev b_MO_take : ByteArray := prog_12_method_17_code
def y_MO_take : MethodName := ⟨"ExploreSharesModel", "take", "(I)V"⟩
def w_MO_take : List Cond := .code y_MO_take b_MO_take 4 (none) :: xU
theorem d_MO_take_0 : decode b_MO_take 0 = .ok (.aload_n 0, 1) := by decide +kernel
theorem d_MO_take_1 : decode b_MO_take 1 = .ok (.getfield 65, 3) := by decide +kernel
theorem d_MO_take_4 : decode b_MO_take 4 = .ok (.bipush 8, 2) := by decide +kernel
theorem d_MO_take_6 : decode b_MO_take 6 = .ok (.iload_n 1, 1) := by decide +kernel
theorem d_MO_take_7 : decode b_MO_take 7 = .ok (.imul, 1) := by decide +kernel
theorem d_MO_take_8 : decode b_MO_take 8 = .ok (.iaload, 1) := by decide +kernel
theorem d_MO_take_9 : decode b_MO_take 9 = .ok (.istore_n 2, 1) := by decide +kernel
theorem d_MO_take_10 : decode b_MO_take 10 = .ok (.iconst 1, 1) := by decide +kernel
theorem d_MO_take_11 : decode b_MO_take 11 = .ok (.istore_n 3, 1) := by decide +kernel
theorem d_MO_take_12 : decode b_MO_take 12 = .ok (.iload_n 3, 1) := by decide +kernel
theorem d_MO_take_13 : decode b_MO_take 13 = .ok (.aload_n 0, 1) := by decide +kernel
theorem d_MO_take_14 : decode b_MO_take 14 = .ok (.getfield 62, 3) := by decide +kernel
theorem d_MO_take_17 : decode b_MO_take 17 = .ok (.iload_n 1, 1) := by decide +kernel
theorem d_MO_take_18 : decode b_MO_take 18 = .ok (.iaload, 1) := by decide +kernel
theorem d_MO_take_19 : decode b_MO_take 19 = .ok (.if_icmp .ge 33, 3) := by decide +kernel
theorem d_MO_take_22 : decode b_MO_take 22 = .ok (.aload_n 0, 1) := by decide +kernel
theorem d_MO_take_23 : decode b_MO_take 23 = .ok (.getfield 65, 3) := by decide +kernel
theorem d_MO_take_26 : decode b_MO_take 26 = .ok (.bipush 8, 2) := by decide +kernel
theorem d_MO_take_28 : decode b_MO_take 28 = .ok (.iload_n 1, 1) := by decide +kernel
theorem d_MO_take_29 : decode b_MO_take 29 = .ok (.imul, 1) := by decide +kernel
theorem d_MO_take_30 : decode b_MO_take 30 = .ok (.iload_n 3, 1) := by decide +kernel
theorem d_MO_take_31 : decode b_MO_take 31 = .ok (.iadd, 1) := by decide +kernel
theorem d_MO_take_32 : decode b_MO_take 32 = .ok (.iconst 1, 1) := by decide +kernel
theorem d_MO_take_33 : decode b_MO_take 33 = .ok (.isub, 1) := by decide +kernel
theorem d_MO_take_34 : decode b_MO_take 34 = .ok (.aload_n 0, 1) := by decide +kernel
theorem d_MO_take_35 : decode b_MO_take 35 = .ok (.getfield 65, 3) := by decide +kernel
theorem d_MO_take_38 : decode b_MO_take 38 = .ok (.bipush 8, 2) := by decide +kernel
theorem d_MO_take_40 : decode b_MO_take 40 = .ok (.iload_n 1, 1) := by decide +kernel
theorem d_MO_take_41 : decode b_MO_take 41 = .ok (.imul, 1) := by decide +kernel
theorem d_MO_take_42 : decode b_MO_take 42 = .ok (.iload_n 3, 1) := by decide +kernel
theorem d_MO_take_43 : decode b_MO_take 43 = .ok (.iadd, 1) := by decide +kernel
theorem d_MO_take_44 : decode b_MO_take 44 = .ok (.iaload, 1) := by decide +kernel
theorem d_MO_take_45 : decode b_MO_take 45 = .ok (.iastore, 1) := by decide +kernel
theorem d_MO_take_46 : decode b_MO_take 46 = .ok (.iinc 3 1, 3) := by decide +kernel
theorem d_MO_take_49 : decode b_MO_take 49 = .ok (.goto (-37), 3) := by decide +kernel
theorem d_MO_take_52 : decode b_MO_take 52 = .ok (.aload_n 0, 1) := by decide +kernel
theorem d_MO_take_53 : decode b_MO_take 53 = .ok (.getfield 62, 3) := by decide +kernel
theorem d_MO_take_56 : decode b_MO_take 56 = .ok (.iload_n 1, 1) := by decide +kernel
theorem d_MO_take_57 : decode b_MO_take 57 = .ok (.dup2, 1) := by decide +kernel
theorem d_MO_take_58 : decode b_MO_take 58 = .ok (.iaload, 1) := by decide +kernel
theorem d_MO_take_59 : decode b_MO_take 59 = .ok (.iconst 1, 1) := by decide +kernel
theorem d_MO_take_60 : decode b_MO_take 60 = .ok (.isub, 1) := by decide +kernel
theorem d_MO_take_61 : decode b_MO_take 61 = .ok (.iastore, 1) := by decide +kernel
theorem d_MO_take_62 : decode b_MO_take 62 = .ok (.aload_n 0, 1) := by decide +kernel
theorem d_MO_take_63 : decode b_MO_take 63 = .ok (.getfield 47, 3) := by decide +kernel
theorem d_MO_take_66 : decode b_MO_take 66 = .ok (.iload_n 1, 1) := by decide +kernel
theorem d_MO_take_67 : decode b_MO_take 67 = .ok (.dup2, 1) := by decide +kernel
theorem d_MO_take_68 : decode b_MO_take 68 = .ok (.iaload, 1) := by decide +kernel
theorem d_MO_take_69 : decode b_MO_take 69 = .ok (.iconst 1, 1) := by decide +kernel
theorem d_MO_take_70 : decode b_MO_take 70 = .ok (.iadd, 1) := by decide +kernel
theorem d_MO_take_71 : decode b_MO_take 71 = .ok (.iastore, 1) := by decide +kernel
theorem d_MO_take_72 : decode b_MO_take 72 = .ok (.aload_n 0, 1) := by decide +kernel
theorem d_MO_take_73 : decode b_MO_take 73 = .ok (.iload_n 2, 1) := by decide +kernel
theorem d_MO_take_74 : decode b_MO_take 74 = .ok (.invokevirtual 146, 3) := by decide +kernel
theorem d_MO_take_77 : decode b_MO_take 77 = .ok (.return_, 1) := by decide +kernel
abbrev b_MO_target : ByteArray := prog_12_method_13_code
def y_MO_target : MethodName := ⟨"ExploreSharesModel", "target", "(II)I"⟩
def w_MO_target : List Cond := .code y_MO_target b_MO_target 5 (some .int) :: xU
theorem d_MO_target_0 : decode b_MO_target 0 = .ok (.iload_n 2, 1) := by decide +kernel
theorem d_MO_target_1 : decode b_MO_target 1 = .ok (.istore_n 3, 1) := by decide +kernel
theorem d_MO_target_2 : decode b_MO_target 2 = .ok (.iconst 0, 1) := by decide +kernel
theorem d_MO_target_3 : decode b_MO_target 3 = .ok (.istore 4, 2) := by decide +kernel
theorem d_MO_target_5 : decode b_MO_target 5 = .ok (.iload 4, 2) := by decide +kernel
theorem d_MO_target_7 : decode b_MO_target 7 = .ok (.aload_n 0, 1) := by decide +kernel
theorem d_MO_target_8 : decode b_MO_target 8 = .ok (.getfield 123, 3) := by decide +kernel
theorem d_MO_target_11 : decode b_MO_target 11 = .ok (.if_icmp .ge 38, 3) := by decide +kernel
theorem d_MO_target_14 : decode b_MO_target 14 = .ok (.aload_n 0, 1) := by decide +kernel
theorem d_MO_target_15 : decode b_MO_target 15 = .ok (.getfield 7, 3) := by decide +kernel
theorem d_MO_target_18 : decode b_MO_target 18 = .ok (.iload 4, 2) := by decide +kernel
theorem d_MO_target_20 : decode b_MO_target 20 = .ok (.iaload, 1) := by decide +kernel
theorem d_MO_target_21 : decode b_MO_target 21 = .ok (.iload_n 1, 1) := by decide +kernel
theorem d_MO_target_22 : decode b_MO_target 22 = .ok (.if_icmp .eq 6, 3) := by decide +kernel
theorem d_MO_target_25 : decode b_MO_target 25 = .ok (.goto 18, 3) := by decide +kernel
theorem d_MO_target_28 : decode b_MO_target 28 = .ok (.iload_n 3, 1) := by decide +kernel
theorem d_MO_target_29 : decode b_MO_target 29 = .ok (.ifCond .ne 11, 3) := by decide +kernel
theorem d_MO_target_32 : decode b_MO_target 32 = .ok (.aload_n 0, 1) := by decide +kernel
theorem d_MO_target_33 : decode b_MO_target 33 = .ok (.getfield 13, 3) := by decide +kernel
theorem d_MO_target_36 : decode b_MO_target 36 = .ok (.iload 4, 2) := by decide +kernel
theorem d_MO_target_38 : decode b_MO_target 38 = .ok (.iaload, 1) := by decide +kernel
theorem d_MO_target_39 : decode b_MO_target 39 = .ok (.ireturn, 1) := by decide +kernel
theorem d_MO_target_40 : decode b_MO_target 40 = .ok (.iinc 3 (-1), 3) := by decide +kernel
theorem d_MO_target_43 : decode b_MO_target 43 = .ok (.iinc 4 1, 3) := by decide +kernel
theorem d_MO_target_46 : decode b_MO_target 46 = .ok (.goto (-41), 3) := by decide +kernel
theorem d_MO_target_49 : decode b_MO_target 49 = .ok (.iconst (-1), 1) := by decide +kernel
theorem d_MO_target_50 : decode b_MO_target 50 = .ok (.ireturn, 1) := by decide +kernel
abbrev b_MO_throwing : ByteArray := prog_12_method_3_code
def y_MO_throwing : MethodName := ⟨"ExploreSharesModel", "throwing", "(ZZZ)Z"⟩
def w_MO_throwing : List Cond := .code y_MO_throwing b_MO_throwing 4 (some .boolean) :: xU
theorem d_MO_throwing_0 : decode b_MO_throwing 0 = .ok (.aload_n 0, 1) := by decide +kernel
theorem d_MO_throwing_1 : decode b_MO_throwing 1 = .ok (.iload_n 1, 1) := by decide +kernel
theorem d_MO_throwing_2 : decode b_MO_throwing 2 = .ok (.ifCond .eq 7, 3) := by decide +kernel
theorem d_MO_throwing_5 : decode b_MO_throwing 5 = .ok (.iconst 1, 1) := by decide +kernel
theorem d_MO_throwing_6 : decode b_MO_throwing 6 = .ok (.goto 20, 3) := by decide +kernel
theorem d_MO_throwing_9 : decode b_MO_throwing 9 = .ok (.iload_n 2, 1) := by decide +kernel
theorem d_MO_throwing_10 : decode b_MO_throwing 10 = .ok (.ifCond .eq 7, 3) := by decide +kernel
theorem d_MO_throwing_13 : decode b_MO_throwing 13 = .ok (.iconst 2, 1) := by decide +kernel
theorem d_MO_throwing_14 : decode b_MO_throwing 14 = .ok (.goto 12, 3) := by decide +kernel
theorem d_MO_throwing_17 : decode b_MO_throwing 17 = .ok (.iload_n 3, 1) := by decide +kernel
theorem d_MO_throwing_18 : decode b_MO_throwing 18 = .ok (.ifCond .eq 7, 3) := by decide +kernel
theorem d_MO_throwing_21 : decode b_MO_throwing 21 = .ok (.iconst 3, 1) := by decide +kernel
theorem d_MO_throwing_22 : decode b_MO_throwing 22 = .ok (.goto 4, 3) := by decide +kernel
theorem d_MO_throwing_25 : decode b_MO_throwing 25 = .ok (.iconst 0, 1) := by decide +kernel
theorem d_MO_throwing_26 : decode b_MO_throwing 26 = .ok (.putfield 90, 3) := by decide +kernel
theorem d_MO_throwing_29 : decode b_MO_throwing 29 = .ok (.aload_n 0, 1) := by decide +kernel
theorem d_MO_throwing_30 : decode b_MO_throwing 30 = .ok (.getfield 90, 3) := by decide +kernel
theorem d_MO_throwing_33 : decode b_MO_throwing 33 = .ok (.ifCond .le 7, 3) := by decide +kernel
theorem d_MO_throwing_36 : decode b_MO_throwing 36 = .ok (.iconst 1, 1) := by decide +kernel
theorem d_MO_throwing_37 : decode b_MO_throwing 37 = .ok (.goto 4, 3) := by decide +kernel
theorem d_MO_throwing_40 : decode b_MO_throwing 40 = .ok (.iconst 0, 1) := by decide +kernel
theorem d_MO_throwing_41 : decode b_MO_throwing 41 = .ok (.ireturn, 1) := by decide +kernel
abbrev b_MO_thrown : ByteArray := prog_12_method_2_code
def y_MO_thrown : MethodName := ⟨"ExploreSharesModel", "thrown", "()I"⟩
def w_MO_thrown : List Cond := .code y_MO_thrown b_MO_thrown 1 (some .int) :: xU
theorem d_MO_thrown_0 : decode b_MO_thrown 0 = .ok (.aload_n 0, 1) := by decide +kernel
theorem d_MO_thrown_1 : decode b_MO_thrown 1 = .ok (.getfield 90, 3) := by decide +kernel
theorem d_MO_thrown_4 : decode b_MO_thrown 4 = .ok (.ireturn, 1) := by decide +kernel
abbrev b_MO_times : ByteArray := prog_12_method_26_code
def y_MO_times : MethodName := ⟨"ExploreSharesModel", "times", "(I)I"⟩
def w_MO_times : List Cond := .code y_MO_times b_MO_times 2 (some .int) :: xU
theorem d_MO_times_0 : decode b_MO_times 0 = .ok (.aload_n 0, 1) := by decide +kernel
theorem d_MO_times_1 : decode b_MO_times 1 = .ok (.iload_n 1, 1) := by decide +kernel
theorem d_MO_times_2 : decode b_MO_times 2 = .ok (.aload_n 0, 1) := by decide +kernel
theorem d_MO_times_3 : decode b_MO_times 3 = .ok (.getfield 112, 3) := by decide +kernel
theorem d_MO_times_6 : decode b_MO_times 6 = .ok (.invokestatic 119, 3) := by decide +kernel
theorem d_MO_times_9 : decode b_MO_times 9 = .ok (.ifCond .ne 7, 3) := by decide +kernel
theorem d_MO_times_12 : decode b_MO_times 12 = .ok (.iconst 1, 1) := by decide +kernel
theorem d_MO_times_13 : decode b_MO_times 13 = .ok (.goto 4, 3) := by decide +kernel
theorem d_MO_times_16 : decode b_MO_times 16 = .ok (.iconst 0, 1) := by decide +kernel
theorem d_MO_times_17 : decode b_MO_times 17 = .ok (.iconst 0, 1) := by decide +kernel
theorem d_MO_times_18 : decode b_MO_times 18 = .ok (.iconst 0, 1) := by decide +kernel
theorem d_MO_times_19 : decode b_MO_times 19 = .ok (.invokevirtual 115, 3) := by decide +kernel
theorem d_MO_times_22 : decode b_MO_times 22 = .ok (.ifCond .eq 7, 3) := by decide +kernel
theorem d_MO_times_25 : decode b_MO_times 25 = .ok (.iconst 0, 1) := by decide +kernel
theorem d_MO_times_26 : decode b_MO_times 26 = .ok (.goto 9, 3) := by decide +kernel
theorem d_MO_times_29 : decode b_MO_times 29 = .ok (.aload_n 0, 1) := by decide +kernel
theorem d_MO_times_30 : decode b_MO_times 30 = .ok (.getfield 28, 3) := by decide +kernel
theorem d_MO_times_33 : decode b_MO_times 33 = .ok (.iload_n 1, 1) := by decide +kernel
theorem d_MO_times_34 : decode b_MO_times 34 = .ok (.iaload, 1) := by decide +kernel
theorem d_MO_times_35 : decode b_MO_times 35 = .ok (.ireturn, 1) := by decide +kernel
abbrev b_MO_toldAt : ByteArray := prog_12_method_8_code
def y_MO_toldAt : MethodName := ⟨"ExploreSharesModel", "toldAt", "(II)I"⟩
def w_MO_toldAt : List Cond := .code y_MO_toldAt b_MO_toldAt 4 (some .int) :: xU
theorem d_MO_toldAt_0 : decode b_MO_toldAt 0 = .ok (.iconst 0, 1) := by decide +kernel
theorem d_MO_toldAt_1 : decode b_MO_toldAt 1 = .ok (.istore_n 3, 1) := by decide +kernel
theorem d_MO_toldAt_2 : decode b_MO_toldAt 2 = .ok (.iload_n 3, 1) := by decide +kernel
theorem d_MO_toldAt_3 : decode b_MO_toldAt 3 = .ok (.aload_n 0, 1) := by decide +kernel
theorem d_MO_toldAt_4 : decode b_MO_toldAt 4 = .ok (.getfield 126, 3) := by decide +kernel
theorem d_MO_toldAt_7 : decode b_MO_toldAt 7 = .ok (.if_icmp .ge 31, 3) := by decide +kernel
theorem d_MO_toldAt_10 : decode b_MO_toldAt 10 = .ok (.aload_n 0, 1) := by decide +kernel
theorem d_MO_toldAt_11 : decode b_MO_toldAt 11 = .ok (.getfield 16, 3) := by decide +kernel
theorem d_MO_toldAt_14 : decode b_MO_toldAt 14 = .ok (.iload_n 3, 1) := by decide +kernel
theorem d_MO_toldAt_15 : decode b_MO_toldAt 15 = .ok (.iaload, 1) := by decide +kernel
theorem d_MO_toldAt_16 : decode b_MO_toldAt 16 = .ok (.iload_n 1, 1) := by decide +kernel
theorem d_MO_toldAt_17 : decode b_MO_toldAt 17 = .ok (.if_icmp .ne 15, 3) := by decide +kernel
theorem d_MO_toldAt_20 : decode b_MO_toldAt 20 = .ok (.aload_n 0, 1) := by decide +kernel
theorem d_MO_toldAt_21 : decode b_MO_toldAt 21 = .ok (.getfield 19, 3) := by decide +kernel
theorem d_MO_toldAt_24 : decode b_MO_toldAt 24 = .ok (.iload_n 3, 1) := by decide +kernel
theorem d_MO_toldAt_25 : decode b_MO_toldAt 25 = .ok (.iaload, 1) := by decide +kernel
theorem d_MO_toldAt_26 : decode b_MO_toldAt 26 = .ok (.iload_n 2, 1) := by decide +kernel
theorem d_MO_toldAt_27 : decode b_MO_toldAt 27 = .ok (.if_icmp .ne 5, 3) := by decide +kernel
theorem d_MO_toldAt_30 : decode b_MO_toldAt 30 = .ok (.iload_n 3, 1) := by decide +kernel
theorem d_MO_toldAt_31 : decode b_MO_toldAt 31 = .ok (.ireturn, 1) := by decide +kernel
theorem d_MO_toldAt_32 : decode b_MO_toldAt 32 = .ok (.iinc 3 1, 3) := by decide +kernel
theorem d_MO_toldAt_35 : decode b_MO_toldAt 35 = .ok (.goto (-33), 3) := by decide +kernel
theorem d_MO_toldAt_38 : decode b_MO_toldAt 38 = .ok (.iconst (-1), 1) := by decide +kernel
theorem d_MO_toldAt_39 : decode b_MO_toldAt 39 = .ok (.ireturn, 1) := by decide +kernel
abbrev b_MO_turn : ByteArray := prog_12_method_18_code
def y_MO_turn : MethodName := ⟨"ExploreSharesModel", "turn", "(I)V"⟩
def w_MO_turn : List Cond := .code y_MO_turn b_MO_turn 5 (none) :: xU
theorem d_MO_turn_0 : decode b_MO_turn 0 = .ok (.aload_n 0, 1) := by decide +kernel
theorem d_MO_turn_1 : decode b_MO_turn 1 = .ok (.getfield 44, 3) := by decide +kernel
theorem d_MO_turn_4 : decode b_MO_turn 4 = .ok (.iload_n 1, 1) := by decide +kernel
theorem d_MO_turn_5 : decode b_MO_turn 5 = .ok (.dup2, 1) := by decide +kernel
theorem d_MO_turn_6 : decode b_MO_turn 6 = .ok (.iaload, 1) := by decide +kernel
theorem d_MO_turn_7 : decode b_MO_turn 7 = .ok (.iconst 1, 1) := by decide +kernel
theorem d_MO_turn_8 : decode b_MO_turn 8 = .ok (.iadd, 1) := by decide +kernel
theorem d_MO_turn_9 : decode b_MO_turn 9 = .ok (.iastore, 1) := by decide +kernel
theorem d_MO_turn_10 : decode b_MO_turn 10 = .ok (.aload_n 0, 1) := by decide +kernel
theorem d_MO_turn_11 : decode b_MO_turn 11 = .ok (.dup, 1) := by decide +kernel
theorem d_MO_turn_12 : decode b_MO_turn 12 = .ok (.getfield 103, 3) := by decide +kernel
theorem d_MO_turn_15 : decode b_MO_turn 15 = .ok (.iconst 1, 1) := by decide +kernel
theorem d_MO_turn_16 : decode b_MO_turn 16 = .ok (.iadd, 1) := by decide +kernel
theorem d_MO_turn_17 : decode b_MO_turn 17 = .ok (.putfield 103, 3) := by decide +kernel
theorem d_MO_turn_20 : decode b_MO_turn 20 = .ok (.aload_n 0, 1) := by decide +kernel
theorem d_MO_turn_21 : decode b_MO_turn 21 = .ok (.getfield 53, 3) := by decide +kernel
theorem d_MO_turn_24 : decode b_MO_turn 24 = .ok (.iload_n 1, 1) := by decide +kernel
theorem d_MO_turn_25 : decode b_MO_turn 25 = .ok (.dup2, 1) := by decide +kernel
theorem d_MO_turn_26 : decode b_MO_turn 26 = .ok (.iaload, 1) := by decide +kernel
theorem d_MO_turn_27 : decode b_MO_turn 27 = .ok (.iconst 1, 1) := by decide +kernel
theorem d_MO_turn_28 : decode b_MO_turn 28 = .ok (.iadd, 1) := by decide +kernel
theorem d_MO_turn_29 : decode b_MO_turn 29 = .ok (.iastore, 1) := by decide +kernel
theorem d_MO_turn_30 : decode b_MO_turn 30 = .ok (.aload_n 0, 1) := by decide +kernel
theorem d_MO_turn_31 : decode b_MO_turn 31 = .ok (.getfield 62, 3) := by decide +kernel
theorem d_MO_turn_34 : decode b_MO_turn 34 = .ok (.iload_n 1, 1) := by decide +kernel
theorem d_MO_turn_35 : decode b_MO_turn 35 = .ok (.iaload, 1) := by decide +kernel
theorem d_MO_turn_36 : decode b_MO_turn 36 = .ok (.ifCond .le 9, 3) := by decide +kernel
theorem d_MO_turn_39 : decode b_MO_turn 39 = .ok (.aload_n 0, 1) := by decide +kernel
theorem d_MO_turn_40 : decode b_MO_turn 40 = .ok (.iload_n 1, 1) := by decide +kernel
theorem d_MO_turn_41 : decode b_MO_turn 41 = .ok (.invokevirtual 150, 3) := by decide +kernel
theorem d_MO_turn_44 : decode b_MO_turn 44 = .ok (.return_, 1) := by decide +kernel
theorem d_MO_turn_45 : decode b_MO_turn 45 = .ok (.aload_n 0, 1) := by decide +kernel
theorem d_MO_turn_46 : decode b_MO_turn 46 = .ok (.getfield 56, 3) := by decide +kernel
theorem d_MO_turn_49 : decode b_MO_turn 49 = .ok (.iload_n 1, 1) := by decide +kernel
theorem d_MO_turn_50 : decode b_MO_turn 50 = .ok (.iaload, 1) := by decide +kernel
theorem d_MO_turn_51 : decode b_MO_turn 51 = .ok (.istore_n 2, 1) := by decide +kernel
theorem d_MO_turn_52 : decode b_MO_turn 52 = .ok (.aload_n 0, 1) := by decide +kernel
theorem d_MO_turn_53 : decode b_MO_turn 53 = .ok (.iload_n 2, 1) := by decide +kernel
theorem d_MO_turn_54 : decode b_MO_turn 54 = .ok (.aload_n 0, 1) := by decide +kernel
theorem d_MO_turn_55 : decode b_MO_turn 55 = .ok (.getfield 59, 3) := by decide +kernel
theorem d_MO_turn_58 : decode b_MO_turn 58 = .ok (.iload_n 1, 1) := by decide +kernel
theorem d_MO_turn_59 : decode b_MO_turn 59 = .ok (.iaload, 1) := by decide +kernel
theorem d_MO_turn_60 : decode b_MO_turn 60 = .ok (.invokevirtual 153, 3) := by decide +kernel
theorem d_MO_turn_63 : decode b_MO_turn 63 = .ok (.istore_n 3, 1) := by decide +kernel
theorem d_MO_turn_64 : decode b_MO_turn 64 = .ok (.aload_n 0, 1) := by decide +kernel
theorem d_MO_turn_65 : decode b_MO_turn 65 = .ok (.getfield 41, 3) := by decide +kernel
theorem d_MO_turn_68 : decode b_MO_turn 68 = .ok (.iload_n 1, 1) := by decide +kernel
theorem d_MO_turn_69 : decode b_MO_turn 69 = .ok (.baload, 1) := by decide +kernel
theorem d_MO_turn_70 : decode b_MO_turn 70 = .ok (.ifCond .ne 13, 3) := by decide +kernel
theorem d_MO_turn_73 : decode b_MO_turn 73 = .ok (.aload_n 0, 1) := by decide +kernel
theorem d_MO_turn_74 : decode b_MO_turn 74 = .ok (.getfield 28, 3) := by decide +kernel
theorem d_MO_turn_77 : decode b_MO_turn 77 = .ok (.iload_n 2, 1) := by decide +kernel
theorem d_MO_turn_78 : decode b_MO_turn 78 = .ok (.dup2, 1) := by decide +kernel
theorem d_MO_turn_79 : decode b_MO_turn 79 = .ok (.iaload, 1) := by decide +kernel
theorem d_MO_turn_80 : decode b_MO_turn 80 = .ok (.iconst 1, 1) := by decide +kernel
theorem d_MO_turn_81 : decode b_MO_turn 81 = .ok (.iadd, 1) := by decide +kernel
theorem d_MO_turn_82 : decode b_MO_turn 82 = .ok (.iastore, 1) := by decide +kernel
theorem d_MO_turn_83 : decode b_MO_turn 83 = .ok (.aload_n 0, 1) := by decide +kernel
theorem d_MO_turn_84 : decode b_MO_turn 84 = .ok (.getfield 41, 3) := by decide +kernel
theorem d_MO_turn_87 : decode b_MO_turn 87 = .ok (.iload_n 1, 1) := by decide +kernel
theorem d_MO_turn_88 : decode b_MO_turn 88 = .ok (.iconst 1, 1) := by decide +kernel
theorem d_MO_turn_89 : decode b_MO_turn 89 = .ok (.bastore, 1) := by decide +kernel
theorem d_MO_turn_90 : decode b_MO_turn 90 = .ok (.iload_n 3, 1) := by decide +kernel
theorem d_MO_turn_91 : decode b_MO_turn 91 = .ok (.ifCond .lt 136, 3) := by decide +kernel
theorem d_MO_turn_94 : decode b_MO_turn 94 = .ok (.aload_n 0, 1) := by decide +kernel
theorem d_MO_turn_95 : decode b_MO_turn 95 = .ok (.iload_n 3, 1) := by decide +kernel
theorem d_MO_turn_96 : decode b_MO_turn 96 = .ok (.invokevirtual 140, 3) := by decide +kernel
theorem d_MO_turn_99 : decode b_MO_turn 99 = .ok (.istore 4, 2) := by decide +kernel
theorem d_MO_turn_101 : decode b_MO_turn 101 = .ok (.iload 4, 2) := by decide +kernel
theorem d_MO_turn_103 : decode b_MO_turn 103 = .ok (.iload_n 1, 1) := by decide +kernel
theorem d_MO_turn_104 : decode b_MO_turn 104 = .ok (.if_icmp .ne 11, 3) := by decide +kernel
theorem d_MO_turn_107 : decode b_MO_turn 107 = .ok (.aload_n 0, 1) := by decide +kernel
theorem d_MO_turn_108 : decode b_MO_turn 108 = .ok (.iload_n 3, 1) := by decide +kernel
theorem d_MO_turn_109 : decode b_MO_turn 109 = .ok (.invokevirtual 146, 3) := by decide +kernel
theorem d_MO_turn_112 : decode b_MO_turn 112 = .ok (.goto 90, 3) := by decide +kernel
theorem d_MO_turn_115 : decode b_MO_turn 115 = .ok (.aload_n 0, 1) := by decide +kernel
theorem d_MO_turn_116 : decode b_MO_turn 116 = .ok (.getfield 62, 3) := by decide +kernel
theorem d_MO_turn_119 : decode b_MO_turn 119 = .ok (.iload 4, 2) := by decide +kernel
theorem d_MO_turn_121 : decode b_MO_turn 121 = .ok (.iaload, 1) := by decide +kernel
theorem d_MO_turn_122 : decode b_MO_turn 122 = .ok (.aload_n 0, 1) := by decide +kernel
theorem d_MO_turn_123 : decode b_MO_turn 123 = .ok (.getfield 84, 3) := by decide +kernel
theorem d_MO_turn_126 : decode b_MO_turn 126 = .ok (.if_icmp .ne 14, 3) := by decide +kernel
theorem d_MO_turn_129 : decode b_MO_turn 129 = .ok (.aload_n 0, 1) := by decide +kernel
theorem d_MO_turn_130 : decode b_MO_turn 130 = .ok (.getfield 50, 3) := by decide +kernel
theorem d_MO_turn_133 : decode b_MO_turn 133 = .ok (.iload_n 1, 1) := by decide +kernel
theorem d_MO_turn_134 : decode b_MO_turn 134 = .ok (.dup2, 1) := by decide +kernel
theorem d_MO_turn_135 : decode b_MO_turn 135 = .ok (.iaload, 1) := by decide +kernel
theorem d_MO_turn_136 : decode b_MO_turn 136 = .ok (.iconst 1, 1) := by decide +kernel
theorem d_MO_turn_137 : decode b_MO_turn 137 = .ok (.iadd, 1) := by decide +kernel
theorem d_MO_turn_138 : decode b_MO_turn 138 = .ok (.iastore, 1) := by decide +kernel
theorem d_MO_turn_139 : decode b_MO_turn 139 = .ok (.return_, 1) := by decide +kernel
theorem d_MO_turn_140 : decode b_MO_turn 140 = .ok (.aload_n 0, 1) := by decide +kernel
theorem d_MO_turn_141 : decode b_MO_turn 141 = .ok (.getfield 65, 3) := by decide +kernel
theorem d_MO_turn_144 : decode b_MO_turn 144 = .ok (.bipush 8, 2) := by decide +kernel
theorem d_MO_turn_146 : decode b_MO_turn 146 = .ok (.iload 4, 2) := by decide +kernel
theorem d_MO_turn_148 : decode b_MO_turn 148 = .ok (.imul, 1) := by decide +kernel
theorem d_MO_turn_149 : decode b_MO_turn 149 = .ok (.aload_n 0, 1) := by decide +kernel
theorem d_MO_turn_150 : decode b_MO_turn 150 = .ok (.getfield 62, 3) := by decide +kernel
theorem d_MO_turn_153 : decode b_MO_turn 153 = .ok (.iload 4, 2) := by decide +kernel
theorem d_MO_turn_155 : decode b_MO_turn 155 = .ok (.iaload, 1) := by decide +kernel
theorem d_MO_turn_156 : decode b_MO_turn 156 = .ok (.iadd, 1) := by decide +kernel
theorem d_MO_turn_157 : decode b_MO_turn 157 = .ok (.iload_n 3, 1) := by decide +kernel
theorem d_MO_turn_158 : decode b_MO_turn 158 = .ok (.iastore, 1) := by decide +kernel
theorem d_MO_turn_159 : decode b_MO_turn 159 = .ok (.aload_n 0, 1) := by decide +kernel
theorem d_MO_turn_160 : decode b_MO_turn 160 = .ok (.getfield 62, 3) := by decide +kernel
theorem d_MO_turn_163 : decode b_MO_turn 163 = .ok (.iload 4, 2) := by decide +kernel
theorem d_MO_turn_165 : decode b_MO_turn 165 = .ok (.dup2, 1) := by decide +kernel
theorem d_MO_turn_166 : decode b_MO_turn 166 = .ok (.iaload, 1) := by decide +kernel
theorem d_MO_turn_167 : decode b_MO_turn 167 = .ok (.iconst 1, 1) := by decide +kernel
theorem d_MO_turn_168 : decode b_MO_turn 168 = .ok (.iadd, 1) := by decide +kernel
theorem d_MO_turn_169 : decode b_MO_turn 169 = .ok (.iastore, 1) := by decide +kernel
theorem d_MO_turn_170 : decode b_MO_turn 170 = .ok (.aload_n 0, 1) := by decide +kernel
theorem d_MO_turn_171 : decode b_MO_turn 171 = .ok (.aload_n 0, 1) := by decide +kernel
theorem d_MO_turn_172 : decode b_MO_turn 172 = .ok (.getfield 62, 3) := by decide +kernel
theorem d_MO_turn_175 : decode b_MO_turn 175 = .ok (.iload 4, 2) := by decide +kernel
theorem d_MO_turn_177 : decode b_MO_turn 177 = .ok (.iaload, 1) := by decide +kernel
theorem d_MO_turn_178 : decode b_MO_turn 178 = .ok (.aload_n 0, 1) := by decide +kernel
theorem d_MO_turn_179 : decode b_MO_turn 179 = .ok (.getfield 106, 3) := by decide +kernel
theorem d_MO_turn_182 : decode b_MO_turn 182 = .ok (.if_icmp .le 13, 3) := by decide +kernel
theorem d_MO_turn_185 : decode b_MO_turn 185 = .ok (.aload_n 0, 1) := by decide +kernel
theorem d_MO_turn_186 : decode b_MO_turn 186 = .ok (.getfield 62, 3) := by decide +kernel
theorem d_MO_turn_189 : decode b_MO_turn 189 = .ok (.iload 4, 2) := by decide +kernel
theorem d_MO_turn_191 : decode b_MO_turn 191 = .ok (.iaload, 1) := by decide +kernel
theorem d_MO_turn_192 : decode b_MO_turn 192 = .ok (.goto 7, 3) := by decide +kernel
theorem d_MO_turn_195 : decode b_MO_turn 195 = .ok (.aload_n 0, 1) := by decide +kernel
theorem d_MO_turn_196 : decode b_MO_turn 196 = .ok (.getfield 106, 3) := by decide +kernel
theorem d_MO_turn_199 : decode b_MO_turn 199 = .ok (.putfield 106, 3) := by decide +kernel
theorem d_MO_turn_202 : decode b_MO_turn 202 = .ok (.aload_n 0, 1) := by decide +kernel
theorem d_MO_turn_203 : decode b_MO_turn 203 = .ok (.getfield 59, 3) := by decide +kernel
theorem d_MO_turn_206 : decode b_MO_turn 206 = .ok (.iload_n 1, 1) := by decide +kernel
theorem d_MO_turn_207 : decode b_MO_turn 207 = .ok (.dup2, 1) := by decide +kernel
theorem d_MO_turn_208 : decode b_MO_turn 208 = .ok (.iaload, 1) := by decide +kernel
theorem d_MO_turn_209 : decode b_MO_turn 209 = .ok (.iconst 1, 1) := by decide +kernel
theorem d_MO_turn_210 : decode b_MO_turn 210 = .ok (.iadd, 1) := by decide +kernel
theorem d_MO_turn_211 : decode b_MO_turn 211 = .ok (.iastore, 1) := by decide +kernel
theorem d_MO_turn_212 : decode b_MO_turn 212 = .ok (.aload_n 0, 1) := by decide +kernel
theorem d_MO_turn_213 : decode b_MO_turn 213 = .ok (.iload_n 2, 1) := by decide +kernel
theorem d_MO_turn_214 : decode b_MO_turn 214 = .ok (.aload_n 0, 1) := by decide +kernel
theorem d_MO_turn_215 : decode b_MO_turn 215 = .ok (.getfield 59, 3) := by decide +kernel
theorem d_MO_turn_218 : decode b_MO_turn 218 = .ok (.iload_n 1, 1) := by decide +kernel
theorem d_MO_turn_219 : decode b_MO_turn 219 = .ok (.iaload, 1) := by decide +kernel
theorem d_MO_turn_220 : decode b_MO_turn 220 = .ok (.invokevirtual 153, 3) := by decide +kernel
theorem d_MO_turn_223 : decode b_MO_turn 223 = .ok (.ifCond .lt 4, 3) := by decide +kernel
theorem d_MO_turn_226 : decode b_MO_turn 226 = .ok (.return_, 1) := by decide +kernel
theorem d_MO_turn_227 : decode b_MO_turn 227 = .ok (.aload_n 0, 1) := by decide +kernel
theorem d_MO_turn_228 : decode b_MO_turn 228 = .ok (.getfield 56, 3) := by decide +kernel
theorem d_MO_turn_231 : decode b_MO_turn 231 = .ok (.iload_n 1, 1) := by decide +kernel
theorem d_MO_turn_232 : decode b_MO_turn 232 = .ok (.aload_n 0, 1) := by decide +kernel
theorem d_MO_turn_233 : decode b_MO_turn 233 = .ok (.iload_n 1, 1) := by decide +kernel
theorem d_MO_turn_234 : decode b_MO_turn 234 = .ok (.iload_n 2, 1) := by decide +kernel
theorem d_MO_turn_235 : decode b_MO_turn 235 = .ok (.iconst 1, 1) := by decide +kernel
theorem d_MO_turn_236 : decode b_MO_turn 236 = .ok (.iadd, 1) := by decide +kernel
theorem d_MO_turn_237 : decode b_MO_turn 237 = .ok (.invokevirtual 143, 3) := by decide +kernel
theorem d_MO_turn_240 : decode b_MO_turn 240 = .ok (.iastore, 1) := by decide +kernel
theorem d_MO_turn_241 : decode b_MO_turn 241 = .ok (.aload_n 0, 1) := by decide +kernel
theorem d_MO_turn_242 : decode b_MO_turn 242 = .ok (.getfield 59, 3) := by decide +kernel
theorem d_MO_turn_245 : decode b_MO_turn 245 = .ok (.iload_n 1, 1) := by decide +kernel
theorem d_MO_turn_246 : decode b_MO_turn 246 = .ok (.iconst 0, 1) := by decide +kernel
theorem d_MO_turn_247 : decode b_MO_turn 247 = .ok (.iastore, 1) := by decide +kernel
theorem d_MO_turn_248 : decode b_MO_turn 248 = .ok (.aload_n 0, 1) := by decide +kernel
theorem d_MO_turn_249 : decode b_MO_turn 249 = .ok (.getfield 41, 3) := by decide +kernel
theorem d_MO_turn_252 : decode b_MO_turn 252 = .ok (.iload_n 1, 1) := by decide +kernel
theorem d_MO_turn_253 : decode b_MO_turn 253 = .ok (.iconst 0, 1) := by decide +kernel
theorem d_MO_turn_254 : decode b_MO_turn 254 = .ok (.bastore, 1) := by decide +kernel
theorem d_MO_turn_255 : decode b_MO_turn 255 = .ok (.return_, 1) := by decide +kernel
abbrev b_MO_way : ByteArray := prog_12_method_29_code
def y_MO_way : MethodName := ⟨"ExploreSharesModel", "way", "(II)I"⟩
def w_MO_way : List Cond := .code y_MO_way b_MO_way 7 (some .int) :: xU
theorem d_MO_way_0 : decode b_MO_way 0 = .ok (.iload_n 1, 1) := by decide +kernel
theorem d_MO_way_1 : decode b_MO_way 1 = .ok (.aload_n 0, 1) := by decide +kernel
theorem d_MO_way_2 : decode b_MO_way 2 = .ok (.getfield 112, 3) := by decide +kernel
theorem d_MO_way_5 : decode b_MO_way 5 = .ok (.invokestatic 119, 3) := by decide +kernel
theorem d_MO_way_8 : decode b_MO_way 8 = .ok (.ifCond .ne 7, 3) := by decide +kernel
theorem d_MO_way_11 : decode b_MO_way 11 = .ok (.iconst 1, 1) := by decide +kernel
theorem d_MO_way_12 : decode b_MO_way 12 = .ok (.goto 4, 3) := by decide +kernel
theorem d_MO_way_15 : decode b_MO_way 15 = .ok (.iconst 0, 1) := by decide +kernel
theorem d_MO_way_16 : decode b_MO_way 16 = .ok (.istore_n 3, 1) := by decide +kernel
theorem d_MO_way_17 : decode b_MO_way 17 = .ok (.aload_n 0, 1) := by decide +kernel
theorem d_MO_way_18 : decode b_MO_way 18 = .ok (.iload_n 3, 1) := by decide +kernel
theorem d_MO_way_19 : decode b_MO_way 19 = .ok (.ifCond .ne 42, 3) := by decide +kernel
theorem d_MO_way_22 : decode b_MO_way 22 = .ok (.aload_n 0, 1) := by decide +kernel
theorem d_MO_way_23 : decode b_MO_way 23 = .ok (.getfield 25, 3) := by decide +kernel
theorem d_MO_way_26 : decode b_MO_way 26 = .ok (.iload_n 3, 1) := by decide +kernel
theorem d_MO_way_27 : decode b_MO_way 27 = .ok (.ifCond .eq 7, 3) := by decide +kernel
theorem d_MO_way_30 : decode b_MO_way 30 = .ok (.iconst 0, 1) := by decide +kernel
theorem d_MO_way_31 : decode b_MO_way 31 = .ok (.goto 4, 3) := by decide +kernel
theorem d_MO_way_34 : decode b_MO_way 34 = .ok (.iload_n 1, 1) := by decide +kernel
theorem d_MO_way_35 : decode b_MO_way 35 = .ok (.iaload, 1) := by decide +kernel
theorem d_MO_way_36 : decode b_MO_way 36 = .ok (.ifCond .lt 25, 3) := by decide +kernel
theorem d_MO_way_39 : decode b_MO_way 39 = .ok (.iload_n 2, 1) := by decide +kernel
theorem d_MO_way_40 : decode b_MO_way 40 = .ok (.ifCond .lt 21, 3) := by decide +kernel
theorem d_MO_way_43 : decode b_MO_way 43 = .ok (.iload_n 2, 1) := by decide +kernel
theorem d_MO_way_44 : decode b_MO_way 44 = .ok (.aload_n 0, 1) := by decide +kernel
theorem d_MO_way_45 : decode b_MO_way 45 = .ok (.getfield 25, 3) := by decide +kernel
theorem d_MO_way_48 : decode b_MO_way 48 = .ok (.iload_n 3, 1) := by decide +kernel
theorem d_MO_way_49 : decode b_MO_way 49 = .ok (.ifCond .eq 7, 3) := by decide +kernel
theorem d_MO_way_52 : decode b_MO_way 52 = .ok (.iconst 0, 1) := by decide +kernel
theorem d_MO_way_53 : decode b_MO_way 53 = .ok (.goto 4, 3) := by decide +kernel
theorem d_MO_way_56 : decode b_MO_way 56 = .ok (.iload_n 1, 1) := by decide +kernel
theorem d_MO_way_57 : decode b_MO_way 57 = .ok (.iaload, 1) := by decide +kernel
theorem d_MO_way_58 : decode b_MO_way 58 = .ok (.if_icmp .le 7, 3) := by decide +kernel
theorem d_MO_way_61 : decode b_MO_way 61 = .ok (.iconst 1, 1) := by decide +kernel
theorem d_MO_way_62 : decode b_MO_way 62 = .ok (.goto 4, 3) := by decide +kernel
theorem d_MO_way_65 : decode b_MO_way 65 = .ok (.iconst 0, 1) := by decide +kernel
theorem d_MO_way_66 : decode b_MO_way 66 = .ok (.iconst 0, 1) := by decide +kernel
theorem d_MO_way_67 : decode b_MO_way 67 = .ok (.iconst 0, 1) := by decide +kernel
theorem d_MO_way_68 : decode b_MO_way 68 = .ok (.invokevirtual 115, 3) := by decide +kernel
theorem d_MO_way_71 : decode b_MO_way 71 = .ok (.ifCond .eq 5, 3) := by decide +kernel
theorem d_MO_way_74 : decode b_MO_way 74 = .ok (.iconst 0, 1) := by decide +kernel
theorem d_MO_way_75 : decode b_MO_way 75 = .ok (.ireturn, 1) := by decide +kernel
theorem d_MO_way_76 : decode b_MO_way 76 = .ok (.aload_n 0, 1) := by decide +kernel
theorem d_MO_way_77 : decode b_MO_way 77 = .ok (.iload_n 1, 1) := by decide +kernel
theorem d_MO_way_78 : decode b_MO_way 78 = .ok (.invokevirtual 185, 3) := by decide +kernel
theorem d_MO_way_81 : decode b_MO_way 81 = .ok (.iconst 0, 1) := by decide +kernel
theorem d_MO_way_82 : decode b_MO_way 82 = .ok (.istore 4, 2) := by decide +kernel
theorem d_MO_way_84 : decode b_MO_way 84 = .ok (.iconst 1, 1) := by decide +kernel
theorem d_MO_way_85 : decode b_MO_way 85 = .ok (.istore 5, 2) := by decide +kernel
theorem d_MO_way_87 : decode b_MO_way 87 = .ok (.iload 5, 2) := by decide +kernel
theorem d_MO_way_89 : decode b_MO_way 89 = .ok (.iload_n 2, 1) := by decide +kernel
theorem d_MO_way_90 : decode b_MO_way 90 = .ok (.if_icmp .gt 55, 3) := by decide +kernel
theorem d_MO_way_93 : decode b_MO_way 93 = .ok (.iconst 0, 1) := by decide +kernel
theorem d_MO_way_94 : decode b_MO_way 94 = .ok (.istore 6, 2) := by decide +kernel
theorem d_MO_way_96 : decode b_MO_way 96 = .ok (.aload_n 0, 1) := by decide +kernel
theorem d_MO_way_97 : decode b_MO_way 97 = .ok (.getfield 77, 3) := by decide +kernel
theorem d_MO_way_100 : decode b_MO_way 100 = .ok (.iload 6, 2) := by decide +kernel
theorem d_MO_way_102 : decode b_MO_way 102 = .ok (.baload, 1) := by decide +kernel
theorem d_MO_way_103 : decode b_MO_way 103 = .ok (.ifCond .eq 26, 3) := by decide +kernel
theorem d_MO_way_106 : decode b_MO_way 106 = .ok (.aload_n 0, 1) := by decide +kernel
theorem d_MO_way_107 : decode b_MO_way 107 = .ok (.getfield 25, 3) := by decide +kernel
theorem d_MO_way_110 : decode b_MO_way 110 = .ok (.iload 6, 2) := by decide +kernel
theorem d_MO_way_112 : decode b_MO_way 112 = .ok (.iaload, 1) := by decide +kernel
theorem d_MO_way_113 : decode b_MO_way 113 = .ok (.iload 5, 2) := by decide +kernel
theorem d_MO_way_115 : decode b_MO_way 115 = .ok (.if_icmp .ne 14, 3) := by decide +kernel
theorem d_MO_way_118 : decode b_MO_way 118 = .ok (.aload_n 0, 1) := by decide +kernel
theorem d_MO_way_119 : decode b_MO_way 119 = .ok (.iload 4, 2) := by decide +kernel
theorem d_MO_way_121 : decode b_MO_way 121 = .ok (.iload 6, 2) := by decide +kernel
theorem d_MO_way_123 : decode b_MO_way 123 = .ok (.invokevirtual 182, 3) := by decide +kernel
theorem d_MO_way_126 : decode b_MO_way 126 = .ok (.ifCond .ne 9, 3) := by decide +kernel
theorem d_MO_way_129 : decode b_MO_way 129 = .ok (.iinc 6 1, 3) := by decide +kernel
theorem d_MO_way_132 : decode b_MO_way 132 = .ok (.goto (-36), 3) := by decide +kernel
theorem d_MO_way_135 : decode b_MO_way 135 = .ok (.iload 6, 2) := by decide +kernel
theorem d_MO_way_137 : decode b_MO_way 137 = .ok (.istore 4, 2) := by decide +kernel
theorem d_MO_way_139 : decode b_MO_way 139 = .ok (.iinc 5 1, 3) := by decide +kernel
theorem d_MO_way_142 : decode b_MO_way 142 = .ok (.goto (-55), 3) := by decide +kernel
theorem d_MO_way_145 : decode b_MO_way 145 = .ok (.iload 4, 2) := by decide +kernel
theorem d_MO_way_147 : decode b_MO_way 147 = .ok (.ireturn, 1) := by decide +kernel
abbrev b_MO_worker : ByteArray := prog_12_method_31_code
def y_MO_worker : MethodName := ⟨"ExploreSharesModel", "worker", "(II)I"⟩
def w_MO_worker : List Cond := .code y_MO_worker b_MO_worker 3 (some .int) :: xU
theorem d_MO_worker_0 : decode b_MO_worker 0 = .ok (.aload_n 0, 1) := by decide +kernel
theorem d_MO_worker_1 : decode b_MO_worker 1 = .ok (.iload_n 1, 1) := by decide +kernel
theorem d_MO_worker_2 : decode b_MO_worker 2 = .ok (.aload_n 0, 1) := by decide +kernel
theorem d_MO_worker_3 : decode b_MO_worker 3 = .ok (.getfield 80, 3) := by decide +kernel
theorem d_MO_worker_6 : decode b_MO_worker 6 = .ok (.invokestatic 119, 3) := by decide +kernel
theorem d_MO_worker_9 : decode b_MO_worker 9 = .ok (.ifCond .eq 11, 3) := by decide +kernel
theorem d_MO_worker_12 : decode b_MO_worker 12 = .ok (.iload_n 2, 1) := by decide +kernel
theorem d_MO_worker_13 : decode b_MO_worker 13 = .ok (.iconst 5, 1) := by decide +kernel
theorem d_MO_worker_14 : decode b_MO_worker 14 = .ok (.invokestatic 119, 3) := by decide +kernel
theorem d_MO_worker_17 : decode b_MO_worker 17 = .ok (.ifCond .ne 7, 3) := by decide +kernel
theorem d_MO_worker_20 : decode b_MO_worker 20 = .ok (.iconst 1, 1) := by decide +kernel
theorem d_MO_worker_21 : decode b_MO_worker 21 = .ok (.goto 4, 3) := by decide +kernel
theorem d_MO_worker_24 : decode b_MO_worker 24 = .ok (.iconst 0, 1) := by decide +kernel
theorem d_MO_worker_25 : decode b_MO_worker 25 = .ok (.iconst 0, 1) := by decide +kernel
theorem d_MO_worker_26 : decode b_MO_worker 26 = .ok (.iconst 0, 1) := by decide +kernel
theorem d_MO_worker_27 : decode b_MO_worker 27 = .ok (.invokevirtual 115, 3) := by decide +kernel
theorem d_MO_worker_30 : decode b_MO_worker 30 = .ok (.ifCond .eq 5, 3) := by decide +kernel
theorem d_MO_worker_33 : decode b_MO_worker 33 = .ok (.iconst 0, 1) := by decide +kernel
theorem d_MO_worker_34 : decode b_MO_worker 34 = .ok (.ireturn, 1) := by decide +kernel
theorem d_MO_worker_35 : decode b_MO_worker 35 = .ok (.iload_n 2, 1) := by decide +kernel
theorem d_MO_worker_36 : decode b_MO_worker 36 = .ok (.tableswitch 72 0 3 #[32, 39, 46, 53], 32) := by decide +kernel
theorem d_MO_worker_68 : decode b_MO_worker 68 = .ok (.aload_n 0, 1) := by decide +kernel
theorem d_MO_worker_69 : decode b_MO_worker 69 = .ok (.getfield 44, 3) := by decide +kernel
theorem d_MO_worker_72 : decode b_MO_worker 72 = .ok (.iload_n 1, 1) := by decide +kernel
theorem d_MO_worker_73 : decode b_MO_worker 73 = .ok (.iaload, 1) := by decide +kernel
theorem d_MO_worker_74 : decode b_MO_worker 74 = .ok (.ireturn, 1) := by decide +kernel
theorem d_MO_worker_75 : decode b_MO_worker 75 = .ok (.aload_n 0, 1) := by decide +kernel
theorem d_MO_worker_76 : decode b_MO_worker 76 = .ok (.getfield 47, 3) := by decide +kernel
theorem d_MO_worker_79 : decode b_MO_worker 79 = .ok (.iload_n 1, 1) := by decide +kernel
theorem d_MO_worker_80 : decode b_MO_worker 80 = .ok (.iaload, 1) := by decide +kernel
theorem d_MO_worker_81 : decode b_MO_worker 81 = .ok (.ireturn, 1) := by decide +kernel
theorem d_MO_worker_82 : decode b_MO_worker 82 = .ok (.aload_n 0, 1) := by decide +kernel
theorem d_MO_worker_83 : decode b_MO_worker 83 = .ok (.getfield 50, 3) := by decide +kernel
theorem d_MO_worker_86 : decode b_MO_worker 86 = .ok (.iload_n 1, 1) := by decide +kernel
theorem d_MO_worker_87 : decode b_MO_worker 87 = .ok (.iaload, 1) := by decide +kernel
theorem d_MO_worker_88 : decode b_MO_worker 88 = .ok (.ireturn, 1) := by decide +kernel
theorem d_MO_worker_89 : decode b_MO_worker 89 = .ok (.aload_n 0, 1) := by decide +kernel
theorem d_MO_worker_90 : decode b_MO_worker 90 = .ok (.getfield 38, 3) := by decide +kernel
theorem d_MO_worker_93 : decode b_MO_worker 93 = .ok (.iload_n 1, 1) := by decide +kernel
theorem d_MO_worker_94 : decode b_MO_worker 94 = .ok (.baload, 1) := by decide +kernel
theorem d_MO_worker_95 : decode b_MO_worker 95 = .ok (.ifCond .eq 11, 3) := by decide +kernel
theorem d_MO_worker_98 : decode b_MO_worker 98 = .ok (.aload_n 0, 1) := by decide +kernel
theorem d_MO_worker_99 : decode b_MO_worker 99 = .ok (.iload_n 1, 1) := by decide +kernel
theorem d_MO_worker_100 : decode b_MO_worker 100 = .ok (.invokevirtual 188, 3) := by decide +kernel
theorem d_MO_worker_103 : decode b_MO_worker 103 = .ok (.goto 4, 3) := by decide +kernel
theorem d_MO_worker_106 : decode b_MO_worker 106 = .ok (.iconst (-1), 1) := by decide +kernel
theorem d_MO_worker_107 : decode b_MO_worker 107 = .ok (.ireturn, 1) := by decide +kernel
theorem d_MO_worker_108 : decode b_MO_worker 108 = .ok (.aload_n 0, 1) := by decide +kernel
theorem d_MO_worker_109 : decode b_MO_worker 109 = .ok (.getfield 38, 3) := by decide +kernel
theorem d_MO_worker_112 : decode b_MO_worker 112 = .ok (.iload_n 1, 1) := by decide +kernel
theorem d_MO_worker_113 : decode b_MO_worker 113 = .ok (.baload, 1) := by decide +kernel
theorem d_MO_worker_114 : decode b_MO_worker 114 = .ok (.ifCond .eq 7, 3) := by decide +kernel
theorem d_MO_worker_117 : decode b_MO_worker 117 = .ok (.iconst 1, 1) := by decide +kernel
theorem d_MO_worker_118 : decode b_MO_worker 118 = .ok (.goto 4, 3) := by decide +kernel
theorem d_MO_worker_121 : decode b_MO_worker 121 = .ok (.iconst 0, 1) := by decide +kernel
theorem d_MO_worker_122 : decode b_MO_worker 122 = .ok (.ireturn, 1) := by decide +kernel
