abbrev b_MO_thrown : ByteArray := prog_12_method_2_code
def y_MO_thrown : MethodName := ⟨"ExploreSharesModel", "thrown", "()I"⟩
def w_MO_thrown : List Cond := .code y_MO_thrown b_MO_thrown 1 (some .int) :: xU
theorem d_MO_thrown_0 : decode b_MO_thrown 0 = .ok (.aload_n 0, 1) := by decide +kernel
theorem d_MO_thrown_1 : decode b_MO_thrown 1 = .ok (.getfield 90, 3) := by decide +kernel
theorem d_MO_thrown_4 : decode b_MO_thrown 4 = .ok (.ireturn, 1) := by decide +kernel
abbrev b_MO_throwing : ByteArray := prog_12_method_3_code
def y_MO_throwing : MethodName := ⟨"ExploreSharesModel", "throwing", "(ZZZ)Z"⟩
def w_MO_throwing : List Cond := .code y_MO_throwing b_MO_throwing 4 (some .boolean) :: xU
theorem d_MO_throwing_0 : decode b_MO_throwing 0 = .ok (.aload_n 0, 1) := by decide +kernel
theorem d_MO_throwing_1 : decode b_MO_throwing 1 = .ok (.iload_n 1, 1) := by decide +kernel
theorem d_MO_throwing_2 : decode b_MO_throwing 2 = .ok (.ifCond .eq 7, 3) := by decide +kernel
theorem d_MO_throwing_5 : decode b_MO_throwing 5 = .ok (.iconst 1, 1) := by decide +kernel
theorem d_MO_throwing_6 : decode b_MO_throwing 6 = .ok (.goto 20, 3) := by decide +kernel
theorem d_MO_throwing_9 : decode b_MO_throwing 9 = .ok (.iload_n 2, 1) := by decide +kernel
theorem d_MO_throwing_10 : decode b_MO_throwing 10 = .ok (.ifCond .eq 7, 3) := by decide +kernel
theorem d_MO_throwing_13 : decode b_MO_throwing 13 = .ok (.iconst 2, 1) := by decide +kernel
theorem d_MO_throwing_14 : decode b_MO_throwing 14 = .ok (.goto 12, 3) := by decide +kernel
theorem d_MO_throwing_17 : decode b_MO_throwing 17 = .ok (.iload_n 3, 1) := by decide +kernel
theorem d_MO_throwing_18 : decode b_MO_throwing 18 = .ok (.ifCond .eq 7, 3) := by decide +kernel
theorem d_MO_throwing_25 : decode b_MO_throwing 25 = .ok (.iconst 0, 1) := by decide +kernel
theorem d_MO_throwing_26 : decode b_MO_throwing 26 = .ok (.putfield 90, 3) := by decide +kernel
theorem d_MO_throwing_29 : decode b_MO_throwing 29 = .ok (.aload_n 0, 1) := by decide +kernel
theorem d_MO_throwing_30 : decode b_MO_throwing 30 = .ok (.getfield 90, 3) := by decide +kernel
theorem d_MO_throwing_33 : decode b_MO_throwing 33 = .ok (.ifCond .le 7, 3) := by decide +kernel
theorem d_MO_throwing_36 : decode b_MO_throwing 36 = .ok (.iconst 1, 1) := by decide +kernel
theorem d_MO_throwing_37 : decode b_MO_throwing 37 = .ok (.goto 4, 3) := by decide +kernel
theorem d_MO_throwing_40 : decode b_MO_throwing 40 = .ok (.iconst 0, 1) := by decide +kernel
theorem d_MO_throwing_41 : decode b_MO_throwing 41 = .ok (.ireturn, 1) := by decide +kernel
abbrev b_MO_isOf : ByteArray := prog_12_method_4_code
def y_MO_isOf : MethodName := ⟨"ExploreSharesModel", "isOf", "(II)Z"⟩
def w_MO_isOf : List Cond := .code y_MO_isOf b_MO_isOf 2 (some .boolean) :: xU
theorem d_MO_isOf_0 : decode b_MO_isOf 0 = .ok (.iload_n 0, 1) := by decide +kernel
theorem d_MO_isOf_1 : decode b_MO_isOf 1 = .ok (.ifCond .lt 12, 3) := by decide +kernel
theorem d_MO_isOf_4 : decode b_MO_isOf 4 = .ok (.iload_n 0, 1) := by decide +kernel
theorem d_MO_isOf_5 : decode b_MO_isOf 5 = .ok (.iload_n 1, 1) := by decide +kernel
theorem d_MO_isOf_6 : decode b_MO_isOf 6 = .ok (.if_icmp .ge 7, 3) := by decide +kernel
theorem d_MO_isOf_9 : decode b_MO_isOf 9 = .ok (.iconst 1, 1) := by decide +kernel
theorem d_MO_isOf_10 : decode b_MO_isOf 10 = .ok (.goto 4, 3) := by decide +kernel
theorem d_MO_isOf_13 : decode b_MO_isOf 13 = .ok (.iconst 0, 1) := by decide +kernel
theorem d_MO_isOf_14 : decode b_MO_isOf 14 = .ok (.ireturn, 1) := by decide +kernel
abbrev b_MO_forget : ByteArray := prog_12_method_5_code
def y_MO_forget : MethodName := ⟨"ExploreSharesModel", "forget", "()V"⟩
def w_MO_forget : List Cond := .code y_MO_forget b_MO_forget 2 (none) :: xU
theorem d_MO_forget_0 : decode b_MO_forget 0 = .ok (.aload_n 0, 1) := by decide +kernel
theorem d_MO_forget_1 : decode b_MO_forget 1 = .ok (.iconst 0, 1) := by decide +kernel
theorem d_MO_forget_2 : decode b_MO_forget 2 = .ok (.putfield 93, 3) := by decide +kernel
theorem d_MO_forget_5 : decode b_MO_forget 5 = .ok (.aload_n 0, 1) := by decide +kernel
theorem d_MO_forget_6 : decode b_MO_forget 6 = .ok (.iconst 0, 1) := by decide +kernel
theorem d_MO_forget_7 : decode b_MO_forget 7 = .ok (.putfield 97, 3) := by decide +kernel
theorem d_MO_forget_10 : decode b_MO_forget 10 = .ok (.aload_n 0, 1) := by decide +kernel
theorem d_MO_forget_11 : decode b_MO_forget 11 = .ok (.iconst 0, 1) := by decide +kernel
theorem d_MO_forget_12 : decode b_MO_forget 12 = .ok (.putfield 100, 3) := by decide +kernel
theorem d_MO_forget_15 : decode b_MO_forget 15 = .ok (.aload_n 0, 1) := by decide +kernel
theorem d_MO_forget_16 : decode b_MO_forget 16 = .ok (.iconst 0, 1) := by decide +kernel
theorem d_MO_forget_17 : decode b_MO_forget 17 = .ok (.putfield 103, 3) := by decide +kernel
theorem d_MO_forget_20 : decode b_MO_forget 20 = .ok (.aload_n 0, 1) := by decide +kernel
theorem d_MO_forget_21 : decode b_MO_forget 21 = .ok (.iconst 0, 1) := by decide +kernel
theorem d_MO_forget_22 : decode b_MO_forget 22 = .ok (.putfield 106, 3) := by decide +kernel
theorem d_MO_forget_25 : decode b_MO_forget 25 = .ok (.aload_n 0, 1) := by decide +kernel
theorem d_MO_forget_26 : decode b_MO_forget 26 = .ok (.iconst 0, 1) := by decide +kernel
theorem d_MO_forget_27 : decode b_MO_forget 27 = .ok (.putfield 109, 3) := by decide +kernel
theorem d_MO_forget_30 : decode b_MO_forget 30 = .ok (.iconst 0, 1) := by decide +kernel
theorem d_MO_forget_31 : decode b_MO_forget 31 = .ok (.istore_n 1, 1) := by decide +kernel
theorem d_MO_forget_32 : decode b_MO_forget 32 = .ok (.iload_n 1, 1) := by decide +kernel
theorem d_MO_forget_33 : decode b_MO_forget 33 = .ok (.sipush 200, 3) := by decide +kernel
theorem d_MO_forget_36 : decode b_MO_forget 36 = .ok (.if_icmp .ge 30, 3) := by decide +kernel
theorem d_MO_forget_39 : decode b_MO_forget 39 = .ok (.aload_n 0, 1) := by decide +kernel
theorem d_MO_forget_40 : decode b_MO_forget 40 = .ok (.getfield 25, 3) := by decide +kernel
theorem d_MO_forget_43 : decode b_MO_forget 43 = .ok (.iload_n 1, 1) := by decide +kernel
theorem d_MO_forget_44 : decode b_MO_forget 44 = .ok (.iconst (-1), 1) := by decide +kernel
theorem d_MO_forget_45 : decode b_MO_forget 45 = .ok (.iastore, 1) := by decide +kernel
theorem d_MO_forget_46 : decode b_MO_forget 46 = .ok (.aload_n 0, 1) := by decide +kernel
theorem d_MO_forget_47 : decode b_MO_forget 47 = .ok (.getfield 28, 3) := by decide +kernel
theorem d_MO_forget_50 : decode b_MO_forget 50 = .ok (.iload_n 1, 1) := by decide +kernel
theorem d_MO_forget_51 : decode b_MO_forget 51 = .ok (.iconst 0, 1) := by decide +kernel
theorem d_MO_forget_52 : decode b_MO_forget 52 = .ok (.iastore, 1) := by decide +kernel
theorem d_MO_forget_53 : decode b_MO_forget 53 = .ok (.aload_n 0, 1) := by decide +kernel
theorem d_MO_forget_54 : decode b_MO_forget 54 = .ok (.getfield 34, 3) := by decide +kernel
theorem d_MO_forget_57 : decode b_MO_forget 57 = .ok (.iload_n 1, 1) := by decide +kernel
theorem d_MO_forget_58 : decode b_MO_forget 58 = .ok (.iconst 0, 1) := by decide +kernel
theorem d_MO_forget_59 : decode b_MO_forget 59 = .ok (.bastore, 1) := by decide +kernel
theorem d_MO_forget_60 : decode b_MO_forget 60 = .ok (.iinc 1 1, 3) := by decide +kernel
theorem d_MO_forget_63 : decode b_MO_forget 63 = .ok (.goto (-31), 3) := by decide +kernel
theorem d_MO_forget_66 : decode b_MO_forget 66 = .ok (.iconst 0, 1) := by decide +kernel
theorem d_MO_forget_67 : decode b_MO_forget 67 = .ok (.istore_n 1, 1) := by decide +kernel
theorem d_MO_forget_68 : decode b_MO_forget 68 = .ok (.iload_n 1, 1) := by decide +kernel
theorem d_MO_forget_69 : decode b_MO_forget 69 = .ok (.bipush 16, 2) := by decide +kernel
theorem d_MO_forget_71 : decode b_MO_forget 71 = .ok (.if_icmp .ge 56, 3) := by decide +kernel
theorem d_MO_forget_74 : decode b_MO_forget 74 = .ok (.aload_n 0, 1) := by decide +kernel
theorem d_MO_forget_75 : decode b_MO_forget 75 = .ok (.getfield 38, 3) := by decide +kernel
theorem d_MO_forget_78 : decode b_MO_forget 78 = .ok (.iload_n 1, 1) := by decide +kernel
theorem d_MO_forget_79 : decode b_MO_forget 79 = .ok (.iload_n 1, 1) := by decide +kernel
theorem d_MO_forget_80 : decode b_MO_forget 80 = .ok (.aload_n 0, 1) := by decide +kernel
theorem d_MO_forget_81 : decode b_MO_forget 81 = .ok (.getfield 80, 3) := by decide +kernel
theorem d_MO_forget_84 : decode b_MO_forget 84 = .ok (.if_icmp .ge 7, 3) := by decide +kernel
theorem d_MO_forget_87 : decode b_MO_forget 87 = .ok (.iconst 1, 1) := by decide +kernel
theorem d_MO_forget_88 : decode b_MO_forget 88 = .ok (.goto 4, 3) := by decide +kernel
theorem d_MO_forget_91 : decode b_MO_forget 91 = .ok (.iconst 0, 1) := by decide +kernel
theorem d_MO_forget_92 : decode b_MO_forget 92 = .ok (.bastore, 1) := by decide +kernel
theorem d_MO_forget_93 : decode b_MO_forget 93 = .ok (.aload_n 0, 1) := by decide +kernel
theorem d_MO_forget_94 : decode b_MO_forget 94 = .ok (.getfield 44, 3) := by decide +kernel
theorem d_MO_forget_97 : decode b_MO_forget 97 = .ok (.iload_n 1, 1) := by decide +kernel
theorem d_MO_forget_98 : decode b_MO_forget 98 = .ok (.iconst 0, 1) := by decide +kernel
theorem d_MO_forget_99 : decode b_MO_forget 99 = .ok (.iastore, 1) := by decide +kernel
theorem d_MO_forget_100 : decode b_MO_forget 100 = .ok (.aload_n 0, 1) := by decide +kernel
theorem d_MO_forget_101 : decode b_MO_forget 101 = .ok (.getfield 47, 3) := by decide +kernel
theorem d_MO_forget_104 : decode b_MO_forget 104 = .ok (.iload_n 1, 1) := by decide +kernel
theorem d_MO_forget_105 : decode b_MO_forget 105 = .ok (.iconst 0, 1) := by decide +kernel
theorem d_MO_forget_106 : decode b_MO_forget 106 = .ok (.iastore, 1) := by decide +kernel
theorem d_MO_forget_107 : decode b_MO_forget 107 = .ok (.aload_n 0, 1) := by decide +kernel
theorem d_MO_forget_108 : decode b_MO_forget 108 = .ok (.getfield 50, 3) := by decide +kernel
theorem d_MO_forget_111 : decode b_MO_forget 111 = .ok (.iload_n 1, 1) := by decide +kernel
theorem d_MO_forget_112 : decode b_MO_forget 112 = .ok (.iconst 0, 1) := by decide +kernel
theorem d_MO_forget_113 : decode b_MO_forget 113 = .ok (.iastore, 1) := by decide +kernel
theorem d_MO_forget_114 : decode b_MO_forget 114 = .ok (.aload_n 0, 1) := by decide +kernel
theorem d_MO_forget_115 : decode b_MO_forget 115 = .ok (.getfield 62, 3) := by decide +kernel
theorem d_MO_forget_118 : decode b_MO_forget 118 = .ok (.iload_n 1, 1) := by decide +kernel
theorem d_MO_forget_119 : decode b_MO_forget 119 = .ok (.iconst 0, 1) := by decide +kernel
theorem d_MO_forget_120 : decode b_MO_forget 120 = .ok (.iastore, 1) := by decide +kernel
theorem d_MO_forget_121 : decode b_MO_forget 121 = .ok (.iinc 1 1, 3) := by decide +kernel
theorem d_MO_forget_124 : decode b_MO_forget 124 = .ok (.goto (-56), 3) := by decide +kernel
theorem d_MO_forget_127 : decode b_MO_forget 127 = .ok (.return_, 1) := by decide +kernel
abbrev b_MO_init : ByteArray := prog_12_method_1_code
def y_MO_init : MethodName := ⟨"ExploreSharesModel", "<init>", "(II)V"⟩
def w_MO_init : List Cond := .code y_MO_init b_MO_init 3 (none) :: xU
theorem d_MO_init_0 : decode b_MO_init 0 = .ok (.aload_n 0, 1) := by decide +kernel
theorem d_MO_init_1 : decode b_MO_init 1 = .ok (.invokespecial 1, 3) := by decide +kernel
theorem d_MO_init_4 : decode b_MO_init 4 = .ok (.aload_n 0, 1) := by decide +kernel
theorem d_MO_init_5 : decode b_MO_init 5 = .ok (.sipush 600, 3) := by decide +kernel
theorem d_MO_init_8 : decode b_MO_init 8 = .ok (.newarray .int, 2) := by decide +kernel
theorem d_MO_init_10 : decode b_MO_init 10 = .ok (.putfield 7, 3) := by decide +kernel
theorem d_MO_init_13 : decode b_MO_init 13 = .ok (.aload_n 0, 1) := by decide +kernel
theorem d_MO_init_14 : decode b_MO_init 14 = .ok (.sipush 600, 3) := by decide +kernel
theorem d_MO_init_17 : decode b_MO_init 17 = .ok (.newarray .int, 2) := by decide +kernel
theorem d_MO_init_19 : decode b_MO_init 19 = .ok (.putfield 13, 3) := by decide +kernel
theorem d_MO_init_22 : decode b_MO_init 22 = .ok (.aload_n 0, 1) := by decide +kernel
theorem d_MO_init_23 : decode b_MO_init 23 = .ok (.bipush 20, 2) := by decide +kernel
theorem d_MO_init_25 : decode b_MO_init 25 = .ok (.newarray .int, 2) := by decide +kernel
theorem d_MO_init_27 : decode b_MO_init 27 = .ok (.putfield 16, 3) := by decide +kernel
theorem d_MO_init_30 : decode b_MO_init 30 = .ok (.aload_n 0, 1) := by decide +kernel
theorem d_MO_init_31 : decode b_MO_init 31 = .ok (.bipush 20, 2) := by decide +kernel
theorem d_MO_init_33 : decode b_MO_init 33 = .ok (.newarray .int, 2) := by decide +kernel
theorem d_MO_init_35 : decode b_MO_init 35 = .ok (.putfield 19, 3) := by decide +kernel
theorem d_MO_init_38 : decode b_MO_init 38 = .ok (.aload_n 0, 1) := by decide +kernel
theorem d_MO_init_39 : decode b_MO_init 39 = .ok (.bipush 20, 2) := by decide +kernel
theorem d_MO_init_41 : decode b_MO_init 41 = .ok (.newarray .int, 2) := by decide +kernel
theorem d_MO_init_43 : decode b_MO_init 43 = .ok (.putfield 22, 3) := by decide +kernel
theorem d_MO_init_46 : decode b_MO_init 46 = .ok (.aload_n 0, 1) := by decide +kernel
theorem d_MO_init_47 : decode b_MO_init 47 = .ok (.sipush 200, 3) := by decide +kernel
theorem d_MO_init_50 : decode b_MO_init 50 = .ok (.newarray .int, 2) := by decide +kernel
theorem d_MO_init_52 : decode b_MO_init 52 = .ok (.putfield 25, 3) := by decide +kernel
theorem d_MO_init_55 : decode b_MO_init 55 = .ok (.aload_n 0, 1) := by decide +kernel
theorem d_MO_init_56 : decode b_MO_init 56 = .ok (.sipush 200, 3) := by decide +kernel
theorem d_MO_init_59 : decode b_MO_init 59 = .ok (.newarray .int, 2) := by decide +kernel
theorem d_MO_init_61 : decode b_MO_init 61 = .ok (.putfield 28, 3) := by decide +kernel
theorem d_MO_init_64 : decode b_MO_init 64 = .ok (.aload_n 0, 1) := by decide +kernel
theorem d_MO_init_65 : decode b_MO_init 65 = .ok (.sipush 201, 3) := by decide +kernel
theorem d_MO_init_68 : decode b_MO_init 68 = .ok (.newarray .int, 2) := by decide +kernel
theorem d_MO_init_70 : decode b_MO_init 70 = .ok (.putfield 31, 3) := by decide +kernel
theorem d_MO_init_73 : decode b_MO_init 73 = .ok (.aload_n 0, 1) := by decide +kernel
theorem d_MO_init_74 : decode b_MO_init 74 = .ok (.sipush 200, 3) := by decide +kernel
theorem d_MO_init_77 : decode b_MO_init 77 = .ok (.newarray .boolean, 2) := by decide +kernel
theorem d_MO_init_79 : decode b_MO_init 79 = .ok (.putfield 34, 3) := by decide +kernel
theorem d_MO_init_82 : decode b_MO_init 82 = .ok (.aload_n 0, 1) := by decide +kernel
theorem d_MO_init_83 : decode b_MO_init 83 = .ok (.bipush 16, 2) := by decide +kernel
theorem d_MO_init_85 : decode b_MO_init 85 = .ok (.newarray .boolean, 2) := by decide +kernel
theorem d_MO_init_87 : decode b_MO_init 87 = .ok (.putfield 38, 3) := by decide +kernel
theorem d_MO_init_90 : decode b_MO_init 90 = .ok (.aload_n 0, 1) := by decide +kernel
theorem d_MO_init_91 : decode b_MO_init 91 = .ok (.bipush 16, 2) := by decide +kernel
theorem d_MO_init_93 : decode b_MO_init 93 = .ok (.newarray .boolean, 2) := by decide +kernel
theorem d_MO_init_95 : decode b_MO_init 95 = .ok (.putfield 41, 3) := by decide +kernel
theorem d_MO_init_98 : decode b_MO_init 98 = .ok (.aload_n 0, 1) := by decide +kernel
theorem d_MO_init_99 : decode b_MO_init 99 = .ok (.bipush 16, 2) := by decide +kernel
theorem d_MO_init_101 : decode b_MO_init 101 = .ok (.newarray .int, 2) := by decide +kernel
theorem d_MO_init_103 : decode b_MO_init 103 = .ok (.putfield 44, 3) := by decide +kernel
theorem d_MO_init_106 : decode b_MO_init 106 = .ok (.aload_n 0, 1) := by decide +kernel
theorem d_MO_init_107 : decode b_MO_init 107 = .ok (.bipush 16, 2) := by decide +kernel
theorem d_MO_init_109 : decode b_MO_init 109 = .ok (.newarray .int, 2) := by decide +kernel
theorem d_MO_init_111 : decode b_MO_init 111 = .ok (.putfield 47, 3) := by decide +kernel
theorem d_MO_init_114 : decode b_MO_init 114 = .ok (.aload_n 0, 1) := by decide +kernel
theorem d_MO_init_115 : decode b_MO_init 115 = .ok (.bipush 16, 2) := by decide +kernel
theorem d_MO_init_117 : decode b_MO_init 117 = .ok (.newarray .int, 2) := by decide +kernel
theorem d_MO_init_119 : decode b_MO_init 119 = .ok (.putfield 50, 3) := by decide +kernel
theorem d_MO_init_122 : decode b_MO_init 122 = .ok (.aload_n 0, 1) := by decide +kernel
theorem d_MO_init_123 : decode b_MO_init 123 = .ok (.bipush 16, 2) := by decide +kernel
theorem d_MO_init_125 : decode b_MO_init 125 = .ok (.newarray .int, 2) := by decide +kernel
theorem d_MO_init_127 : decode b_MO_init 127 = .ok (.putfield 53, 3) := by decide +kernel
theorem d_MO_init_130 : decode b_MO_init 130 = .ok (.aload_n 0, 1) := by decide +kernel
theorem d_MO_init_131 : decode b_MO_init 131 = .ok (.bipush 16, 2) := by decide +kernel
theorem d_MO_init_133 : decode b_MO_init 133 = .ok (.newarray .int, 2) := by decide +kernel
theorem d_MO_init_135 : decode b_MO_init 135 = .ok (.putfield 56, 3) := by decide +kernel
theorem d_MO_init_138 : decode b_MO_init 138 = .ok (.aload_n 0, 1) := by decide +kernel
theorem d_MO_init_139 : decode b_MO_init 139 = .ok (.bipush 16, 2) := by decide +kernel
theorem d_MO_init_141 : decode b_MO_init 141 = .ok (.newarray .int, 2) := by decide +kernel
theorem d_MO_init_143 : decode b_MO_init 143 = .ok (.putfield 59, 3) := by decide +kernel
theorem d_MO_init_146 : decode b_MO_init 146 = .ok (.aload_n 0, 1) := by decide +kernel
theorem d_MO_init_147 : decode b_MO_init 147 = .ok (.bipush 16, 2) := by decide +kernel
theorem d_MO_init_149 : decode b_MO_init 149 = .ok (.newarray .int, 2) := by decide +kernel
theorem d_MO_init_151 : decode b_MO_init 151 = .ok (.putfield 62, 3) := by decide +kernel
theorem d_MO_init_154 : decode b_MO_init 154 = .ok (.aload_n 0, 1) := by decide +kernel
theorem d_MO_init_155 : decode b_MO_init 155 = .ok (.sipush 128, 3) := by decide +kernel
theorem d_MO_init_158 : decode b_MO_init 158 = .ok (.newarray .int, 2) := by decide +kernel
theorem d_MO_init_160 : decode b_MO_init 160 = .ok (.putfield 65, 3) := by decide +kernel
theorem d_MO_init_163 : decode b_MO_init 163 = .ok (.aload_n 0, 1) := by decide +kernel
theorem d_MO_init_164 : decode b_MO_init 164 = .ok (.bipush 16, 2) := by decide +kernel
theorem d_MO_init_166 : decode b_MO_init 166 = .ok (.newarray .int, 2) := by decide +kernel
theorem d_MO_init_168 : decode b_MO_init 168 = .ok (.putfield 68, 3) := by decide +kernel
theorem d_MO_init_171 : decode b_MO_init 171 = .ok (.aload_n 0, 1) := by decide +kernel
theorem d_MO_init_172 : decode b_MO_init 172 = .ok (.bipush 16, 2) := by decide +kernel
theorem d_MO_init_174 : decode b_MO_init 174 = .ok (.newarray .int, 2) := by decide +kernel
theorem d_MO_init_176 : decode b_MO_init 176 = .ok (.putfield 71, 3) := by decide +kernel
theorem d_MO_init_179 : decode b_MO_init 179 = .ok (.aload_n 0, 1) := by decide +kernel
theorem d_MO_init_180 : decode b_MO_init 180 = .ok (.bipush 16, 2) := by decide +kernel
theorem d_MO_init_182 : decode b_MO_init 182 = .ok (.newarray .int, 2) := by decide +kernel
theorem d_MO_init_184 : decode b_MO_init 184 = .ok (.putfield 74, 3) := by decide +kernel
theorem d_MO_init_187 : decode b_MO_init 187 = .ok (.aload_n 0, 1) := by decide +kernel
theorem d_MO_init_188 : decode b_MO_init 188 = .ok (.sipush 200, 3) := by decide +kernel
theorem d_MO_init_191 : decode b_MO_init 191 = .ok (.newarray .boolean, 2) := by decide +kernel
theorem d_MO_init_193 : decode b_MO_init 193 = .ok (.putfield 77, 3) := by decide +kernel
theorem d_MO_init_196 : decode b_MO_init 196 = .ok (.aload_n 0, 1) := by decide +kernel
theorem d_MO_init_197 : decode b_MO_init 197 = .ok (.iconst 1, 1) := by decide +kernel
theorem d_MO_init_198 : decode b_MO_init 198 = .ok (.iload_n 1, 1) := by decide +kernel
theorem d_MO_init_199 : decode b_MO_init 199 = .ok (.iconst 1, 1) := by decide +kernel
theorem d_MO_init_200 : decode b_MO_init 200 = .ok (.isub, 1) := by decide +kernel
theorem d_MO_init_201 : decode b_MO_init 201 = .ok (.bipush 15, 2) := by decide +kernel
theorem d_MO_init_203 : decode b_MO_init 203 = .ok (.iand, 1) := by decide +kernel
theorem d_MO_init_204 : decode b_MO_init 204 = .ok (.iadd, 1) := by decide +kernel
theorem d_MO_init_205 : decode b_MO_init 205 = .ok (.putfield 80, 3) := by decide +kernel
theorem d_MO_init_208 : decode b_MO_init 208 = .ok (.aload_n 0, 1) := by decide +kernel
theorem d_MO_init_209 : decode b_MO_init 209 = .ok (.iconst 1, 1) := by decide +kernel
theorem d_MO_init_210 : decode b_MO_init 210 = .ok (.iload_n 2, 1) := by decide +kernel
theorem d_MO_init_211 : decode b_MO_init 211 = .ok (.iconst 1, 1) := by decide +kernel
theorem d_MO_init_212 : decode b_MO_init 212 = .ok (.isub, 1) := by decide +kernel
theorem d_MO_init_213 : decode b_MO_init 213 = .ok (.bipush 7, 2) := by decide +kernel
theorem d_MO_init_215 : decode b_MO_init 215 = .ok (.iand, 1) := by decide +kernel
theorem d_MO_init_216 : decode b_MO_init 216 = .ok (.iadd, 1) := by decide +kernel
theorem d_MO_init_217 : decode b_MO_init 217 = .ok (.putfield 84, 3) := by decide +kernel
theorem d_MO_init_220 : decode b_MO_init 220 = .ok (.aload_n 0, 1) := by decide +kernel
theorem d_MO_init_221 : decode b_MO_init 221 = .ok (.invokevirtual 87, 3) := by decide +kernel
theorem d_MO_init_224 : decode b_MO_init 224 = .ok (.return_, 1) := by decide +kernel
abbrev b_MO_state : ByteArray := prog_12_method_6_code
def y_MO_state : MethodName := ⟨"ExploreSharesModel", "state", "()I"⟩
def w_MO_state : List Cond := .code y_MO_state b_MO_state 1 (some .int) :: xU
theorem d_MO_state_0 : decode b_MO_state 0 = .ok (.aload_n 0, 1) := by decide +kernel
theorem d_MO_state_1 : decode b_MO_state 1 = .ok (.aload_n 0, 1) := by decide +kernel
theorem d_MO_state_2 : decode b_MO_state 2 = .ok (.getfield 112, 3) := by decide +kernel
theorem d_MO_state_5 : decode b_MO_state 5 = .ok (.sipush 200, 3) := by decide +kernel
theorem d_MO_state_8 : decode b_MO_state 8 = .ok (.if_icmp .ne 7, 3) := by decide +kernel
theorem d_MO_state_15 : decode b_MO_state 15 = .ok (.iconst 0, 1) := by decide +kernel
theorem d_MO_state_16 : decode b_MO_state 16 = .ok (.iconst 0, 1) := by decide +kernel
theorem d_MO_state_17 : decode b_MO_state 17 = .ok (.iconst 0, 1) := by decide +kernel
theorem d_MO_state_18 : decode b_MO_state 18 = .ok (.invokevirtual 115, 3) := by decide +kernel
theorem d_MO_state_21 : decode b_MO_state 21 = .ok (.ifCond .eq 5, 3) := by decide +kernel
theorem d_MO_state_26 : decode b_MO_state 26 = .ok (.aload_n 0, 1) := by decide +kernel
theorem d_MO_state_27 : decode b_MO_state 27 = .ok (.invokevirtual 87, 3) := by decide +kernel
theorem d_MO_state_30 : decode b_MO_state 30 = .ok (.aload_n 0, 1) := by decide +kernel
theorem d_MO_state_31 : decode b_MO_state 31 = .ok (.dup, 1) := by decide +kernel
theorem d_MO_state_32 : decode b_MO_state 32 = .ok (.getfield 112, 3) := by decide +kernel
theorem d_MO_state_35 : decode b_MO_state 35 = .ok (.iconst 1, 1) := by decide +kernel
theorem d_MO_state_36 : decode b_MO_state 36 = .ok (.iadd, 1) := by decide +kernel
theorem d_MO_state_37 : decode b_MO_state 37 = .ok (.putfield 112, 3) := by decide +kernel
theorem d_MO_state_40 : decode b_MO_state 40 = .ok (.aload_n 0, 1) := by decide +kernel
theorem d_MO_state_41 : decode b_MO_state 41 = .ok (.getfield 112, 3) := by decide +kernel
theorem d_MO_state_44 : decode b_MO_state 44 = .ok (.iconst 1, 1) := by decide +kernel
theorem d_MO_state_45 : decode b_MO_state 45 = .ok (.isub, 1) := by decide +kernel
theorem d_MO_state_46 : decode b_MO_state 46 = .ok (.ireturn, 1) := by decide +kernel
abbrev b_MO_move : ByteArray := prog_12_method_7_code
def y_MO_move : MethodName := ⟨"ExploreSharesModel", "move", "(II)I"⟩
def w_MO_move : List Cond := .code y_MO_move b_MO_move 3 (some .int) :: xU
theorem d_MO_move_0 : decode b_MO_move 0 = .ok (.aload_n 0, 1) := by decide +kernel
theorem d_MO_move_1 : decode b_MO_move 1 = .ok (.iload_n 1, 1) := by decide +kernel
theorem d_MO_move_2 : decode b_MO_move 2 = .ok (.aload_n 0, 1) := by decide +kernel
theorem d_MO_move_3 : decode b_MO_move 3 = .ok (.getfield 112, 3) := by decide +kernel
theorem d_MO_move_6 : decode b_MO_move 6 = .ok (.invokestatic 119, 3) := by decide +kernel
theorem d_MO_move_9 : decode b_MO_move 9 = .ok (.ifCond .eq 14, 3) := by decide +kernel
theorem d_MO_move_23 : decode b_MO_move 23 = .ok (.iconst 1, 1) := by decide +kernel
theorem d_MO_move_24 : decode b_MO_move 24 = .ok (.goto 4, 3) := by decide +kernel
theorem d_MO_move_28 : decode b_MO_move 28 = .ok (.aload_n 0, 1) := by decide +kernel
theorem d_MO_move_29 : decode b_MO_move 29 = .ok (.getfield 123, 3) := by decide +kernel
theorem d_MO_move_32 : decode b_MO_move 32 = .ok (.sipush 600, 3) := by decide +kernel
theorem d_MO_move_35 : decode b_MO_move 35 = .ok (.if_icmp .ne 7, 3) := by decide +kernel
theorem d_MO_move_42 : decode b_MO_move 42 = .ok (.iconst 0, 1) := by decide +kernel
theorem d_MO_move_43 : decode b_MO_move 43 = .ok (.iconst 0, 1) := by decide +kernel
theorem d_MO_move_44 : decode b_MO_move 44 = .ok (.invokevirtual 115, 3) := by decide +kernel
theorem d_MO_move_47 : decode b_MO_move 47 = .ok (.ifCond .eq 5, 3) := by decide +kernel
theorem d_MO_move_50 : decode b_MO_move 50 = .ok (.iconst 0, 1) := by decide +kernel
theorem d_MO_move_51 : decode b_MO_move 51 = .ok (.ireturn, 1) := by decide +kernel
abbrev b_MO_run : ByteArray := prog_12_method_23_code
def y_MO_run : MethodName := ⟨"ExploreSharesModel", "run", "(I)I"⟩
def w_MO_run : List Cond := .code y_MO_run b_MO_run 5 (some .int) :: xU
theorem d_MO_run_0 : decode b_MO_run 0 = .ok (.aload_n 0, 1) := by decide +kernel
theorem d_MO_run_1 : decode b_MO_run 1 = .ok (.aload_n 0, 1) := by decide +kernel
theorem d_MO_run_2 : decode b_MO_run 2 = .ok (.getfield 112, 3) := by decide +kernel
theorem d_MO_run_5 : decode b_MO_run 5 = .ok (.ifCond .ne 7, 3) := by decide +kernel
theorem d_MO_run_8 : decode b_MO_run 8 = .ok (.iconst 1, 1) := by decide +kernel
theorem d_MO_run_9 : decode b_MO_run 9 = .ok (.goto 4, 3) := by decide +kernel
theorem d_MO_run_13 : decode b_MO_run 13 = .ok (.iconst 0, 1) := by decide +kernel
theorem d_MO_run_14 : decode b_MO_run 14 = .ok (.iconst 0, 1) := by decide +kernel
theorem d_MO_run_15 : decode b_MO_run 15 = .ok (.invokevirtual 115, 3) := by decide +kernel
theorem d_MO_run_18 : decode b_MO_run 18 = .ok (.ifCond .eq 5, 3) := by decide +kernel
theorem d_MO_run_21 : decode b_MO_run 21 = .ok (.iconst 0, 1) := by decide +kernel
theorem d_MO_run_22 : decode b_MO_run 22 = .ok (.ireturn, 1) := by decide +kernel
abbrev b_MO_level : ByteArray := prog_12_method_24_code
def y_MO_level : MethodName := ⟨"ExploreSharesModel", "level", "(I)I"⟩
def w_MO_level : List Cond := .code y_MO_level b_MO_level 2 (some .int) :: xU
theorem d_MO_level_0 : decode b_MO_level 0 = .ok (.aload_n 0, 1) := by decide +kernel
theorem d_MO_level_1 : decode b_MO_level 1 = .ok (.iload_n 1, 1) := by decide +kernel
theorem d_MO_level_2 : decode b_MO_level 2 = .ok (.aload_n 0, 1) := by decide +kernel
theorem d_MO_level_3 : decode b_MO_level 3 = .ok (.getfield 112, 3) := by decide +kernel
theorem d_MO_level_6 : decode b_MO_level 6 = .ok (.invokestatic 119, 3) := by decide +kernel
theorem d_MO_level_9 : decode b_MO_level 9 = .ok (.ifCond .ne 7, 3) := by decide +kernel
theorem d_MO_level_12 : decode b_MO_level 12 = .ok (.iconst 1, 1) := by decide +kernel
theorem d_MO_level_13 : decode b_MO_level 13 = .ok (.goto 4, 3) := by decide +kernel
theorem d_MO_level_17 : decode b_MO_level 17 = .ok (.iconst 0, 1) := by decide +kernel
theorem d_MO_level_18 : decode b_MO_level 18 = .ok (.iconst 0, 1) := by decide +kernel
theorem d_MO_level_19 : decode b_MO_level 19 = .ok (.invokevirtual 115, 3) := by decide +kernel
theorem d_MO_level_22 : decode b_MO_level 22 = .ok (.ifCond .eq 7, 3) := by decide +kernel
theorem d_MO_level_25 : decode b_MO_level 25 = .ok (.iconst 0, 1) := by decide +kernel
theorem d_MO_level_26 : decode b_MO_level 26 = .ok (.goto 9, 3) := by decide +kernel
theorem d_MO_level_35 : decode b_MO_level 35 = .ok (.ireturn, 1) := by decide +kernel
abbrev b_MO_owner : ByteArray := prog_12_method_25_code
def y_MO_owner : MethodName := ⟨"ExploreSharesModel", "owner", "(I)I"⟩
def w_MO_owner : List Cond := .code y_MO_owner b_MO_owner 2 (some .int) :: xU
theorem d_MO_owner_0 : decode b_MO_owner 0 = .ok (.aload_n 0, 1) := by decide +kernel
theorem d_MO_owner_1 : decode b_MO_owner 1 = .ok (.iload_n 1, 1) := by decide +kernel
theorem d_MO_owner_2 : decode b_MO_owner 2 = .ok (.aload_n 0, 1) := by decide +kernel
theorem d_MO_owner_3 : decode b_MO_owner 3 = .ok (.getfield 112, 3) := by decide +kernel
theorem d_MO_owner_6 : decode b_MO_owner 6 = .ok (.invokestatic 119, 3) := by decide +kernel
theorem d_MO_owner_9 : decode b_MO_owner 9 = .ok (.ifCond .ne 7, 3) := by decide +kernel
theorem d_MO_owner_12 : decode b_MO_owner 12 = .ok (.iconst 1, 1) := by decide +kernel
theorem d_MO_owner_13 : decode b_MO_owner 13 = .ok (.goto 4, 3) := by decide +kernel
theorem d_MO_owner_17 : decode b_MO_owner 17 = .ok (.iconst 0, 1) := by decide +kernel
theorem d_MO_owner_18 : decode b_MO_owner 18 = .ok (.iconst 0, 1) := by decide +kernel
theorem d_MO_owner_19 : decode b_MO_owner 19 = .ok (.invokevirtual 115, 3) := by decide +kernel
theorem d_MO_owner_22 : decode b_MO_owner 22 = .ok (.ifCond .eq 7, 3) := by decide +kernel
theorem d_MO_owner_25 : decode b_MO_owner 25 = .ok (.iconst 0, 1) := by decide +kernel
theorem d_MO_owner_26 : decode b_MO_owner 26 = .ok (.goto 8, 3) := by decide +kernel
theorem d_MO_owner_34 : decode b_MO_owner 34 = .ok (.ireturn, 1) := by decide +kernel
abbrev b_MO_times : ByteArray := prog_12_method_26_code
def y_MO_times : MethodName := ⟨"ExploreSharesModel", "times", "(I)I"⟩
def w_MO_times : List Cond := .code y_MO_times b_MO_times 2 (some .int) :: xU
theorem d_MO_times_0 : decode b_MO_times 0 = .ok (.aload_n 0, 1) := by decide +kernel
theorem d_MO_times_1 : decode b_MO_times 1 = .ok (.iload_n 1, 1) := by decide +kernel
theorem d_MO_times_2 : decode b_MO_times 2 = .ok (.aload_n 0, 1) := by decide +kernel
theorem d_MO_times_3 : decode b_MO_times 3 = .ok (.getfield 112, 3) := by decide +kernel
theorem d_MO_times_6 : decode b_MO_times 6 = .ok (.invokestatic 119, 3) := by decide +kernel
theorem d_MO_times_9 : decode b_MO_times 9 = .ok (.ifCond .ne 7, 3) := by decide +kernel
theorem d_MO_times_12 : decode b_MO_times 12 = .ok (.iconst 1, 1) := by decide +kernel
theorem d_MO_times_13 : decode b_MO_times 13 = .ok (.goto 4, 3) := by decide +kernel
theorem d_MO_times_17 : decode b_MO_times 17 = .ok (.iconst 0, 1) := by decide +kernel
theorem d_MO_times_18 : decode b_MO_times 18 = .ok (.iconst 0, 1) := by decide +kernel
theorem d_MO_times_19 : decode b_MO_times 19 = .ok (.invokevirtual 115, 3) := by decide +kernel
theorem d_MO_times_22 : decode b_MO_times 22 = .ok (.ifCond .eq 7, 3) := by decide +kernel
theorem d_MO_times_25 : decode b_MO_times 25 = .ok (.iconst 0, 1) := by decide +kernel
theorem d_MO_times_26 : decode b_MO_times 26 = .ok (.goto 9, 3) := by decide +kernel
theorem d_MO_times_35 : decode b_MO_times 35 = .ok (.ireturn, 1) := by decide +kernel
abbrev b_MO_size : ByteArray := prog_12_method_33_code
def y_MO_size : MethodName := ⟨"ExploreSharesModel", "size", "(I)I"⟩
def w_MO_size : List Cond := .code y_MO_size b_MO_size 2 (some .int) :: xU
theorem d_MO_size_0 : decode b_MO_size 0 = .ok (.aload_n 0, 1) := by decide +kernel
theorem d_MO_size_1 : decode b_MO_size 1 = .ok (.iload_n 1, 1) := by decide +kernel
theorem d_MO_size_2 : decode b_MO_size 2 = .ok (.aload_n 0, 1) := by decide +kernel
theorem d_MO_size_3 : decode b_MO_size 3 = .ok (.getfield 100, 3) := by decide +kernel
theorem d_MO_size_6 : decode b_MO_size 6 = .ok (.invokestatic 119, 3) := by decide +kernel
theorem d_MO_size_9 : decode b_MO_size 9 = .ok (.ifCond .ne 7, 3) := by decide +kernel
theorem d_MO_size_12 : decode b_MO_size 12 = .ok (.iconst 1, 1) := by decide +kernel
theorem d_MO_size_13 : decode b_MO_size 13 = .ok (.goto 4, 3) := by decide +kernel
theorem d_MO_size_17 : decode b_MO_size 17 = .ok (.iconst 0, 1) := by decide +kernel
theorem d_MO_size_18 : decode b_MO_size 18 = .ok (.iconst 0, 1) := by decide +kernel
theorem d_MO_size_19 : decode b_MO_size 19 = .ok (.invokevirtual 115, 3) := by decide +kernel
theorem d_MO_size_22 : decode b_MO_size 22 = .ok (.ifCond .eq 7, 3) := by decide +kernel
theorem d_MO_size_25 : decode b_MO_size 25 = .ok (.iconst 0, 1) := by decide +kernel
theorem d_MO_size_26 : decode b_MO_size 26 = .ok (.goto 9, 3) := by decide +kernel
theorem d_MO_size_35 : decode b_MO_size 35 = .ok (.ireturn, 1) := by decide +kernel
abbrev b_MO_way : ByteArray := prog_12_method_29_code
def y_MO_way : MethodName := ⟨"ExploreSharesModel", "way", "(II)I"⟩
def w_MO_way : List Cond := .code y_MO_way b_MO_way 7 (some .int) :: xU
theorem d_MO_way_0 : decode b_MO_way 0 = .ok (.iload_n 1, 1) := by decide +kernel
theorem d_MO_way_1 : decode b_MO_way 1 = .ok (.aload_n 0, 1) := by decide +kernel
theorem d_MO_way_2 : decode b_MO_way 2 = .ok (.getfield 112, 3) := by decide +kernel
theorem d_MO_way_5 : decode b_MO_way 5 = .ok (.invokestatic 119, 3) := by decide +kernel
theorem d_MO_way_8 : decode b_MO_way 8 = .ok (.ifCond .ne 7, 3) := by decide +kernel
theorem d_MO_way_11 : decode b_MO_way 11 = .ok (.iconst 1, 1) := by decide +kernel
theorem d_MO_way_12 : decode b_MO_way 12 = .ok (.goto 4, 3) := by decide +kernel
theorem d_MO_way_16 : decode b_MO_way 16 = .ok (.istore_n 3, 1) := by decide +kernel
theorem d_MO_way_17 : decode b_MO_way 17 = .ok (.aload_n 0, 1) := by decide +kernel
theorem d_MO_way_18 : decode b_MO_way 18 = .ok (.iload_n 3, 1) := by decide +kernel
theorem d_MO_way_19 : decode b_MO_way 19 = .ok (.ifCond .ne 42, 3) := by decide +kernel
theorem d_MO_way_61 : decode b_MO_way 61 = .ok (.iconst 1, 1) := by decide +kernel
theorem d_MO_way_62 : decode b_MO_way 62 = .ok (.goto 4, 3) := by decide +kernel
theorem d_MO_way_66 : decode b_MO_way 66 = .ok (.iconst 0, 1) := by decide +kernel
theorem d_MO_way_67 : decode b_MO_way 67 = .ok (.iconst 0, 1) := by decide +kernel
theorem d_MO_way_68 : decode b_MO_way 68 = .ok (.invokevirtual 115, 3) := by decide +kernel
theorem d_MO_way_71 : decode b_MO_way 71 = .ok (.ifCond .eq 5, 3) := by decide +kernel
theorem d_MO_way_74 : decode b_MO_way 74 = .ok (.iconst 0, 1) := by decide +kernel
theorem d_MO_way_75 : decode b_MO_way 75 = .ok (.ireturn, 1) := by decide +kernel
abbrev b_MO_failed : ByteArray := prog_12_method_32_code
def y_MO_failed : MethodName := ⟨"ExploreSharesModel", "failed", "(II)I"⟩
def w_MO_failed : List Cond := .code y_MO_failed b_MO_failed 3 (some .int) :: xU
theorem d_MO_failed_0 : decode b_MO_failed 0 = .ok (.aload_n 0, 1) := by decide +kernel
theorem d_MO_failed_1 : decode b_MO_failed 1 = .ok (.iload_n 1, 1) := by decide +kernel
theorem d_MO_failed_2 : decode b_MO_failed 2 = .ok (.aload_n 0, 1) := by decide +kernel
theorem d_MO_failed_3 : decode b_MO_failed 3 = .ok (.getfield 109, 3) := by decide +kernel
theorem d_MO_failed_6 : decode b_MO_failed 6 = .ok (.invokestatic 119, 3) := by decide +kernel
theorem d_MO_failed_9 : decode b_MO_failed 9 = .ok (.ifCond .eq 11, 3) := by decide +kernel
theorem d_MO_failed_20 : decode b_MO_failed 20 = .ok (.iconst 1, 1) := by decide +kernel
theorem d_MO_failed_21 : decode b_MO_failed 21 = .ok (.goto 4, 3) := by decide +kernel
theorem d_MO_failed_25 : decode b_MO_failed 25 = .ok (.iconst 0, 1) := by decide +kernel
theorem d_MO_failed_26 : decode b_MO_failed 26 = .ok (.iconst 0, 1) := by decide +kernel
theorem d_MO_failed_27 : decode b_MO_failed 27 = .ok (.invokevirtual 115, 3) := by decide +kernel
theorem d_MO_failed_30 : decode b_MO_failed 30 = .ok (.ifCond .eq 5, 3) := by decide +kernel
theorem d_MO_failed_33 : decode b_MO_failed 33 = .ok (.iconst 0, 1) := by decide +kernel
theorem d_MO_failed_34 : decode b_MO_failed 34 = .ok (.ireturn, 1) := by decide +kernel
abbrev b_MO_toldAt : ByteArray := prog_12_method_8_code
def y_MO_toldAt : MethodName := ⟨"ExploreSharesModel", "toldAt", "(II)I"⟩
def w_MO_toldAt : List Cond := .code y_MO_toldAt b_MO_toldAt 4 (some .int) :: xU
theorem d_MO_toldAt_0 : decode b_MO_toldAt 0 = .ok (.iconst 0, 1) := by decide +kernel
theorem d_MO_toldAt_1 : decode b_MO_toldAt 1 = .ok (.istore_n 3, 1) := by decide +kernel
theorem d_MO_toldAt_2 : decode b_MO_toldAt 2 = .ok (.iload_n 3, 1) := by decide +kernel
theorem d_MO_toldAt_3 : decode b_MO_toldAt 3 = .ok (.aload_n 0, 1) := by decide +kernel
theorem d_MO_toldAt_4 : decode b_MO_toldAt 4 = .ok (.getfield 126, 3) := by decide +kernel
theorem d_MO_toldAt_7 : decode b_MO_toldAt 7 = .ok (.if_icmp .ge 31, 3) := by decide +kernel
theorem d_MO_toldAt_38 : decode b_MO_toldAt 38 = .ok (.iconst (-1), 1) := by decide +kernel
theorem d_MO_toldAt_39 : decode b_MO_toldAt 39 = .ok (.ireturn, 1) := by decide +kernel
abbrev b_MO_owned : ByteArray := prog_12_method_30_code
def y_MO_owned : MethodName := ⟨"ExploreSharesModel", "owned", "(I)I"⟩
def w_MO_owned : List Cond := .code y_MO_owned b_MO_owned 4 (some .int) :: xU
theorem d_MO_owned_0 : decode b_MO_owned 0 = .ok (.iconst 0, 1) := by decide +kernel
theorem d_MO_owned_1 : decode b_MO_owned 1 = .ok (.istore_n 2, 1) := by decide +kernel
theorem d_MO_owned_2 : decode b_MO_owned 2 = .ok (.iconst 0, 1) := by decide +kernel
theorem d_MO_owned_3 : decode b_MO_owned 3 = .ok (.istore_n 3, 1) := by decide +kernel
theorem d_MO_owned_4 : decode b_MO_owned 4 = .ok (.iload_n 3, 1) := by decide +kernel
theorem d_MO_owned_5 : decode b_MO_owned 5 = .ok (.aload_n 0, 1) := by decide +kernel
theorem d_MO_owned_6 : decode b_MO_owned 6 = .ok (.getfield 112, 3) := by decide +kernel
theorem d_MO_owned_9 : decode b_MO_owned 9 = .ok (.if_icmp .ge 35, 3) := by decide +kernel
theorem d_MO_owned_44 : decode b_MO_owned 44 = .ok (.iload_n 2, 1) := by decide +kernel
theorem d_MO_owned_45 : decode b_MO_owned 45 = .ok (.ireturn, 1) := by decide +kernel
abbrev b_MO_cameAll : ByteArray := prog_12_method_34_code
def y_MO_cameAll : MethodName := ⟨"ExploreSharesModel", "cameAll", "()I"⟩
def w_MO_cameAll : List Cond := .code y_MO_cameAll b_MO_cameAll 3 (some .int) :: xU
theorem d_MO_cameAll_0 : decode b_MO_cameAll 0 = .ok (.iconst 0, 1) := by decide +kernel
theorem d_MO_cameAll_1 : decode b_MO_cameAll 1 = .ok (.istore_n 1, 1) := by decide +kernel
theorem d_MO_cameAll_2 : decode b_MO_cameAll 2 = .ok (.iconst 0, 1) := by decide +kernel
theorem d_MO_cameAll_3 : decode b_MO_cameAll 3 = .ok (.istore_n 2, 1) := by decide +kernel
theorem d_MO_cameAll_4 : decode b_MO_cameAll 4 = .ok (.iload_n 2, 1) := by decide +kernel
theorem d_MO_cameAll_5 : decode b_MO_cameAll 5 = .ok (.aload_n 0, 1) := by decide +kernel
theorem d_MO_cameAll_6 : decode b_MO_cameAll 6 = .ok (.getfield 112, 3) := by decide +kernel
theorem d_MO_cameAll_9 : decode b_MO_cameAll 9 = .ok (.if_icmp .ge 26, 3) := by decide +kernel
theorem d_MO_cameAll_35 : decode b_MO_cameAll 35 = .ok (.iload_n 1, 1) := by decide +kernel
theorem d_MO_cameAll_36 : decode b_MO_cameAll 36 = .ok (.ireturn, 1) := by decide +kernel
abbrev b_MO_live : ByteArray := prog_12_method_19_code
def y_MO_live : MethodName := ⟨"ExploreSharesModel", "live", "()I"⟩
def w_MO_live : List Cond := .code y_MO_live b_MO_live 3 (some .int) :: xU
theorem d_MO_live_0 : decode b_MO_live 0 = .ok (.iconst 0, 1) := by decide +kernel
theorem d_MO_live_1 : decode b_MO_live 1 = .ok (.istore_n 1, 1) := by decide +kernel
theorem d_MO_live_2 : decode b_MO_live 2 = .ok (.iconst 0, 1) := by decide +kernel
theorem d_MO_live_3 : decode b_MO_live 3 = .ok (.istore_n 2, 1) := by decide +kernel
theorem d_MO_live_4 : decode b_MO_live 4 = .ok (.iload_n 2, 1) := by decide +kernel
theorem d_MO_live_5 : decode b_MO_live 5 = .ok (.aload_n 0, 1) := by decide +kernel
theorem d_MO_live_6 : decode b_MO_live 6 = .ok (.getfield 80, 3) := by decide +kernel
theorem d_MO_live_9 : decode b_MO_live 9 = .ok (.if_icmp .ge 26, 3) := by decide +kernel
theorem d_MO_live_12 : decode b_MO_live 12 = .ok (.iload_n 1, 1) := by decide +kernel
theorem d_MO_live_13 : decode b_MO_live 13 = .ok (.aload_n 0, 1) := by decide +kernel
theorem d_MO_live_14 : decode b_MO_live 14 = .ok (.getfield 38, 3) := by decide +kernel
theorem d_MO_live_17 : decode b_MO_live 17 = .ok (.iload_n 2, 1) := by decide +kernel
theorem d_MO_live_18 : decode b_MO_live 18 = .ok (.baload, 1) := by decide +kernel
theorem d_MO_live_19 : decode b_MO_live 19 = .ok (.ifCond .eq 7, 3) := by decide +kernel
theorem d_MO_live_22 : decode b_MO_live 22 = .ok (.iconst 1, 1) := by decide +kernel
theorem d_MO_live_23 : decode b_MO_live 23 = .ok (.goto 4, 3) := by decide +kernel
theorem d_MO_live_27 : decode b_MO_live 27 = .ok (.iadd, 1) := by decide +kernel
theorem d_MO_live_28 : decode b_MO_live 28 = .ok (.istore_n 1, 1) := by decide +kernel
theorem d_MO_live_29 : decode b_MO_live 29 = .ok (.iinc 2 1, 3) := by decide +kernel
theorem d_MO_live_32 : decode b_MO_live 32 = .ok (.goto (-28), 3) := by decide +kernel
theorem d_MO_live_35 : decode b_MO_live 35 = .ok (.iload_n 1, 1) := by decide +kernel
theorem d_MO_live_36 : decode b_MO_live 36 = .ok (.ireturn, 1) := by decide +kernel
abbrev b_MO_worker : ByteArray := prog_12_method_31_code
def y_MO_worker : MethodName := ⟨"ExploreSharesModel", "worker", "(II)I"⟩
def w_MO_worker : List Cond := .code y_MO_worker b_MO_worker 3 (some .int) :: xU
theorem d_MO_worker_0 : decode b_MO_worker 0 = .ok (.aload_n 0, 1) := by decide +kernel
theorem d_MO_worker_1 : decode b_MO_worker 1 = .ok (.iload_n 1, 1) := by decide +kernel
theorem d_MO_worker_2 : decode b_MO_worker 2 = .ok (.aload_n 0, 1) := by decide +kernel
theorem d_MO_worker_3 : decode b_MO_worker 3 = .ok (.getfield 80, 3) := by decide +kernel
theorem d_MO_worker_6 : decode b_MO_worker 6 = .ok (.invokestatic 119, 3) := by decide +kernel
theorem d_MO_worker_9 : decode b_MO_worker 9 = .ok (.ifCond .eq 11, 3) := by decide +kernel
theorem d_MO_worker_12 : decode b_MO_worker 12 = .ok (.iload_n 2, 1) := by decide +kernel
theorem d_MO_worker_13 : decode b_MO_worker 13 = .ok (.iconst 5, 1) := by decide +kernel
theorem d_MO_worker_14 : decode b_MO_worker 14 = .ok (.invokestatic 119, 3) := by decide +kernel
theorem d_MO_worker_17 : decode b_MO_worker 17 = .ok (.ifCond .ne 7, 3) := by decide +kernel
theorem d_MO_worker_20 : decode b_MO_worker 20 = .ok (.iconst 1, 1) := by decide +kernel
theorem d_MO_worker_21 : decode b_MO_worker 21 = .ok (.goto 4, 3) := by decide +kernel
theorem d_MO_worker_24 : decode b_MO_worker 24 = .ok (.iconst 0, 1) := by decide +kernel
theorem d_MO_worker_25 : decode b_MO_worker 25 = .ok (.iconst 0, 1) := by decide +kernel
theorem d_MO_worker_26 : decode b_MO_worker 26 = .ok (.iconst 0, 1) := by decide +kernel
theorem d_MO_worker_27 : decode b_MO_worker 27 = .ok (.invokevirtual 115, 3) := by decide +kernel
theorem d_MO_worker_30 : decode b_MO_worker 30 = .ok (.ifCond .eq 5, 3) := by decide +kernel
theorem d_MO_worker_33 : decode b_MO_worker 33 = .ok (.iconst 0, 1) := by decide +kernel
theorem d_MO_worker_34 : decode b_MO_worker 34 = .ok (.ireturn, 1) := by decide +kernel
theorem d_MO_worker_35 : decode b_MO_worker 35 = .ok (.iload_n 2, 1) := by decide +kernel
theorem d_MO_worker_36 : decode b_MO_worker 36 = .ok (.tableswitch 72 0 3 #[32, 39, 46, 53], 32) := by decide +kernel
theorem d_MO_worker_68 : decode b_MO_worker 68 = .ok (.aload_n 0, 1) := by decide +kernel
theorem d_MO_worker_69 : decode b_MO_worker 69 = .ok (.getfield 44, 3) := by decide +kernel
theorem d_MO_worker_72 : decode b_MO_worker 72 = .ok (.iload_n 1, 1) := by decide +kernel
theorem d_MO_worker_73 : decode b_MO_worker 73 = .ok (.iaload, 1) := by decide +kernel
theorem d_MO_worker_74 : decode b_MO_worker 74 = .ok (.ireturn, 1) := by decide +kernel
theorem d_MO_worker_75 : decode b_MO_worker 75 = .ok (.aload_n 0, 1) := by decide +kernel
theorem d_MO_worker_76 : decode b_MO_worker 76 = .ok (.getfield 47, 3) := by decide +kernel
theorem d_MO_worker_79 : decode b_MO_worker 79 = .ok (.iload_n 1, 1) := by decide +kernel
theorem d_MO_worker_80 : decode b_MO_worker 80 = .ok (.iaload, 1) := by decide +kernel
theorem d_MO_worker_81 : decode b_MO_worker 81 = .ok (.ireturn, 1) := by decide +kernel
theorem d_MO_worker_82 : decode b_MO_worker 82 = .ok (.aload_n 0, 1) := by decide +kernel
theorem d_MO_worker_83 : decode b_MO_worker 83 = .ok (.getfield 50, 3) := by decide +kernel
theorem d_MO_worker_86 : decode b_MO_worker 86 = .ok (.iload_n 1, 1) := by decide +kernel
theorem d_MO_worker_87 : decode b_MO_worker 87 = .ok (.iaload, 1) := by decide +kernel
theorem d_MO_worker_88 : decode b_MO_worker 88 = .ok (.ireturn, 1) := by decide +kernel
theorem d_MO_worker_89 : decode b_MO_worker 89 = .ok (.aload_n 0, 1) := by decide +kernel
theorem d_MO_worker_90 : decode b_MO_worker 90 = .ok (.getfield 38, 3) := by decide +kernel
theorem d_MO_worker_93 : decode b_MO_worker 93 = .ok (.iload_n 1, 1) := by decide +kernel
theorem d_MO_worker_94 : decode b_MO_worker 94 = .ok (.baload, 1) := by decide +kernel
theorem d_MO_worker_95 : decode b_MO_worker 95 = .ok (.ifCond .eq 11, 3) := by decide +kernel
theorem d_MO_worker_98 : decode b_MO_worker 98 = .ok (.aload_n 0, 1) := by decide +kernel
theorem d_MO_worker_99 : decode b_MO_worker 99 = .ok (.iload_n 1, 1) := by decide +kernel
theorem d_MO_worker_100 : decode b_MO_worker 100 = .ok (.invokevirtual 188, 3) := by decide +kernel
theorem d_MO_worker_103 : decode b_MO_worker 103 = .ok (.goto 4, 3) := by decide +kernel
theorem d_MO_worker_107 : decode b_MO_worker 107 = .ok (.ireturn, 1) := by decide +kernel
theorem d_MO_worker_108 : decode b_MO_worker 108 = .ok (.aload_n 0, 1) := by decide +kernel
theorem d_MO_worker_109 : decode b_MO_worker 109 = .ok (.getfield 38, 3) := by decide +kernel
theorem d_MO_worker_112 : decode b_MO_worker 112 = .ok (.iload_n 1, 1) := by decide +kernel
theorem d_MO_worker_113 : decode b_MO_worker 113 = .ok (.baload, 1) := by decide +kernel
theorem d_MO_worker_114 : decode b_MO_worker 114 = .ok (.ifCond .eq 7, 3) := by decide +kernel
theorem d_MO_worker_117 : decode b_MO_worker 117 = .ok (.iconst 1, 1) := by decide +kernel
theorem d_MO_worker_118 : decode b_MO_worker 118 = .ok (.goto 4, 3) := by decide +kernel
theorem d_MO_worker_122 : decode b_MO_worker 122 = .ok (.ireturn, 1) := by decide +kernel
abbrev b_MO_count : ByteArray := prog_12_method_35_code
def y_MO_count : MethodName := ⟨"ExploreSharesModel", "count", "(I)I"⟩
def w_MO_count : List Cond := .code y_MO_count b_MO_count 2 (some .int) :: xU
theorem d_MO_count_0 : decode b_MO_count 0 = .ok (.aload_n 0, 1) := by decide +kernel
theorem d_MO_count_1 : decode b_MO_count 1 = .ok (.iconst 0, 1) := by decide +kernel
theorem d_MO_count_2 : decode b_MO_count 2 = .ok (.putfield 90, 3) := by decide +kernel
theorem d_MO_count_5 : decode b_MO_count 5 = .ok (.iload_n 1, 1) := by decide +kernel
theorem d_MO_count_6 : decode b_MO_count 6 = .ok (.tableswitch 113 0 10 #[58, 63, 68, 73, 78, 83, 88, 93, 98, 103, 108], 58) := by decide +kernel
theorem d_MO_count_64 : decode b_MO_count 64 = .ok (.aload_n 0, 1) := by decide +kernel
theorem d_MO_count_65 : decode b_MO_count 65 = .ok (.getfield 80, 3) := by decide +kernel
theorem d_MO_count_68 : decode b_MO_count 68 = .ok (.ireturn, 1) := by decide +kernel
theorem d_MO_count_69 : decode b_MO_count 69 = .ok (.aload_n 0, 1) := by decide +kernel
theorem d_MO_count_70 : decode b_MO_count 70 = .ok (.getfield 84, 3) := by decide +kernel
theorem d_MO_count_73 : decode b_MO_count 73 = .ok (.ireturn, 1) := by decide +kernel
theorem d_MO_count_74 : decode b_MO_count 74 = .ok (.aload_n 0, 1) := by decide +kernel
theorem d_MO_count_75 : decode b_MO_count 75 = .ok (.getfield 112, 3) := by decide +kernel
theorem d_MO_count_78 : decode b_MO_count 78 = .ok (.ireturn, 1) := by decide +kernel
theorem d_MO_count_79 : decode b_MO_count 79 = .ok (.aload_n 0, 1) := by decide +kernel
theorem d_MO_count_80 : decode b_MO_count 80 = .ok (.getfield 123, 3) := by decide +kernel
theorem d_MO_count_83 : decode b_MO_count 83 = .ok (.ireturn, 1) := by decide +kernel
theorem d_MO_count_84 : decode b_MO_count 84 = .ok (.aload_n 0, 1) := by decide +kernel
theorem d_MO_count_85 : decode b_MO_count 85 = .ok (.getfield 126, 3) := by decide +kernel
theorem d_MO_count_88 : decode b_MO_count 88 = .ok (.ireturn, 1) := by decide +kernel
theorem d_MO_count_89 : decode b_MO_count 89 = .ok (.aload_n 0, 1) := by decide +kernel
theorem d_MO_count_90 : decode b_MO_count 90 = .ok (.invokevirtual 191, 3) := by decide +kernel
theorem d_MO_count_93 : decode b_MO_count 93 = .ok (.ireturn, 1) := by decide +kernel
theorem d_MO_count_94 : decode b_MO_count 94 = .ok (.aload_n 0, 1) := by decide +kernel
theorem d_MO_count_95 : decode b_MO_count 95 = .ok (.getfield 100, 3) := by decide +kernel
theorem d_MO_count_98 : decode b_MO_count 98 = .ok (.ireturn, 1) := by decide +kernel
theorem d_MO_count_99 : decode b_MO_count 99 = .ok (.aload_n 0, 1) := by decide +kernel
theorem d_MO_count_100 : decode b_MO_count 100 = .ok (.getfield 103, 3) := by decide +kernel
theorem d_MO_count_103 : decode b_MO_count 103 = .ok (.ireturn, 1) := by decide +kernel
theorem d_MO_count_104 : decode b_MO_count 104 = .ok (.aload_n 0, 1) := by decide +kernel
theorem d_MO_count_105 : decode b_MO_count 105 = .ok (.getfield 106, 3) := by decide +kernel
theorem d_MO_count_108 : decode b_MO_count 108 = .ok (.ireturn, 1) := by decide +kernel
theorem d_MO_count_109 : decode b_MO_count 109 = .ok (.aload_n 0, 1) := by decide +kernel
theorem d_MO_count_110 : decode b_MO_count 110 = .ok (.invokevirtual 156, 3) := by decide +kernel
theorem d_MO_count_113 : decode b_MO_count 113 = .ok (.ireturn, 1) := by decide +kernel
theorem d_MO_count_114 : decode b_MO_count 114 = .ok (.aload_n 0, 1) := by decide +kernel
theorem d_MO_count_115 : decode b_MO_count 115 = .ok (.getfield 109, 3) := by decide +kernel
theorem d_MO_count_118 : decode b_MO_count 118 = .ok (.ireturn, 1) := by decide +kernel
theorem d_MO_count_119 : decode b_MO_count 119 = .ok (.iconst (-1), 1) := by decide +kernel
theorem d_MO_count_120 : decode b_MO_count 120 = .ok (.ireturn, 1) := by decide +kernel
abbrev b_MO_fail : ByteArray := prog_12_method_9_code
def y_MO_fail : MethodName := ⟨"ExploreSharesModel", "fail", "(III)I"⟩
def w_MO_fail : List Cond := .code y_MO_fail b_MO_fail 7 (some .int) :: xU
theorem d_MO_fail_0 : decode b_MO_fail 0 = .ok (.iload_n 1, 1) := by decide +kernel
theorem d_MO_fail_1 : decode b_MO_fail 1 = .ok (.aload_n 0, 1) := by decide +kernel
theorem d_MO_fail_2 : decode b_MO_fail 2 = .ok (.getfield 80, 3) := by decide +kernel
theorem d_MO_fail_5 : decode b_MO_fail 5 = .ok (.invokestatic 119, 3) := by decide +kernel
theorem d_MO_fail_8 : decode b_MO_fail 8 = .ok (.ifCond .ne 7, 3) := by decide +kernel
theorem d_MO_fail_11 : decode b_MO_fail 11 = .ok (.iconst 1, 1) := by decide +kernel
theorem d_MO_fail_12 : decode b_MO_fail 12 = .ok (.goto 4, 3) := by decide +kernel
theorem d_MO_fail_15 : decode b_MO_fail 15 = .ok (.iconst 0, 1) := by decide +kernel
theorem d_MO_fail_16 : decode b_MO_fail 16 = .ok (.istore 4, 2) := by decide +kernel
theorem d_MO_fail_18 : decode b_MO_fail 18 = .ok (.iload_n 2, 1) := by decide +kernel
theorem d_MO_fail_19 : decode b_MO_fail 19 = .ok (.sipush 200, 3) := by decide +kernel
theorem d_MO_fail_22 : decode b_MO_fail 22 = .ok (.invokestatic 119, 3) := by decide +kernel
theorem d_MO_fail_25 : decode b_MO_fail 25 = .ok (.ifCond .eq 14, 3) := by decide +kernel
theorem d_MO_fail_28 : decode b_MO_fail 28 = .ok (.iload_n 3, 1) := by decide +kernel
theorem d_MO_fail_29 : decode b_MO_fail 29 = .ok (.ifCond .lt 10, 3) := by decide +kernel
theorem d_MO_fail_32 : decode b_MO_fail 32 = .ok (.iload_n 3, 1) := by decide +kernel
theorem d_MO_fail_33 : decode b_MO_fail 33 = .ok (.sipush 1000, 3) := by decide +kernel
theorem d_MO_fail_36 : decode b_MO_fail 36 = .ok (.if_icmp .le 7, 3) := by decide +kernel
theorem d_MO_fail_39 : decode b_MO_fail 39 = .ok (.iconst 1, 1) := by decide +kernel
theorem d_MO_fail_40 : decode b_MO_fail 40 = .ok (.goto 4, 3) := by decide +kernel
theorem d_MO_fail_43 : decode b_MO_fail 43 = .ok (.iconst 0, 1) := by decide +kernel
theorem d_MO_fail_44 : decode b_MO_fail 44 = .ok (.istore 5, 2) := by decide +kernel
theorem d_MO_fail_46 : decode b_MO_fail 46 = .ok (.iload 4, 2) := by decide +kernel
theorem d_MO_fail_48 : decode b_MO_fail 48 = .ok (.ifCond .ne 8, 3) := by decide +kernel
theorem d_MO_fail_51 : decode b_MO_fail 51 = .ok (.iload 5, 2) := by decide +kernel
theorem d_MO_fail_53 : decode b_MO_fail 53 = .ok (.ifCond .eq 7, 3) := by decide +kernel
theorem d_MO_fail_56 : decode b_MO_fail 56 = .ok (.iconst (-1), 1) := by decide +kernel
theorem d_MO_fail_57 : decode b_MO_fail 57 = .ok (.goto 9, 3) := by decide +kernel
theorem d_MO_fail_60 : decode b_MO_fail 60 = .ok (.aload_n 0, 1) := by decide +kernel
theorem d_MO_fail_61 : decode b_MO_fail 61 = .ok (.iload_n 1, 1) := by decide +kernel
theorem d_MO_fail_62 : decode b_MO_fail 62 = .ok (.iload_n 2, 1) := by decide +kernel
theorem d_MO_fail_63 : decode b_MO_fail 63 = .ok (.invokevirtual 129, 3) := by decide +kernel
theorem d_MO_fail_66 : decode b_MO_fail 66 = .ok (.istore 6, 2) := by decide +kernel
theorem d_MO_fail_68 : decode b_MO_fail 68 = .ok (.aload_n 0, 1) := by decide +kernel
theorem d_MO_fail_69 : decode b_MO_fail 69 = .ok (.iload 4, 2) := by decide +kernel
theorem d_MO_fail_71 : decode b_MO_fail 71 = .ok (.iload 5, 2) := by decide +kernel
theorem d_MO_fail_73 : decode b_MO_fail 73 = .ok (.iload 6, 2) := by decide +kernel
theorem d_MO_fail_75 : decode b_MO_fail 75 = .ok (.ifCond .ge 20, 3) := by decide +kernel
theorem d_MO_fail_78 : decode b_MO_fail 78 = .ok (.iload_n 3, 1) := by decide +kernel
theorem d_MO_fail_79 : decode b_MO_fail 79 = .ok (.ifCond .le 16, 3) := by decide +kernel
theorem d_MO_fail_82 : decode b_MO_fail 82 = .ok (.aload_n 0, 1) := by decide +kernel
theorem d_MO_fail_83 : decode b_MO_fail 83 = .ok (.getfield 126, 3) := by decide +kernel
theorem d_MO_fail_86 : decode b_MO_fail 86 = .ok (.bipush 20, 2) := by decide +kernel
theorem d_MO_fail_88 : decode b_MO_fail 88 = .ok (.if_icmp .ne 7, 3) := by decide +kernel
theorem d_MO_fail_95 : decode b_MO_fail 95 = .ok (.iconst 0, 1) := by decide +kernel
theorem d_MO_fail_96 : decode b_MO_fail 96 = .ok (.invokevirtual 115, 3) := by decide +kernel
theorem d_MO_fail_99 : decode b_MO_fail 99 = .ok (.ifCond .eq 5, 3) := by decide +kernel
theorem d_MO_fail_102 : decode b_MO_fail 102 = .ok (.iconst 0, 1) := by decide +kernel
theorem d_MO_fail_103 : decode b_MO_fail 103 = .ok (.ireturn, 1) := by decide +kernel
theorem d_MO_fail_104 : decode b_MO_fail 104 = .ok (.aload_n 0, 1) := by decide +kernel
theorem d_MO_fail_105 : decode b_MO_fail 105 = .ok (.invokevirtual 87, 3) := by decide +kernel
theorem d_MO_fail_108 : decode b_MO_fail 108 = .ok (.iload_n 3, 1) := by decide +kernel
theorem d_MO_fail_109 : decode b_MO_fail 109 = .ok (.ifCond .ne 76, 3) := by decide +kernel
theorem d_MO_fail_112 : decode b_MO_fail 112 = .ok (.iload 6, 2) := by decide +kernel
theorem d_MO_fail_114 : decode b_MO_fail 114 = .ok (.ifCond .ge 8, 3) := by decide +kernel
theorem d_MO_fail_117 : decode b_MO_fail 117 = .ok (.aload_n 0, 1) := by decide +kernel
theorem d_MO_fail_118 : decode b_MO_fail 118 = .ok (.getfield 126, 3) := by decide +kernel
theorem d_MO_fail_121 : decode b_MO_fail 121 = .ok (.ireturn, 1) := by decide +kernel
theorem d_MO_fail_185 : decode b_MO_fail 185 = .ok (.iload 6, 2) := by decide +kernel
theorem d_MO_fail_187 : decode b_MO_fail 187 = .ok (.ifCond .ge 19, 3) := by decide +kernel
theorem d_MO_fail_190 : decode b_MO_fail 190 = .ok (.aload_n 0, 1) := by decide +kernel
theorem d_MO_fail_191 : decode b_MO_fail 191 = .ok (.getfield 126, 3) := by decide +kernel
theorem d_MO_fail_194 : decode b_MO_fail 194 = .ok (.istore 6, 2) := by decide +kernel
theorem d_MO_fail_196 : decode b_MO_fail 196 = .ok (.aload_n 0, 1) := by decide +kernel
theorem d_MO_fail_197 : decode b_MO_fail 197 = .ok (.dup, 1) := by decide +kernel
theorem d_MO_fail_198 : decode b_MO_fail 198 = .ok (.getfield 126, 3) := by decide +kernel
theorem d_MO_fail_201 : decode b_MO_fail 201 = .ok (.iconst 1, 1) := by decide +kernel
theorem d_MO_fail_202 : decode b_MO_fail 202 = .ok (.iadd, 1) := by decide +kernel
theorem d_MO_fail_203 : decode b_MO_fail 203 = .ok (.putfield 126, 3) := by decide +kernel
theorem d_MO_fail_206 : decode b_MO_fail 206 = .ok (.aload_n 0, 1) := by decide +kernel
theorem d_MO_fail_207 : decode b_MO_fail 207 = .ok (.getfield 16, 3) := by decide +kernel
theorem d_MO_fail_210 : decode b_MO_fail 210 = .ok (.iload 6, 2) := by decide +kernel
theorem d_MO_fail_212 : decode b_MO_fail 212 = .ok (.iload_n 1, 1) := by decide +kernel
theorem d_MO_fail_213 : decode b_MO_fail 213 = .ok (.iastore, 1) := by decide +kernel
theorem d_MO_fail_214 : decode b_MO_fail 214 = .ok (.aload_n 0, 1) := by decide +kernel
theorem d_MO_fail_215 : decode b_MO_fail 215 = .ok (.getfield 19, 3) := by decide +kernel
theorem d_MO_fail_218 : decode b_MO_fail 218 = .ok (.iload 6, 2) := by decide +kernel
theorem d_MO_fail_220 : decode b_MO_fail 220 = .ok (.iload_n 2, 1) := by decide +kernel
theorem d_MO_fail_221 : decode b_MO_fail 221 = .ok (.iastore, 1) := by decide +kernel
theorem d_MO_fail_222 : decode b_MO_fail 222 = .ok (.aload_n 0, 1) := by decide +kernel
theorem d_MO_fail_223 : decode b_MO_fail 223 = .ok (.getfield 22, 3) := by decide +kernel
theorem d_MO_fail_226 : decode b_MO_fail 226 = .ok (.iload 6, 2) := by decide +kernel
theorem d_MO_fail_228 : decode b_MO_fail 228 = .ok (.iload_n 3, 1) := by decide +kernel
theorem d_MO_fail_229 : decode b_MO_fail 229 = .ok (.iastore, 1) := by decide +kernel
theorem d_MO_fail_230 : decode b_MO_fail 230 = .ok (.aload_n 0, 1) := by decide +kernel
theorem d_MO_fail_231 : decode b_MO_fail 231 = .ok (.getfield 126, 3) := by decide +kernel
theorem d_MO_fail_234 : decode b_MO_fail 234 = .ok (.ireturn, 1) := by decide +kernel
