theorem dX6_init_0 : decode cX6_init 0 = .ok (.aload_n 0, 1) := by decide +kernel
theorem dX6_init_1 : decode cX6_init 1 = .ok (.aload_n 1, 1) := by decide +kernel
theorem dX6_init_2 : decode cX6_init 2 = .ok (.putfield 3, 3) := by decide +kernel
theorem dX6_init_5 : decode cX6_init 5 = .ok (.aload_n 0, 1) := by decide +kernel
theorem dX6_init_6 : decode cX6_init 6 = .ok (.invokespecial 9, 3) := by decide +kernel
theorem dX6_init_9 : decode cX6_init 9 = .ok (.aload_n 0, 1) := by decide +kernel
theorem dX6_init_10 : decode cX6_init 10 = .ok (.iconst 1, 1) := by decide +kernel
theorem dX6_init_11 : decode cX6_init 11 = .ok (.putfield 15, 3) := by decide +kernel
theorem dX6_init_14 : decode cX6_init 14 = .ok (.aload_n 0, 1) := by decide +kernel
theorem dX6_init_15 : decode cX6_init 15 = .ok (.bipush 16, 2) := by decide +kernel
theorem dX6_init_17 : decode cX6_init 17 = .ok (.newarray .int, 2) := by decide +kernel
theorem dX6_init_19 : decode cX6_init 19 = .ok (.putfield 19, 3) := by decide +kernel
theorem dX6_init_22 : decode cX6_init 22 = .ok (.aload_n 0, 1) := by decide +kernel
theorem dX6_init_23 : decode cX6_init 23 = .ok (.bipush 16, 2) := by decide +kernel
theorem dX6_init_25 : decode cX6_init 25 = .ok (.newarray .int, 2) := by decide +kernel
theorem dX6_init_27 : decode cX6_init 27 = .ok (.putfield 23, 3) := by decide +kernel
theorem dX6_init_30 : decode cX6_init 30 = .ok (.aload_n 0, 1) := by decide +kernel
theorem dX6_init_31 : decode cX6_init 31 = .ok (.bipush 16, 2) := by decide +kernel
theorem dX6_init_33 : decode cX6_init 33 = .ok (.newarray .int, 2) := by decide +kernel
theorem dX6_init_35 : decode cX6_init 35 = .ok (.putfield 26, 3) := by decide +kernel
theorem dX6_init_38 : decode cX6_init 38 = .ok (.aload_n 0, 1) := by decide +kernel
theorem dX6_init_39 : decode cX6_init 39 = .ok (.bipush 16, 2) := by decide +kernel
theorem dX6_init_41 : decode cX6_init 41 = .ok (.newarray .int, 2) := by decide +kernel
theorem dX6_init_43 : decode cX6_init 43 = .ok (.putfield 29, 3) := by decide +kernel
theorem dX6_init_46 : decode cX6_init 46 = .ok (.aload_n 0, 1) := by decide +kernel
theorem dX6_init_47 : decode cX6_init 47 = .ok (.bipush 16, 2) := by decide +kernel
theorem dX6_init_49 : decode cX6_init 49 = .ok (.newarray .int, 2) := by decide +kernel
theorem dX6_init_51 : decode cX6_init 51 = .ok (.putfield 32, 3) := by decide +kernel
theorem dX6_init_54 : decode cX6_init 54 = .ok (.aload_n 0, 1) := by decide +kernel
theorem dX6_init_55 : decode cX6_init 55 = .ok (.bipush 16, 2) := by decide +kernel
theorem dX6_init_57 : decode cX6_init 57 = .ok (.newarray .int, 2) := by decide +kernel
theorem dX6_init_59 : decode cX6_init 59 = .ok (.putfield 35, 3) := by decide +kernel
theorem dX6_init_62 : decode cX6_init 62 = .ok (.aload_n 0, 1) := by decide +kernel
theorem dX6_init_63 : decode cX6_init 63 = .ok (.bipush 6, 2) := by decide +kernel
theorem dX6_init_65 : decode cX6_init 65 = .ok (.newarray .int, 2) := by decide +kernel
theorem dX6_init_67 : decode cX6_init 67 = .ok (.putfield 38, 3) := by decide +kernel
theorem dX6_init_70 : decode cX6_init 70 = .ok (.aload_n 0, 1) := by decide +kernel
theorem dX6_init_71 : decode cX6_init 71 = .ok (.bipush 6, 2) := by decide +kernel
theorem dX6_init_73 : decode cX6_init 73 = .ok (.newarray .int, 2) := by decide +kernel
theorem dX6_init_75 : decode cX6_init 75 = .ok (.putfield 41, 3) := by decide +kernel
theorem dX6_init_78 : decode cX6_init 78 = .ok (.aload_n 0, 1) := by decide +kernel
theorem dX6_init_79 : decode cX6_init 79 = .ok (.bipush 6, 2) := by decide +kernel
theorem dX6_init_81 : decode cX6_init 81 = .ok (.newarray .int, 2) := by decide +kernel
theorem dX6_init_83 : decode cX6_init 83 = .ok (.putfield 44, 3) := by decide +kernel
theorem dX6_init_86 : decode cX6_init 86 = .ok (.aload_n 0, 1) := by decide +kernel
theorem dX6_init_87 : decode cX6_init 87 = .ok (.bipush 6, 2) := by decide +kernel
theorem dX6_init_89 : decode cX6_init 89 = .ok (.newarray .int, 2) := by decide +kernel
theorem dX6_init_91 : decode cX6_init 91 = .ok (.putfield 47, 3) := by decide +kernel
theorem dX6_init_94 : decode cX6_init 94 = .ok (.aload_n 0, 1) := by decide +kernel
theorem dX6_init_95 : decode cX6_init 95 = .ok (.bipush 6, 2) := by decide +kernel
theorem dX6_init_97 : decode cX6_init 97 = .ok (.newarray .int, 2) := by decide +kernel
theorem dX6_init_99 : decode cX6_init 99 = .ok (.putfield 50, 3) := by decide +kernel
theorem dX6_init_102 : decode cX6_init 102 = .ok (.aload_n 0, 1) := by decide +kernel
theorem dX6_init_103 : decode cX6_init 103 = .ok (.bipush 6, 2) := by decide +kernel
theorem dX6_init_105 : decode cX6_init 105 = .ok (.newarray .int, 2) := by decide +kernel
theorem dX6_init_107 : decode cX6_init 107 = .ok (.putfield 53, 3) := by decide +kernel
theorem dX6_init_110 : decode cX6_init 110 = .ok (.aload_n 0, 1) := by decide +kernel
theorem dX6_init_111 : decode cX6_init 111 = .ok (.bipush 6, 2) := by decide +kernel
theorem dX6_init_113 : decode cX6_init 113 = .ok (.newarray .int, 2) := by decide +kernel
theorem dX6_init_115 : decode cX6_init 115 = .ok (.putfield 56, 3) := by decide +kernel
theorem dX6_init_118 : decode cX6_init 118 = .ok (.aload_n 0, 1) := by decide +kernel
theorem dX6_init_119 : decode cX6_init 119 = .ok (.bipush 6, 2) := by decide +kernel
theorem dX6_init_121 : decode cX6_init 121 = .ok (.newarray .int, 2) := by decide +kernel
theorem dX6_init_123 : decode cX6_init 123 = .ok (.putfield 59, 3) := by decide +kernel
theorem dX6_init_126 : decode cX6_init 126 = .ok (.return_, 1) := by decide +kernel
theorem dX6_copy_0 : decode cX6_copy 0 = .ok (.aload_n 1, 1) := by decide +kernel
theorem dX6_copy_1 : decode cX6_copy 1 = .ok (.iconst 0, 1) := by decide +kernel
theorem dX6_copy_2 : decode cX6_copy 2 = .ok (.aload_n 2, 1) := by decide +kernel
theorem dX6_copy_3 : decode cX6_copy 3 = .ok (.iconst 0, 1) := by decide +kernel
theorem dX6_copy_4 : decode cX6_copy 4 = .ok (.aload_n 1, 1) := by decide +kernel
theorem dX6_copy_5 : decode cX6_copy 5 = .ok (.arraylength, 1) := by decide +kernel
theorem dX6_copy_6 : decode cX6_copy 6 = .ok (.invokestatic 62, 3) := by decide +kernel
theorem dX6_copy_9 : decode cX6_copy 9 = .ok (.return_, 1) := by decide +kernel
set_option maxRecDepth 20000 in
theorem ggX6_become_X6_copy : GoodIn wsX6_become wsX6_copy := goodIn_r _ [22, 23, 24, 25, 26] (by decide +kernel) (by decide +kernel)
set_option maxRecDepth 20000 in
theorem gX6_become_X6_copy : GoodIn wsX6_become (wsV RX6 77 RX6 yX6_copy wsX6_copy) := goodIn_app (goodIn_of _ (by decide +kernel)) ggX6_become_X6_copy
theorem dX6_become_0 : decode cX6_become 0 = .ok (.aload_n 0, 1) := by decide +kernel
theorem dX6_become_1 : decode cX6_become 1 = .ok (.aload_n 1, 1) := by decide +kernel
theorem dX6_become_2 : decode cX6_become 2 = .ok (.getfield 68, 3) := by decide +kernel
theorem dX6_become_5 : decode cX6_become 5 = .ok (.putfield 68, 3) := by decide +kernel
theorem dX6_become_8 : decode cX6_become 8 = .ok (.aload_n 0, 1) := by decide +kernel
theorem dX6_become_9 : decode cX6_become 9 = .ok (.aload_n 1, 1) := by decide +kernel
theorem dX6_become_10 : decode cX6_become 10 = .ok (.getfield 71, 3) := by decide +kernel
theorem dX6_become_13 : decode cX6_become 13 = .ok (.putfield 71, 3) := by decide +kernel
theorem dX6_become_16 : decode cX6_become 16 = .ok (.aload_n 0, 1) := by decide +kernel
theorem dX6_become_17 : decode cX6_become 17 = .ok (.aload_n 1, 1) := by decide +kernel
theorem dX6_become_18 : decode cX6_become 18 = .ok (.getfield 74, 3) := by decide +kernel
theorem dX6_become_21 : decode cX6_become 21 = .ok (.putfield 74, 3) := by decide +kernel
theorem dX6_become_24 : decode cX6_become 24 = .ok (.aload_n 0, 1) := by decide +kernel
theorem dX6_become_25 : decode cX6_become 25 = .ok (.aload_n 1, 1) := by decide +kernel
theorem dX6_become_26 : decode cX6_become 26 = .ok (.getfield 15, 3) := by decide +kernel
theorem dX6_become_29 : decode cX6_become 29 = .ok (.putfield 15, 3) := by decide +kernel
theorem dX6_become_32 : decode cX6_become 32 = .ok (.aload_n 0, 1) := by decide +kernel
theorem dX6_become_33 : decode cX6_become 33 = .ok (.aload_n 1, 1) := by decide +kernel
theorem dX6_become_34 : decode cX6_become 34 = .ok (.getfield 19, 3) := by decide +kernel
theorem dX6_become_37 : decode cX6_become 37 = .ok (.aload_n 0, 1) := by decide +kernel
theorem dX6_become_38 : decode cX6_become 38 = .ok (.getfield 19, 3) := by decide +kernel
theorem dX6_become_41 : decode cX6_become 41 = .ok (.invokevirtual 77, 3) := by decide +kernel
theorem dX6_become_44 : decode cX6_become 44 = .ok (.aload_n 0, 1) := by decide +kernel
theorem dX6_become_45 : decode cX6_become 45 = .ok (.aload_n 1, 1) := by decide +kernel
theorem dX6_become_46 : decode cX6_become 46 = .ok (.getfield 23, 3) := by decide +kernel
theorem dX6_become_49 : decode cX6_become 49 = .ok (.aload_n 0, 1) := by decide +kernel
theorem dX6_become_50 : decode cX6_become 50 = .ok (.getfield 23, 3) := by decide +kernel
theorem dX6_become_53 : decode cX6_become 53 = .ok (.invokevirtual 77, 3) := by decide +kernel
theorem dX6_become_56 : decode cX6_become 56 = .ok (.aload_n 0, 1) := by decide +kernel
theorem dX6_become_57 : decode cX6_become 57 = .ok (.aload_n 1, 1) := by decide +kernel
theorem dX6_become_58 : decode cX6_become 58 = .ok (.getfield 26, 3) := by decide +kernel
theorem dX6_become_61 : decode cX6_become 61 = .ok (.aload_n 0, 1) := by decide +kernel
theorem dX6_become_62 : decode cX6_become 62 = .ok (.getfield 26, 3) := by decide +kernel
theorem dX6_become_65 : decode cX6_become 65 = .ok (.invokevirtual 77, 3) := by decide +kernel
theorem dX6_become_68 : decode cX6_become 68 = .ok (.aload_n 0, 1) := by decide +kernel
theorem dX6_become_69 : decode cX6_become 69 = .ok (.aload_n 1, 1) := by decide +kernel
theorem dX6_become_70 : decode cX6_become 70 = .ok (.getfield 29, 3) := by decide +kernel
theorem dX6_become_73 : decode cX6_become 73 = .ok (.aload_n 0, 1) := by decide +kernel
theorem dX6_become_74 : decode cX6_become 74 = .ok (.getfield 29, 3) := by decide +kernel
theorem dX6_become_77 : decode cX6_become 77 = .ok (.invokevirtual 77, 3) := by decide +kernel
theorem dX6_become_80 : decode cX6_become 80 = .ok (.aload_n 0, 1) := by decide +kernel
theorem dX6_become_81 : decode cX6_become 81 = .ok (.aload_n 1, 1) := by decide +kernel
theorem dX6_become_82 : decode cX6_become 82 = .ok (.getfield 32, 3) := by decide +kernel
theorem dX6_become_85 : decode cX6_become 85 = .ok (.aload_n 0, 1) := by decide +kernel
theorem dX6_become_86 : decode cX6_become 86 = .ok (.getfield 32, 3) := by decide +kernel
theorem dX6_become_89 : decode cX6_become 89 = .ok (.invokevirtual 77, 3) := by decide +kernel
theorem dX6_become_92 : decode cX6_become 92 = .ok (.aload_n 0, 1) := by decide +kernel
theorem dX6_become_93 : decode cX6_become 93 = .ok (.aload_n 1, 1) := by decide +kernel
theorem dX6_become_94 : decode cX6_become 94 = .ok (.getfield 35, 3) := by decide +kernel
theorem dX6_become_97 : decode cX6_become 97 = .ok (.aload_n 0, 1) := by decide +kernel
theorem dX6_become_98 : decode cX6_become 98 = .ok (.getfield 35, 3) := by decide +kernel
theorem dX6_become_101 : decode cX6_become 101 = .ok (.invokevirtual 77, 3) := by decide +kernel
theorem dX6_become_104 : decode cX6_become 104 = .ok (.aload_n 0, 1) := by decide +kernel
theorem dX6_become_105 : decode cX6_become 105 = .ok (.aload_n 1, 1) := by decide +kernel
theorem dX6_become_106 : decode cX6_become 106 = .ok (.getfield 38, 3) := by decide +kernel
theorem dX6_become_109 : decode cX6_become 109 = .ok (.aload_n 0, 1) := by decide +kernel
theorem dX6_become_110 : decode cX6_become 110 = .ok (.getfield 38, 3) := by decide +kernel
theorem dX6_become_113 : decode cX6_become 113 = .ok (.invokevirtual 77, 3) := by decide +kernel
theorem dX6_become_116 : decode cX6_become 116 = .ok (.aload_n 0, 1) := by decide +kernel
theorem dX6_become_117 : decode cX6_become 117 = .ok (.aload_n 1, 1) := by decide +kernel
theorem dX6_become_118 : decode cX6_become 118 = .ok (.getfield 41, 3) := by decide +kernel
theorem dX6_become_121 : decode cX6_become 121 = .ok (.aload_n 0, 1) := by decide +kernel
theorem dX6_become_122 : decode cX6_become 122 = .ok (.getfield 41, 3) := by decide +kernel
theorem dX6_become_125 : decode cX6_become 125 = .ok (.invokevirtual 77, 3) := by decide +kernel
theorem dX6_become_128 : decode cX6_become 128 = .ok (.aload_n 0, 1) := by decide +kernel
theorem dX6_become_129 : decode cX6_become 129 = .ok (.aload_n 1, 1) := by decide +kernel
theorem dX6_become_130 : decode cX6_become 130 = .ok (.getfield 44, 3) := by decide +kernel
theorem dX6_become_133 : decode cX6_become 133 = .ok (.aload_n 0, 1) := by decide +kernel
theorem dX6_become_134 : decode cX6_become 134 = .ok (.getfield 44, 3) := by decide +kernel
theorem dX6_become_137 : decode cX6_become 137 = .ok (.invokevirtual 77, 3) := by decide +kernel
theorem dX6_become_140 : decode cX6_become 140 = .ok (.aload_n 0, 1) := by decide +kernel
theorem dX6_become_141 : decode cX6_become 141 = .ok (.aload_n 1, 1) := by decide +kernel
theorem dX6_become_142 : decode cX6_become 142 = .ok (.getfield 47, 3) := by decide +kernel
theorem dX6_become_145 : decode cX6_become 145 = .ok (.aload_n 0, 1) := by decide +kernel
theorem dX6_become_146 : decode cX6_become 146 = .ok (.getfield 47, 3) := by decide +kernel
theorem dX6_become_149 : decode cX6_become 149 = .ok (.invokevirtual 77, 3) := by decide +kernel
theorem dX6_become_152 : decode cX6_become 152 = .ok (.aload_n 0, 1) := by decide +kernel
theorem dX6_become_153 : decode cX6_become 153 = .ok (.aload_n 1, 1) := by decide +kernel
theorem dX6_become_154 : decode cX6_become 154 = .ok (.getfield 50, 3) := by decide +kernel
theorem dX6_become_157 : decode cX6_become 157 = .ok (.aload_n 0, 1) := by decide +kernel
theorem dX6_become_158 : decode cX6_become 158 = .ok (.getfield 50, 3) := by decide +kernel
theorem dX6_become_161 : decode cX6_become 161 = .ok (.invokevirtual 77, 3) := by decide +kernel
theorem dX6_become_164 : decode cX6_become 164 = .ok (.aload_n 0, 1) := by decide +kernel
theorem dX6_become_165 : decode cX6_become 165 = .ok (.aload_n 1, 1) := by decide +kernel
theorem dX6_become_166 : decode cX6_become 166 = .ok (.getfield 53, 3) := by decide +kernel
theorem dX6_become_169 : decode cX6_become 169 = .ok (.aload_n 0, 1) := by decide +kernel
theorem dX6_become_170 : decode cX6_become 170 = .ok (.getfield 53, 3) := by decide +kernel
theorem dX6_become_173 : decode cX6_become 173 = .ok (.invokevirtual 77, 3) := by decide +kernel
theorem dX6_become_176 : decode cX6_become 176 = .ok (.aload_n 0, 1) := by decide +kernel
theorem dX6_become_177 : decode cX6_become 177 = .ok (.aload_n 1, 1) := by decide +kernel
theorem dX6_become_178 : decode cX6_become 178 = .ok (.getfield 56, 3) := by decide +kernel
theorem dX6_become_181 : decode cX6_become 181 = .ok (.aload_n 0, 1) := by decide +kernel
theorem dX6_become_182 : decode cX6_become 182 = .ok (.getfield 56, 3) := by decide +kernel
theorem dX6_become_185 : decode cX6_become 185 = .ok (.invokevirtual 77, 3) := by decide +kernel
theorem dX6_become_188 : decode cX6_become 188 = .ok (.return_, 1) := by decide +kernel
theorem dX6_renew_0 : decode cX6_renew 0 = .ok (.aload_n 0, 1) := by decide +kernel
theorem dX6_renew_1 : decode cX6_renew 1 = .ok (.iconst 1, 1) := by decide +kernel
theorem dX6_renew_2 : decode cX6_renew 2 = .ok (.putfield 15, 3) := by decide +kernel
theorem dX6_renew_5 : decode cX6_renew 5 = .ok (.aload_n 0, 1) := by decide +kernel
theorem dX6_renew_6 : decode cX6_renew 6 = .ok (.getfield 29, 3) := by decide +kernel
theorem dX6_renew_9 : decode cX6_renew 9 = .ok (.iconst 0, 1) := by decide +kernel
theorem dX6_renew_10 : decode cX6_renew 10 = .ok (.bipush 20, 2) := by decide +kernel
theorem dX6_renew_12 : decode cX6_renew 12 = .ok (.iastore, 1) := by decide +kernel
theorem dX6_renew_13 : decode cX6_renew 13 = .ok (.aload_n 0, 1) := by decide +kernel
theorem dX6_renew_14 : decode cX6_renew 14 = .ok (.getfield 32, 3) := by decide +kernel
theorem dX6_renew_17 : decode cX6_renew 17 = .ok (.iconst 0, 1) := by decide +kernel
theorem dX6_renew_18 : decode cX6_renew 18 = .ok (.iconst 0, 1) := by decide +kernel
theorem dX6_renew_19 : decode cX6_renew 19 = .ok (.iastore, 1) := by decide +kernel
theorem dX6_renew_20 : decode cX6_renew 20 = .ok (.aload_n 0, 1) := by decide +kernel
theorem dX6_renew_21 : decode cX6_renew 21 = .ok (.getfield 35, 3) := by decide +kernel
theorem dX6_renew_24 : decode cX6_renew 24 = .ok (.iconst 0, 1) := by decide +kernel
theorem dX6_renew_25 : decode cX6_renew 25 = .ok (.iconst 0, 1) := by decide +kernel
theorem dX6_renew_26 : decode cX6_renew 26 = .ok (.iastore, 1) := by decide +kernel
theorem dX6_renew_27 : decode cX6_renew 27 = .ok (.iconst 0, 1) := by decide +kernel
theorem dX6_renew_28 : decode cX6_renew 28 = .ok (.istore_n 1, 1) := by decide +kernel
theorem dX6_renew_29 : decode cX6_renew 29 = .ok (.iload_n 1, 1) := by decide +kernel
theorem dX6_renew_30 : decode cX6_renew 30 = .ok (.bipush 16, 2) := by decide +kernel
theorem dX6_renew_32 : decode cX6_renew 32 = .ok (.if_icmp .ge 30, 3) := by decide +kernel
theorem dX6_renew_35 : decode cX6_renew 35 = .ok (.aload_n 0, 1) := by decide +kernel
theorem dX6_renew_36 : decode cX6_renew 36 = .ok (.getfield 19, 3) := by decide +kernel
theorem dX6_renew_39 : decode cX6_renew 39 = .ok (.iload_n 1, 1) := by decide +kernel
theorem dX6_renew_40 : decode cX6_renew 40 = .ok (.iconst 0, 1) := by decide +kernel
theorem dX6_renew_41 : decode cX6_renew 41 = .ok (.iastore, 1) := by decide +kernel
theorem dX6_renew_42 : decode cX6_renew 42 = .ok (.aload_n 0, 1) := by decide +kernel
theorem dX6_renew_43 : decode cX6_renew 43 = .ok (.getfield 23, 3) := by decide +kernel
theorem dX6_renew_46 : decode cX6_renew 46 = .ok (.iload_n 1, 1) := by decide +kernel
theorem dX6_renew_47 : decode cX6_renew 47 = .ok (.iconst 0, 1) := by decide +kernel
theorem dX6_renew_48 : decode cX6_renew 48 = .ok (.iastore, 1) := by decide +kernel
theorem dX6_renew_49 : decode cX6_renew 49 = .ok (.aload_n 0, 1) := by decide +kernel
theorem dX6_renew_50 : decode cX6_renew 50 = .ok (.getfield 26, 3) := by decide +kernel
theorem dX6_renew_53 : decode cX6_renew 53 = .ok (.iload_n 1, 1) := by decide +kernel
theorem dX6_renew_54 : decode cX6_renew 54 = .ok (.iconst (-1), 1) := by decide +kernel
theorem dX6_renew_55 : decode cX6_renew 55 = .ok (.iastore, 1) := by decide +kernel
theorem dX6_renew_56 : decode cX6_renew 56 = .ok (.iinc 1 1, 3) := by decide +kernel
theorem dX6_renew_59 : decode cX6_renew 59 = .ok (.goto (-30), 3) := by decide +kernel
theorem dX6_renew_62 : decode cX6_renew 62 = .ok (.return_, 1) := by decide +kernel
theorem dX6_sectionOf_0 : decode cX6_sectionOf 0 = .ok (.iconst 0, 1) := by decide +kernel
theorem dX6_sectionOf_1 : decode cX6_sectionOf 1 = .ok (.istore_n 2, 1) := by decide +kernel
theorem dX6_sectionOf_2 : decode cX6_sectionOf 2 = .ok (.iconst 1, 1) := by decide +kernel
theorem dX6_sectionOf_3 : decode cX6_sectionOf 3 = .ok (.istore_n 3, 1) := by decide +kernel
theorem dX6_sectionOf_4 : decode cX6_sectionOf 4 = .ok (.iload_n 3, 1) := by decide +kernel
theorem dX6_sectionOf_5 : decode cX6_sectionOf 5 = .ok (.iload_n 1, 1) := by decide +kernel
theorem dX6_sectionOf_6 : decode cX6_sectionOf 6 = .ok (.if_icmp .gt 18, 3) := by decide +kernel
theorem dX6_sectionOf_9 : decode cX6_sectionOf 9 = .ok (.iload_n 2, 1) := by decide +kernel
theorem dX6_sectionOf_10 : decode cX6_sectionOf 10 = .ok (.aload_n 0, 1) := by decide +kernel
theorem dX6_sectionOf_11 : decode cX6_sectionOf 11 = .ok (.getfield 23, 3) := by decide +kernel
theorem dX6_sectionOf_14 : decode cX6_sectionOf 14 = .ok (.iload_n 3, 1) := by decide +kernel
theorem dX6_sectionOf_15 : decode cX6_sectionOf 15 = .ok (.iaload, 1) := by decide +kernel
theorem dX6_sectionOf_16 : decode cX6_sectionOf 16 = .ok (.iadd, 1) := by decide +kernel
theorem dX6_sectionOf_17 : decode cX6_sectionOf 17 = .ok (.istore_n 2, 1) := by decide +kernel
theorem dX6_sectionOf_18 : decode cX6_sectionOf 18 = .ok (.iinc 3 1, 3) := by decide +kernel
theorem dX6_sectionOf_21 : decode cX6_sectionOf 21 = .ok (.goto (-17), 3) := by decide +kernel
theorem dX6_sectionOf_24 : decode cX6_sectionOf 24 = .ok (.iload_n 2, 1) := by decide +kernel
theorem dX6_sectionOf_25 : decode cX6_sectionOf 25 = .ok (.ireturn, 1) := by decide +kernel
set_option maxRecDepth 20000 in
theorem ggX6_cut_X6_sectionOf : GoodIn wsX6_cut wsX6_sectionOf := goodIn_r _ [10, 5, 11, 12, 13, 14, 15, 16, 17, 18, 19, 20, 21, 22, 23, 24, 25, 26, 27, 28, 29] (by decide +kernel) (by decide +kernel)
set_option maxRecDepth 20000 in
theorem gX6_cut_X6_sectionOf : GoodIn wsX6_cut (wsV RX6 81 RX6 yX6_sectionOf wsX6_sectionOf) := goodIn_app (goodIn_of _ (by decide +kernel)) ggX6_cut_X6_sectionOf
theorem dX6_cut_0 : decode cX6_cut 0 = .ok (.aload_n 0, 1) := by decide +kernel
theorem dX6_cut_1 : decode cX6_cut 1 = .ok (.iload_n 1, 1) := by decide +kernel
theorem dX6_cut_2 : decode cX6_cut 2 = .ok (.invokevirtual 81, 3) := by decide +kernel
theorem dX6_cut_5 : decode cX6_cut 5 = .ok (.istore_n 2, 1) := by decide +kernel
theorem dX6_cut_6 : decode cX6_cut 6 = .ok (.aload_n 0, 1) := by decide +kernel
theorem dX6_cut_7 : decode cX6_cut 7 = .ok (.getfield 15, 3) := by decide +kernel
theorem dX6_cut_10 : decode cX6_cut 10 = .ok (.istore_n 3, 1) := by decide +kernel
theorem dX6_cut_11 : decode cX6_cut 11 = .ok (.iload_n 3, 1) := by decide +kernel
theorem dX6_cut_12 : decode cX6_cut 12 = .ok (.iload_n 2, 1) := by decide +kernel
theorem dX6_cut_13 : decode cX6_cut 13 = .ok (.if_icmp .le 51, 3) := by decide +kernel
theorem dX6_cut_16 : decode cX6_cut 16 = .ok (.aload_n 0, 1) := by decide +kernel
theorem dX6_cut_17 : decode cX6_cut 17 = .ok (.getfield 29, 3) := by decide +kernel
theorem dX6_cut_20 : decode cX6_cut 20 = .ok (.iload_n 3, 1) := by decide +kernel
theorem dX6_cut_21 : decode cX6_cut 21 = .ok (.aload_n 0, 1) := by decide +kernel
theorem dX6_cut_22 : decode cX6_cut 22 = .ok (.getfield 29, 3) := by decide +kernel
theorem dX6_cut_25 : decode cX6_cut 25 = .ok (.iload_n 3, 1) := by decide +kernel
theorem dX6_cut_26 : decode cX6_cut 26 = .ok (.iconst 1, 1) := by decide +kernel
theorem dX6_cut_27 : decode cX6_cut 27 = .ok (.isub, 1) := by decide +kernel
theorem dX6_cut_28 : decode cX6_cut 28 = .ok (.iaload, 1) := by decide +kernel
theorem dX6_cut_29 : decode cX6_cut 29 = .ok (.iastore, 1) := by decide +kernel
theorem dX6_cut_30 : decode cX6_cut 30 = .ok (.aload_n 0, 1) := by decide +kernel
theorem dX6_cut_31 : decode cX6_cut 31 = .ok (.getfield 32, 3) := by decide +kernel
theorem dX6_cut_34 : decode cX6_cut 34 = .ok (.iload_n 3, 1) := by decide +kernel
theorem dX6_cut_35 : decode cX6_cut 35 = .ok (.aload_n 0, 1) := by decide +kernel
theorem dX6_cut_36 : decode cX6_cut 36 = .ok (.getfield 32, 3) := by decide +kernel
theorem dX6_cut_39 : decode cX6_cut 39 = .ok (.iload_n 3, 1) := by decide +kernel
theorem dX6_cut_40 : decode cX6_cut 40 = .ok (.iconst 1, 1) := by decide +kernel
theorem dX6_cut_41 : decode cX6_cut 41 = .ok (.isub, 1) := by decide +kernel
theorem dX6_cut_42 : decode cX6_cut 42 = .ok (.iaload, 1) := by decide +kernel
theorem dX6_cut_43 : decode cX6_cut 43 = .ok (.iastore, 1) := by decide +kernel
theorem dX6_cut_44 : decode cX6_cut 44 = .ok (.aload_n 0, 1) := by decide +kernel
theorem dX6_cut_45 : decode cX6_cut 45 = .ok (.getfield 35, 3) := by decide +kernel
theorem dX6_cut_48 : decode cX6_cut 48 = .ok (.iload_n 3, 1) := by decide +kernel
theorem dX6_cut_49 : decode cX6_cut 49 = .ok (.aload_n 0, 1) := by decide +kernel
theorem dX6_cut_50 : decode cX6_cut 50 = .ok (.getfield 35, 3) := by decide +kernel
theorem dX6_cut_53 : decode cX6_cut 53 = .ok (.iload_n 3, 1) := by decide +kernel
theorem dX6_cut_54 : decode cX6_cut 54 = .ok (.iconst 1, 1) := by decide +kernel
theorem dX6_cut_55 : decode cX6_cut 55 = .ok (.isub, 1) := by decide +kernel
theorem dX6_cut_56 : decode cX6_cut 56 = .ok (.iaload, 1) := by decide +kernel
theorem dX6_cut_57 : decode cX6_cut 57 = .ok (.iastore, 1) := by decide +kernel
theorem dX6_cut_58 : decode cX6_cut 58 = .ok (.iinc 3 (-1), 3) := by decide +kernel
theorem dX6_cut_61 : decode cX6_cut 61 = .ok (.goto (-50), 3) := by decide +kernel
theorem dX6_cut_64 : decode cX6_cut 64 = .ok (.aload_n 0, 1) := by decide +kernel
theorem dX6_cut_65 : decode cX6_cut 65 = .ok (.getfield 35, 3) := by decide +kernel
theorem dX6_cut_68 : decode cX6_cut 68 = .ok (.iload_n 2, 1) := by decide +kernel
theorem dX6_cut_69 : decode cX6_cut 69 = .ok (.iconst 1, 1) := by decide +kernel
theorem dX6_cut_70 : decode cX6_cut 70 = .ok (.iadd, 1) := by decide +kernel
theorem dX6_cut_71 : decode cX6_cut 71 = .ok (.iconst 0, 1) := by decide +kernel
theorem dX6_cut_72 : decode cX6_cut 72 = .ok (.iastore, 1) := by decide +kernel
theorem dX6_cut_73 : decode cX6_cut 73 = .ok (.aload_n 0, 1) := by decide +kernel
theorem dX6_cut_74 : decode cX6_cut 74 = .ok (.getfield 23, 3) := by decide +kernel
theorem dX6_cut_77 : decode cX6_cut 77 = .ok (.iload_n 1, 1) := by decide +kernel
theorem dX6_cut_78 : decode cX6_cut 78 = .ok (.iconst 1, 1) := by decide +kernel
theorem dX6_cut_79 : decode cX6_cut 79 = .ok (.iastore, 1) := by decide +kernel
theorem dX6_cut_80 : decode cX6_cut 80 = .ok (.aload_n 0, 1) := by decide +kernel
theorem dX6_cut_81 : decode cX6_cut 81 = .ok (.dup, 1) := by decide +kernel
theorem dX6_cut_82 : decode cX6_cut 82 = .ok (.getfield 15, 3) := by decide +kernel
theorem dX6_cut_85 : decode cX6_cut 85 = .ok (.iconst 1, 1) := by decide +kernel
theorem dX6_cut_86 : decode cX6_cut 86 = .ok (.iadd, 1) := by decide +kernel
theorem dX6_cut_87 : decode cX6_cut 87 = .ok (.putfield 15, 3) := by decide +kernel
theorem dX6_cut_90 : decode cX6_cut 90 = .ok (.return_, 1) := by decide +kernel
theorem dX6_ahead_0 : decode cX6_ahead 0 = .ok (.aload_n 0, 1) := by decide +kernel
theorem dX6_ahead_1 : decode cX6_ahead 1 = .ok (.getfield 41, 3) := by decide +kernel
theorem dX6_ahead_4 : decode cX6_ahead 4 = .ok (.iload_n 1, 1) := by decide +kernel
theorem dX6_ahead_5 : decode cX6_ahead 5 = .ok (.iaload, 1) := by decide +kernel
theorem dX6_ahead_6 : decode cX6_ahead 6 = .ok (.ifCond .le 12, 3) := by decide +kernel
theorem dX6_ahead_9 : decode cX6_ahead 9 = .ok (.aload_n 0, 1) := by decide +kernel
theorem dX6_ahead_10 : decode cX6_ahead 10 = .ok (.getfield 38, 3) := by decide +kernel
theorem dX6_ahead_13 : decode cX6_ahead 13 = .ok (.iload_n 1, 1) := by decide +kernel
theorem dX6_ahead_14 : decode cX6_ahead 14 = .ok (.iaload, 1) := by decide +kernel
theorem dX6_ahead_15 : decode cX6_ahead 15 = .ok (.goto 11, 3) := by decide +kernel
theorem dX6_ahead_18 : decode cX6_ahead 18 = .ok (.aload_n 0, 1) := by decide +kernel
theorem dX6_ahead_19 : decode cX6_ahead 19 = .ok (.getfield 38, 3) := by decide +kernel
theorem dX6_ahead_22 : decode cX6_ahead 22 = .ok (.iload_n 1, 1) := by decide +kernel
theorem dX6_ahead_23 : decode cX6_ahead 23 = .ok (.iaload, 1) := by decide +kernel
theorem dX6_ahead_24 : decode cX6_ahead 24 = .ok (.iconst 1, 1) := by decide +kernel
theorem dX6_ahead_25 : decode cX6_ahead 25 = .ok (.isub, 1) := by decide +kernel
theorem dX6_ahead_26 : decode cX6_ahead 26 = .ok (.istore_n 2, 1) := by decide +kernel
theorem dX6_ahead_27 : decode cX6_ahead 27 = .ok (.iload_n 2, 1) := by decide +kernel
theorem dX6_ahead_28 : decode cX6_ahead 28 = .ok (.ifCond .lt 16, 3) := by decide +kernel
theorem dX6_ahead_31 : decode cX6_ahead 31 = .ok (.iload_n 2, 1) := by decide +kernel
theorem dX6_ahead_32 : decode cX6_ahead 32 = .ok (.aload_n 0, 1) := by decide +kernel
theorem dX6_ahead_33 : decode cX6_ahead 33 = .ok (.getfield 3, 3) := by decide +kernel
theorem dX6_ahead_36 : decode cX6_ahead 36 = .ok (.getfield 85, 3) := by decide +kernel
theorem dX6_ahead_39 : decode cX6_ahead 39 = .ok (.iconst 2, 1) := by decide +kernel
theorem dX6_ahead_40 : decode cX6_ahead 40 = .ok (.isub, 1) := by decide +kernel
theorem dX6_ahead_41 : decode cX6_ahead 41 = .ok (.if_icmp .le 7, 3) := by decide +kernel
theorem dX6_ahead_44 : decode cX6_ahead 44 = .ok (.iconst (-1), 1) := by decide +kernel
theorem dX6_ahead_45 : decode cX6_ahead 45 = .ok (.goto 4, 3) := by decide +kernel
theorem dX6_ahead_48 : decode cX6_ahead 48 = .ok (.iload_n 2, 1) := by decide +kernel
theorem dX6_ahead_49 : decode cX6_ahead 49 = .ok (.ireturn, 1) := by decide +kernel
set_option maxRecDepth 20000 in
theorem ggX6_draws_X6_ahead : GoodIn wsX6_draws wsX6_ahead := goodIn_r _ [14, 3, 15, 4, 16, 17, 18, 19, 20, 21, 22, 23, 24, 25, 26, 27, 28, 29, 30, 31, 32, 33, 34, 35, 36, 37, 38, 39, 40] (by decide +kernel) (by decide +kernel)
set_option maxRecDepth 20000 in
theorem gX6_draws_X6_ahead : GoodIn wsX6_draws (wsV RX6 88 RX6 yX6_ahead wsX6_ahead) := goodIn_app (goodIn_of _ (by decide +kernel)) ggX6_draws_X6_ahead
theorem dX6_draws_0 : decode cX6_draws 0 = .ok (.aload_n 0, 1) := by decide +kernel
theorem dX6_draws_1 : decode cX6_draws 1 = .ok (.iload_n 1, 1) := by decide +kernel
theorem dX6_draws_2 : decode cX6_draws 2 = .ok (.invokevirtual 88, 3) := by decide +kernel
theorem dX6_draws_5 : decode cX6_draws 5 = .ok (.istore_n 2, 1) := by decide +kernel
theorem dX6_draws_6 : decode cX6_draws 6 = .ok (.aload_n 0, 1) := by decide +kernel
theorem dX6_draws_7 : decode cX6_draws 7 = .ok (.getfield 50, 3) := by decide +kernel
theorem dX6_draws_10 : decode cX6_draws 10 = .ok (.iload_n 1, 1) := by decide +kernel
theorem dX6_draws_11 : decode cX6_draws 11 = .ok (.iaload, 1) := by decide +kernel
theorem dX6_draws_12 : decode cX6_draws 12 = .ok (.iconst 1, 1) := by decide +kernel
theorem dX6_draws_13 : decode cX6_draws 13 = .ok (.if_icmp .eq 8, 3) := by decide +kernel
theorem dX6_draws_16 : decode cX6_draws 16 = .ok (.iload_n 2, 1) := by decide +kernel
theorem dX6_draws_17 : decode cX6_draws 17 = .ok (.iconst (-1), 1) := by decide +kernel
theorem dX6_draws_18 : decode cX6_draws 18 = .ok (.if_icmp .ne 5, 3) := by decide +kernel
theorem dX6_draws_21 : decode cX6_draws 21 = .ok (.iconst 0, 1) := by decide +kernel
theorem dX6_draws_22 : decode cX6_draws 22 = .ok (.ireturn, 1) := by decide +kernel
theorem dX6_draws_23 : decode cX6_draws 23 = .ok (.iconst 2, 1) := by decide +kernel
theorem dX6_draws_24 : decode cX6_draws 24 = .ok (.aload_n 0, 1) := by decide +kernel
theorem dX6_draws_25 : decode cX6_draws 25 = .ok (.getfield 44, 3) := by decide +kernel
theorem dX6_draws_28 : decode cX6_draws 28 = .ok (.iload_n 1, 1) := by decide +kernel
theorem dX6_draws_29 : decode cX6_draws 29 = .ok (.iaload, 1) := by decide +kernel
theorem dX6_draws_30 : decode cX6_draws 30 = .ok (.bipush 10, 2) := by decide +kernel
theorem dX6_draws_32 : decode cX6_draws 32 = .ok (.idiv, 1) := by decide +kernel
theorem dX6_draws_33 : decode cX6_draws 33 = .ok (.iadd, 1) := by decide +kernel
theorem dX6_draws_34 : decode cX6_draws 34 = .ok (.iconst 0, 1) := by decide +kernel
theorem dX6_draws_35 : decode cX6_draws 35 = .ok (.aload_n 0, 1) := by decide +kernel
theorem dX6_draws_36 : decode cX6_draws 36 = .ok (.getfield 41, 3) := by decide +kernel
theorem dX6_draws_39 : decode cX6_draws 39 = .ok (.iload_n 1, 1) := by decide +kernel
theorem dX6_draws_40 : decode cX6_draws 40 = .ok (.iaload, 1) := by decide +kernel
theorem dX6_draws_41 : decode cX6_draws 41 = .ok (.aload_n 0, 1) := by decide +kernel
theorem dX6_draws_42 : decode cX6_draws 42 = .ok (.getfield 3, 3) := by decide +kernel
theorem dX6_draws_45 : decode cX6_draws 45 = .ok (.getfield 91, 3) := by decide +kernel
theorem dX6_draws_48 : decode cX6_draws 48 = .ok (.iload_n 2, 1) := by decide +kernel
theorem dX6_draws_49 : decode cX6_draws 49 = .ok (.iaload, 1) := by decide +kernel
theorem dX6_draws_50 : decode cX6_draws 50 = .ok (.imul, 1) := by decide +kernel
theorem dX6_draws_51 : decode cX6_draws 51 = .ok (.invokestatic 94, 3) := by decide +kernel
theorem dX6_draws_54 : decode cX6_draws 54 = .ok (.iadd, 1) := by decide +kernel
theorem dX6_draws_55 : decode cX6_draws 55 = .ok (.aload_n 0, 1) := by decide +kernel
theorem dX6_draws_56 : decode cX6_draws 56 = .ok (.getfield 53, 3) := by decide +kernel
theorem dX6_draws_59 : decode cX6_draws 59 = .ok (.iload_n 1, 1) := by decide +kernel
theorem dX6_draws_60 : decode cX6_draws 60 = .ok (.iaload, 1) := by decide +kernel
theorem dX6_draws_61 : decode cX6_draws 61 = .ok (.iconst (-1), 1) := by decide +kernel
theorem dX6_draws_62 : decode cX6_draws 62 = .ok (.if_icmp .ne 7, 3) := by decide +kernel
theorem dX6_draws_65 : decode cX6_draws 65 = .ok (.iconst 0, 1) := by decide +kernel
theorem dX6_draws_66 : decode cX6_draws 66 = .ok (.goto 4, 3) := by decide +kernel
theorem dX6_draws_69 : decode cX6_draws 69 = .ok (.iconst 3, 1) := by decide +kernel
theorem dX6_draws_70 : decode cX6_draws 70 = .ok (.iadd, 1) := by decide +kernel
theorem dX6_draws_71 : decode cX6_draws 71 = .ok (.ireturn, 1) := by decide +kernel
set_option maxRecDepth 20000 in
theorem ggX6_drawn_X6_ahead : GoodIn wsX6_drawn wsX6_ahead := goodIn_r _ [6, 7, 8, 1, 25, 26, 27, 28, 29, 30, 31, 32, 33, 34, 35, 36, 37, 38, 39, 40, 41, 42, 43, 44, 45, 46, 47, 48, 49] (by decide +kernel) (by decide +kernel)
set_option maxRecDepth 20000 in
theorem gX6_drawn_X6_ahead : GoodIn wsX6_drawn (wsV RX6 88 RX6 yX6_ahead wsX6_ahead) := goodIn_app (goodIn_of _ (by decide +kernel)) ggX6_drawn_X6_ahead
set_option maxRecDepth 20000 in
theorem ggX6_drawn_X6_sectionOf : GoodIn wsX6_drawn wsX6_sectionOf := goodIn_r _ [12, 13, 25, 26, 27, 28, 29, 30, 31, 32, 33, 34, 35, 36, 37, 38, 39, 40, 41, 42, 43] (by decide +kernel) (by decide +kernel)
set_option maxRecDepth 20000 in
theorem gX6_drawn_X6_sectionOf : GoodIn wsX6_drawn (wsV RX6 81 RX6 yX6_sectionOf wsX6_sectionOf) := goodIn_app (goodIn_of _ (by decide +kernel)) ggX6_drawn_X6_sectionOf
set_option maxRecDepth 20000 in
theorem ggX6_drawn_X6_draws : GoodIn wsX6_drawn wsX6_draws := goodIn_r _ [17, 18, 19, 7, 1, 20, 21, 22, 23, 24, 2, 3, 4, 5, 6, 8, 25, 26, 27, 28, 29, 30, 31, 32, 33, 34, 35, 36, 37, 38, 39, 40, 41, 42, 43, 44, 45, 46, 47, 48, 49] (by decide +kernel) (by decide +kernel)
set_option maxRecDepth 20000 in
theorem gX6_drawn_X6_draws : GoodIn wsX6_drawn (wsV RX6 103 RX6 yX6_draws wsX6_draws) := goodIn_app (goodIn_of _ (by decide +kernel)) ggX6_drawn_X6_draws
theorem dX6_drawn_0 : decode cX6_drawn 0 = .ok (.iconst 0, 1) := by decide +kernel
theorem dX6_drawn_1 : decode cX6_drawn 1 = .ok (.istore_n 2, 1) := by decide +kernel
theorem dX6_drawn_2 : decode cX6_drawn 2 = .ok (.iconst 0, 1) := by decide +kernel
theorem dX6_drawn_3 : decode cX6_drawn 3 = .ok (.istore_n 3, 1) := by decide +kernel
theorem dX6_drawn_4 : decode cX6_drawn 4 = .ok (.iload_n 3, 1) := by decide +kernel
theorem dX6_drawn_5 : decode cX6_drawn 5 = .ok (.aload_n 0, 1) := by decide +kernel
theorem dX6_drawn_6 : decode cX6_drawn 6 = .ok (.getfield 3, 3) := by decide +kernel
theorem dX6_drawn_9 : decode cX6_drawn 9 = .ok (.getfield 100, 3) := by decide +kernel
theorem dX6_drawn_12 : decode cX6_drawn 12 = .ok (.if_icmp .ge 39, 3) := by decide +kernel
theorem dX6_drawn_15 : decode cX6_drawn 15 = .ok (.aload_n 0, 1) := by decide +kernel
theorem dX6_drawn_16 : decode cX6_drawn 16 = .ok (.iload_n 3, 1) := by decide +kernel
theorem dX6_drawn_17 : decode cX6_drawn 17 = .ok (.invokevirtual 88, 3) := by decide +kernel
theorem dX6_drawn_20 : decode cX6_drawn 20 = .ok (.iconst (-1), 1) := by decide +kernel
theorem dX6_drawn_21 : decode cX6_drawn 21 = .ok (.if_icmp .eq 24, 3) := by decide +kernel
theorem dX6_drawn_24 : decode cX6_drawn 24 = .ok (.aload_n 0, 1) := by decide +kernel
theorem dX6_drawn_25 : decode cX6_drawn 25 = .ok (.aload_n 0, 1) := by decide +kernel
theorem dX6_drawn_26 : decode cX6_drawn 26 = .ok (.iload_n 3, 1) := by decide +kernel
theorem dX6_drawn_27 : decode cX6_drawn 27 = .ok (.invokevirtual 88, 3) := by decide +kernel
theorem dX6_drawn_30 : decode cX6_drawn 30 = .ok (.invokevirtual 81, 3) := by decide +kernel
theorem dX6_drawn_33 : decode cX6_drawn 33 = .ok (.iload_n 1, 1) := by decide +kernel
theorem dX6_drawn_34 : decode cX6_drawn 34 = .ok (.if_icmp .ne 11, 3) := by decide +kernel
theorem dX6_drawn_37 : decode cX6_drawn 37 = .ok (.iload_n 2, 1) := by decide +kernel
theorem dX6_drawn_38 : decode cX6_drawn 38 = .ok (.aload_n 0, 1) := by decide +kernel
theorem dX6_drawn_39 : decode cX6_drawn 39 = .ok (.iload_n 3, 1) := by decide +kernel
theorem dX6_drawn_40 : decode cX6_drawn 40 = .ok (.invokevirtual 103, 3) := by decide +kernel
theorem dX6_drawn_43 : decode cX6_drawn 43 = .ok (.iadd, 1) := by decide +kernel
theorem dX6_drawn_44 : decode cX6_drawn 44 = .ok (.istore_n 2, 1) := by decide +kernel
theorem dX6_drawn_45 : decode cX6_drawn 45 = .ok (.iinc 3 1, 3) := by decide +kernel
theorem dX6_drawn_48 : decode cX6_drawn 48 = .ok (.goto (-44), 3) := by decide +kernel
theorem dX6_drawn_51 : decode cX6_drawn 51 = .ok (.iload_n 2, 1) := by decide +kernel
theorem dX6_drawn_52 : decode cX6_drawn 52 = .ok (.ireturn, 1) := by decide +kernel
theorem dX6_carsAt_0 : decode cX6_carsAt 0 = .ok (.iconst 0, 1) := by decide +kernel
theorem dX6_carsAt_1 : decode cX6_carsAt 1 = .ok (.istore_n 2, 1) := by decide +kernel
theorem dX6_carsAt_2 : decode cX6_carsAt 2 = .ok (.iconst 0, 1) := by decide +kernel
theorem dX6_carsAt_3 : decode cX6_carsAt 3 = .ok (.istore_n 3, 1) := by decide +kernel
theorem dX6_carsAt_4 : decode cX6_carsAt 4 = .ok (.iload_n 3, 1) := by decide +kernel
theorem dX6_carsAt_5 : decode cX6_carsAt 5 = .ok (.aload_n 0, 1) := by decide +kernel
theorem dX6_carsAt_6 : decode cX6_carsAt 6 = .ok (.getfield 3, 3) := by decide +kernel
theorem dX6_carsAt_9 : decode cX6_carsAt 9 = .ok (.getfield 100, 3) := by decide +kernel
theorem dX6_carsAt_12 : decode cX6_carsAt 12 = .ok (.if_icmp .ge 27, 3) := by decide +kernel
theorem dX6_carsAt_15 : decode cX6_carsAt 15 = .ok (.iload_n 2, 1) := by decide +kernel
theorem dX6_carsAt_16 : decode cX6_carsAt 16 = .ok (.aload_n 0, 1) := by decide +kernel
theorem dX6_carsAt_17 : decode cX6_carsAt 17 = .ok (.getfield 38, 3) := by decide +kernel
theorem dX6_carsAt_20 : decode cX6_carsAt 20 = .ok (.iload_n 3, 1) := by decide +kernel
theorem dX6_carsAt_21 : decode cX6_carsAt 21 = .ok (.iaload, 1) := by decide +kernel
theorem dX6_carsAt_22 : decode cX6_carsAt 22 = .ok (.iload_n 1, 1) := by decide +kernel
theorem dX6_carsAt_23 : decode cX6_carsAt 23 = .ok (.if_icmp .ne 7, 3) := by decide +kernel
theorem dX6_carsAt_26 : decode cX6_carsAt 26 = .ok (.iconst 1, 1) := by decide +kernel
theorem dX6_carsAt_27 : decode cX6_carsAt 27 = .ok (.goto 4, 3) := by decide +kernel
theorem dX6_carsAt_30 : decode cX6_carsAt 30 = .ok (.iconst 0, 1) := by decide +kernel
theorem dX6_carsAt_31 : decode cX6_carsAt 31 = .ok (.iadd, 1) := by decide +kernel
theorem dX6_carsAt_32 : decode cX6_carsAt 32 = .ok (.istore_n 2, 1) := by decide +kernel
theorem dX6_carsAt_33 : decode cX6_carsAt 33 = .ok (.iinc 3 1, 3) := by decide +kernel
theorem dX6_carsAt_36 : decode cX6_carsAt 36 = .ok (.goto (-32), 3) := by decide +kernel
theorem dX6_carsAt_39 : decode cX6_carsAt 39 = .ok (.iload_n 2, 1) := by decide +kernel
theorem dX6_carsAt_40 : decode cX6_carsAt 40 = .ok (.ireturn, 1) := by decide +kernel
theorem dX6_pusher_0 : decode cX6_pusher 0 = .ok (.iconst 0, 1) := by decide +kernel
theorem dX6_pusher_1 : decode cX6_pusher 1 = .ok (.istore_n 2, 1) := by decide +kernel
theorem dX6_pusher_2 : decode cX6_pusher 2 = .ok (.iload_n 2, 1) := by decide +kernel
theorem dX6_pusher_3 : decode cX6_pusher 3 = .ok (.aload_n 0, 1) := by decide +kernel
theorem dX6_pusher_4 : decode cX6_pusher 4 = .ok (.getfield 3, 3) := by decide +kernel
theorem dX6_pusher_7 : decode cX6_pusher 7 = .ok (.getfield 100, 3) := by decide +kernel
theorem dX6_pusher_10 : decode cX6_pusher 10 = .ok (.if_icmp .ge 21, 3) := by decide +kernel
theorem dX6_pusher_13 : decode cX6_pusher 13 = .ok (.aload_n 0, 1) := by decide +kernel
theorem dX6_pusher_14 : decode cX6_pusher 14 = .ok (.getfield 53, 3) := by decide +kernel
theorem dX6_pusher_17 : decode cX6_pusher 17 = .ok (.iload_n 2, 1) := by decide +kernel
theorem dX6_pusher_18 : decode cX6_pusher 18 = .ok (.iaload, 1) := by decide +kernel
theorem dX6_pusher_19 : decode cX6_pusher 19 = .ok (.iload_n 1, 1) := by decide +kernel
theorem dX6_pusher_20 : decode cX6_pusher 20 = .ok (.if_icmp .ne 5, 3) := by decide +kernel
theorem dX6_pusher_23 : decode cX6_pusher 23 = .ok (.iload_n 2, 1) := by decide +kernel
theorem dX6_pusher_24 : decode cX6_pusher 24 = .ok (.ireturn, 1) := by decide +kernel
theorem dX6_pusher_25 : decode cX6_pusher 25 = .ok (.iinc 2 1, 3) := by decide +kernel
theorem dX6_pusher_28 : decode cX6_pusher 28 = .ok (.goto (-26), 3) := by decide +kernel
theorem dX6_pusher_31 : decode cX6_pusher 31 = .ok (.iconst (-1), 1) := by decide +kernel
theorem dX6_pusher_32 : decode cX6_pusher 32 = .ok (.ireturn, 1) := by decide +kernel
set_option maxRecDepth 20000 in
theorem ggX6_turn_X6_ahead : GoodIn wsX6_turn wsX6_ahead := goodIn_r _ [9, 3, 10, 1, 11, 12, 13, 14, 15, 16, 17, 18, 19, 20, 21, 22, 23, 24, 25, 26, 27, 28, 29, 30, 31, 32, 33, 34, 35] (by decide +kernel) (by decide +kernel)
set_option maxRecDepth 20000 in
theorem gX6_turn_X6_ahead : GoodIn wsX6_turn (wsV RX6 88 RX6 yX6_ahead wsX6_ahead) := goodIn_app (goodIn_of _ (by decide +kernel)) ggX6_turn_X6_ahead
theorem dX6_turn_0 : decode cX6_turn 0 = .ok (.iconst 0, 1) := by decide +kernel
theorem dX6_turn_1 : decode cX6_turn 1 = .ok (.istore_n 1, 1) := by decide +kernel
theorem dX6_turn_2 : decode cX6_turn 2 = .ok (.iload_n 1, 1) := by decide +kernel
theorem dX6_turn_3 : decode cX6_turn 3 = .ok (.aload_n 0, 1) := by decide +kernel
theorem dX6_turn_4 : decode cX6_turn 4 = .ok (.getfield 3, 3) := by decide +kernel
theorem dX6_turn_7 : decode cX6_turn 7 = .ok (.getfield 100, 3) := by decide +kernel
theorem dX6_turn_10 : decode cX6_turn 10 = .ok (.if_icmp .ge 71, 3) := by decide +kernel
theorem dX6_turn_13 : decode cX6_turn 13 = .ok (.aload_n 0, 1) := by decide +kernel
theorem dX6_turn_14 : decode cX6_turn 14 = .ok (.getfield 50, 3) := by decide +kernel
theorem dX6_turn_17 : decode cX6_turn 17 = .ok (.iload_n 1, 1) := by decide +kernel
theorem dX6_turn_18 : decode cX6_turn 18 = .ok (.iaload, 1) := by decide +kernel
theorem dX6_turn_19 : decode cX6_turn 19 = .ok (.iconst 1, 1) := by decide +kernel
theorem dX6_turn_20 : decode cX6_turn 20 = .ok (.if_icmp .eq 55, 3) := by decide +kernel
theorem dX6_turn_23 : decode cX6_turn 23 = .ok (.aload_n 0, 1) := by decide +kernel
theorem dX6_turn_24 : decode cX6_turn 24 = .ok (.iload_n 1, 1) := by decide +kernel
theorem dX6_turn_25 : decode cX6_turn 25 = .ok (.invokevirtual 88, 3) := by decide +kernel
theorem dX6_turn_28 : decode cX6_turn 28 = .ok (.iconst (-1), 1) := by decide +kernel
theorem dX6_turn_29 : decode cX6_turn 29 = .ok (.if_icmp .eq 6, 3) := by decide +kernel
theorem dX6_turn_32 : decode cX6_turn 32 = .ok (.goto 43, 3) := by decide +kernel
theorem dX6_turn_35 : decode cX6_turn 35 = .ok (.aload_n 0, 1) := by decide +kernel
theorem dX6_turn_36 : decode cX6_turn 36 = .ok (.getfield 41, 3) := by decide +kernel
theorem dX6_turn_39 : decode cX6_turn 39 = .ok (.iload_n 1, 1) := by decide +kernel
theorem dX6_turn_40 : decode cX6_turn 40 = .ok (.aload_n 0, 1) := by decide +kernel
theorem dX6_turn_41 : decode cX6_turn 41 = .ok (.getfield 41, 3) := by decide +kernel
theorem dX6_turn_44 : decode cX6_turn 44 = .ok (.iload_n 1, 1) := by decide +kernel
theorem dX6_turn_45 : decode cX6_turn 45 = .ok (.iaload, 1) := by decide +kernel
theorem dX6_turn_46 : decode cX6_turn 46 = .ok (.ineg, 1) := by decide +kernel
theorem dX6_turn_47 : decode cX6_turn 47 = .ok (.iastore, 1) := by decide +kernel
theorem dX6_turn_48 : decode cX6_turn 48 = .ok (.aload_n 0, 1) := by decide +kernel
theorem dX6_turn_49 : decode cX6_turn 49 = .ok (.getfield 53, 3) := by decide +kernel
theorem dX6_turn_52 : decode cX6_turn 52 = .ok (.iload_n 1, 1) := by decide +kernel
theorem dX6_turn_53 : decode cX6_turn 53 = .ok (.iaload, 1) := by decide +kernel
theorem dX6_turn_54 : decode cX6_turn 54 = .ok (.iconst (-1), 1) := by decide +kernel
theorem dX6_turn_55 : decode cX6_turn 55 = .ok (.if_icmp .eq 20, 3) := by decide +kernel
theorem dX6_turn_58 : decode cX6_turn 58 = .ok (.aload_n 0, 1) := by decide +kernel
theorem dX6_turn_59 : decode cX6_turn 59 = .ok (.getfield 41, 3) := by decide +kernel
theorem dX6_turn_62 : decode cX6_turn 62 = .ok (.aload_n 0, 1) := by decide +kernel
theorem dX6_turn_63 : decode cX6_turn 63 = .ok (.getfield 53, 3) := by decide +kernel
theorem dX6_turn_66 : decode cX6_turn 66 = .ok (.iload_n 1, 1) := by decide +kernel
theorem dX6_turn_67 : decode cX6_turn 67 = .ok (.iaload, 1) := by decide +kernel
theorem dX6_turn_68 : decode cX6_turn 68 = .ok (.aload_n 0, 1) := by decide +kernel
theorem dX6_turn_69 : decode cX6_turn 69 = .ok (.getfield 41, 3) := by decide +kernel
theorem dX6_turn_72 : decode cX6_turn 72 = .ok (.iload_n 1, 1) := by decide +kernel
theorem dX6_turn_73 : decode cX6_turn 73 = .ok (.iaload, 1) := by decide +kernel
theorem dX6_turn_74 : decode cX6_turn 74 = .ok (.iastore, 1) := by decide +kernel
theorem dX6_turn_75 : decode cX6_turn 75 = .ok (.iinc 1 1, 3) := by decide +kernel
theorem dX6_turn_78 : decode cX6_turn 78 = .ok (.goto (-76), 3) := by decide +kernel
theorem dX6_turn_81 : decode cX6_turn 81 = .ok (.return_, 1) := by decide +kernel
set_option maxRecDepth 20000 in
theorem ggX6_go_X6_ahead : GoodIn wsX6_go wsX6_ahead := goodIn_r _ [13, 5, 4, 14, 24, 25, 26, 27, 28, 29, 30, 31, 32, 33, 34, 35, 36, 37, 38, 39, 40, 41, 42, 43, 44, 45, 46, 47, 48] (by decide +kernel) (by decide +kernel)
set_option maxRecDepth 20000 in
theorem gX6_go_X6_ahead : GoodIn wsX6_go (wsV RX6 88 RX6 yX6_ahead wsX6_ahead) := goodIn_app (goodIn_of _ (by decide +kernel)) ggX6_go_X6_ahead
set_option maxRecDepth 20000 in
theorem ggX6_go_X6_sectionOf : GoodIn wsX6_go wsX6_sectionOf := goodIn_r _ [18, 19, 24, 25, 26, 27, 28, 29, 30, 31, 32, 33, 34, 35, 36, 37, 38, 39, 40, 41, 42] (by decide +kernel) (by decide +kernel)
set_option maxRecDepth 20000 in
theorem gX6_go_X6_sectionOf : GoodIn wsX6_go (wsV RX6 81 RX6 yX6_sectionOf wsX6_sectionOf) := goodIn_app (goodIn_of _ (by decide +kernel)) ggX6_go_X6_sectionOf
set_option maxRecDepth 20000 in
theorem ggX6_go_X6_carsAt : GoodIn wsX6_go wsX6_carsAt := goodIn_r _ [23, 14, 4, 24, 25, 26, 27, 28, 29, 30, 31, 32, 33, 34, 35, 36, 37, 38, 39, 40, 41, 42, 43, 44, 45, 46, 47, 48] (by decide +kernel) (by decide +kernel)
set_option maxRecDepth 20000 in
theorem gX6_go_X6_carsAt : GoodIn wsX6_go (wsV RX6 106 RX6 yX6_carsAt wsX6_carsAt) := goodIn_app (goodIn_of _ (by decide +kernel)) ggX6_go_X6_carsAt
theorem dX6_go_0 : decode cX6_go 0 = .ok (.aload_n 0, 1) := by decide +kernel
theorem dX6_go_1 : decode cX6_go 1 = .ok (.getfield 59, 3) := by decide +kernel
theorem dX6_go_4 : decode cX6_go 4 = .ok (.iload_n 1, 1) := by decide +kernel
theorem dX6_go_5 : decode cX6_go 5 = .ok (.iconst 0, 1) := by decide +kernel
theorem dX6_go_6 : decode cX6_go 6 = .ok (.iastore, 1) := by decide +kernel
theorem dX6_go_7 : decode cX6_go 7 = .ok (.aload_n 0, 1) := by decide +kernel
theorem dX6_go_8 : decode cX6_go 8 = .ok (.getfield 50, 3) := by decide +kernel
theorem dX6_go_11 : decode cX6_go 11 = .ok (.iload_n 1, 1) := by decide +kernel
theorem dX6_go_12 : decode cX6_go 12 = .ok (.iaload, 1) := by decide +kernel
theorem dX6_go_13 : decode cX6_go 13 = .ok (.iconst 1, 1) := by decide +kernel
theorem dX6_go_14 : decode cX6_go 14 = .ok (.if_icmp .eq 20, 3) := by decide +kernel
theorem dX6_go_17 : decode cX6_go 17 = .ok (.aload_n 0, 1) := by decide +kernel
theorem dX6_go_18 : decode cX6_go 18 = .ok (.getfield 32, 3) := by decide +kernel
theorem dX6_go_21 : decode cX6_go 21 = .ok (.aload_n 0, 1) := by decide +kernel
theorem dX6_go_22 : decode cX6_go 22 = .ok (.aload_n 0, 1) := by decide +kernel
theorem dX6_go_23 : decode cX6_go 23 = .ok (.iload_n 1, 1) := by decide +kernel
theorem dX6_go_24 : decode cX6_go 24 = .ok (.invokevirtual 88, 3) := by decide +kernel
theorem dX6_go_27 : decode cX6_go 27 = .ok (.invokevirtual 81, 3) := by decide +kernel
theorem dX6_go_30 : decode cX6_go 30 = .ok (.iaload, 1) := by decide +kernel
theorem dX6_go_31 : decode cX6_go 31 = .ok (.ifCond .le 4, 3) := by decide +kernel
theorem dX6_go_34 : decode cX6_go 34 = .ok (.return_, 1) := by decide +kernel
theorem dX6_go_35 : decode cX6_go 35 = .ok (.aload_n 0, 1) := by decide +kernel
theorem dX6_go_36 : decode cX6_go 36 = .ok (.aload_n 0, 1) := by decide +kernel
theorem dX6_go_37 : decode cX6_go 37 = .ok (.getfield 38, 3) := by decide +kernel
theorem dX6_go_40 : decode cX6_go 40 = .ok (.iload_n 1, 1) := by decide +kernel
theorem dX6_go_41 : decode cX6_go 41 = .ok (.iaload, 1) := by decide +kernel
theorem dX6_go_42 : decode cX6_go 42 = .ok (.aload_n 0, 1) := by decide +kernel
theorem dX6_go_43 : decode cX6_go 43 = .ok (.getfield 41, 3) := by decide +kernel
theorem dX6_go_46 : decode cX6_go 46 = .ok (.iload_n 1, 1) := by decide +kernel
theorem dX6_go_47 : decode cX6_go 47 = .ok (.iaload, 1) := by decide +kernel
theorem dX6_go_48 : decode cX6_go 48 = .ok (.iadd, 1) := by decide +kernel
theorem dX6_go_49 : decode cX6_go 49 = .ok (.invokevirtual 106, 3) := by decide +kernel
theorem dX6_go_52 : decode cX6_go 52 = .ok (.istore_n 2, 1) := by decide +kernel
theorem dX6_go_53 : decode cX6_go 53 = .ok (.aload_n 0, 1) := by decide +kernel
theorem dX6_go_54 : decode cX6_go 54 = .ok (.getfield 53, 3) := by decide +kernel
theorem dX6_go_57 : decode cX6_go 57 = .ok (.iload_n 1, 1) := by decide +kernel
theorem dX6_go_58 : decode cX6_go 58 = .ok (.iaload, 1) := by decide +kernel
theorem dX6_go_59 : decode cX6_go 59 = .ok (.iconst (-1), 1) := by decide +kernel
theorem dX6_go_60 : decode cX6_go 60 = .ok (.if_icmp .ne 16, 3) := by decide +kernel
theorem dX6_go_63 : decode cX6_go 63 = .ok (.iload_n 2, 1) := by decide +kernel
theorem dX6_go_64 : decode cX6_go 64 = .ok (.iconst 2, 1) := by decide +kernel
theorem dX6_go_65 : decode cX6_go 65 = .ok (.if_icmp .ge 7, 3) := by decide +kernel
theorem dX6_go_68 : decode cX6_go 68 = .ok (.iconst 1, 1) := by decide +kernel
theorem dX6_go_69 : decode cX6_go 69 = .ok (.goto 25, 3) := by decide +kernel
theorem dX6_go_72 : decode cX6_go 72 = .ok (.iconst 0, 1) := by decide +kernel
theorem dX6_go_73 : decode cX6_go 73 = .ok (.goto 21, 3) := by decide +kernel
theorem dX6_go_76 : decode cX6_go 76 = .ok (.iload_n 2, 1) := by decide +kernel
theorem dX6_go_77 : decode cX6_go 77 = .ok (.ifCond .ne 16, 3) := by decide +kernel
theorem dX6_go_80 : decode cX6_go 80 = .ok (.aload_n 0, 1) := by decide +kernel
theorem dX6_go_81 : decode cX6_go 81 = .ok (.getfield 68, 3) := by decide +kernel
theorem dX6_go_84 : decode cX6_go 84 = .ok (.iconst 2, 1) := by decide +kernel
theorem dX6_go_85 : decode cX6_go 85 = .ok (.irem, 1) := by decide +kernel
theorem dX6_go_86 : decode cX6_go 86 = .ok (.ifCond .ne 7, 3) := by decide +kernel
theorem dX6_go_89 : decode cX6_go 89 = .ok (.iconst 1, 1) := by decide +kernel
theorem dX6_go_90 : decode cX6_go 90 = .ok (.goto 4, 3) := by decide +kernel
theorem dX6_go_93 : decode cX6_go 93 = .ok (.iconst 0, 1) := by decide +kernel
theorem dX6_go_94 : decode cX6_go 94 = .ok (.istore_n 3, 1) := by decide +kernel
theorem dX6_go_95 : decode cX6_go 95 = .ok (.iload_n 3, 1) := by decide +kernel
theorem dX6_go_96 : decode cX6_go 96 = .ok (.ifCond .ne 4, 3) := by decide +kernel
theorem dX6_go_99 : decode cX6_go 99 = .ok (.return_, 1) := by decide +kernel
theorem dX6_go_100 : decode cX6_go 100 = .ok (.aload_n 0, 1) := by decide +kernel
theorem dX6_go_101 : decode cX6_go 101 = .ok (.getfield 59, 3) := by decide +kernel
theorem dX6_go_104 : decode cX6_go 104 = .ok (.iload_n 1, 1) := by decide +kernel
theorem dX6_go_105 : decode cX6_go 105 = .ok (.iconst 1, 1) := by decide +kernel
theorem dX6_go_106 : decode cX6_go 106 = .ok (.iastore, 1) := by decide +kernel
theorem dX6_go_107 : decode cX6_go 107 = .ok (.aload_n 0, 1) := by decide +kernel
theorem dX6_go_108 : decode cX6_go 108 = .ok (.getfield 56, 3) := by decide +kernel
theorem dX6_go_111 : decode cX6_go 111 = .ok (.iload_n 1, 1) := by decide +kernel
theorem dX6_go_112 : decode cX6_go 112 = .ok (.dup2, 1) := by decide +kernel
theorem dX6_go_113 : decode cX6_go 113 = .ok (.iaload, 1) := by decide +kernel
theorem dX6_go_114 : decode cX6_go 114 = .ok (.iconst 1, 1) := by decide +kernel
theorem dX6_go_115 : decode cX6_go 115 = .ok (.iadd, 1) := by decide +kernel
theorem dX6_go_116 : decode cX6_go 116 = .ok (.iastore, 1) := by decide +kernel
theorem dX6_go_117 : decode cX6_go 117 = .ok (.aload_n 0, 1) := by decide +kernel
theorem dX6_go_118 : decode cX6_go 118 = .ok (.getfield 38, 3) := by decide +kernel
theorem dX6_go_121 : decode cX6_go 121 = .ok (.iload_n 1, 1) := by decide +kernel
theorem dX6_go_122 : decode cX6_go 122 = .ok (.dup2, 1) := by decide +kernel
theorem dX6_go_123 : decode cX6_go 123 = .ok (.iaload, 1) := by decide +kernel
theorem dX6_go_124 : decode cX6_go 124 = .ok (.aload_n 0, 1) := by decide +kernel
theorem dX6_go_125 : decode cX6_go 125 = .ok (.getfield 41, 3) := by decide +kernel
theorem dX6_go_128 : decode cX6_go 128 = .ok (.iload_n 1, 1) := by decide +kernel
theorem dX6_go_129 : decode cX6_go 129 = .ok (.iaload, 1) := by decide +kernel
theorem dX6_go_130 : decode cX6_go 130 = .ok (.iadd, 1) := by decide +kernel
theorem dX6_go_131 : decode cX6_go 131 = .ok (.iastore, 1) := by decide +kernel
theorem dX6_go_132 : decode cX6_go 132 = .ok (.aload_n 0, 1) := by decide +kernel
theorem dX6_go_133 : decode cX6_go 133 = .ok (.getfield 53, 3) := by decide +kernel
theorem dX6_go_136 : decode cX6_go 136 = .ok (.iload_n 1, 1) := by decide +kernel
theorem dX6_go_137 : decode cX6_go 137 = .ok (.iaload, 1) := by decide +kernel
theorem dX6_go_138 : decode cX6_go 138 = .ok (.iconst (-1), 1) := by decide +kernel
theorem dX6_go_139 : decode cX6_go 139 = .ok (.if_icmp .ne 4, 3) := by decide +kernel
theorem dX6_go_142 : decode cX6_go 142 = .ok (.return_, 1) := by decide +kernel
theorem dX6_go_143 : decode cX6_go 143 = .ok (.aload_n 0, 1) := by decide +kernel
theorem dX6_go_144 : decode cX6_go 144 = .ok (.getfield 38, 3) := by decide +kernel
theorem dX6_go_147 : decode cX6_go 147 = .ok (.aload_n 0, 1) := by decide +kernel
theorem dX6_go_148 : decode cX6_go 148 = .ok (.getfield 53, 3) := by decide +kernel
theorem dX6_go_151 : decode cX6_go 151 = .ok (.iload_n 1, 1) := by decide +kernel
theorem dX6_go_152 : decode cX6_go 152 = .ok (.iaload, 1) := by decide +kernel
theorem dX6_go_153 : decode cX6_go 153 = .ok (.aload_n 0, 1) := by decide +kernel
theorem dX6_go_154 : decode cX6_go 154 = .ok (.getfield 38, 3) := by decide +kernel
theorem dX6_go_157 : decode cX6_go 157 = .ok (.iload_n 1, 1) := by decide +kernel
theorem dX6_go_158 : decode cX6_go 158 = .ok (.iaload, 1) := by decide +kernel
theorem dX6_go_159 : decode cX6_go 159 = .ok (.iastore, 1) := by decide +kernel
theorem dX6_go_160 : decode cX6_go 160 = .ok (.aload_n 0, 1) := by decide +kernel
theorem dX6_go_161 : decode cX6_go 161 = .ok (.getfield 56, 3) := by decide +kernel
theorem dX6_go_164 : decode cX6_go 164 = .ok (.aload_n 0, 1) := by decide +kernel
theorem dX6_go_165 : decode cX6_go 165 = .ok (.getfield 53, 3) := by decide +kernel
theorem dX6_go_168 : decode cX6_go 168 = .ok (.iload_n 1, 1) := by decide +kernel
theorem dX6_go_169 : decode cX6_go 169 = .ok (.iaload, 1) := by decide +kernel
theorem dX6_go_170 : decode cX6_go 170 = .ok (.dup2, 1) := by decide +kernel
theorem dX6_go_171 : decode cX6_go 171 = .ok (.iaload, 1) := by decide +kernel
theorem dX6_go_172 : decode cX6_go 172 = .ok (.iconst 1, 1) := by decide +kernel
theorem dX6_go_173 : decode cX6_go 173 = .ok (.iadd, 1) := by decide +kernel
theorem dX6_go_174 : decode cX6_go 174 = .ok (.iastore, 1) := by decide +kernel
theorem dX6_go_175 : decode cX6_go 175 = .ok (.return_, 1) := by decide +kernel
theorem dX6_halt_0 : decode cX6_halt 0 = .ok (.aload_n 0, 1) := by decide +kernel
theorem dX6_halt_1 : decode cX6_halt 1 = .ok (.getfield 59, 3) := by decide +kernel
theorem dX6_halt_4 : decode cX6_halt 4 = .ok (.iload_n 1, 1) := by decide +kernel
theorem dX6_halt_5 : decode cX6_halt 5 = .ok (.iaload, 1) := by decide +kernel
theorem dX6_halt_6 : decode cX6_halt 6 = .ok (.ifCond .ne 4, 3) := by decide +kernel
theorem dX6_halt_9 : decode cX6_halt 9 = .ok (.return_, 1) := by decide +kernel
theorem dX6_halt_10 : decode cX6_halt 10 = .ok (.aload_n 0, 1) := by decide +kernel
theorem dX6_halt_11 : decode cX6_halt 11 = .ok (.getfield 38, 3) := by decide +kernel
theorem dX6_halt_14 : decode cX6_halt 14 = .ok (.iload_n 1, 1) := by decide +kernel
theorem dX6_halt_15 : decode cX6_halt 15 = .ok (.iaload, 1) := by decide +kernel
theorem dX6_halt_16 : decode cX6_halt 16 = .ok (.istore_n 2, 1) := by decide +kernel
theorem dX6_halt_17 : decode cX6_halt 17 = .ok (.aload_n 0, 1) := by decide +kernel
theorem dX6_halt_18 : decode cX6_halt 18 = .ok (.getfield 44, 3) := by decide +kernel
theorem dX6_halt_21 : decode cX6_halt 21 = .ok (.iload_n 1, 1) := by decide +kernel
theorem dX6_halt_22 : decode cX6_halt 22 = .ok (.dup2, 1) := by decide +kernel
theorem dX6_halt_23 : decode cX6_halt 23 = .ok (.iaload, 1) := by decide +kernel
theorem dX6_halt_24 : decode cX6_halt 24 = .ok (.aload_n 0, 1) := by decide +kernel
theorem dX6_halt_25 : decode cX6_halt 25 = .ok (.getfield 44, 3) := by decide +kernel
theorem dX6_halt_28 : decode cX6_halt 28 = .ok (.iload_n 1, 1) := by decide +kernel
theorem dX6_halt_29 : decode cX6_halt 29 = .ok (.iaload, 1) := by decide +kernel
theorem dX6_halt_30 : decode cX6_halt 30 = .ok (.iconst 2, 1) := by decide +kernel
theorem dX6_halt_31 : decode cX6_halt 31 = .ok (.idiv, 1) := by decide +kernel
theorem dX6_halt_32 : decode cX6_halt 32 = .ok (.isub, 1) := by decide +kernel
theorem dX6_halt_33 : decode cX6_halt 33 = .ok (.iastore, 1) := by decide +kernel
theorem dX6_halt_34 : decode cX6_halt 34 = .ok (.aload_n 0, 1) := by decide +kernel
theorem dX6_halt_35 : decode cX6_halt 35 = .ok (.getfield 19, 3) := by decide +kernel
theorem dX6_halt_38 : decode cX6_halt 38 = .ok (.iload_n 2, 1) := by decide +kernel
theorem dX6_halt_39 : decode cX6_halt 39 = .ok (.iaload, 1) := by decide +kernel
theorem dX6_halt_40 : decode cX6_halt 40 = .ok (.bipush 30, 2) := by decide +kernel
theorem dX6_halt_42 : decode cX6_halt 42 = .ok (.aload_n 0, 1) := by decide +kernel
theorem dX6_halt_43 : decode cX6_halt 43 = .ok (.getfield 44, 3) := by decide +kernel
theorem dX6_halt_46 : decode cX6_halt 46 = .ok (.iload_n 1, 1) := by decide +kernel
theorem dX6_halt_47 : decode cX6_halt 47 = .ok (.iaload, 1) := by decide +kernel
theorem dX6_halt_48 : decode cX6_halt 48 = .ok (.isub, 1) := by decide +kernel
theorem dX6_halt_49 : decode cX6_halt 49 = .ok (.invokestatic 109, 3) := by decide +kernel
theorem dX6_halt_52 : decode cX6_halt 52 = .ok (.istore_n 3, 1) := by decide +kernel
theorem dX6_halt_53 : decode cX6_halt 53 = .ok (.aload_n 0, 1) := by decide +kernel
theorem dX6_halt_54 : decode cX6_halt 54 = .ok (.getfield 19, 3) := by decide +kernel
theorem dX6_halt_57 : decode cX6_halt 57 = .ok (.iload_n 2, 1) := by decide +kernel
theorem dX6_halt_58 : decode cX6_halt 58 = .ok (.dup2, 1) := by decide +kernel
theorem dX6_halt_59 : decode cX6_halt 59 = .ok (.iaload, 1) := by decide +kernel
theorem dX6_halt_60 : decode cX6_halt 60 = .ok (.iload_n 3, 1) := by decide +kernel
theorem dX6_halt_61 : decode cX6_halt 61 = .ok (.isub, 1) := by decide +kernel
theorem dX6_halt_62 : decode cX6_halt 62 = .ok (.iastore, 1) := by decide +kernel
theorem dX6_halt_63 : decode cX6_halt 63 = .ok (.aload_n 0, 1) := by decide +kernel
theorem dX6_halt_64 : decode cX6_halt 64 = .ok (.getfield 44, 3) := by decide +kernel
theorem dX6_halt_67 : decode cX6_halt 67 = .ok (.iload_n 1, 1) := by decide +kernel
theorem dX6_halt_68 : decode cX6_halt 68 = .ok (.dup2, 1) := by decide +kernel
theorem dX6_halt_69 : decode cX6_halt 69 = .ok (.iaload, 1) := by decide +kernel
theorem dX6_halt_70 : decode cX6_halt 70 = .ok (.iload_n 3, 1) := by decide +kernel
theorem dX6_halt_71 : decode cX6_halt 71 = .ok (.iadd, 1) := by decide +kernel
theorem dX6_halt_72 : decode cX6_halt 72 = .ok (.iastore, 1) := by decide +kernel
theorem dX6_halt_73 : decode cX6_halt 73 = .ok (.aload_n 0, 1) := by decide +kernel
theorem dX6_halt_74 : decode cX6_halt 74 = .ok (.dup, 1) := by decide +kernel
theorem dX6_halt_75 : decode cX6_halt 75 = .ok (.getfield 71, 3) := by decide +kernel
theorem dX6_halt_78 : decode cX6_halt 78 = .ok (.iload_n 3, 1) := by decide +kernel
theorem dX6_halt_79 : decode cX6_halt 79 = .ok (.iadd, 1) := by decide +kernel
theorem dX6_halt_80 : decode cX6_halt 80 = .ok (.putfield 71, 3) := by decide +kernel
theorem dX6_halt_83 : decode cX6_halt 83 = .ok (.aload_n 0, 1) := by decide +kernel
theorem dX6_halt_84 : decode cX6_halt 84 = .ok (.getfield 47, 3) := by decide +kernel
theorem dX6_halt_87 : decode cX6_halt 87 = .ok (.iload_n 1, 1) := by decide +kernel
theorem dX6_halt_88 : decode cX6_halt 88 = .ok (.dup2, 1) := by decide +kernel
theorem dX6_halt_89 : decode cX6_halt 89 = .ok (.iaload, 1) := by decide +kernel
theorem dX6_halt_90 : decode cX6_halt 90 = .ok (.aload_n 0, 1) := by decide +kernel
theorem dX6_halt_91 : decode cX6_halt 91 = .ok (.getfield 44, 3) := by decide +kernel
theorem dX6_halt_94 : decode cX6_halt 94 = .ok (.iload_n 1, 1) := by decide +kernel
theorem dX6_halt_95 : decode cX6_halt 95 = .ok (.iaload, 1) := by decide +kernel
theorem dX6_halt_96 : decode cX6_halt 96 = .ok (.bipush 20, 2) := by decide +kernel
theorem dX6_halt_98 : decode cX6_halt 98 = .ok (.if_icmp .le 7, 3) := by decide +kernel
theorem dX6_halt_101 : decode cX6_halt 101 = .ok (.iconst 5, 1) := by decide +kernel
theorem dX6_halt_102 : decode cX6_halt 102 = .ok (.goto 4, 3) := by decide +kernel
theorem dX6_halt_105 : decode cX6_halt 105 = .ok (.iconst 3, 1) := by decide +kernel
theorem dX6_halt_106 : decode cX6_halt 106 = .ok (.iadd, 1) := by decide +kernel
theorem dX6_halt_107 : decode cX6_halt 107 = .ok (.iastore, 1) := by decide +kernel
theorem dX6_halt_108 : decode cX6_halt 108 = .ok (.aload_n 0, 1) := by decide +kernel
theorem dX6_halt_109 : decode cX6_halt 109 = .ok (.getfield 47, 3) := by decide +kernel
theorem dX6_halt_112 : decode cX6_halt 112 = .ok (.iload_n 1, 1) := by decide +kernel
theorem dX6_halt_113 : decode cX6_halt 113 = .ok (.iaload, 1) := by decide +kernel
theorem dX6_halt_114 : decode cX6_halt 114 = .ok (.bipush 100, 2) := by decide +kernel
theorem dX6_halt_116 : decode cX6_halt 116 = .ok (.if_icmp .ge 4, 3) := by decide +kernel
theorem dX6_halt_119 : decode cX6_halt 119 = .ok (.return_, 1) := by decide +kernel
theorem dX6_halt_120 : decode cX6_halt 120 = .ok (.aload_n 0, 1) := by decide +kernel
theorem dX6_halt_121 : decode cX6_halt 121 = .ok (.getfield 50, 3) := by decide +kernel
theorem dX6_halt_124 : decode cX6_halt 124 = .ok (.iload_n 1, 1) := by decide +kernel
theorem dX6_halt_125 : decode cX6_halt 125 = .ok (.iconst 1, 1) := by decide +kernel
theorem dX6_halt_126 : decode cX6_halt 126 = .ok (.iastore, 1) := by decide +kernel
theorem dX6_halt_127 : decode cX6_halt 127 = .ok (.aload_n 0, 1) := by decide +kernel
theorem dX6_halt_128 : decode cX6_halt 128 = .ok (.getfield 47, 3) := by decide +kernel
theorem dX6_halt_131 : decode cX6_halt 131 = .ok (.iload_n 1, 1) := by decide +kernel
theorem dX6_halt_132 : decode cX6_halt 132 = .ok (.bipush 99, 2) := by decide +kernel
theorem dX6_halt_134 : decode cX6_halt 134 = .ok (.iastore, 1) := by decide +kernel
theorem dX6_halt_135 : decode cX6_halt 135 = .ok (.aload_n 0, 1) := by decide +kernel
theorem dX6_halt_136 : decode cX6_halt 136 = .ok (.getfield 53, 3) := by decide +kernel
theorem dX6_halt_139 : decode cX6_halt 139 = .ok (.iload_n 1, 1) := by decide +kernel
theorem dX6_halt_140 : decode cX6_halt 140 = .ok (.iconst (-1), 1) := by decide +kernel
theorem dX6_halt_141 : decode cX6_halt 141 = .ok (.iastore, 1) := by decide +kernel
theorem dX6_halt_142 : decode cX6_halt 142 = .ok (.aload_n 0, 1) := by decide +kernel
theorem dX6_halt_143 : decode cX6_halt 143 = .ok (.getfield 19, 3) := by decide +kernel
theorem dX6_halt_146 : decode cX6_halt 146 = .ok (.iload_n 2, 1) := by decide +kernel
theorem dX6_halt_147 : decode cX6_halt 147 = .ok (.bipush 99, 2) := by decide +kernel
theorem dX6_halt_149 : decode cX6_halt 149 = .ok (.aload_n 0, 1) := by decide +kernel
theorem dX6_halt_150 : decode cX6_halt 150 = .ok (.getfield 19, 3) := by decide +kernel
theorem dX6_halt_153 : decode cX6_halt 153 = .ok (.iload_n 2, 1) := by decide +kernel
theorem dX6_halt_154 : decode cX6_halt 154 = .ok (.iaload, 1) := by decide +kernel
theorem dX6_halt_155 : decode cX6_halt 155 = .ok (.aload_n 0, 1) := by decide +kernel
theorem dX6_halt_156 : decode cX6_halt 156 = .ok (.getfield 44, 3) := by decide +kernel
theorem dX6_halt_159 : decode cX6_halt 159 = .ok (.iload_n 1, 1) := by decide +kernel
theorem dX6_halt_160 : decode cX6_halt 160 = .ok (.iaload, 1) := by decide +kernel
theorem dX6_halt_161 : decode cX6_halt 161 = .ok (.iadd, 1) := by decide +kernel
theorem dX6_halt_162 : decode cX6_halt 162 = .ok (.invokestatic 109, 3) := by decide +kernel
theorem dX6_halt_165 : decode cX6_halt 165 = .ok (.iastore, 1) := by decide +kernel
theorem dX6_halt_166 : decode cX6_halt 166 = .ok (.aload_n 0, 1) := by decide +kernel
theorem dX6_halt_167 : decode cX6_halt 167 = .ok (.getfield 44, 3) := by decide +kernel
theorem dX6_halt_170 : decode cX6_halt 170 = .ok (.iload_n 1, 1) := by decide +kernel
theorem dX6_halt_171 : decode cX6_halt 171 = .ok (.iconst 0, 1) := by decide +kernel
theorem dX6_halt_172 : decode cX6_halt 172 = .ok (.iastore, 1) := by decide +kernel
theorem dX6_halt_173 : decode cX6_halt 173 = .ok (.return_, 1) := by decide +kernel
set_option maxRecDepth 20000 in
theorem ggX6_mend_X6_pusher : GoodIn wsX6_mend wsX6_pusher := goodIn_r _ [13, 7, 6, 14, 15, 16, 17, 18, 19, 20, 21, 22, 23, 24, 25, 26, 27, 28, 29, 30, 31, 32, 33, 34, 35, 36, 37, 38] (by decide +kernel) (by decide +kernel)
set_option maxRecDepth 20000 in
theorem gX6_mend_X6_pusher : GoodIn wsX6_mend (wsV RX6 112 RX6 yX6_pusher wsX6_pusher) := goodIn_app (goodIn_of _ (by decide +kernel)) ggX6_mend_X6_pusher
theorem dX6_mend_0 : decode cX6_mend 0 = .ok (.aload_n 0, 1) := by decide +kernel
theorem dX6_mend_1 : decode cX6_mend 1 = .ok (.getfield 50, 3) := by decide +kernel
theorem dX6_mend_4 : decode cX6_mend 4 = .ok (.iload_n 1, 1) := by decide +kernel
theorem dX6_mend_5 : decode cX6_mend 5 = .ok (.iaload, 1) := by decide +kernel
theorem dX6_mend_6 : decode cX6_mend 6 = .ok (.ifCond .ne 4, 3) := by decide +kernel
theorem dX6_mend_9 : decode cX6_mend 9 = .ok (.return_, 1) := by decide +kernel
theorem dX6_mend_10 : decode cX6_mend 10 = .ok (.aload_n 0, 1) := by decide +kernel
theorem dX6_mend_11 : decode cX6_mend 11 = .ok (.iload_n 1, 1) := by decide +kernel
theorem dX6_mend_12 : decode cX6_mend 12 = .ok (.invokevirtual 112, 3) := by decide +kernel
theorem dX6_mend_15 : decode cX6_mend 15 = .ok (.istore_n 2, 1) := by decide +kernel
theorem dX6_mend_16 : decode cX6_mend 16 = .ok (.aload_n 0, 1) := by decide +kernel
theorem dX6_mend_17 : decode cX6_mend 17 = .ok (.getfield 26, 3) := by decide +kernel
theorem dX6_mend_20 : decode cX6_mend 20 = .ok (.aload_n 0, 1) := by decide +kernel
theorem dX6_mend_21 : decode cX6_mend 21 = .ok (.getfield 38, 3) := by decide +kernel
theorem dX6_mend_24 : decode cX6_mend 24 = .ok (.iload_n 1, 1) := by decide +kernel
theorem dX6_mend_25 : decode cX6_mend 25 = .ok (.iaload, 1) := by decide +kernel
theorem dX6_mend_26 : decode cX6_mend 26 = .ok (.iaload, 1) := by decide +kernel
theorem dX6_mend_27 : decode cX6_mend 27 = .ok (.ifCond .le 55, 3) := by decide +kernel
theorem dX6_mend_30 : decode cX6_mend 30 = .ok (.aload_n 0, 1) := by decide +kernel
theorem dX6_mend_31 : decode cX6_mend 31 = .ok (.getfield 26, 3) := by decide +kernel
theorem dX6_mend_34 : decode cX6_mend 34 = .ok (.aload_n 0, 1) := by decide +kernel
theorem dX6_mend_35 : decode cX6_mend 35 = .ok (.getfield 38, 3) := by decide +kernel
theorem dX6_mend_38 : decode cX6_mend 38 = .ok (.iload_n 1, 1) := by decide +kernel
theorem dX6_mend_39 : decode cX6_mend 39 = .ok (.iaload, 1) := by decide +kernel
theorem dX6_mend_40 : decode cX6_mend 40 = .ok (.dup2, 1) := by decide +kernel
theorem dX6_mend_41 : decode cX6_mend 41 = .ok (.iaload, 1) := by decide +kernel
theorem dX6_mend_42 : decode cX6_mend 42 = .ok (.iconst 1, 1) := by decide +kernel
theorem dX6_mend_43 : decode cX6_mend 43 = .ok (.isub, 1) := by decide +kernel
theorem dX6_mend_44 : decode cX6_mend 44 = .ok (.iastore, 1) := by decide +kernel
theorem dX6_mend_45 : decode cX6_mend 45 = .ok (.aload_n 0, 1) := by decide +kernel
theorem dX6_mend_46 : decode cX6_mend 46 = .ok (.dup, 1) := by decide +kernel
theorem dX6_mend_47 : decode cX6_mend 47 = .ok (.getfield 74, 3) := by decide +kernel
theorem dX6_mend_50 : decode cX6_mend 50 = .ok (.iconst 1, 1) := by decide +kernel
theorem dX6_mend_51 : decode cX6_mend 51 = .ok (.iadd, 1) := by decide +kernel
theorem dX6_mend_52 : decode cX6_mend 52 = .ok (.putfield 74, 3) := by decide +kernel
theorem dX6_mend_55 : decode cX6_mend 55 = .ok (.aload_n 0, 1) := by decide +kernel
theorem dX6_mend_56 : decode cX6_mend 56 = .ok (.getfield 50, 3) := by decide +kernel
theorem dX6_mend_59 : decode cX6_mend 59 = .ok (.iload_n 1, 1) := by decide +kernel
theorem dX6_mend_60 : decode cX6_mend 60 = .ok (.iconst 0, 1) := by decide +kernel
theorem dX6_mend_61 : decode cX6_mend 61 = .ok (.iastore, 1) := by decide +kernel
theorem dX6_mend_62 : decode cX6_mend 62 = .ok (.aload_n 0, 1) := by decide +kernel
theorem dX6_mend_63 : decode cX6_mend 63 = .ok (.getfield 47, 3) := by decide +kernel
theorem dX6_mend_66 : decode cX6_mend 66 = .ok (.iload_n 1, 1) := by decide +kernel
theorem dX6_mend_67 : decode cX6_mend 67 = .ok (.iconst 0, 1) := by decide +kernel
theorem dX6_mend_68 : decode cX6_mend 68 = .ok (.iastore, 1) := by decide +kernel
theorem dX6_mend_69 : decode cX6_mend 69 = .ok (.iload_n 2, 1) := by decide +kernel
theorem dX6_mend_70 : decode cX6_mend 70 = .ok (.iconst (-1), 1) := by decide +kernel
theorem dX6_mend_71 : decode cX6_mend 71 = .ok (.if_icmp .eq 10, 3) := by decide +kernel
theorem dX6_mend_74 : decode cX6_mend 74 = .ok (.aload_n 0, 1) := by decide +kernel
theorem dX6_mend_75 : decode cX6_mend 75 = .ok (.getfield 53, 3) := by decide +kernel
theorem dX6_mend_78 : decode cX6_mend 78 = .ok (.iload_n 2, 1) := by decide +kernel
theorem dX6_mend_79 : decode cX6_mend 79 = .ok (.iconst (-1), 1) := by decide +kernel
theorem dX6_mend_80 : decode cX6_mend 80 = .ok (.iastore, 1) := by decide +kernel
theorem dX6_mend_81 : decode cX6_mend 81 = .ok (.return_, 1) := by decide +kernel
theorem dX6_mend_82 : decode cX6_mend 82 = .ok (.iconst 0, 1) := by decide +kernel
theorem dX6_mend_83 : decode cX6_mend 83 = .ok (.istore_n 3, 1) := by decide +kernel
theorem dX6_mend_84 : decode cX6_mend 84 = .ok (.iload_n 3, 1) := by decide +kernel
theorem dX6_mend_85 : decode cX6_mend 85 = .ok (.aload_n 0, 1) := by decide +kernel
theorem dX6_mend_86 : decode cX6_mend 86 = .ok (.getfield 3, 3) := by decide +kernel
theorem dX6_mend_89 : decode cX6_mend 89 = .ok (.getfield 100, 3) := by decide +kernel
theorem dX6_mend_92 : decode cX6_mend 92 = .ok (.if_icmp .ge 76, 3) := by decide +kernel
theorem dX6_mend_95 : decode cX6_mend 95 = .ok (.iload_n 2, 1) := by decide +kernel
theorem dX6_mend_96 : decode cX6_mend 96 = .ok (.iconst (-1), 1) := by decide +kernel
theorem dX6_mend_97 : decode cX6_mend 97 = .ok (.if_icmp .ne 71, 3) := by decide +kernel
theorem dX6_mend_100 : decode cX6_mend 100 = .ok (.aload_n 0, 1) := by decide +kernel
theorem dX6_mend_101 : decode cX6_mend 101 = .ok (.getfield 50, 3) := by decide +kernel
theorem dX6_mend_104 : decode cX6_mend 104 = .ok (.iload_n 3, 1) := by decide +kernel
theorem dX6_mend_105 : decode cX6_mend 105 = .ok (.iaload, 1) := by decide +kernel
theorem dX6_mend_106 : decode cX6_mend 106 = .ok (.iconst 1, 1) := by decide +kernel
theorem dX6_mend_107 : decode cX6_mend 107 = .ok (.if_icmp .eq 55, 3) := by decide +kernel
theorem dX6_mend_110 : decode cX6_mend 110 = .ok (.aload_n 0, 1) := by decide +kernel
theorem dX6_mend_111 : decode cX6_mend 111 = .ok (.getfield 53, 3) := by decide +kernel
theorem dX6_mend_114 : decode cX6_mend 114 = .ok (.iload_n 3, 1) := by decide +kernel
theorem dX6_mend_115 : decode cX6_mend 115 = .ok (.iaload, 1) := by decide +kernel
theorem dX6_mend_116 : decode cX6_mend 116 = .ok (.iconst (-1), 1) := by decide +kernel
theorem dX6_mend_117 : decode cX6_mend 117 = .ok (.if_icmp .ne 45, 3) := by decide +kernel
theorem dX6_mend_120 : decode cX6_mend 120 = .ok (.aload_n 0, 1) := by decide +kernel
theorem dX6_mend_121 : decode cX6_mend 121 = .ok (.getfield 41, 3) := by decide +kernel
theorem dX6_mend_124 : decode cX6_mend 124 = .ok (.iload_n 3, 1) := by decide +kernel
theorem dX6_mend_125 : decode cX6_mend 125 = .ok (.iaload, 1) := by decide +kernel
theorem dX6_mend_126 : decode cX6_mend 126 = .ok (.aload_n 0, 1) := by decide +kernel
theorem dX6_mend_127 : decode cX6_mend 127 = .ok (.getfield 41, 3) := by decide +kernel
theorem dX6_mend_130 : decode cX6_mend 130 = .ok (.iload_n 1, 1) := by decide +kernel
theorem dX6_mend_131 : decode cX6_mend 131 = .ok (.iaload, 1) := by decide +kernel
theorem dX6_mend_132 : decode cX6_mend 132 = .ok (.if_icmp .ne 30, 3) := by decide +kernel
theorem dX6_mend_135 : decode cX6_mend 135 = .ok (.aload_n 0, 1) := by decide +kernel
theorem dX6_mend_136 : decode cX6_mend 136 = .ok (.getfield 38, 3) := by decide +kernel
theorem dX6_mend_139 : decode cX6_mend 139 = .ok (.iload_n 3, 1) := by decide +kernel
theorem dX6_mend_140 : decode cX6_mend 140 = .ok (.iaload, 1) := by decide +kernel
theorem dX6_mend_141 : decode cX6_mend 141 = .ok (.aload_n 0, 1) := by decide +kernel
theorem dX6_mend_142 : decode cX6_mend 142 = .ok (.getfield 38, 3) := by decide +kernel
theorem dX6_mend_145 : decode cX6_mend 145 = .ok (.iload_n 1, 1) := by decide +kernel
theorem dX6_mend_146 : decode cX6_mend 146 = .ok (.iaload, 1) := by decide +kernel
theorem dX6_mend_147 : decode cX6_mend 147 = .ok (.if_icmp .eq 6, 3) := by decide +kernel
theorem dX6_mend_150 : decode cX6_mend 150 = .ok (.goto 12, 3) := by decide +kernel
theorem dX6_mend_153 : decode cX6_mend 153 = .ok (.aload_n 0, 1) := by decide +kernel
theorem dX6_mend_154 : decode cX6_mend 154 = .ok (.getfield 53, 3) := by decide +kernel
theorem dX6_mend_157 : decode cX6_mend 157 = .ok (.iload_n 3, 1) := by decide +kernel
theorem dX6_mend_158 : decode cX6_mend 158 = .ok (.iload_n 1, 1) := by decide +kernel
theorem dX6_mend_159 : decode cX6_mend 159 = .ok (.iastore, 1) := by decide +kernel
theorem dX6_mend_160 : decode cX6_mend 160 = .ok (.iload_n 3, 1) := by decide +kernel
theorem dX6_mend_161 : decode cX6_mend 161 = .ok (.istore_n 2, 1) := by decide +kernel
theorem dX6_mend_162 : decode cX6_mend 162 = .ok (.iinc 3 1, 3) := by decide +kernel
theorem dX6_mend_165 : decode cX6_mend 165 = .ok (.goto (-81), 3) := by decide +kernel
theorem dX6_mend_168 : decode cX6_mend 168 = .ok (.return_, 1) := by decide +kernel
set_option maxRecDepth 20000 in
theorem ggX6_pass_X6_drawn : GoodIn wsX6_pass wsX6_drawn := goodIn_r _ [19, 5, 20, 21, 22, 18, 23, 24, 25, 26, 27, 28, 29, 30, 31, 32, 33, 34, 35, 36, 12, 13, 10, 14, 37, 64, 65, 66, 67, 68, 69, 70, 71, 72, 73, 74, 75, 76, 77, 78, 79, 80, 81, 82, 83, 84, 85, 86, 87, 88] (by decide +kernel) (by decide +kernel)
set_option maxRecDepth 20000 in
theorem gX6_pass_X6_drawn : GoodIn wsX6_pass (wsV RX6 115 RX6 yX6_drawn wsX6_drawn) := goodIn_app (goodIn_of _ (by decide +kernel)) ggX6_pass_X6_drawn
set_option maxRecDepth 20000 in
theorem ggX6_pass_X6_go : GoodIn wsX6_pass wsX6_go := goodIn_r _ [41, 42, 35, 2, 25, 24, 37, 6, 43, 20, 21, 22, 18, 23, 5, 26, 27, 28, 29, 30, 44, 45, 46, 47, 64, 65, 66, 67, 68, 69, 70, 71, 72, 73, 74, 75, 76, 77, 78, 79, 80, 81, 82, 83, 84, 85, 86, 87, 88] (by decide +kernel) (by decide +kernel)
set_option maxRecDepth 20000 in
theorem gX6_pass_X6_go : GoodIn wsX6_pass (wsV RX6 118 RX6 yX6_go wsX6_go) := goodIn_app (goodIn_of _ (by decide +kernel)) ggX6_pass_X6_go
set_option maxRecDepth 20000 in
theorem ggX6_pass_X6_halt : GoodIn wsX6_pass wsX6_halt := goodIn_r _ [51, 42, 25, 36, 7, 8, 9, 10, 11, 52, 53, 35, 37, 64, 65, 66, 67, 68, 69, 70, 71, 72, 73, 74, 75, 76, 77, 78, 79, 80, 81, 82] (by decide +kernel) (by decide +kernel)
set_option maxRecDepth 20000 in
theorem gX6_pass_X6_halt : GoodIn wsX6_pass (wsV RX6 122 RX6 yX6_halt wsX6_halt) := goodIn_app (goodIn_of _ (by decide +kernel)) ggX6_pass_X6_halt
set_option maxRecDepth 20000 in
theorem ggX6_pass_X6_mend : GoodIn wsX6_pass wsX6_mend := goodIn_r _ [57, 35, 58, 25, 59, 53, 37, 5, 24, 60, 61, 62, 18, 63, 64, 65, 66, 67, 68, 69, 70, 71, 72, 73, 74, 75, 76, 77, 78, 79, 80, 81, 82, 83, 84, 85, 86, 87, 88] (by decide +kernel) (by decide +kernel)
set_option maxRecDepth 20000 in
theorem gX6_pass_X6_mend : GoodIn wsX6_pass (wsV RX6 125 RX6 yX6_mend wsX6_mend) := goodIn_app (goodIn_of _ (by decide +kernel)) ggX6_pass_X6_mend
theorem dX6_pass_0 : decode cX6_pass 0 = .ok (.iconst 0, 1) := by decide +kernel
theorem dX6_pass_1 : decode cX6_pass 1 = .ok (.istore_n 1, 1) := by decide +kernel
theorem dX6_pass_2 : decode cX6_pass 2 = .ok (.iload_n 1, 1) := by decide +kernel
theorem dX6_pass_3 : decode cX6_pass 3 = .ok (.aload_n 0, 1) := by decide +kernel
theorem dX6_pass_4 : decode cX6_pass 4 = .ok (.getfield 15, 3) := by decide +kernel
theorem dX6_pass_7 : decode cX6_pass 7 = .ok (.if_icmp .ge 52, 3) := by decide +kernel
theorem dX6_pass_10 : decode cX6_pass 10 = .ok (.aload_n 0, 1) := by decide +kernel
theorem dX6_pass_11 : decode cX6_pass 11 = .ok (.getfield 32, 3) := by decide +kernel
theorem dX6_pass_14 : decode cX6_pass 14 = .ok (.iload_n 1, 1) := by decide +kernel
theorem dX6_pass_15 : decode cX6_pass 15 = .ok (.iaload, 1) := by decide +kernel
theorem dX6_pass_16 : decode cX6_pass 16 = .ok (.ifCond .gt 37, 3) := by decide +kernel
theorem dX6_pass_19 : decode cX6_pass 19 = .ok (.aload_n 0, 1) := by decide +kernel
theorem dX6_pass_20 : decode cX6_pass 20 = .ok (.iload_n 1, 1) := by decide +kernel
theorem dX6_pass_21 : decode cX6_pass 21 = .ok (.invokevirtual 115, 3) := by decide +kernel
theorem dX6_pass_24 : decode cX6_pass 24 = .ok (.aload_n 0, 1) := by decide +kernel
theorem dX6_pass_25 : decode cX6_pass 25 = .ok (.getfield 29, 3) := by decide +kernel
theorem dX6_pass_28 : decode cX6_pass 28 = .ok (.iload_n 1, 1) := by decide +kernel
theorem dX6_pass_29 : decode cX6_pass 29 = .ok (.iaload, 1) := by decide +kernel
theorem dX6_pass_30 : decode cX6_pass 30 = .ok (.if_icmp .gt 6, 3) := by decide +kernel
theorem dX6_pass_33 : decode cX6_pass 33 = .ok (.goto 20, 3) := by decide +kernel
theorem dX6_pass_36 : decode cX6_pass 36 = .ok (.aload_n 0, 1) := by decide +kernel
theorem dX6_pass_37 : decode cX6_pass 37 = .ok (.getfield 32, 3) := by decide +kernel
theorem dX6_pass_40 : decode cX6_pass 40 = .ok (.iload_n 1, 1) := by decide +kernel
theorem dX6_pass_41 : decode cX6_pass 41 = .ok (.iconst 3, 1) := by decide +kernel
theorem dX6_pass_42 : decode cX6_pass 42 = .ok (.iastore, 1) := by decide +kernel
theorem dX6_pass_43 : decode cX6_pass 43 = .ok (.aload_n 0, 1) := by decide +kernel
theorem dX6_pass_44 : decode cX6_pass 44 = .ok (.getfield 35, 3) := by decide +kernel
theorem dX6_pass_47 : decode cX6_pass 47 = .ok (.iload_n 1, 1) := by decide +kernel
theorem dX6_pass_48 : decode cX6_pass 48 = .ok (.dup2, 1) := by decide +kernel
theorem dX6_pass_49 : decode cX6_pass 49 = .ok (.iaload, 1) := by decide +kernel
theorem dX6_pass_50 : decode cX6_pass 50 = .ok (.iconst 1, 1) := by decide +kernel
theorem dX6_pass_51 : decode cX6_pass 51 = .ok (.iadd, 1) := by decide +kernel
theorem dX6_pass_52 : decode cX6_pass 52 = .ok (.iastore, 1) := by decide +kernel
theorem dX6_pass_53 : decode cX6_pass 53 = .ok (.iinc 1 1, 3) := by decide +kernel
theorem dX6_pass_56 : decode cX6_pass 56 = .ok (.goto (-54), 3) := by decide +kernel
theorem dX6_pass_59 : decode cX6_pass 59 = .ok (.iconst 0, 1) := by decide +kernel
theorem dX6_pass_60 : decode cX6_pass 60 = .ok (.istore_n 1, 1) := by decide +kernel
theorem dX6_pass_61 : decode cX6_pass 61 = .ok (.iload_n 1, 1) := by decide +kernel
theorem dX6_pass_62 : decode cX6_pass 62 = .ok (.aload_n 0, 1) := by decide +kernel
theorem dX6_pass_63 : decode cX6_pass 63 = .ok (.getfield 3, 3) := by decide +kernel
theorem dX6_pass_66 : decode cX6_pass 66 = .ok (.getfield 100, 3) := by decide +kernel
theorem dX6_pass_69 : decode cX6_pass 69 = .ok (.if_icmp .ge 14, 3) := by decide +kernel
theorem dX6_pass_72 : decode cX6_pass 72 = .ok (.aload_n 0, 1) := by decide +kernel
theorem dX6_pass_73 : decode cX6_pass 73 = .ok (.iload_n 1, 1) := by decide +kernel
theorem dX6_pass_74 : decode cX6_pass 74 = .ok (.invokevirtual 118, 3) := by decide +kernel
theorem dX6_pass_77 : decode cX6_pass 77 = .ok (.iinc 1 1, 3) := by decide +kernel
theorem dX6_pass_80 : decode cX6_pass 80 = .ok (.goto (-19), 3) := by decide +kernel
theorem dX6_pass_83 : decode cX6_pass 83 = .ok (.iconst 0, 1) := by decide +kernel
theorem dX6_pass_84 : decode cX6_pass 84 = .ok (.istore_n 1, 1) := by decide +kernel
theorem dX6_pass_85 : decode cX6_pass 85 = .ok (.iload_n 1, 1) := by decide +kernel
theorem dX6_pass_86 : decode cX6_pass 86 = .ok (.aload_n 0, 1) := by decide +kernel
theorem dX6_pass_87 : decode cX6_pass 87 = .ok (.getfield 3, 3) := by decide +kernel
theorem dX6_pass_90 : decode cX6_pass 90 = .ok (.getfield 100, 3) := by decide +kernel
theorem dX6_pass_93 : decode cX6_pass 93 = .ok (.if_icmp .ge 14, 3) := by decide +kernel
theorem dX6_pass_96 : decode cX6_pass 96 = .ok (.aload_n 0, 1) := by decide +kernel
theorem dX6_pass_97 : decode cX6_pass 97 = .ok (.iload_n 1, 1) := by decide +kernel
theorem dX6_pass_98 : decode cX6_pass 98 = .ok (.invokevirtual 122, 3) := by decide +kernel
theorem dX6_pass_101 : decode cX6_pass 101 = .ok (.iinc 1 1, 3) := by decide +kernel
theorem dX6_pass_104 : decode cX6_pass 104 = .ok (.goto (-19), 3) := by decide +kernel
theorem dX6_pass_107 : decode cX6_pass 107 = .ok (.iconst 0, 1) := by decide +kernel
theorem dX6_pass_108 : decode cX6_pass 108 = .ok (.istore_n 1, 1) := by decide +kernel
theorem dX6_pass_109 : decode cX6_pass 109 = .ok (.iload_n 1, 1) := by decide +kernel
theorem dX6_pass_110 : decode cX6_pass 110 = .ok (.aload_n 0, 1) := by decide +kernel
theorem dX6_pass_111 : decode cX6_pass 111 = .ok (.getfield 3, 3) := by decide +kernel
theorem dX6_pass_114 : decode cX6_pass 114 = .ok (.getfield 100, 3) := by decide +kernel
theorem dX6_pass_117 : decode cX6_pass 117 = .ok (.if_icmp .ge 14, 3) := by decide +kernel
theorem dX6_pass_120 : decode cX6_pass 120 = .ok (.aload_n 0, 1) := by decide +kernel
theorem dX6_pass_121 : decode cX6_pass 121 = .ok (.iload_n 1, 1) := by decide +kernel
theorem dX6_pass_122 : decode cX6_pass 122 = .ok (.invokevirtual 125, 3) := by decide +kernel
theorem dX6_pass_125 : decode cX6_pass 125 = .ok (.iinc 1 1, 3) := by decide +kernel
theorem dX6_pass_128 : decode cX6_pass 128 = .ok (.goto (-19), 3) := by decide +kernel
theorem dX6_pass_131 : decode cX6_pass 131 = .ok (.iconst 0, 1) := by decide +kernel
theorem dX6_pass_132 : decode cX6_pass 132 = .ok (.istore_n 1, 1) := by decide +kernel
theorem dX6_pass_133 : decode cX6_pass 133 = .ok (.iload_n 1, 1) := by decide +kernel
theorem dX6_pass_134 : decode cX6_pass 134 = .ok (.aload_n 0, 1) := by decide +kernel
theorem dX6_pass_135 : decode cX6_pass 135 = .ok (.getfield 3, 3) := by decide +kernel
theorem dX6_pass_138 : decode cX6_pass 138 = .ok (.getfield 85, 3) := by decide +kernel
theorem dX6_pass_141 : decode cX6_pass 141 = .ok (.if_icmp .ge 39, 3) := by decide +kernel
theorem dX6_pass_144 : decode cX6_pass 144 = .ok (.aload_n 0, 1) := by decide +kernel
theorem dX6_pass_145 : decode cX6_pass 145 = .ok (.getfield 68, 3) := by decide +kernel
theorem dX6_pass_148 : decode cX6_pass 148 = .ok (.iload_n 1, 1) := by decide +kernel
theorem dX6_pass_149 : decode cX6_pass 149 = .ok (.iconst 2, 1) := by decide +kernel
theorem dX6_pass_150 : decode cX6_pass 150 = .ok (.iadd, 1) := by decide +kernel
theorem dX6_pass_151 : decode cX6_pass 151 = .ok (.irem, 1) := by decide +kernel
theorem dX6_pass_152 : decode cX6_pass 152 = .ok (.ifCond .ne 22, 3) := by decide +kernel
theorem dX6_pass_155 : decode cX6_pass 155 = .ok (.aload_n 0, 1) := by decide +kernel
theorem dX6_pass_156 : decode cX6_pass 156 = .ok (.getfield 19, 3) := by decide +kernel
theorem dX6_pass_159 : decode cX6_pass 159 = .ok (.iload_n 1, 1) := by decide +kernel
theorem dX6_pass_160 : decode cX6_pass 160 = .ok (.bipush 99, 2) := by decide +kernel
theorem dX6_pass_162 : decode cX6_pass 162 = .ok (.aload_n 0, 1) := by decide +kernel
theorem dX6_pass_163 : decode cX6_pass 163 = .ok (.getfield 19, 3) := by decide +kernel
theorem dX6_pass_166 : decode cX6_pass 166 = .ok (.iload_n 1, 1) := by decide +kernel
theorem dX6_pass_167 : decode cX6_pass 167 = .ok (.iaload, 1) := by decide +kernel
theorem dX6_pass_168 : decode cX6_pass 168 = .ok (.iconst 1, 1) := by decide +kernel
theorem dX6_pass_169 : decode cX6_pass 169 = .ok (.iadd, 1) := by decide +kernel
theorem dX6_pass_170 : decode cX6_pass 170 = .ok (.invokestatic 109, 3) := by decide +kernel
theorem dX6_pass_173 : decode cX6_pass 173 = .ok (.iastore, 1) := by decide +kernel
theorem dX6_pass_174 : decode cX6_pass 174 = .ok (.iinc 1 1, 3) := by decide +kernel
theorem dX6_pass_177 : decode cX6_pass 177 = .ok (.goto (-44), 3) := by decide +kernel
theorem dX6_pass_180 : decode cX6_pass 180 = .ok (.iconst 0, 1) := by decide +kernel
theorem dX6_pass_181 : decode cX6_pass 181 = .ok (.istore_n 1, 1) := by decide +kernel
theorem dX6_pass_182 : decode cX6_pass 182 = .ok (.iload_n 1, 1) := by decide +kernel
theorem dX6_pass_183 : decode cX6_pass 183 = .ok (.aload_n 0, 1) := by decide +kernel
theorem dX6_pass_184 : decode cX6_pass 184 = .ok (.getfield 15, 3) := by decide +kernel
theorem dX6_pass_187 : decode cX6_pass 187 = .ok (.if_icmp .ge 27, 3) := by decide +kernel
theorem dX6_pass_190 : decode cX6_pass 190 = .ok (.aload_n 0, 1) := by decide +kernel
theorem dX6_pass_191 : decode cX6_pass 191 = .ok (.getfield 32, 3) := by decide +kernel
theorem dX6_pass_194 : decode cX6_pass 194 = .ok (.iload_n 1, 1) := by decide +kernel
theorem dX6_pass_195 : decode cX6_pass 195 = .ok (.iconst 0, 1) := by decide +kernel
theorem dX6_pass_196 : decode cX6_pass 196 = .ok (.aload_n 0, 1) := by decide +kernel
theorem dX6_pass_197 : decode cX6_pass 197 = .ok (.getfield 32, 3) := by decide +kernel
theorem dX6_pass_200 : decode cX6_pass 200 = .ok (.iload_n 1, 1) := by decide +kernel
theorem dX6_pass_201 : decode cX6_pass 201 = .ok (.iaload, 1) := by decide +kernel
theorem dX6_pass_202 : decode cX6_pass 202 = .ok (.iconst 1, 1) := by decide +kernel
theorem dX6_pass_203 : decode cX6_pass 203 = .ok (.isub, 1) := by decide +kernel
theorem dX6_pass_204 : decode cX6_pass 204 = .ok (.invokestatic 94, 3) := by decide +kernel
theorem dX6_pass_207 : decode cX6_pass 207 = .ok (.iastore, 1) := by decide +kernel
theorem dX6_pass_208 : decode cX6_pass 208 = .ok (.iinc 1 1, 3) := by decide +kernel
theorem dX6_pass_211 : decode cX6_pass 211 = .ok (.goto (-29), 3) := by decide +kernel
theorem dX6_pass_214 : decode cX6_pass 214 = .ok (.aload_n 0, 1) := by decide +kernel
theorem dX6_pass_215 : decode cX6_pass 215 = .ok (.dup, 1) := by decide +kernel
theorem dX6_pass_216 : decode cX6_pass 216 = .ok (.getfield 68, 3) := by decide +kernel
theorem dX6_pass_219 : decode cX6_pass 219 = .ok (.iconst 1, 1) := by decide +kernel
theorem dX6_pass_220 : decode cX6_pass 220 = .ok (.iadd, 1) := by decide +kernel
theorem dX6_pass_221 : decode cX6_pass 221 = .ok (.putfield 68, 3) := by decide +kernel
theorem dX6_pass_224 : decode cX6_pass 224 = .ok (.return_, 1) := by decide +kernel
theorem dX6_waiting_0 : decode cX6_waiting 0 = .ok (.iconst 0, 1) := by decide +kernel
theorem dX6_waiting_1 : decode cX6_waiting 1 = .ok (.istore_n 1, 1) := by decide +kernel
theorem dX6_waiting_2 : decode cX6_waiting 2 = .ok (.iconst 0, 1) := by decide +kernel
theorem dX6_waiting_3 : decode cX6_waiting 3 = .ok (.istore_n 2, 1) := by decide +kernel
theorem dX6_waiting_4 : decode cX6_waiting 4 = .ok (.iload_n 2, 1) := by decide +kernel
theorem dX6_waiting_5 : decode cX6_waiting 5 = .ok (.aload_n 0, 1) := by decide +kernel
theorem dX6_waiting_6 : decode cX6_waiting 6 = .ok (.getfield 3, 3) := by decide +kernel
theorem dX6_waiting_9 : decode cX6_waiting 9 = .ok (.getfield 85, 3) := by decide +kernel
theorem dX6_waiting_12 : decode cX6_waiting 12 = .ok (.if_icmp .ge 18, 3) := by decide +kernel
theorem dX6_waiting_15 : decode cX6_waiting 15 = .ok (.iload_n 1, 1) := by decide +kernel
theorem dX6_waiting_16 : decode cX6_waiting 16 = .ok (.aload_n 0, 1) := by decide +kernel
theorem dX6_waiting_17 : decode cX6_waiting 17 = .ok (.getfield 19, 3) := by decide +kernel
theorem dX6_waiting_20 : decode cX6_waiting 20 = .ok (.iload_n 2, 1) := by decide +kernel
theorem dX6_waiting_21 : decode cX6_waiting 21 = .ok (.iaload, 1) := by decide +kernel
theorem dX6_waiting_22 : decode cX6_waiting 22 = .ok (.iadd, 1) := by decide +kernel
theorem dX6_waiting_23 : decode cX6_waiting 23 = .ok (.istore_n 1, 1) := by decide +kernel
theorem dX6_waiting_24 : decode cX6_waiting 24 = .ok (.iinc 2 1, 3) := by decide +kernel
theorem dX6_waiting_27 : decode cX6_waiting 27 = .ok (.goto (-23), 3) := by decide +kernel
theorem dX6_waiting_30 : decode cX6_waiting 30 = .ok (.iload_n 1, 1) := by decide +kernel
theorem dX6_waiting_31 : decode cX6_waiting 31 = .ok (.ireturn, 1) := by decide +kernel
theorem dX6_brokenOnes_0 : decode cX6_brokenOnes 0 = .ok (.iconst 0, 1) := by decide +kernel
theorem dX6_brokenOnes_1 : decode cX6_brokenOnes 1 = .ok (.istore_n 1, 1) := by decide +kernel
theorem dX6_brokenOnes_2 : decode cX6_brokenOnes 2 = .ok (.iconst 0, 1) := by decide +kernel
theorem dX6_brokenOnes_3 : decode cX6_brokenOnes 3 = .ok (.istore_n 2, 1) := by decide +kernel
theorem dX6_brokenOnes_4 : decode cX6_brokenOnes 4 = .ok (.iload_n 2, 1) := by decide +kernel
theorem dX6_brokenOnes_5 : decode cX6_brokenOnes 5 = .ok (.aload_n 0, 1) := by decide +kernel
theorem dX6_brokenOnes_6 : decode cX6_brokenOnes 6 = .ok (.getfield 3, 3) := by decide +kernel
theorem dX6_brokenOnes_9 : decode cX6_brokenOnes 9 = .ok (.getfield 100, 3) := by decide +kernel
theorem dX6_brokenOnes_12 : decode cX6_brokenOnes 12 = .ok (.if_icmp .ge 18, 3) := by decide +kernel
theorem dX6_brokenOnes_15 : decode cX6_brokenOnes 15 = .ok (.iload_n 1, 1) := by decide +kernel
theorem dX6_brokenOnes_16 : decode cX6_brokenOnes 16 = .ok (.aload_n 0, 1) := by decide +kernel
theorem dX6_brokenOnes_17 : decode cX6_brokenOnes 17 = .ok (.getfield 50, 3) := by decide +kernel
theorem dX6_brokenOnes_20 : decode cX6_brokenOnes 20 = .ok (.iload_n 2, 1) := by decide +kernel
theorem dX6_brokenOnes_21 : decode cX6_brokenOnes 21 = .ok (.iaload, 1) := by decide +kernel
theorem dX6_brokenOnes_22 : decode cX6_brokenOnes 22 = .ok (.iadd, 1) := by decide +kernel
theorem dX6_brokenOnes_23 : decode cX6_brokenOnes 23 = .ok (.istore_n 1, 1) := by decide +kernel
theorem dX6_brokenOnes_24 : decode cX6_brokenOnes 24 = .ok (.iinc 2 1, 3) := by decide +kernel
theorem dX6_brokenOnes_27 : decode cX6_brokenOnes 27 = .ok (.goto (-23), 3) := by decide +kernel
theorem dX6_brokenOnes_30 : decode cX6_brokenOnes 30 = .ok (.iload_n 1, 1) := by decide +kernel
theorem dX6_brokenOnes_31 : decode cX6_brokenOnes 31 = .ok (.ireturn, 1) := by decide +kernel
