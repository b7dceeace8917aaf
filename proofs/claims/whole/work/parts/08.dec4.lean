theorem dX4_init_0 : decode cX4_init 0 = .ok (.aload_n 0, 1) := by decide +kernel
theorem dX4_init_1 : decode cX4_init 1 = .ok (.invokespecial 1, 3) := by decide +kernel
theorem dX4_init_4 : decode cX4_init 4 = .ok (.aload_n 0, 1) := by decide +kernel
theorem dX4_init_5 : decode cX4_init 5 = .ok (.bipush 10, 2) := by decide +kernel
theorem dX4_init_7 : decode cX4_init 7 = .ok (.putfield 7, 3) := by decide +kernel
theorem dX4_init_10 : decode cX4_init 10 = .ok (.aload_n 0, 1) := by decide +kernel
theorem dX4_init_11 : decode cX4_init 11 = .ok (.sipush 600, 3) := by decide +kernel
theorem dX4_init_14 : decode cX4_init 14 = .ok (.putfield 13, 3) := by decide +kernel
theorem dX4_init_17 : decode cX4_init 17 = .ok (.aload_n 0, 1) := by decide +kernel
theorem dX4_init_18 : decode cX4_init 18 = .ok (.iconst 2, 1) := by decide +kernel
theorem dX4_init_19 : decode cX4_init 19 = .ok (.putfield 16, 3) := by decide +kernel
theorem dX4_init_22 : decode cX4_init 22 = .ok (.aload_n 0, 1) := by decide +kernel
theorem dX4_init_23 : decode cX4_init 23 = .ok (.iconst 1, 1) := by decide +kernel
theorem dX4_init_24 : decode cX4_init 24 = .ok (.putfield 19, 3) := by decide +kernel
theorem dX4_init_27 : decode cX4_init 27 = .ok (.aload_n 0, 1) := by decide +kernel
theorem dX4_init_28 : decode cX4_init 28 = .ok (.iconst 2, 1) := by decide +kernel
theorem dX4_init_29 : decode cX4_init 29 = .ok (.newarray .int, 2) := by decide +kernel
theorem dX4_init_31 : decode cX4_init 31 = .ok (.dup, 1) := by decide +kernel
theorem dX4_init_32 : decode cX4_init 32 = .ok (.iconst 0, 1) := by decide +kernel
theorem dX4_init_33 : decode cX4_init 33 = .ok (.iconst 0, 1) := by decide +kernel
theorem dX4_init_34 : decode cX4_init 34 = .ok (.iastore, 1) := by decide +kernel
theorem dX4_init_35 : decode cX4_init 35 = .ok (.dup, 1) := by decide +kernel
theorem dX4_init_36 : decode cX4_init 36 = .ok (.iconst 1, 1) := by decide +kernel
theorem dX4_init_37 : decode cX4_init 37 = .ok (.iconst 0, 1) := by decide +kernel
theorem dX4_init_38 : decode cX4_init 38 = .ok (.iastore, 1) := by decide +kernel
theorem dX4_init_39 : decode cX4_init 39 = .ok (.putfield 22, 3) := by decide +kernel
theorem dX4_init_42 : decode cX4_init 42 = .ok (.aload_n 0, 1) := by decide +kernel
theorem dX4_init_43 : decode cX4_init 43 = .ok (.bipush 16, 2) := by decide +kernel
theorem dX4_init_45 : decode cX4_init 45 = .ok (.newarray .int, 2) := by decide +kernel
theorem dX4_init_47 : decode cX4_init 47 = .ok (.putfield 26, 3) := by decide +kernel
theorem dX4_init_50 : decode cX4_init 50 = .ok (.aload_n 0, 1) := by decide +kernel
theorem dX4_init_51 : decode cX4_init 51 = .ok (.bipush 16, 2) := by decide +kernel
theorem dX4_init_53 : decode cX4_init 53 = .ok (.newarray .int, 2) := by decide +kernel
theorem dX4_init_55 : decode cX4_init 55 = .ok (.putfield 29, 3) := by decide +kernel
theorem dX4_init_58 : decode cX4_init 58 = .ok (.aload_n 0, 1) := by decide +kernel
theorem dX4_init_59 : decode cX4_init 59 = .ok (.bipush 8, 2) := by decide +kernel
theorem dX4_init_61 : decode cX4_init 61 = .ok (.newarray .int, 2) := by decide +kernel
theorem dX4_init_63 : decode cX4_init 63 = .ok (.putfield 32, 3) := by decide +kernel
theorem dX4_init_66 : decode cX4_init 66 = .ok (.aload_n 0, 1) := by decide +kernel
theorem dX4_init_67 : decode cX4_init 67 = .ok (.bipush 8, 2) := by decide +kernel
theorem dX4_init_69 : decode cX4_init 69 = .ok (.newarray .int, 2) := by decide +kernel
theorem dX4_init_71 : decode cX4_init 71 = .ok (.putfield 35, 3) := by decide +kernel
theorem dX4_init_74 : decode cX4_init 74 = .ok (.aload_n 0, 1) := by decide +kernel
theorem dX4_init_75 : decode cX4_init 75 = .ok (.bipush 8, 2) := by decide +kernel
theorem dX4_init_77 : decode cX4_init 77 = .ok (.newarray .int, 2) := by decide +kernel
theorem dX4_init_79 : decode cX4_init 79 = .ok (.putfield 38, 3) := by decide +kernel
theorem dX4_init_82 : decode cX4_init 82 = .ok (.aload_n 0, 1) := by decide +kernel
theorem dX4_init_83 : decode cX4_init 83 = .ok (.bipush 8, 2) := by decide +kernel
theorem dX4_init_85 : decode cX4_init 85 = .ok (.newarray .boolean, 2) := by decide +kernel
theorem dX4_init_87 : decode cX4_init 87 = .ok (.putfield 41, 3) := by decide +kernel
theorem dX4_init_90 : decode cX4_init 90 = .ok (.aload_n 0, 1) := by decide +kernel
theorem dX4_init_91 : decode cX4_init 91 = .ok (.bipush 8, 2) := by decide +kernel
theorem dX4_init_93 : decode cX4_init 93 = .ok (.newarray .boolean, 2) := by decide +kernel
theorem dX4_init_95 : decode cX4_init 95 = .ok (.putfield 45, 3) := by decide +kernel
theorem dX4_init_98 : decode cX4_init 98 = .ok (.aload_n 0, 1) := by decide +kernel
theorem dX4_init_99 : decode cX4_init 99 = .ok (.bipush 8, 2) := by decide +kernel
theorem dX4_init_101 : decode cX4_init 101 = .ok (.newarray .int, 2) := by decide +kernel
theorem dX4_init_103 : decode cX4_init 103 = .ok (.putfield 48, 3) := by decide +kernel
theorem dX4_init_106 : decode cX4_init 106 = .ok (.aload_n 0, 1) := by decide +kernel
theorem dX4_init_107 : decode cX4_init 107 = .ok (.bipush 100, 2) := by decide +kernel
theorem dX4_init_109 : decode cX4_init 109 = .ok (.newarray .int, 2) := by decide +kernel
theorem dX4_init_111 : decode cX4_init 111 = .ok (.putfield 51, 3) := by decide +kernel
theorem dX4_init_114 : decode cX4_init 114 = .ok (.aload_n 0, 1) := by decide +kernel
theorem dX4_init_115 : decode cX4_init 115 = .ok (.bipush 100, 2) := by decide +kernel
theorem dX4_init_117 : decode cX4_init 117 = .ok (.newarray .int, 2) := by decide +kernel
theorem dX4_init_119 : decode cX4_init 119 = .ok (.putfield 54, 3) := by decide +kernel
theorem dX4_init_122 : decode cX4_init 122 = .ok (.aload_n 0, 1) := by decide +kernel
theorem dX4_init_123 : decode cX4_init 123 = .ok (.bipush 100, 2) := by decide +kernel
theorem dX4_init_125 : decode cX4_init 125 = .ok (.newarray .int, 2) := by decide +kernel
theorem dX4_init_127 : decode cX4_init 127 = .ok (.putfield 57, 3) := by decide +kernel
theorem dX4_init_130 : decode cX4_init 130 = .ok (.aload_n 0, 1) := by decide +kernel
theorem dX4_init_131 : decode cX4_init 131 = .ok (.bipush 100, 2) := by decide +kernel
theorem dX4_init_133 : decode cX4_init 133 = .ok (.newarray .int, 2) := by decide +kernel
theorem dX4_init_135 : decode cX4_init 135 = .ok (.putfield 60, 3) := by decide +kernel
theorem dX4_init_138 : decode cX4_init 138 = .ok (.aload_n 0, 1) := by decide +kernel
theorem dX4_init_139 : decode cX4_init 139 = .ok (.bipush 100, 2) := by decide +kernel
theorem dX4_init_141 : decode cX4_init 141 = .ok (.newarray .int, 2) := by decide +kernel
theorem dX4_init_143 : decode cX4_init 143 = .ok (.putfield 63, 3) := by decide +kernel
theorem dX4_init_146 : decode cX4_init 146 = .ok (.aload_n 0, 1) := by decide +kernel
theorem dX4_init_147 : decode cX4_init 147 = .ok (.bipush 100, 2) := by decide +kernel
theorem dX4_init_149 : decode cX4_init 149 = .ok (.newarray .int, 2) := by decide +kernel
theorem dX4_init_151 : decode cX4_init 151 = .ok (.putfield 66, 3) := by decide +kernel
theorem dX4_init_154 : decode cX4_init 154 = .ok (.aload_n 0, 1) := by decide +kernel
theorem dX4_init_155 : decode cX4_init 155 = .ok (.bipush 100, 2) := by decide +kernel
theorem dX4_init_157 : decode cX4_init 157 = .ok (.newarray .int, 2) := by decide +kernel
theorem dX4_init_159 : decode cX4_init 159 = .ok (.putfield 69, 3) := by decide +kernel
theorem dX4_init_162 : decode cX4_init 162 = .ok (.aload_n 0, 1) := by decide +kernel
theorem dX4_init_163 : decode cX4_init 163 = .ok (.bipush 100, 2) := by decide +kernel
theorem dX4_init_165 : decode cX4_init 165 = .ok (.newarray .int, 2) := by decide +kernel
theorem dX4_init_167 : decode cX4_init 167 = .ok (.putfield 72, 3) := by decide +kernel
theorem dX4_init_170 : decode cX4_init 170 = .ok (.aload_n 0, 1) := by decide +kernel
theorem dX4_init_171 : decode cX4_init 171 = .ok (.bipush 100, 2) := by decide +kernel
theorem dX4_init_173 : decode cX4_init 173 = .ok (.newarray .int, 2) := by decide +kernel
theorem dX4_init_175 : decode cX4_init 175 = .ok (.putfield 75, 3) := by decide +kernel
theorem dX4_init_178 : decode cX4_init 178 = .ok (.return_, 1) := by decide +kernel
theorem dX4_thrown_0 : decode cX4_thrown 0 = .ok (.aload_n 0, 1) := by decide +kernel
theorem dX4_thrown_1 : decode cX4_thrown 1 = .ok (.getfield 78, 3) := by decide +kernel
theorem dX4_thrown_4 : decode cX4_thrown 4 = .ok (.ireturn, 1) := by decide +kernel
theorem dX4_no_0 : decode cX4_no 0 = .ok (.aload_n 0, 1) := by decide +kernel
theorem dX4_no_1 : decode cX4_no 1 = .ok (.iload_n 1, 1) := by decide +kernel
theorem dX4_no_2 : decode cX4_no 2 = .ok (.putfield 78, 3) := by decide +kernel
theorem dX4_no_5 : decode cX4_no 5 = .ok (.iconst 0, 1) := by decide +kernel
theorem dX4_no_6 : decode cX4_no 6 = .ok (.ireturn, 1) := by decide +kernel
theorem dX4_isIn_0 : decode cX4_isIn 0 = .ok (.iload_n 0, 1) := by decide +kernel
theorem dX4_isIn_1 : decode cX4_isIn 1 = .ok (.iload_n 1, 1) := by decide +kernel
theorem dX4_isIn_2 : decode cX4_isIn 2 = .ok (.if_icmp .lt 12, 3) := by decide +kernel
theorem dX4_isIn_5 : decode cX4_isIn 5 = .ok (.iload_n 0, 1) := by decide +kernel
theorem dX4_isIn_6 : decode cX4_isIn 6 = .ok (.iload_n 2, 1) := by decide +kernel
theorem dX4_isIn_7 : decode cX4_isIn 7 = .ok (.if_icmp .gt 7, 3) := by decide +kernel
theorem dX4_isIn_10 : decode cX4_isIn 10 = .ok (.iconst 1, 1) := by decide +kernel
theorem dX4_isIn_11 : decode cX4_isIn 11 = .ok (.goto 4, 3) := by decide +kernel
theorem dX4_isIn_14 : decode cX4_isIn 14 = .ok (.iconst 0, 1) := by decide +kernel
theorem dX4_isIn_15 : decode cX4_isIn 15 = .ok (.ireturn, 1) := by decide +kernel
theorem dX4_isMember_0 : decode cX4_isMember 0 = .ok (.iload_n 1, 1) := by decide +kernel
theorem dX4_isMember_1 : decode cX4_isMember 1 = .ok (.iconst 0, 1) := by decide +kernel
theorem dX4_isMember_2 : decode cX4_isMember 2 = .ok (.aload_n 0, 1) := by decide +kernel
theorem dX4_isMember_3 : decode cX4_isMember 3 = .ok (.getfield 81, 3) := by decide +kernel
theorem dX4_isMember_6 : decode cX4_isMember 6 = .ok (.iconst 1, 1) := by decide +kernel
theorem dX4_isMember_7 : decode cX4_isMember 7 = .ok (.isub, 1) := by decide +kernel
theorem dX4_isMember_8 : decode cX4_isMember 8 = .ok (.invokestatic 84, 3) := by decide +kernel
theorem dX4_isMember_11 : decode cX4_isMember 11 = .ok (.ireturn, 1) := by decide +kernel
theorem dX4_isGlider_0 : decode cX4_isGlider 0 = .ok (.iload_n 1, 1) := by decide +kernel
theorem dX4_isGlider_1 : decode cX4_isGlider 1 = .ok (.iconst 0, 1) := by decide +kernel
theorem dX4_isGlider_2 : decode cX4_isGlider 2 = .ok (.aload_n 0, 1) := by decide +kernel
theorem dX4_isGlider_3 : decode cX4_isGlider 3 = .ok (.getfield 88, 3) := by decide +kernel
theorem dX4_isGlider_6 : decode cX4_isGlider 6 = .ok (.iconst 1, 1) := by decide +kernel
theorem dX4_isGlider_7 : decode cX4_isGlider 7 = .ok (.isub, 1) := by decide +kernel
theorem dX4_isGlider_8 : decode cX4_isGlider 8 = .ok (.invokestatic 84, 3) := by decide +kernel
theorem dX4_isGlider_11 : decode cX4_isGlider 11 = .ok (.ireturn, 1) := by decide +kernel
theorem dX4_isFlight_0 : decode cX4_isFlight 0 = .ok (.iload_n 1, 1) := by decide +kernel
theorem dX4_isFlight_1 : decode cX4_isFlight 1 = .ok (.iconst 0, 1) := by decide +kernel
theorem dX4_isFlight_2 : decode cX4_isFlight 2 = .ok (.aload_n 0, 1) := by decide +kernel
theorem dX4_isFlight_3 : decode cX4_isFlight 3 = .ok (.getfield 91, 3) := by decide +kernel
theorem dX4_isFlight_6 : decode cX4_isFlight 6 = .ok (.iconst 1, 1) := by decide +kernel
theorem dX4_isFlight_7 : decode cX4_isFlight 7 = .ok (.isub, 1) := by decide +kernel
theorem dX4_isFlight_8 : decode cX4_isFlight 8 = .ok (.invokestatic 84, 3) := by decide +kernel
theorem dX4_isFlight_11 : decode cX4_isFlight 11 = .ok (.ireturn, 1) := by decide +kernel
theorem dX4_addMember_0 : decode cX4_addMember 0 = .ok (.aload_n 0, 1) := by decide +kernel
theorem dX4_addMember_1 : decode cX4_addMember 1 = .ok (.iconst 0, 1) := by decide +kernel
theorem dX4_addMember_2 : decode cX4_addMember 2 = .ok (.putfield 78, 3) := by decide +kernel
theorem dX4_addMember_5 : decode cX4_addMember 5 = .ok (.iload_n 1, 1) := by decide +kernel
theorem dX4_addMember_6 : decode cX4_addMember 6 = .ok (.iconst 0, 1) := by decide +kernel
theorem dX4_addMember_7 : decode cX4_addMember 7 = .ok (.iconst 3, 1) := by decide +kernel
theorem dX4_addMember_8 : decode cX4_addMember 8 = .ok (.invokestatic 84, 3) := by decide +kernel
theorem dX4_addMember_11 : decode cX4_addMember 11 = .ok (.ifCond .ne 9, 3) := by decide +kernel
theorem dX4_addMember_14 : decode cX4_addMember 14 = .ok (.aload_n 0, 1) := by decide +kernel
theorem dX4_addMember_15 : decode cX4_addMember 15 = .ok (.iconst 1, 1) := by decide +kernel
theorem dX4_addMember_16 : decode cX4_addMember 16 = .ok (.invokevirtual 94, 3) := by decide +kernel
theorem dX4_addMember_19 : decode cX4_addMember 19 = .ok (.ireturn, 1) := by decide +kernel
theorem dX4_addMember_20 : decode cX4_addMember 20 = .ok (.aload_n 0, 1) := by decide +kernel
theorem dX4_addMember_21 : decode cX4_addMember 21 = .ok (.getfield 81, 3) := by decide +kernel
theorem dX4_addMember_24 : decode cX4_addMember 24 = .ok (.bipush 16, 2) := by decide +kernel
theorem dX4_addMember_26 : decode cX4_addMember 26 = .ok (.if_icmp .ne 9, 3) := by decide +kernel
theorem dX4_addMember_29 : decode cX4_addMember 29 = .ok (.aload_n 0, 1) := by decide +kernel
theorem dX4_addMember_30 : decode cX4_addMember 30 = .ok (.iconst 2, 1) := by decide +kernel
theorem dX4_addMember_31 : decode cX4_addMember 31 = .ok (.invokevirtual 94, 3) := by decide +kernel
theorem dX4_addMember_34 : decode cX4_addMember 34 = .ok (.ireturn, 1) := by decide +kernel
theorem dX4_addMember_35 : decode cX4_addMember 35 = .ok (.aload_n 0, 1) := by decide +kernel
theorem dX4_addMember_36 : decode cX4_addMember 36 = .ok (.getfield 26, 3) := by decide +kernel
theorem dX4_addMember_39 : decode cX4_addMember 39 = .ok (.aload_n 0, 1) := by decide +kernel
theorem dX4_addMember_40 : decode cX4_addMember 40 = .ok (.getfield 81, 3) := by decide +kernel
theorem dX4_addMember_43 : decode cX4_addMember 43 = .ok (.iload_n 1, 1) := by decide +kernel
theorem dX4_addMember_44 : decode cX4_addMember 44 = .ok (.iastore, 1) := by decide +kernel
theorem dX4_addMember_45 : decode cX4_addMember 45 = .ok (.aload_n 0, 1) := by decide +kernel
theorem dX4_addMember_46 : decode cX4_addMember 46 = .ok (.dup, 1) := by decide +kernel
theorem dX4_addMember_47 : decode cX4_addMember 47 = .ok (.getfield 81, 3) := by decide +kernel
theorem dX4_addMember_50 : decode cX4_addMember 50 = .ok (.iconst 1, 1) := by decide +kernel
theorem dX4_addMember_51 : decode cX4_addMember 51 = .ok (.iadd, 1) := by decide +kernel
theorem dX4_addMember_52 : decode cX4_addMember 52 = .ok (.putfield 81, 3) := by decide +kernel
theorem dX4_addMember_55 : decode cX4_addMember 55 = .ok (.aload_n 0, 1) := by decide +kernel
theorem dX4_addMember_56 : decode cX4_addMember 56 = .ok (.getfield 81, 3) := by decide +kernel
theorem dX4_addMember_59 : decode cX4_addMember 59 = .ok (.iconst 1, 1) := by decide +kernel
theorem dX4_addMember_60 : decode cX4_addMember 60 = .ok (.isub, 1) := by decide +kernel
theorem dX4_addMember_61 : decode cX4_addMember 61 = .ok (.ireturn, 1) := by decide +kernel
theorem dX4_addGlider_0 : decode cX4_addGlider 0 = .ok (.aload_n 0, 1) := by decide +kernel
theorem dX4_addGlider_1 : decode cX4_addGlider 1 = .ok (.iconst 0, 1) := by decide +kernel
theorem dX4_addGlider_2 : decode cX4_addGlider 2 = .ok (.putfield 78, 3) := by decide +kernel
theorem dX4_addGlider_5 : decode cX4_addGlider 5 = .ok (.iload_n 1, 1) := by decide +kernel
theorem dX4_addGlider_6 : decode cX4_addGlider 6 = .ok (.iconst 1, 1) := by decide +kernel
theorem dX4_addGlider_7 : decode cX4_addGlider 7 = .ok (.iconst 2, 1) := by decide +kernel
theorem dX4_addGlider_8 : decode cX4_addGlider 8 = .ok (.invokestatic 84, 3) := by decide +kernel
theorem dX4_addGlider_11 : decode cX4_addGlider 11 = .ok (.ifCond .eq 23, 3) := by decide +kernel
theorem dX4_addGlider_14 : decode cX4_addGlider 14 = .ok (.iload_n 2, 1) := by decide +kernel
theorem dX4_addGlider_15 : decode cX4_addGlider 15 = .ok (.iconst 1, 1) := by decide +kernel
theorem dX4_addGlider_16 : decode cX4_addGlider 16 = .ok (.bipush 50, 2) := by decide +kernel
theorem dX4_addGlider_18 : decode cX4_addGlider 18 = .ok (.invokestatic 84, 3) := by decide +kernel
theorem dX4_addGlider_21 : decode cX4_addGlider 21 = .ok (.ifCond .eq 13, 3) := by decide +kernel
theorem dX4_addGlider_24 : decode cX4_addGlider 24 = .ok (.iload_n 3, 1) := by decide +kernel
theorem dX4_addGlider_25 : decode cX4_addGlider 25 = .ok (.iconst 5, 1) := by decide +kernel
theorem dX4_addGlider_26 : decode cX4_addGlider 26 = .ok (.bipush 40, 2) := by decide +kernel
theorem dX4_addGlider_28 : decode cX4_addGlider 28 = .ok (.invokestatic 84, 3) := by decide +kernel
theorem dX4_addGlider_31 : decode cX4_addGlider 31 = .ok (.ifCond .ne 9, 3) := by decide +kernel
theorem dX4_addGlider_34 : decode cX4_addGlider 34 = .ok (.aload_n 0, 1) := by decide +kernel
theorem dX4_addGlider_35 : decode cX4_addGlider 35 = .ok (.iconst 1, 1) := by decide +kernel
theorem dX4_addGlider_36 : decode cX4_addGlider 36 = .ok (.invokevirtual 94, 3) := by decide +kernel
theorem dX4_addGlider_39 : decode cX4_addGlider 39 = .ok (.ireturn, 1) := by decide +kernel
theorem dX4_addGlider_40 : decode cX4_addGlider 40 = .ok (.aload_n 0, 1) := by decide +kernel
theorem dX4_addGlider_41 : decode cX4_addGlider 41 = .ok (.getfield 88, 3) := by decide +kernel
theorem dX4_addGlider_44 : decode cX4_addGlider 44 = .ok (.bipush 8, 2) := by decide +kernel
theorem dX4_addGlider_46 : decode cX4_addGlider 46 = .ok (.if_icmp .ne 9, 3) := by decide +kernel
theorem dX4_addGlider_49 : decode cX4_addGlider 49 = .ok (.aload_n 0, 1) := by decide +kernel
theorem dX4_addGlider_50 : decode cX4_addGlider 50 = .ok (.iconst 2, 1) := by decide +kernel
theorem dX4_addGlider_51 : decode cX4_addGlider 51 = .ok (.invokevirtual 94, 3) := by decide +kernel
theorem dX4_addGlider_54 : decode cX4_addGlider 54 = .ok (.ireturn, 1) := by decide +kernel
theorem dX4_addGlider_55 : decode cX4_addGlider 55 = .ok (.aload_n 0, 1) := by decide +kernel
theorem dX4_addGlider_56 : decode cX4_addGlider 56 = .ok (.getfield 32, 3) := by decide +kernel
theorem dX4_addGlider_59 : decode cX4_addGlider 59 = .ok (.aload_n 0, 1) := by decide +kernel
theorem dX4_addGlider_60 : decode cX4_addGlider 60 = .ok (.getfield 88, 3) := by decide +kernel
theorem dX4_addGlider_63 : decode cX4_addGlider 63 = .ok (.iload_n 1, 1) := by decide +kernel
theorem dX4_addGlider_64 : decode cX4_addGlider 64 = .ok (.iastore, 1) := by decide +kernel
theorem dX4_addGlider_65 : decode cX4_addGlider 65 = .ok (.aload_n 0, 1) := by decide +kernel
theorem dX4_addGlider_66 : decode cX4_addGlider 66 = .ok (.getfield 35, 3) := by decide +kernel
theorem dX4_addGlider_69 : decode cX4_addGlider 69 = .ok (.aload_n 0, 1) := by decide +kernel
theorem dX4_addGlider_70 : decode cX4_addGlider 70 = .ok (.getfield 88, 3) := by decide +kernel
theorem dX4_addGlider_73 : decode cX4_addGlider 73 = .ok (.iload_n 2, 1) := by decide +kernel
theorem dX4_addGlider_74 : decode cX4_addGlider 74 = .ok (.iastore, 1) := by decide +kernel
theorem dX4_addGlider_75 : decode cX4_addGlider 75 = .ok (.aload_n 0, 1) := by decide +kernel
theorem dX4_addGlider_76 : decode cX4_addGlider 76 = .ok (.getfield 38, 3) := by decide +kernel
theorem dX4_addGlider_79 : decode cX4_addGlider 79 = .ok (.aload_n 0, 1) := by decide +kernel
theorem dX4_addGlider_80 : decode cX4_addGlider 80 = .ok (.getfield 88, 3) := by decide +kernel
theorem dX4_addGlider_83 : decode cX4_addGlider 83 = .ok (.iload_n 3, 1) := by decide +kernel
theorem dX4_addGlider_84 : decode cX4_addGlider 84 = .ok (.iastore, 1) := by decide +kernel
theorem dX4_addGlider_85 : decode cX4_addGlider 85 = .ok (.aload_n 0, 1) := by decide +kernel
theorem dX4_addGlider_86 : decode cX4_addGlider 86 = .ok (.dup, 1) := by decide +kernel
theorem dX4_addGlider_87 : decode cX4_addGlider 87 = .ok (.getfield 88, 3) := by decide +kernel
theorem dX4_addGlider_90 : decode cX4_addGlider 90 = .ok (.iconst 1, 1) := by decide +kernel
theorem dX4_addGlider_91 : decode cX4_addGlider 91 = .ok (.iadd, 1) := by decide +kernel
theorem dX4_addGlider_92 : decode cX4_addGlider 92 = .ok (.putfield 88, 3) := by decide +kernel
theorem dX4_addGlider_95 : decode cX4_addGlider 95 = .ok (.aload_n 0, 1) := by decide +kernel
theorem dX4_addGlider_96 : decode cX4_addGlider 96 = .ok (.getfield 88, 3) := by decide +kernel
theorem dX4_addGlider_99 : decode cX4_addGlider 99 = .ok (.iconst 1, 1) := by decide +kernel
theorem dX4_addGlider_100 : decode cX4_addGlider 100 = .ok (.isub, 1) := by decide +kernel
theorem dX4_addGlider_101 : decode cX4_addGlider 101 = .ok (.ireturn, 1) := by decide +kernel
theorem dX4_setWind_0 : decode cX4_setWind 0 = .ok (.aload_n 0, 1) := by decide +kernel
theorem dX4_setWind_1 : decode cX4_setWind 1 = .ok (.iconst 0, 1) := by decide +kernel
theorem dX4_setWind_2 : decode cX4_setWind 2 = .ok (.putfield 78, 3) := by decide +kernel
theorem dX4_setWind_5 : decode cX4_setWind 5 = .ok (.iload_n 1, 1) := by decide +kernel
theorem dX4_setWind_6 : decode cX4_setWind 6 = .ok (.iconst 0, 1) := by decide +kernel
theorem dX4_setWind_7 : decode cX4_setWind 7 = .ok (.bipush 40, 2) := by decide +kernel
theorem dX4_setWind_9 : decode cX4_setWind 9 = .ok (.invokestatic 84, 3) := by decide +kernel
theorem dX4_setWind_12 : decode cX4_setWind 12 = .ok (.ifCond .ne 9, 3) := by decide +kernel
theorem dX4_setWind_15 : decode cX4_setWind 15 = .ok (.aload_n 0, 1) := by decide +kernel
theorem dX4_setWind_16 : decode cX4_setWind 16 = .ok (.iconst 1, 1) := by decide +kernel
theorem dX4_setWind_17 : decode cX4_setWind 17 = .ok (.invokevirtual 94, 3) := by decide +kernel
theorem dX4_setWind_20 : decode cX4_setWind 20 = .ok (.ireturn, 1) := by decide +kernel
theorem dX4_setWind_21 : decode cX4_setWind 21 = .ok (.aload_n 0, 1) := by decide +kernel
theorem dX4_setWind_22 : decode cX4_setWind 22 = .ok (.getfield 7, 3) := by decide +kernel
theorem dX4_setWind_25 : decode cX4_setWind 25 = .ok (.istore_n 2, 1) := by decide +kernel
theorem dX4_setWind_26 : decode cX4_setWind 26 = .ok (.aload_n 0, 1) := by decide +kernel
theorem dX4_setWind_27 : decode cX4_setWind 27 = .ok (.iload_n 1, 1) := by decide +kernel
theorem dX4_setWind_28 : decode cX4_setWind 28 = .ok (.putfield 7, 3) := by decide +kernel
theorem dX4_setWind_31 : decode cX4_setWind 31 = .ok (.iload_n 2, 1) := by decide +kernel
theorem dX4_setWind_32 : decode cX4_setWind 32 = .ok (.ireturn, 1) := by decide +kernel
theorem dX4_setSunset_0 : decode cX4_setSunset 0 = .ok (.aload_n 0, 1) := by decide +kernel
theorem dX4_setSunset_1 : decode cX4_setSunset 1 = .ok (.iconst 0, 1) := by decide +kernel
theorem dX4_setSunset_2 : decode cX4_setSunset 2 = .ok (.putfield 78, 3) := by decide +kernel
theorem dX4_setSunset_5 : decode cX4_setSunset 5 = .ok (.iload_n 1, 1) := by decide +kernel
theorem dX4_setSunset_6 : decode cX4_setSunset 6 = .ok (.iconst 0, 1) := by decide +kernel
theorem dX4_setSunset_7 : decode cX4_setSunset 7 = .ok (.sipush 1500, 3) := by decide +kernel
theorem dX4_setSunset_10 : decode cX4_setSunset 10 = .ok (.invokestatic 84, 3) := by decide +kernel
theorem dX4_setSunset_13 : decode cX4_setSunset 13 = .ok (.ifCond .ne 9, 3) := by decide +kernel
theorem dX4_setSunset_16 : decode cX4_setSunset 16 = .ok (.aload_n 0, 1) := by decide +kernel
theorem dX4_setSunset_17 : decode cX4_setSunset 17 = .ok (.iconst 1, 1) := by decide +kernel
theorem dX4_setSunset_18 : decode cX4_setSunset 18 = .ok (.invokevirtual 94, 3) := by decide +kernel
theorem dX4_setSunset_21 : decode cX4_setSunset 21 = .ok (.ireturn, 1) := by decide +kernel
theorem dX4_setSunset_22 : decode cX4_setSunset 22 = .ok (.aload_n 0, 1) := by decide +kernel
theorem dX4_setSunset_23 : decode cX4_setSunset 23 = .ok (.getfield 13, 3) := by decide +kernel
theorem dX4_setSunset_26 : decode cX4_setSunset 26 = .ok (.istore_n 2, 1) := by decide +kernel
theorem dX4_setSunset_27 : decode cX4_setSunset 27 = .ok (.aload_n 0, 1) := by decide +kernel
theorem dX4_setSunset_28 : decode cX4_setSunset 28 = .ok (.iload_n 1, 1) := by decide +kernel
theorem dX4_setSunset_29 : decode cX4_setSunset 29 = .ok (.putfield 13, 3) := by decide +kernel
theorem dX4_setSunset_32 : decode cX4_setSunset 32 = .ok (.iload_n 2, 1) := by decide +kernel
theorem dX4_setSunset_33 : decode cX4_setSunset 33 = .ok (.ireturn, 1) := by decide +kernel
theorem dX4_takenTugs_0 : decode cX4_takenTugs 0 = .ok (.aload_n 0, 1) := by decide +kernel
theorem dX4_takenTugs_1 : decode cX4_takenTugs 1 = .ok (.getfield 22, 3) := by decide +kernel
theorem dX4_takenTugs_4 : decode cX4_takenTugs 4 = .ok (.iconst 0, 1) := by decide +kernel
theorem dX4_takenTugs_5 : decode cX4_takenTugs 5 = .ok (.iaload, 1) := by decide +kernel
theorem dX4_takenTugs_6 : decode cX4_takenTugs 6 = .ok (.ifCond .le 7, 3) := by decide +kernel
theorem dX4_takenTugs_9 : decode cX4_takenTugs 9 = .ok (.iconst 1, 1) := by decide +kernel
theorem dX4_takenTugs_10 : decode cX4_takenTugs 10 = .ok (.goto 4, 3) := by decide +kernel
theorem dX4_takenTugs_13 : decode cX4_takenTugs 13 = .ok (.iconst 0, 1) := by decide +kernel
theorem dX4_takenTugs_14 : decode cX4_takenTugs 14 = .ok (.aload_n 0, 1) := by decide +kernel
theorem dX4_takenTugs_15 : decode cX4_takenTugs 15 = .ok (.getfield 22, 3) := by decide +kernel
theorem dX4_takenTugs_18 : decode cX4_takenTugs 18 = .ok (.iconst 1, 1) := by decide +kernel
theorem dX4_takenTugs_19 : decode cX4_takenTugs 19 = .ok (.iaload, 1) := by decide +kernel
theorem dX4_takenTugs_20 : decode cX4_takenTugs 20 = .ok (.ifCond .le 7, 3) := by decide +kernel
theorem dX4_takenTugs_23 : decode cX4_takenTugs 23 = .ok (.iconst 1, 1) := by decide +kernel
theorem dX4_takenTugs_24 : decode cX4_takenTugs 24 = .ok (.goto 4, 3) := by decide +kernel
theorem dX4_takenTugs_27 : decode cX4_takenTugs 27 = .ok (.iconst 0, 1) := by decide +kernel
theorem dX4_takenTugs_28 : decode cX4_takenTugs 28 = .ok (.iadd, 1) := by decide +kernel
theorem dX4_takenTugs_29 : decode cX4_takenTugs 29 = .ok (.ireturn, 1) := by decide +kernel
theorem dX4_setTugs_0 : decode cX4_setTugs 0 = .ok (.aload_n 0, 1) := by decide +kernel
theorem dX4_setTugs_1 : decode cX4_setTugs 1 = .ok (.iconst 0, 1) := by decide +kernel
theorem dX4_setTugs_2 : decode cX4_setTugs 2 = .ok (.putfield 78, 3) := by decide +kernel
theorem dX4_setTugs_5 : decode cX4_setTugs 5 = .ok (.iload_n 1, 1) := by decide +kernel
theorem dX4_setTugs_6 : decode cX4_setTugs 6 = .ok (.iconst 0, 1) := by decide +kernel
theorem dX4_setTugs_7 : decode cX4_setTugs 7 = .ok (.iconst 2, 1) := by decide +kernel
theorem dX4_setTugs_8 : decode cX4_setTugs 8 = .ok (.invokestatic 84, 3) := by decide +kernel
theorem dX4_setTugs_11 : decode cX4_setTugs 11 = .ok (.ifCond .ne 9, 3) := by decide +kernel
theorem dX4_setTugs_14 : decode cX4_setTugs 14 = .ok (.aload_n 0, 1) := by decide +kernel
theorem dX4_setTugs_15 : decode cX4_setTugs 15 = .ok (.iconst 1, 1) := by decide +kernel
theorem dX4_setTugs_16 : decode cX4_setTugs 16 = .ok (.invokevirtual 94, 3) := by decide +kernel
theorem dX4_setTugs_19 : decode cX4_setTugs 19 = .ok (.ireturn, 1) := by decide +kernel
theorem dX4_setTugs_20 : decode cX4_setTugs 20 = .ok (.aload_n 0, 1) := by decide +kernel
theorem dX4_setTugs_21 : decode cX4_setTugs 21 = .ok (.invokevirtual 98, 3) := by decide +kernel
theorem dX4_setTugs_24 : decode cX4_setTugs 24 = .ok (.iload_n 1, 1) := by decide +kernel
theorem dX4_setTugs_25 : decode cX4_setTugs 25 = .ok (.if_icmp .le 9, 3) := by decide +kernel
theorem dX4_setTugs_28 : decode cX4_setTugs 28 = .ok (.aload_n 0, 1) := by decide +kernel
theorem dX4_setTugs_29 : decode cX4_setTugs 29 = .ok (.iconst 2, 1) := by decide +kernel
theorem dX4_setTugs_30 : decode cX4_setTugs 30 = .ok (.invokevirtual 94, 3) := by decide +kernel
theorem dX4_setTugs_33 : decode cX4_setTugs 33 = .ok (.ireturn, 1) := by decide +kernel
theorem dX4_setTugs_34 : decode cX4_setTugs 34 = .ok (.aload_n 0, 1) := by decide +kernel
theorem dX4_setTugs_35 : decode cX4_setTugs 35 = .ok (.iload_n 1, 1) := by decide +kernel
theorem dX4_setTugs_36 : decode cX4_setTugs 36 = .ok (.putfield 19, 3) := by decide +kernel
theorem dX4_setTugs_39 : decode cX4_setTugs 39 = .ok (.iload_n 1, 1) := by decide +kernel
theorem dX4_setTugs_40 : decode cX4_setTugs 40 = .ok (.aload_n 0, 1) := by decide +kernel
theorem dX4_setTugs_41 : decode cX4_setTugs 41 = .ok (.invokevirtual 98, 3) := by decide +kernel
theorem dX4_setTugs_44 : decode cX4_setTugs 44 = .ok (.isub, 1) := by decide +kernel
theorem dX4_setTugs_45 : decode cX4_setTugs 45 = .ok (.ireturn, 1) := by decide +kernel
theorem dX4_flightOf_0 : decode cX4_flightOf 0 = .ok (.iconst 0, 1) := by decide +kernel
theorem dX4_flightOf_1 : decode cX4_flightOf 1 = .ok (.istore_n 2, 1) := by decide +kernel
theorem dX4_flightOf_2 : decode cX4_flightOf 2 = .ok (.iload_n 2, 1) := by decide +kernel
theorem dX4_flightOf_3 : decode cX4_flightOf 3 = .ok (.aload_n 0, 1) := by decide +kernel
theorem dX4_flightOf_4 : decode cX4_flightOf 4 = .ok (.getfield 91, 3) := by decide +kernel
theorem dX4_flightOf_7 : decode cX4_flightOf 7 = .ok (.if_icmp .ge 31, 3) := by decide +kernel
theorem dX4_flightOf_10 : decode cX4_flightOf 10 = .ok (.aload_n 0, 1) := by decide +kernel
theorem dX4_flightOf_11 : decode cX4_flightOf 11 = .ok (.getfield 75, 3) := by decide +kernel
theorem dX4_flightOf_14 : decode cX4_flightOf 14 = .ok (.iload_n 2, 1) := by decide +kernel
theorem dX4_flightOf_15 : decode cX4_flightOf 15 = .ok (.iaload, 1) := by decide +kernel
theorem dX4_flightOf_16 : decode cX4_flightOf 16 = .ok (.iconst 1, 1) := by decide +kernel
theorem dX4_flightOf_17 : decode cX4_flightOf 17 = .ok (.if_icmp .ne 15, 3) := by decide +kernel
theorem dX4_flightOf_20 : decode cX4_flightOf 20 = .ok (.aload_n 0, 1) := by decide +kernel
theorem dX4_flightOf_21 : decode cX4_flightOf 21 = .ok (.getfield 57, 3) := by decide +kernel
theorem dX4_flightOf_24 : decode cX4_flightOf 24 = .ok (.iload_n 2, 1) := by decide +kernel
theorem dX4_flightOf_25 : decode cX4_flightOf 25 = .ok (.iaload, 1) := by decide +kernel
theorem dX4_flightOf_26 : decode cX4_flightOf 26 = .ok (.iload_n 1, 1) := by decide +kernel
theorem dX4_flightOf_27 : decode cX4_flightOf 27 = .ok (.if_icmp .ne 5, 3) := by decide +kernel
theorem dX4_flightOf_30 : decode cX4_flightOf 30 = .ok (.iload_n 2, 1) := by decide +kernel
theorem dX4_flightOf_31 : decode cX4_flightOf 31 = .ok (.ireturn, 1) := by decide +kernel
theorem dX4_flightOf_32 : decode cX4_flightOf 32 = .ok (.iinc 2 1, 3) := by decide +kernel
theorem dX4_flightOf_35 : decode cX4_flightOf 35 = .ok (.goto (-33), 3) := by decide +kernel
theorem dX4_flightOf_38 : decode cX4_flightOf 38 = .ok (.iconst (-1), 1) := by decide +kernel
theorem dX4_flightOf_39 : decode cX4_flightOf 39 = .ok (.ireturn, 1) := by decide +kernel
theorem dX4_flies_0 : decode cX4_flies 0 = .ok (.iconst 0, 1) := by decide +kernel
theorem dX4_flies_1 : decode cX4_flies 1 = .ok (.istore_n 2, 1) := by decide +kernel
theorem dX4_flies_2 : decode cX4_flies 2 = .ok (.iconst 0, 1) := by decide +kernel
theorem dX4_flies_3 : decode cX4_flies 3 = .ok (.istore_n 3, 1) := by decide +kernel
theorem dX4_flies_4 : decode cX4_flies 4 = .ok (.iload_n 3, 1) := by decide +kernel
theorem dX4_flies_5 : decode cX4_flies 5 = .ok (.aload_n 0, 1) := by decide +kernel
theorem dX4_flies_6 : decode cX4_flies 6 = .ok (.getfield 91, 3) := by decide +kernel
theorem dX4_flies_9 : decode cX4_flies 9 = .ok (.if_icmp .ge 49, 3) := by decide +kernel
theorem dX4_flies_12 : decode cX4_flies 12 = .ok (.iload_n 2, 1) := by decide +kernel
theorem dX4_flies_13 : decode cX4_flies 13 = .ok (.ifCond .ne 33, 3) := by decide +kernel
theorem dX4_flies_16 : decode cX4_flies 16 = .ok (.aload_n 0, 1) := by decide +kernel
theorem dX4_flies_17 : decode cX4_flies 17 = .ok (.getfield 75, 3) := by decide +kernel
theorem dX4_flies_20 : decode cX4_flies 20 = .ok (.iload_n 3, 1) := by decide +kernel
theorem dX4_flies_21 : decode cX4_flies 21 = .ok (.iaload, 1) := by decide +kernel
theorem dX4_flies_22 : decode cX4_flies 22 = .ok (.iconst 1, 1) := by decide +kernel
theorem dX4_flies_23 : decode cX4_flies 23 = .ok (.if_icmp .ne 27, 3) := by decide +kernel
theorem dX4_flies_26 : decode cX4_flies 26 = .ok (.aload_n 0, 1) := by decide +kernel
theorem dX4_flies_27 : decode cX4_flies 27 = .ok (.getfield 51, 3) := by decide +kernel
theorem dX4_flies_30 : decode cX4_flies 30 = .ok (.iload_n 3, 1) := by decide +kernel
theorem dX4_flies_31 : decode cX4_flies 31 = .ok (.iaload, 1) := by decide +kernel
theorem dX4_flies_32 : decode cX4_flies 32 = .ok (.iload_n 1, 1) := by decide +kernel
theorem dX4_flies_33 : decode cX4_flies 33 = .ok (.if_icmp .eq 13, 3) := by decide +kernel
theorem dX4_flies_36 : decode cX4_flies 36 = .ok (.aload_n 0, 1) := by decide +kernel
theorem dX4_flies_37 : decode cX4_flies 37 = .ok (.getfield 54, 3) := by decide +kernel
theorem dX4_flies_40 : decode cX4_flies 40 = .ok (.iload_n 3, 1) := by decide +kernel
theorem dX4_flies_41 : decode cX4_flies 41 = .ok (.iaload, 1) := by decide +kernel
theorem dX4_flies_42 : decode cX4_flies 42 = .ok (.iload_n 1, 1) := by decide +kernel
theorem dX4_flies_43 : decode cX4_flies 43 = .ok (.if_icmp .ne 7, 3) := by decide +kernel
theorem dX4_flies_46 : decode cX4_flies 46 = .ok (.iconst 1, 1) := by decide +kernel
theorem dX4_flies_47 : decode cX4_flies 47 = .ok (.goto 4, 3) := by decide +kernel
theorem dX4_flies_50 : decode cX4_flies 50 = .ok (.iconst 0, 1) := by decide +kernel
theorem dX4_flies_51 : decode cX4_flies 51 = .ok (.istore_n 2, 1) := by decide +kernel
theorem dX4_flies_52 : decode cX4_flies 52 = .ok (.iinc 3 1, 3) := by decide +kernel
theorem dX4_flies_55 : decode cX4_flies 55 = .ok (.goto (-51), 3) := by decide +kernel
theorem dX4_flies_58 : decode cX4_flies 58 = .ok (.iload_n 2, 1) := by decide +kernel
theorem dX4_flies_59 : decode cX4_flies 59 = .ok (.ireturn, 1) := by decide +kernel
theorem dX4_bar_0 : decode cX4_bar 0 = .ok (.aload_n 0, 1) := by decide +kernel
theorem dX4_bar_1 : decode cX4_bar 1 = .ok (.aload_n 0, 1) := by decide +kernel
theorem dX4_bar_2 : decode cX4_bar 2 = .ok (.iload_n 1, 1) := by decide +kernel
theorem dX4_bar_3 : decode cX4_bar 3 = .ok (.invokevirtual 102, 3) := by decide +kernel
theorem dX4_bar_6 : decode cX4_bar 6 = .ok (.ifCond .ne 7, 3) := by decide +kernel
theorem dX4_bar_9 : decode cX4_bar 9 = .ok (.iconst 1, 1) := by decide +kernel
theorem dX4_bar_10 : decode cX4_bar 10 = .ok (.goto 17, 3) := by decide +kernel
theorem dX4_bar_13 : decode cX4_bar 13 = .ok (.aload_n 0, 1) := by decide +kernel
theorem dX4_bar_14 : decode cX4_bar 14 = .ok (.iload_n 1, 1) := by decide +kernel
theorem dX4_bar_15 : decode cX4_bar 15 = .ok (.invokevirtual 106, 3) := by decide +kernel
theorem dX4_bar_18 : decode cX4_bar 18 = .ok (.iconst (-1), 1) := by decide +kernel
theorem dX4_bar_19 : decode cX4_bar 19 = .ok (.if_icmp .eq 7, 3) := by decide +kernel
theorem dX4_bar_22 : decode cX4_bar 22 = .ok (.iconst 2, 1) := by decide +kernel
theorem dX4_bar_23 : decode cX4_bar 23 = .ok (.goto 4, 3) := by decide +kernel
theorem dX4_bar_26 : decode cX4_bar 26 = .ok (.iconst 0, 1) := by decide +kernel
theorem dX4_bar_27 : decode cX4_bar 27 = .ok (.putfield 78, 3) := by decide +kernel
theorem dX4_bar_30 : decode cX4_bar 30 = .ok (.aload_n 0, 1) := by decide +kernel
theorem dX4_bar_31 : decode cX4_bar 31 = .ok (.getfield 78, 3) := by decide +kernel
theorem dX4_bar_34 : decode cX4_bar 34 = .ok (.ifCond .eq 5, 3) := by decide +kernel
theorem dX4_bar_37 : decode cX4_bar 37 = .ok (.iconst 0, 1) := by decide +kernel
theorem dX4_bar_38 : decode cX4_bar 38 = .ok (.ireturn, 1) := by decide +kernel
theorem dX4_bar_39 : decode cX4_bar 39 = .ok (.aload_n 0, 1) := by decide +kernel
theorem dX4_bar_40 : decode cX4_bar 40 = .ok (.getfield 41, 3) := by decide +kernel
theorem dX4_bar_43 : decode cX4_bar 43 = .ok (.iload_n 1, 1) := by decide +kernel
theorem dX4_bar_44 : decode cX4_bar 44 = .ok (.baload, 1) := by decide +kernel
theorem dX4_bar_45 : decode cX4_bar 45 = .ok (.istore_n 3, 1) := by decide +kernel
theorem dX4_bar_46 : decode cX4_bar 46 = .ok (.aload_n 0, 1) := by decide +kernel
theorem dX4_bar_47 : decode cX4_bar 47 = .ok (.getfield 41, 3) := by decide +kernel
theorem dX4_bar_50 : decode cX4_bar 50 = .ok (.iload_n 1, 1) := by decide +kernel
theorem dX4_bar_51 : decode cX4_bar 51 = .ok (.iload_n 2, 1) := by decide +kernel
theorem dX4_bar_52 : decode cX4_bar 52 = .ok (.bastore, 1) := by decide +kernel
theorem dX4_bar_53 : decode cX4_bar 53 = .ok (.iload_n 3, 1) := by decide +kernel
theorem dX4_bar_54 : decode cX4_bar 54 = .ok (.ireturn, 1) := by decide +kernel
theorem dX4_withTeacher_0 : decode cX4_withTeacher 0 = .ok (.aload_n 0, 1) := by decide +kernel
theorem dX4_withTeacher_1 : decode cX4_withTeacher 1 = .ok (.getfield 54, 3) := by decide +kernel
theorem dX4_withTeacher_4 : decode cX4_withTeacher 4 = .ok (.iload_n 1, 1) := by decide +kernel
theorem dX4_withTeacher_5 : decode cX4_withTeacher 5 = .ok (.iaload, 1) := by decide +kernel
theorem dX4_withTeacher_6 : decode cX4_withTeacher 6 = .ok (.iconst (-1), 1) := by decide +kernel
theorem dX4_withTeacher_7 : decode cX4_withTeacher 7 = .ok (.if_icmp .eq 22, 3) := by decide +kernel
theorem dX4_withTeacher_10 : decode cX4_withTeacher 10 = .ok (.aload_n 0, 1) := by decide +kernel
theorem dX4_withTeacher_11 : decode cX4_withTeacher 11 = .ok (.getfield 26, 3) := by decide +kernel
theorem dX4_withTeacher_14 : decode cX4_withTeacher 14 = .ok (.aload_n 0, 1) := by decide +kernel
theorem dX4_withTeacher_15 : decode cX4_withTeacher 15 = .ok (.getfield 54, 3) := by decide +kernel
theorem dX4_withTeacher_18 : decode cX4_withTeacher 18 = .ok (.iload_n 1, 1) := by decide +kernel
theorem dX4_withTeacher_19 : decode cX4_withTeacher 19 = .ok (.iaload, 1) := by decide +kernel
theorem dX4_withTeacher_20 : decode cX4_withTeacher 20 = .ok (.iaload, 1) := by decide +kernel
theorem dX4_withTeacher_21 : decode cX4_withTeacher 21 = .ok (.iconst 3, 1) := by decide +kernel
theorem dX4_withTeacher_22 : decode cX4_withTeacher 22 = .ok (.if_icmp .ne 7, 3) := by decide +kernel
theorem dX4_withTeacher_25 : decode cX4_withTeacher 25 = .ok (.iconst 1, 1) := by decide +kernel
theorem dX4_withTeacher_26 : decode cX4_withTeacher 26 = .ok (.goto 4, 3) := by decide +kernel
theorem dX4_withTeacher_29 : decode cX4_withTeacher 29 = .ok (.iconst 0, 1) := by decide +kernel
theorem dX4_withTeacher_30 : decode cX4_withTeacher 30 = .ok (.ireturn, 1) := by decide +kernel
theorem dX4_landed_0 : decode cX4_landed 0 = .ok (.iconst 0, 1) := by decide +kernel
theorem dX4_landed_1 : decode cX4_landed 1 = .ok (.istore_n 3, 1) := by decide +kernel
theorem dX4_landed_2 : decode cX4_landed 2 = .ok (.iconst 0, 1) := by decide +kernel
theorem dX4_landed_3 : decode cX4_landed 3 = .ok (.istore 4, 2) := by decide +kernel
theorem dX4_landed_5 : decode cX4_landed 5 = .ok (.iload 4, 2) := by decide +kernel
theorem dX4_landed_7 : decode cX4_landed 7 = .ok (.aload_n 0, 1) := by decide +kernel
theorem dX4_landed_8 : decode cX4_landed 8 = .ok (.getfield 91, 3) := by decide +kernel
theorem dX4_landed_11 : decode cX4_landed 11 = .ok (.if_icmp .ge 154, 3) := by decide +kernel
theorem dX4_landed_14 : decode cX4_landed 14 = .ok (.aload_n 0, 1) := by decide +kernel
theorem dX4_landed_15 : decode cX4_landed 15 = .ok (.getfield 75, 3) := by decide +kernel
theorem dX4_landed_18 : decode cX4_landed 18 = .ok (.iload 4, 2) := by decide +kernel
theorem dX4_landed_20 : decode cX4_landed 20 = .ok (.iaload, 1) := by decide +kernel
theorem dX4_landed_21 : decode cX4_landed 21 = .ok (.iconst 2, 1) := by decide +kernel
theorem dX4_landed_22 : decode cX4_landed 22 = .ok (.if_icmp .ne 137, 3) := by decide +kernel
theorem dX4_landed_25 : decode cX4_landed 25 = .ok (.aload_n 0, 1) := by decide +kernel
theorem dX4_landed_26 : decode cX4_landed 26 = .ok (.getfield 51, 3) := by decide +kernel
theorem dX4_landed_29 : decode cX4_landed 29 = .ok (.iload 4, 2) := by decide +kernel
theorem dX4_landed_31 : decode cX4_landed 31 = .ok (.iaload, 1) := by decide +kernel
theorem dX4_landed_32 : decode cX4_landed 32 = .ok (.iload_n 1, 1) := by decide +kernel
theorem dX4_landed_33 : decode cX4_landed 33 = .ok (.if_icmp .eq 17, 3) := by decide +kernel
theorem dX4_landed_36 : decode cX4_landed 36 = .ok (.aload_n 0, 1) := by decide +kernel
theorem dX4_landed_37 : decode cX4_landed 37 = .ok (.getfield 54, 3) := by decide +kernel
theorem dX4_landed_40 : decode cX4_landed 40 = .ok (.iload 4, 2) := by decide +kernel
theorem dX4_landed_42 : decode cX4_landed 42 = .ok (.iaload, 1) := by decide +kernel
theorem dX4_landed_43 : decode cX4_landed 43 = .ok (.iload_n 1, 1) := by decide +kernel
theorem dX4_landed_44 : decode cX4_landed 44 = .ok (.if_icmp .eq 6, 3) := by decide +kernel
theorem dX4_landed_47 : decode cX4_landed 47 = .ok (.goto 112, 3) := by decide +kernel
theorem dX4_landed_50 : decode cX4_landed 50 = .ok (.aload_n 0, 1) := by decide +kernel
theorem dX4_landed_51 : decode cX4_landed 51 = .ok (.getfield 51, 3) := by decide +kernel
theorem dX4_landed_54 : decode cX4_landed 54 = .ok (.iload 4, 2) := by decide +kernel
theorem dX4_landed_56 : decode cX4_landed 56 = .ok (.iaload, 1) := by decide +kernel
theorem dX4_landed_57 : decode cX4_landed 57 = .ok (.iload_n 1, 1) := by decide +kernel
theorem dX4_landed_58 : decode cX4_landed 58 = .ok (.if_icmp .ne 7, 3) := by decide +kernel
theorem dX4_landed_61 : decode cX4_landed 61 = .ok (.iconst 1, 1) := by decide +kernel
theorem dX4_landed_62 : decode cX4_landed 62 = .ok (.goto 4, 3) := by decide +kernel
theorem dX4_landed_65 : decode cX4_landed 65 = .ok (.iconst 0, 1) := by decide +kernel
theorem dX4_landed_66 : decode cX4_landed 66 = .ok (.istore 5, 2) := by decide +kernel
theorem dX4_landed_68 : decode cX4_landed 68 = .ok (.iload_n 2, 1) := by decide +kernel
theorem dX4_landed_69 : decode cX4_landed 69 = .ok (.iconst 2, 1) := by decide +kernel
theorem dX4_landed_70 : decode cX4_landed 70 = .ok (.if_icmp .ne 9, 3) := by decide +kernel
theorem dX4_landed_73 : decode cX4_landed 73 = .ok (.iinc 3 1, 3) := by decide +kernel
theorem dX4_landed_76 : decode cX4_landed 76 = .ok (.goto 83, 3) := by decide +kernel
theorem dX4_landed_79 : decode cX4_landed 79 = .ok (.iload_n 2, 1) := by decide +kernel
theorem dX4_landed_80 : decode cX4_landed 80 = .ok (.iconst 3, 1) := by decide +kernel
theorem dX4_landed_81 : decode cX4_landed 81 = .ok (.if_icmp .ne 24, 3) := by decide +kernel
theorem dX4_landed_84 : decode cX4_landed 84 = .ok (.iload_n 3, 1) := by decide +kernel
theorem dX4_landed_85 : decode cX4_landed 85 = .ok (.aload_n 0, 1) := by decide +kernel
theorem dX4_landed_86 : decode cX4_landed 86 = .ok (.getfield 72, 3) := by decide +kernel
theorem dX4_landed_89 : decode cX4_landed 89 = .ok (.iload 4, 2) := by decide +kernel
theorem dX4_landed_91 : decode cX4_landed 91 = .ok (.iaload, 1) := by decide +kernel
theorem dX4_landed_92 : decode cX4_landed 92 = .ok (.aload_n 0, 1) := by decide +kernel
theorem dX4_landed_93 : decode cX4_landed 93 = .ok (.getfield 69, 3) := by decide +kernel
theorem dX4_landed_96 : decode cX4_landed 96 = .ok (.iload 4, 2) := by decide +kernel
theorem dX4_landed_98 : decode cX4_landed 98 = .ok (.iaload, 1) := by decide +kernel
theorem dX4_landed_99 : decode cX4_landed 99 = .ok (.isub, 1) := by decide +kernel
theorem dX4_landed_100 : decode cX4_landed 100 = .ok (.iadd, 1) := by decide +kernel
theorem dX4_landed_101 : decode cX4_landed 101 = .ok (.istore_n 3, 1) := by decide +kernel
theorem dX4_landed_102 : decode cX4_landed 102 = .ok (.goto 57, 3) := by decide +kernel
theorem dX4_landed_105 : decode cX4_landed 105 = .ok (.iload_n 2, 1) := by decide +kernel
theorem dX4_landed_106 : decode cX4_landed 106 = .ok (.iconst 4, 1) := by decide +kernel
theorem dX4_landed_107 : decode cX4_landed 107 = .ok (.if_icmp .ne 28, 3) := by decide +kernel
theorem dX4_landed_110 : decode cX4_landed 110 = .ok (.iload_n 3, 1) := by decide +kernel
theorem dX4_landed_111 : decode cX4_landed 111 = .ok (.iload 5, 2) := by decide +kernel
theorem dX4_landed_113 : decode cX4_landed 113 = .ok (.ifCond .eq 16, 3) := by decide +kernel
theorem dX4_landed_116 : decode cX4_landed 116 = .ok (.aload_n 0, 1) := by decide +kernel
theorem dX4_landed_117 : decode cX4_landed 117 = .ok (.iload 4, 2) := by decide +kernel
theorem dX4_landed_119 : decode cX4_landed 119 = .ok (.invokevirtual 109, 3) := by decide +kernel
theorem dX4_landed_122 : decode cX4_landed 122 = .ok (.ifCond .eq 7, 3) := by decide +kernel
theorem dX4_landed_125 : decode cX4_landed 125 = .ok (.iconst 1, 1) := by decide +kernel
theorem dX4_landed_126 : decode cX4_landed 126 = .ok (.goto 4, 3) := by decide +kernel
theorem dX4_landed_129 : decode cX4_landed 129 = .ok (.iconst 0, 1) := by decide +kernel
theorem dX4_landed_130 : decode cX4_landed 130 = .ok (.iadd, 1) := by decide +kernel
theorem dX4_landed_131 : decode cX4_landed 131 = .ok (.istore_n 3, 1) := by decide +kernel
theorem dX4_landed_132 : decode cX4_landed 132 = .ok (.goto 27, 3) := by decide +kernel
theorem dX4_landed_135 : decode cX4_landed 135 = .ok (.iload_n 3, 1) := by decide +kernel
theorem dX4_landed_136 : decode cX4_landed 136 = .ok (.iload 5, 2) := by decide +kernel
theorem dX4_landed_138 : decode cX4_landed 138 = .ok (.ifCond .eq 18, 3) := by decide +kernel
theorem dX4_landed_141 : decode cX4_landed 141 = .ok (.aload_n 0, 1) := by decide +kernel
theorem dX4_landed_142 : decode cX4_landed 142 = .ok (.getfield 54, 3) := by decide +kernel
theorem dX4_landed_145 : decode cX4_landed 145 = .ok (.iload 4, 2) := by decide +kernel
theorem dX4_landed_147 : decode cX4_landed 147 = .ok (.iaload, 1) := by decide +kernel
theorem dX4_landed_148 : decode cX4_landed 148 = .ok (.iconst (-1), 1) := by decide +kernel
theorem dX4_landed_149 : decode cX4_landed 149 = .ok (.if_icmp .ne 7, 3) := by decide +kernel
theorem dX4_landed_152 : decode cX4_landed 152 = .ok (.iconst 1, 1) := by decide +kernel
theorem dX4_landed_153 : decode cX4_landed 153 = .ok (.goto 4, 3) := by decide +kernel
theorem dX4_landed_156 : decode cX4_landed 156 = .ok (.iconst 0, 1) := by decide +kernel
theorem dX4_landed_157 : decode cX4_landed 157 = .ok (.iadd, 1) := by decide +kernel
theorem dX4_landed_158 : decode cX4_landed 158 = .ok (.istore_n 3, 1) := by decide +kernel
theorem dX4_landed_159 : decode cX4_landed 159 = .ok (.iinc 4 1, 3) := by decide +kernel
theorem dX4_landed_162 : decode cX4_landed 162 = .ok (.goto (-157), 3) := by decide +kernel
theorem dX4_landed_165 : decode cX4_landed 165 = .ok (.iload_n 3, 1) := by decide +kernel
theorem dX4_landed_166 : decode cX4_landed 166 = .ok (.ireturn, 1) := by decide +kernel
theorem dX4_promote_0 : decode cX4_promote 0 = .ok (.aload_n 0, 1) := by decide +kernel
theorem dX4_promote_1 : decode cX4_promote 1 = .ok (.iconst 0, 1) := by decide +kernel
theorem dX4_promote_2 : decode cX4_promote 2 = .ok (.putfield 78, 3) := by decide +kernel
theorem dX4_promote_5 : decode cX4_promote 5 = .ok (.aload_n 0, 1) := by decide +kernel
theorem dX4_promote_6 : decode cX4_promote 6 = .ok (.iload_n 1, 1) := by decide +kernel
theorem dX4_promote_7 : decode cX4_promote 7 = .ok (.invokevirtual 112, 3) := by decide +kernel
theorem dX4_promote_10 : decode cX4_promote 10 = .ok (.ifCond .ne 9, 3) := by decide +kernel
theorem dX4_promote_13 : decode cX4_promote 13 = .ok (.aload_n 0, 1) := by decide +kernel
theorem dX4_promote_14 : decode cX4_promote 14 = .ok (.iconst 1, 1) := by decide +kernel
theorem dX4_promote_15 : decode cX4_promote 15 = .ok (.invokevirtual 94, 3) := by decide +kernel
theorem dX4_promote_18 : decode cX4_promote 18 = .ok (.ireturn, 1) := by decide +kernel
theorem dX4_promote_19 : decode cX4_promote 19 = .ok (.aload_n 0, 1) := by decide +kernel
theorem dX4_promote_20 : decode cX4_promote 20 = .ok (.getfield 26, 3) := by decide +kernel
theorem dX4_promote_23 : decode cX4_promote 23 = .ok (.iload_n 1, 1) := by decide +kernel
theorem dX4_promote_24 : decode cX4_promote 24 = .ok (.iaload, 1) := by decide +kernel
theorem dX4_promote_25 : decode cX4_promote 25 = .ok (.ifCond .ne 13, 3) := by decide +kernel
theorem dX4_promote_28 : decode cX4_promote 28 = .ok (.aload_n 0, 1) := by decide +kernel
theorem dX4_promote_29 : decode cX4_promote 29 = .ok (.iload_n 1, 1) := by decide +kernel
theorem dX4_promote_30 : decode cX4_promote 30 = .ok (.iconst 4, 1) := by decide +kernel
theorem dX4_promote_31 : decode cX4_promote 31 = .ok (.invokevirtual 115, 3) := by decide +kernel
theorem dX4_promote_34 : decode cX4_promote 34 = .ok (.iconst 3, 1) := by decide +kernel
theorem dX4_promote_35 : decode cX4_promote 35 = .ok (.if_icmp .ge 23, 3) := by decide +kernel
theorem dX4_promote_38 : decode cX4_promote 38 = .ok (.aload_n 0, 1) := by decide +kernel
theorem dX4_promote_39 : decode cX4_promote 39 = .ok (.getfield 26, 3) := by decide +kernel
theorem dX4_promote_42 : decode cX4_promote 42 = .ok (.iload_n 1, 1) := by decide +kernel
theorem dX4_promote_43 : decode cX4_promote 43 = .ok (.iaload, 1) := by decide +kernel
theorem dX4_promote_44 : decode cX4_promote 44 = .ok (.iconst 1, 1) := by decide +kernel
theorem dX4_promote_45 : decode cX4_promote 45 = .ok (.if_icmp .ne 17, 3) := by decide +kernel
theorem dX4_promote_48 : decode cX4_promote 48 = .ok (.aload_n 0, 1) := by decide +kernel
theorem dX4_promote_49 : decode cX4_promote 49 = .ok (.iload_n 1, 1) := by decide +kernel
theorem dX4_promote_50 : decode cX4_promote 50 = .ok (.iconst 5, 1) := by decide +kernel
theorem dX4_promote_51 : decode cX4_promote 51 = .ok (.invokevirtual 115, 3) := by decide +kernel
theorem dX4_promote_54 : decode cX4_promote 54 = .ok (.iconst 5, 1) := by decide +kernel
theorem dX4_promote_55 : decode cX4_promote 55 = .ok (.if_icmp .lt 7, 3) := by decide +kernel
theorem dX4_promote_58 : decode cX4_promote 58 = .ok (.iconst 1, 1) := by decide +kernel
theorem dX4_promote_59 : decode cX4_promote 59 = .ok (.goto 4, 3) := by decide +kernel
theorem dX4_promote_62 : decode cX4_promote 62 = .ok (.iconst 0, 1) := by decide +kernel
theorem dX4_promote_63 : decode cX4_promote 63 = .ok (.istore_n 2, 1) := by decide +kernel
theorem dX4_promote_64 : decode cX4_promote 64 = .ok (.aload_n 0, 1) := by decide +kernel
theorem dX4_promote_65 : decode cX4_promote 65 = .ok (.iload_n 1, 1) := by decide +kernel
theorem dX4_promote_66 : decode cX4_promote 66 = .ok (.invokevirtual 119, 3) := by decide +kernel
theorem dX4_promote_69 : decode cX4_promote 69 = .ok (.ifCond .ne 7, 3) := by decide +kernel
theorem dX4_promote_72 : decode cX4_promote 72 = .ok (.iload_n 2, 1) := by decide +kernel
theorem dX4_promote_73 : decode cX4_promote 73 = .ok (.ifCond .ne 9, 3) := by decide +kernel
theorem dX4_promote_76 : decode cX4_promote 76 = .ok (.aload_n 0, 1) := by decide +kernel
theorem dX4_promote_77 : decode cX4_promote 77 = .ok (.iconst 2, 1) := by decide +kernel
theorem dX4_promote_78 : decode cX4_promote 78 = .ok (.invokevirtual 94, 3) := by decide +kernel
theorem dX4_promote_81 : decode cX4_promote 81 = .ok (.ireturn, 1) := by decide +kernel
theorem dX4_promote_82 : decode cX4_promote 82 = .ok (.aload_n 0, 1) := by decide +kernel
theorem dX4_promote_83 : decode cX4_promote 83 = .ok (.getfield 26, 3) := by decide +kernel
theorem dX4_promote_86 : decode cX4_promote 86 = .ok (.iload_n 1, 1) := by decide +kernel
theorem dX4_promote_87 : decode cX4_promote 87 = .ok (.dup2, 1) := by decide +kernel
theorem dX4_promote_88 : decode cX4_promote 88 = .ok (.iaload, 1) := by decide +kernel
theorem dX4_promote_89 : decode cX4_promote 89 = .ok (.iconst 1, 1) := by decide +kernel
theorem dX4_promote_90 : decode cX4_promote 90 = .ok (.iadd, 1) := by decide +kernel
theorem dX4_promote_91 : decode cX4_promote 91 = .ok (.iastore, 1) := by decide +kernel
theorem dX4_promote_92 : decode cX4_promote 92 = .ok (.aload_n 0, 1) := by decide +kernel
theorem dX4_promote_93 : decode cX4_promote 93 = .ok (.getfield 26, 3) := by decide +kernel
theorem dX4_promote_96 : decode cX4_promote 96 = .ok (.iload_n 1, 1) := by decide +kernel
theorem dX4_promote_97 : decode cX4_promote 97 = .ok (.iaload, 1) := by decide +kernel
theorem dX4_promote_98 : decode cX4_promote 98 = .ok (.ireturn, 1) := by decide +kernel
theorem dX4_toldOfMember_0 : decode cX4_toldOfMember 0 = .ok (.iload_n 2, 1) := by decide +kernel
theorem dX4_toldOfMember_1 : decode cX4_toldOfMember 1 = .ok (.ifCond .ne 12, 3) := by decide +kernel
theorem dX4_toldOfMember_4 : decode cX4_toldOfMember 4 = .ok (.aload_n 0, 1) := by decide +kernel
theorem dX4_toldOfMember_5 : decode cX4_toldOfMember 5 = .ok (.getfield 26, 3) := by decide +kernel
theorem dX4_toldOfMember_8 : decode cX4_toldOfMember 8 = .ok (.iload_n 1, 1) := by decide +kernel
theorem dX4_toldOfMember_9 : decode cX4_toldOfMember 9 = .ok (.iaload, 1) := by decide +kernel
theorem dX4_toldOfMember_10 : decode cX4_toldOfMember 10 = .ok (.goto 30, 3) := by decide +kernel
theorem dX4_toldOfMember_13 : decode cX4_toldOfMember 13 = .ok (.iload_n 2, 1) := by decide +kernel
theorem dX4_toldOfMember_14 : decode cX4_toldOfMember 14 = .ok (.iconst 1, 1) := by decide +kernel
theorem dX4_toldOfMember_15 : decode cX4_toldOfMember 15 = .ok (.if_icmp .ne 19, 3) := by decide +kernel
theorem dX4_toldOfMember_18 : decode cX4_toldOfMember 18 = .ok (.aload_n 0, 1) := by decide +kernel
theorem dX4_toldOfMember_19 : decode cX4_toldOfMember 19 = .ok (.iload_n 1, 1) := by decide +kernel
theorem dX4_toldOfMember_20 : decode cX4_toldOfMember 20 = .ok (.invokevirtual 119, 3) := by decide +kernel
theorem dX4_toldOfMember_23 : decode cX4_toldOfMember 23 = .ok (.ifCond .eq 7, 3) := by decide +kernel
theorem dX4_toldOfMember_26 : decode cX4_toldOfMember 26 = .ok (.iconst 1, 1) := by decide +kernel
theorem dX4_toldOfMember_27 : decode cX4_toldOfMember 27 = .ok (.goto 13, 3) := by decide +kernel
theorem dX4_toldOfMember_30 : decode cX4_toldOfMember 30 = .ok (.iconst 0, 1) := by decide +kernel
theorem dX4_toldOfMember_31 : decode cX4_toldOfMember 31 = .ok (.goto 9, 3) := by decide +kernel
theorem dX4_toldOfMember_34 : decode cX4_toldOfMember 34 = .ok (.aload_n 0, 1) := by decide +kernel
theorem dX4_toldOfMember_35 : decode cX4_toldOfMember 35 = .ok (.iload_n 1, 1) := by decide +kernel
theorem dX4_toldOfMember_36 : decode cX4_toldOfMember 36 = .ok (.iload_n 2, 1) := by decide +kernel
theorem dX4_toldOfMember_37 : decode cX4_toldOfMember 37 = .ok (.invokevirtual 115, 3) := by decide +kernel
theorem dX4_toldOfMember_40 : decode cX4_toldOfMember 40 = .ok (.ireturn, 1) := by decide +kernel
theorem dX4_member_0 : decode cX4_member 0 = .ok (.aload_n 0, 1) := by decide +kernel
theorem dX4_member_1 : decode cX4_member 1 = .ok (.iconst 0, 1) := by decide +kernel
theorem dX4_member_2 : decode cX4_member 2 = .ok (.putfield 78, 3) := by decide +kernel
theorem dX4_member_5 : decode cX4_member 5 = .ok (.aload_n 0, 1) := by decide +kernel
theorem dX4_member_6 : decode cX4_member 6 = .ok (.iload_n 1, 1) := by decide +kernel
theorem dX4_member_7 : decode cX4_member 7 = .ok (.invokevirtual 112, 3) := by decide +kernel
theorem dX4_member_10 : decode cX4_member 10 = .ok (.ifCond .eq 21, 3) := by decide +kernel
theorem dX4_member_13 : decode cX4_member 13 = .ok (.iload_n 2, 1) := by decide +kernel
theorem dX4_member_14 : decode cX4_member 14 = .ok (.iconst 0, 1) := by decide +kernel
theorem dX4_member_15 : decode cX4_member 15 = .ok (.iconst 5, 1) := by decide +kernel
theorem dX4_member_16 : decode cX4_member 16 = .ok (.invokestatic 84, 3) := by decide +kernel
theorem dX4_member_19 : decode cX4_member 19 = .ok (.ifCond .eq 12, 3) := by decide +kernel
theorem dX4_member_22 : decode cX4_member 22 = .ok (.aload_n 0, 1) := by decide +kernel
theorem dX4_member_23 : decode cX4_member 23 = .ok (.iload_n 1, 1) := by decide +kernel
theorem dX4_member_24 : decode cX4_member 24 = .ok (.iload_n 2, 1) := by decide +kernel
theorem dX4_member_25 : decode cX4_member 25 = .ok (.invokevirtual 122, 3) := by decide +kernel
theorem dX4_member_28 : decode cX4_member 28 = .ok (.goto 8, 3) := by decide +kernel
theorem dX4_member_31 : decode cX4_member 31 = .ok (.aload_n 0, 1) := by decide +kernel
theorem dX4_member_32 : decode cX4_member 32 = .ok (.iconst 1, 1) := by decide +kernel
theorem dX4_member_33 : decode cX4_member 33 = .ok (.invokevirtual 94, 3) := by decide +kernel
theorem dX4_member_36 : decode cX4_member 36 = .ok (.ireturn, 1) := by decide +kernel
theorem dX4_toldOfGlider_0 : decode cX4_toldOfGlider 0 = .ok (.iload_n 2, 1) := by decide +kernel
theorem dX4_toldOfGlider_1 : decode cX4_toldOfGlider 1 = .ok (.ifCond .ne 31, 3) := by decide +kernel
theorem dX4_toldOfGlider_4 : decode cX4_toldOfGlider 4 = .ok (.aload_n 0, 1) := by decide +kernel
theorem dX4_toldOfGlider_5 : decode cX4_toldOfGlider 5 = .ok (.getfield 48, 3) := by decide +kernel
theorem dX4_toldOfGlider_8 : decode cX4_toldOfGlider 8 = .ok (.iload_n 1, 1) := by decide +kernel
theorem dX4_toldOfGlider_9 : decode cX4_toldOfGlider 9 = .ok (.iaload, 1) := by decide +kernel
theorem dX4_toldOfGlider_10 : decode cX4_toldOfGlider 10 = .ok (.ifCond .le 7, 3) := by decide +kernel
theorem dX4_toldOfGlider_13 : decode cX4_toldOfGlider 13 = .ok (.iconst 2, 1) := by decide +kernel
theorem dX4_toldOfGlider_14 : decode cX4_toldOfGlider 14 = .ok (.goto 17, 3) := by decide +kernel
theorem dX4_toldOfGlider_17 : decode cX4_toldOfGlider 17 = .ok (.aload_n 0, 1) := by decide +kernel
theorem dX4_toldOfGlider_18 : decode cX4_toldOfGlider 18 = .ok (.iload_n 1, 1) := by decide +kernel
theorem dX4_toldOfGlider_19 : decode cX4_toldOfGlider 19 = .ok (.invokevirtual 106, 3) := by decide +kernel
theorem dX4_toldOfGlider_22 : decode cX4_toldOfGlider 22 = .ok (.iconst (-1), 1) := by decide +kernel
theorem dX4_toldOfGlider_23 : decode cX4_toldOfGlider 23 = .ok (.if_icmp .eq 7, 3) := by decide +kernel
theorem dX4_toldOfGlider_26 : decode cX4_toldOfGlider 26 = .ok (.iconst 1, 1) := by decide +kernel
theorem dX4_toldOfGlider_27 : decode cX4_toldOfGlider 27 = .ok (.goto 4, 3) := by decide +kernel
theorem dX4_toldOfGlider_30 : decode cX4_toldOfGlider 30 = .ok (.iconst 0, 1) := by decide +kernel
theorem dX4_toldOfGlider_31 : decode cX4_toldOfGlider 31 = .ok (.ireturn, 1) := by decide +kernel
theorem dX4_toldOfGlider_32 : decode cX4_toldOfGlider 32 = .ok (.iload_n 2, 1) := by decide +kernel
theorem dX4_toldOfGlider_33 : decode cX4_toldOfGlider 33 = .ok (.iconst 1, 1) := by decide +kernel
theorem dX4_toldOfGlider_34 : decode cX4_toldOfGlider 34 = .ok (.if_icmp .ne 18, 3) := by decide +kernel
theorem dX4_toldOfGlider_37 : decode cX4_toldOfGlider 37 = .ok (.aload_n 0, 1) := by decide +kernel
theorem dX4_toldOfGlider_38 : decode cX4_toldOfGlider 38 = .ok (.getfield 41, 3) := by decide +kernel
theorem dX4_toldOfGlider_41 : decode cX4_toldOfGlider 41 = .ok (.iload_n 1, 1) := by decide +kernel
theorem dX4_toldOfGlider_42 : decode cX4_toldOfGlider 42 = .ok (.baload, 1) := by decide +kernel
theorem dX4_toldOfGlider_43 : decode cX4_toldOfGlider 43 = .ok (.ifCond .eq 7, 3) := by decide +kernel
theorem dX4_toldOfGlider_46 : decode cX4_toldOfGlider 46 = .ok (.iconst 1, 1) := by decide +kernel
theorem dX4_toldOfGlider_47 : decode cX4_toldOfGlider 47 = .ok (.goto 4, 3) := by decide +kernel
theorem dX4_toldOfGlider_50 : decode cX4_toldOfGlider 50 = .ok (.iconst 0, 1) := by decide +kernel
theorem dX4_toldOfGlider_51 : decode cX4_toldOfGlider 51 = .ok (.ireturn, 1) := by decide +kernel
theorem dX4_toldOfGlider_52 : decode cX4_toldOfGlider 52 = .ok (.iload_n 2, 1) := by decide +kernel
theorem dX4_toldOfGlider_53 : decode cX4_toldOfGlider 53 = .ok (.iconst 4, 1) := by decide +kernel
theorem dX4_toldOfGlider_54 : decode cX4_toldOfGlider 54 = .ok (.if_icmp .ne 9, 3) := by decide +kernel
theorem dX4_toldOfGlider_57 : decode cX4_toldOfGlider 57 = .ok (.aload_n 0, 1) := by decide +kernel
theorem dX4_toldOfGlider_58 : decode cX4_toldOfGlider 58 = .ok (.iload_n 1, 1) := by decide +kernel
theorem dX4_toldOfGlider_59 : decode cX4_toldOfGlider 59 = .ok (.invokevirtual 106, 3) := by decide +kernel
theorem dX4_toldOfGlider_62 : decode cX4_toldOfGlider 62 = .ok (.ireturn, 1) := by decide +kernel
theorem dX4_toldOfGlider_63 : decode cX4_toldOfGlider 63 = .ok (.iconst 0, 1) := by decide +kernel
theorem dX4_toldOfGlider_64 : decode cX4_toldOfGlider 64 = .ok (.istore_n 3, 1) := by decide +kernel
theorem dX4_toldOfGlider_65 : decode cX4_toldOfGlider 65 = .ok (.iconst 0, 1) := by decide +kernel
theorem dX4_toldOfGlider_66 : decode cX4_toldOfGlider 66 = .ok (.istore 4, 2) := by decide +kernel
theorem dX4_toldOfGlider_68 : decode cX4_toldOfGlider 68 = .ok (.iload 4, 2) := by decide +kernel
theorem dX4_toldOfGlider_70 : decode cX4_toldOfGlider 70 = .ok (.aload_n 0, 1) := by decide +kernel
theorem dX4_toldOfGlider_71 : decode cX4_toldOfGlider 71 = .ok (.getfield 91, 3) := by decide +kernel
theorem dX4_toldOfGlider_74 : decode cX4_toldOfGlider 74 = .ok (.if_icmp .ge 58, 3) := by decide +kernel
theorem dX4_toldOfGlider_77 : decode cX4_toldOfGlider 77 = .ok (.aload_n 0, 1) := by decide +kernel
theorem dX4_toldOfGlider_78 : decode cX4_toldOfGlider 78 = .ok (.getfield 75, 3) := by decide +kernel
theorem dX4_toldOfGlider_81 : decode cX4_toldOfGlider 81 = .ok (.iload 4, 2) := by decide +kernel
theorem dX4_toldOfGlider_83 : decode cX4_toldOfGlider 83 = .ok (.iaload, 1) := by decide +kernel
theorem dX4_toldOfGlider_84 : decode cX4_toldOfGlider 84 = .ok (.iconst 2, 1) := by decide +kernel
theorem dX4_toldOfGlider_85 : decode cX4_toldOfGlider 85 = .ok (.if_icmp .ne 41, 3) := by decide +kernel
theorem dX4_toldOfGlider_88 : decode cX4_toldOfGlider 88 = .ok (.aload_n 0, 1) := by decide +kernel
theorem dX4_toldOfGlider_89 : decode cX4_toldOfGlider 89 = .ok (.getfield 57, 3) := by decide +kernel
theorem dX4_toldOfGlider_92 : decode cX4_toldOfGlider 92 = .ok (.iload 4, 2) := by decide +kernel
theorem dX4_toldOfGlider_94 : decode cX4_toldOfGlider 94 = .ok (.iaload, 1) := by decide +kernel
theorem dX4_toldOfGlider_95 : decode cX4_toldOfGlider 95 = .ok (.iload_n 1, 1) := by decide +kernel
theorem dX4_toldOfGlider_96 : decode cX4_toldOfGlider 96 = .ok (.if_icmp .ne 30, 3) := by decide +kernel
theorem dX4_toldOfGlider_99 : decode cX4_toldOfGlider 99 = .ok (.iload_n 3, 1) := by decide +kernel
theorem dX4_toldOfGlider_100 : decode cX4_toldOfGlider 100 = .ok (.iload_n 2, 1) := by decide +kernel
theorem dX4_toldOfGlider_101 : decode cX4_toldOfGlider 101 = .ok (.iconst 2, 1) := by decide +kernel
theorem dX4_toldOfGlider_102 : decode cX4_toldOfGlider 102 = .ok (.if_icmp .ne 7, 3) := by decide +kernel
theorem dX4_toldOfGlider_105 : decode cX4_toldOfGlider 105 = .ok (.iconst 1, 1) := by decide +kernel
theorem dX4_toldOfGlider_106 : decode cX4_toldOfGlider 106 = .ok (.goto 18, 3) := by decide +kernel
theorem dX4_toldOfGlider_109 : decode cX4_toldOfGlider 109 = .ok (.aload_n 0, 1) := by decide +kernel
theorem dX4_toldOfGlider_110 : decode cX4_toldOfGlider 110 = .ok (.getfield 72, 3) := by decide +kernel
theorem dX4_toldOfGlider_113 : decode cX4_toldOfGlider 113 = .ok (.iload 4, 2) := by decide +kernel
theorem dX4_toldOfGlider_115 : decode cX4_toldOfGlider 115 = .ok (.iaload, 1) := by decide +kernel
theorem dX4_toldOfGlider_116 : decode cX4_toldOfGlider 116 = .ok (.aload_n 0, 1) := by decide +kernel
theorem dX4_toldOfGlider_117 : decode cX4_toldOfGlider 117 = .ok (.getfield 69, 3) := by decide +kernel
theorem dX4_toldOfGlider_120 : decode cX4_toldOfGlider 120 = .ok (.iload 4, 2) := by decide +kernel
theorem dX4_toldOfGlider_122 : decode cX4_toldOfGlider 122 = .ok (.iaload, 1) := by decide +kernel
theorem dX4_toldOfGlider_123 : decode cX4_toldOfGlider 123 = .ok (.isub, 1) := by decide +kernel
theorem dX4_toldOfGlider_124 : decode cX4_toldOfGlider 124 = .ok (.iadd, 1) := by decide +kernel
theorem dX4_toldOfGlider_125 : decode cX4_toldOfGlider 125 = .ok (.istore_n 3, 1) := by decide +kernel
theorem dX4_toldOfGlider_126 : decode cX4_toldOfGlider 126 = .ok (.iinc 4 1, 3) := by decide +kernel
theorem dX4_toldOfGlider_129 : decode cX4_toldOfGlider 129 = .ok (.goto (-61), 3) := by decide +kernel
theorem dX4_toldOfGlider_132 : decode cX4_toldOfGlider 132 = .ok (.iload_n 3, 1) := by decide +kernel
theorem dX4_toldOfGlider_133 : decode cX4_toldOfGlider 133 = .ok (.ireturn, 1) := by decide +kernel
theorem dX4_glider_0 : decode cX4_glider 0 = .ok (.aload_n 0, 1) := by decide +kernel
theorem dX4_glider_1 : decode cX4_glider 1 = .ok (.iconst 0, 1) := by decide +kernel
theorem dX4_glider_2 : decode cX4_glider 2 = .ok (.putfield 78, 3) := by decide +kernel
theorem dX4_glider_5 : decode cX4_glider 5 = .ok (.aload_n 0, 1) := by decide +kernel
theorem dX4_glider_6 : decode cX4_glider 6 = .ok (.iload_n 1, 1) := by decide +kernel
theorem dX4_glider_7 : decode cX4_glider 7 = .ok (.invokevirtual 102, 3) := by decide +kernel
theorem dX4_glider_10 : decode cX4_glider 10 = .ok (.ifCond .eq 21, 3) := by decide +kernel
theorem dX4_glider_13 : decode cX4_glider 13 = .ok (.iload_n 2, 1) := by decide +kernel
theorem dX4_glider_14 : decode cX4_glider 14 = .ok (.iconst 0, 1) := by decide +kernel
theorem dX4_glider_15 : decode cX4_glider 15 = .ok (.iconst 4, 1) := by decide +kernel
theorem dX4_glider_16 : decode cX4_glider 16 = .ok (.invokestatic 84, 3) := by decide +kernel
theorem dX4_glider_19 : decode cX4_glider 19 = .ok (.ifCond .eq 12, 3) := by decide +kernel
theorem dX4_glider_22 : decode cX4_glider 22 = .ok (.aload_n 0, 1) := by decide +kernel
theorem dX4_glider_23 : decode cX4_glider 23 = .ok (.iload_n 1, 1) := by decide +kernel
theorem dX4_glider_24 : decode cX4_glider 24 = .ok (.iload_n 2, 1) := by decide +kernel
theorem dX4_glider_25 : decode cX4_glider 25 = .ok (.invokevirtual 125, 3) := by decide +kernel
theorem dX4_glider_28 : decode cX4_glider 28 = .ok (.goto 8, 3) := by decide +kernel
theorem dX4_glider_31 : decode cX4_glider 31 = .ok (.aload_n 0, 1) := by decide +kernel
theorem dX4_glider_32 : decode cX4_glider 32 = .ok (.iconst 1, 1) := by decide +kernel
theorem dX4_glider_33 : decode cX4_glider 33 = .ok (.invokevirtual 94, 3) := by decide +kernel
theorem dX4_glider_36 : decode cX4_glider 36 = .ok (.ireturn, 1) := by decide +kernel
theorem dX4_with_0 : decode cX4_with 0 = .ok (.iconst 0, 1) := by decide +kernel
theorem dX4_with_1 : decode cX4_with 1 = .ok (.istore_n 2, 1) := by decide +kernel
theorem dX4_with_2 : decode cX4_with 2 = .ok (.iconst 0, 1) := by decide +kernel
theorem dX4_with_3 : decode cX4_with 3 = .ok (.istore_n 3, 1) := by decide +kernel
theorem dX4_with_4 : decode cX4_with 4 = .ok (.iload_n 3, 1) := by decide +kernel
theorem dX4_with_5 : decode cX4_with 5 = .ok (.aload_n 0, 1) := by decide +kernel
theorem dX4_with_6 : decode cX4_with 6 = .ok (.getfield 91, 3) := by decide +kernel
theorem dX4_with_9 : decode cX4_with 9 = .ok (.if_icmp .ge 27, 3) := by decide +kernel
theorem dX4_with_12 : decode cX4_with 12 = .ok (.iload_n 2, 1) := by decide +kernel
theorem dX4_with_13 : decode cX4_with 13 = .ok (.aload_n 0, 1) := by decide +kernel
theorem dX4_with_14 : decode cX4_with 14 = .ok (.getfield 75, 3) := by decide +kernel
theorem dX4_with_17 : decode cX4_with 17 = .ok (.iload_n 3, 1) := by decide +kernel
theorem dX4_with_18 : decode cX4_with 18 = .ok (.iaload, 1) := by decide +kernel
theorem dX4_with_19 : decode cX4_with 19 = .ok (.iload_n 1, 1) := by decide +kernel
theorem dX4_with_20 : decode cX4_with 20 = .ok (.if_icmp .ne 7, 3) := by decide +kernel
theorem dX4_with_23 : decode cX4_with 23 = .ok (.iconst 1, 1) := by decide +kernel
theorem dX4_with_24 : decode cX4_with 24 = .ok (.goto 4, 3) := by decide +kernel
theorem dX4_with_27 : decode cX4_with 27 = .ok (.iconst 0, 1) := by decide +kernel
theorem dX4_with_28 : decode cX4_with 28 = .ok (.iadd, 1) := by decide +kernel
theorem dX4_with_29 : decode cX4_with 29 = .ok (.istore_n 2, 1) := by decide +kernel
theorem dX4_with_30 : decode cX4_with 30 = .ok (.iinc 3 1, 3) := by decide +kernel
theorem dX4_with_33 : decode cX4_with 33 = .ok (.goto (-29), 3) := by decide +kernel
theorem dX4_with_36 : decode cX4_with 36 = .ok (.iload_n 2, 1) := by decide +kernel
theorem dX4_with_37 : decode cX4_with 37 = .ok (.ireturn, 1) := by decide +kernel
theorem dX4_ask_0 : decode cX4_ask 0 = .ok (.aload_n 0, 1) := by decide +kernel
theorem dX4_ask_1 : decode cX4_ask 1 = .ok (.iconst 0, 1) := by decide +kernel
theorem dX4_ask_2 : decode cX4_ask 2 = .ok (.putfield 78, 3) := by decide +kernel
theorem dX4_ask_5 : decode cX4_ask 5 = .ok (.aload_n 0, 1) := by decide +kernel
theorem dX4_ask_6 : decode cX4_ask 6 = .ok (.iload_n 1, 1) := by decide +kernel
theorem dX4_ask_7 : decode cX4_ask 7 = .ok (.invokevirtual 112, 3) := by decide +kernel
theorem dX4_ask_10 : decode cX4_ask 10 = .ok (.ifCond .eq 24, 3) := by decide +kernel
theorem dX4_ask_13 : decode cX4_ask 13 = .ok (.aload_n 0, 1) := by decide +kernel
theorem dX4_ask_14 : decode cX4_ask 14 = .ok (.iload_n 3, 1) := by decide +kernel
theorem dX4_ask_15 : decode cX4_ask 15 = .ok (.invokevirtual 102, 3) := by decide +kernel
theorem dX4_ask_18 : decode cX4_ask 18 = .ok (.ifCond .eq 16, 3) := by decide +kernel
theorem dX4_ask_21 : decode cX4_ask 21 = .ok (.iload_n 2, 1) := by decide +kernel
theorem dX4_ask_22 : decode cX4_ask 22 = .ok (.iconst (-1), 1) := by decide +kernel
theorem dX4_ask_23 : decode cX4_ask 23 = .ok (.if_icmp .eq 17, 3) := by decide +kernel
theorem dX4_ask_26 : decode cX4_ask 26 = .ok (.aload_n 0, 1) := by decide +kernel
theorem dX4_ask_27 : decode cX4_ask 27 = .ok (.iload_n 2, 1) := by decide +kernel
theorem dX4_ask_28 : decode cX4_ask 28 = .ok (.invokevirtual 112, 3) := by decide +kernel
theorem dX4_ask_31 : decode cX4_ask 31 = .ok (.ifCond .ne 9, 3) := by decide +kernel
theorem dX4_ask_34 : decode cX4_ask 34 = .ok (.aload_n 0, 1) := by decide +kernel
theorem dX4_ask_35 : decode cX4_ask 35 = .ok (.iconst 1, 1) := by decide +kernel
theorem dX4_ask_36 : decode cX4_ask 36 = .ok (.invokevirtual 94, 3) := by decide +kernel
theorem dX4_ask_39 : decode cX4_ask 39 = .ok (.ireturn, 1) := by decide +kernel
theorem dX4_ask_40 : decode cX4_ask 40 = .ok (.iload_n 1, 1) := by decide +kernel
theorem dX4_ask_41 : decode cX4_ask 41 = .ok (.iload_n 2, 1) := by decide +kernel
theorem dX4_ask_42 : decode cX4_ask 42 = .ok (.if_icmp .eq 34, 3) := by decide +kernel
theorem dX4_ask_45 : decode cX4_ask 45 = .ok (.iload 4, 2) := by decide +kernel
theorem dX4_ask_47 : decode cX4_ask 47 = .ok (.ifCond .eq 17, 3) := by decide +kernel
theorem dX4_ask_50 : decode cX4_ask 50 = .ok (.iload 4, 2) := by decide +kernel
theorem dX4_ask_52 : decode cX4_ask 52 = .ok (.sipush 200, 3) := by decide +kernel
theorem dX4_ask_55 : decode cX4_ask 55 = .ok (.sipush 1500, 3) := by decide +kernel
theorem dX4_ask_58 : decode cX4_ask 58 = .ok (.invokestatic 84, 3) := by decide +kernel
theorem dX4_ask_61 : decode cX4_ask 61 = .ok (.ifCond .eq 15, 3) := by decide +kernel
theorem dX4_ask_64 : decode cX4_ask 64 = .ok (.iload 5, 2) := by decide +kernel
theorem dX4_ask_66 : decode cX4_ask 66 = .ok (.iconst 2, 1) := by decide +kernel
theorem dX4_ask_67 : decode cX4_ask 67 = .ok (.sipush 300, 3) := by decide +kernel
theorem dX4_ask_70 : decode cX4_ask 70 = .ok (.invokestatic 84, 3) := by decide +kernel
theorem dX4_ask_73 : decode cX4_ask 73 = .ok (.ifCond .ne 9, 3) := by decide +kernel
theorem dX4_ask_76 : decode cX4_ask 76 = .ok (.aload_n 0, 1) := by decide +kernel
theorem dX4_ask_77 : decode cX4_ask 77 = .ok (.iconst 2, 1) := by decide +kernel
theorem dX4_ask_78 : decode cX4_ask 78 = .ok (.invokevirtual 94, 3) := by decide +kernel
theorem dX4_ask_81 : decode cX4_ask 81 = .ok (.ireturn, 1) := by decide +kernel
theorem dX4_ask_82 : decode cX4_ask 82 = .ok (.aload_n 0, 1) := by decide +kernel
theorem dX4_ask_83 : decode cX4_ask 83 = .ok (.iconst 0, 1) := by decide +kernel
theorem dX4_ask_84 : decode cX4_ask 84 = .ok (.invokevirtual 128, 3) := by decide +kernel
theorem dX4_ask_87 : decode cX4_ask 87 = .ok (.bipush 30, 2) := by decide +kernel
theorem dX4_ask_89 : decode cX4_ask 89 = .ok (.if_icmp .eq 12, 3) := by decide +kernel
theorem dX4_ask_92 : decode cX4_ask 92 = .ok (.aload_n 0, 1) := by decide +kernel
theorem dX4_ask_93 : decode cX4_ask 93 = .ok (.getfield 91, 3) := by decide +kernel
theorem dX4_ask_96 : decode cX4_ask 96 = .ok (.bipush 100, 2) := by decide +kernel
theorem dX4_ask_98 : decode cX4_ask 98 = .ok (.if_icmp .ne 9, 3) := by decide +kernel
theorem dX4_ask_101 : decode cX4_ask 101 = .ok (.aload_n 0, 1) := by decide +kernel
theorem dX4_ask_102 : decode cX4_ask 102 = .ok (.iconst 3, 1) := by decide +kernel
theorem dX4_ask_103 : decode cX4_ask 103 = .ok (.invokevirtual 94, 3) := by decide +kernel
theorem dX4_ask_106 : decode cX4_ask 106 = .ok (.ireturn, 1) := by decide +kernel
theorem dX4_ask_107 : decode cX4_ask 107 = .ok (.aload_n 0, 1) := by decide +kernel
theorem dX4_ask_108 : decode cX4_ask 108 = .ok (.getfield 51, 3) := by decide +kernel
theorem dX4_ask_111 : decode cX4_ask 111 = .ok (.aload_n 0, 1) := by decide +kernel
theorem dX4_ask_112 : decode cX4_ask 112 = .ok (.getfield 91, 3) := by decide +kernel
theorem dX4_ask_115 : decode cX4_ask 115 = .ok (.iload_n 1, 1) := by decide +kernel
theorem dX4_ask_116 : decode cX4_ask 116 = .ok (.iastore, 1) := by decide +kernel
theorem dX4_ask_117 : decode cX4_ask 117 = .ok (.aload_n 0, 1) := by decide +kernel
theorem dX4_ask_118 : decode cX4_ask 118 = .ok (.getfield 54, 3) := by decide +kernel
theorem dX4_ask_121 : decode cX4_ask 121 = .ok (.aload_n 0, 1) := by decide +kernel
theorem dX4_ask_122 : decode cX4_ask 122 = .ok (.getfield 91, 3) := by decide +kernel
theorem dX4_ask_125 : decode cX4_ask 125 = .ok (.iload_n 2, 1) := by decide +kernel
theorem dX4_ask_126 : decode cX4_ask 126 = .ok (.iastore, 1) := by decide +kernel
theorem dX4_ask_127 : decode cX4_ask 127 = .ok (.aload_n 0, 1) := by decide +kernel
theorem dX4_ask_128 : decode cX4_ask 128 = .ok (.getfield 57, 3) := by decide +kernel
theorem dX4_ask_131 : decode cX4_ask 131 = .ok (.aload_n 0, 1) := by decide +kernel
theorem dX4_ask_132 : decode cX4_ask 132 = .ok (.getfield 91, 3) := by decide +kernel
theorem dX4_ask_135 : decode cX4_ask 135 = .ok (.iload_n 3, 1) := by decide +kernel
theorem dX4_ask_136 : decode cX4_ask 136 = .ok (.iastore, 1) := by decide +kernel
theorem dX4_ask_137 : decode cX4_ask 137 = .ok (.aload_n 0, 1) := by decide +kernel
theorem dX4_ask_138 : decode cX4_ask 138 = .ok (.getfield 60, 3) := by decide +kernel
theorem dX4_ask_141 : decode cX4_ask 141 = .ok (.aload_n 0, 1) := by decide +kernel
theorem dX4_ask_142 : decode cX4_ask 142 = .ok (.getfield 91, 3) := by decide +kernel
theorem dX4_ask_145 : decode cX4_ask 145 = .ok (.iload 4, 2) := by decide +kernel
theorem dX4_ask_147 : decode cX4_ask 147 = .ok (.iastore, 1) := by decide +kernel
theorem dX4_ask_148 : decode cX4_ask 148 = .ok (.aload_n 0, 1) := by decide +kernel
theorem dX4_ask_149 : decode cX4_ask 149 = .ok (.getfield 63, 3) := by decide +kernel
theorem dX4_ask_152 : decode cX4_ask 152 = .ok (.aload_n 0, 1) := by decide +kernel
theorem dX4_ask_153 : decode cX4_ask 153 = .ok (.getfield 91, 3) := by decide +kernel
theorem dX4_ask_156 : decode cX4_ask 156 = .ok (.iload 5, 2) := by decide +kernel
theorem dX4_ask_158 : decode cX4_ask 158 = .ok (.iastore, 1) := by decide +kernel
theorem dX4_ask_159 : decode cX4_ask 159 = .ok (.aload_n 0, 1) := by decide +kernel
theorem dX4_ask_160 : decode cX4_ask 160 = .ok (.getfield 66, 3) := by decide +kernel
theorem dX4_ask_163 : decode cX4_ask 163 = .ok (.aload_n 0, 1) := by decide +kernel
theorem dX4_ask_164 : decode cX4_ask 164 = .ok (.getfield 91, 3) := by decide +kernel
theorem dX4_ask_167 : decode cX4_ask 167 = .ok (.aload_n 0, 1) := by decide +kernel
theorem dX4_ask_168 : decode cX4_ask 168 = .ok (.getfield 131, 3) := by decide +kernel
theorem dX4_ask_171 : decode cX4_ask 171 = .ok (.iastore, 1) := by decide +kernel
theorem dX4_ask_172 : decode cX4_ask 172 = .ok (.aload_n 0, 1) := by decide +kernel
theorem dX4_ask_173 : decode cX4_ask 173 = .ok (.getfield 69, 3) := by decide +kernel
theorem dX4_ask_176 : decode cX4_ask 176 = .ok (.aload_n 0, 1) := by decide +kernel
theorem dX4_ask_177 : decode cX4_ask 177 = .ok (.getfield 91, 3) := by decide +kernel
theorem dX4_ask_180 : decode cX4_ask 180 = .ok (.iconst (-1), 1) := by decide +kernel
theorem dX4_ask_181 : decode cX4_ask 181 = .ok (.iastore, 1) := by decide +kernel
theorem dX4_ask_182 : decode cX4_ask 182 = .ok (.aload_n 0, 1) := by decide +kernel
theorem dX4_ask_183 : decode cX4_ask 183 = .ok (.getfield 72, 3) := by decide +kernel
theorem dX4_ask_186 : decode cX4_ask 186 = .ok (.aload_n 0, 1) := by decide +kernel
theorem dX4_ask_187 : decode cX4_ask 187 = .ok (.getfield 91, 3) := by decide +kernel
theorem dX4_ask_190 : decode cX4_ask 190 = .ok (.iconst (-1), 1) := by decide +kernel
theorem dX4_ask_191 : decode cX4_ask 191 = .ok (.iastore, 1) := by decide +kernel
theorem dX4_ask_192 : decode cX4_ask 192 = .ok (.aload_n 0, 1) := by decide +kernel
theorem dX4_ask_193 : decode cX4_ask 193 = .ok (.getfield 75, 3) := by decide +kernel
theorem dX4_ask_196 : decode cX4_ask 196 = .ok (.aload_n 0, 1) := by decide +kernel
theorem dX4_ask_197 : decode cX4_ask 197 = .ok (.getfield 91, 3) := by decide +kernel
theorem dX4_ask_200 : decode cX4_ask 200 = .ok (.iconst 0, 1) := by decide +kernel
theorem dX4_ask_201 : decode cX4_ask 201 = .ok (.iastore, 1) := by decide +kernel
theorem dX4_ask_202 : decode cX4_ask 202 = .ok (.aload_n 0, 1) := by decide +kernel
theorem dX4_ask_203 : decode cX4_ask 203 = .ok (.dup, 1) := by decide +kernel
theorem dX4_ask_204 : decode cX4_ask 204 = .ok (.getfield 91, 3) := by decide +kernel
theorem dX4_ask_207 : decode cX4_ask 207 = .ok (.iconst 1, 1) := by decide +kernel
theorem dX4_ask_208 : decode cX4_ask 208 = .ok (.iadd, 1) := by decide +kernel
theorem dX4_ask_209 : decode cX4_ask 209 = .ok (.putfield 91, 3) := by decide +kernel
theorem dX4_ask_212 : decode cX4_ask 212 = .ok (.aload_n 0, 1) := by decide +kernel
theorem dX4_ask_213 : decode cX4_ask 213 = .ok (.getfield 91, 3) := by decide +kernel
theorem dX4_ask_216 : decode cX4_ask 216 = .ok (.iconst 1, 1) := by decide +kernel
theorem dX4_ask_217 : decode cX4_ask 217 = .ok (.isub, 1) := by decide +kernel
theorem dX4_ask_218 : decode cX4_ask 218 = .ok (.ireturn, 1) := by decide +kernel
theorem dX4_place_0 : decode cX4_place 0 = .ok (.iconst 0, 1) := by decide +kernel
theorem dX4_place_1 : decode cX4_place 1 = .ok (.istore_n 2, 1) := by decide +kernel
theorem dX4_place_2 : decode cX4_place 2 = .ok (.iconst 0, 1) := by decide +kernel
theorem dX4_place_3 : decode cX4_place 3 = .ok (.istore_n 3, 1) := by decide +kernel
theorem dX4_place_4 : decode cX4_place 4 = .ok (.iload_n 3, 1) := by decide +kernel
theorem dX4_place_5 : decode cX4_place 5 = .ok (.iload_n 1, 1) := by decide +kernel
theorem dX4_place_6 : decode cX4_place 6 = .ok (.if_icmp .ge 26, 3) := by decide +kernel
theorem dX4_place_9 : decode cX4_place 9 = .ok (.iload_n 2, 1) := by decide +kernel
theorem dX4_place_10 : decode cX4_place 10 = .ok (.aload_n 0, 1) := by decide +kernel
theorem dX4_place_11 : decode cX4_place 11 = .ok (.getfield 75, 3) := by decide +kernel
theorem dX4_place_14 : decode cX4_place 14 = .ok (.iload_n 3, 1) := by decide +kernel
theorem dX4_place_15 : decode cX4_place 15 = .ok (.iaload, 1) := by decide +kernel
theorem dX4_place_16 : decode cX4_place 16 = .ok (.ifCond .ne 7, 3) := by decide +kernel
theorem dX4_place_19 : decode cX4_place 19 = .ok (.iconst 1, 1) := by decide +kernel
theorem dX4_place_20 : decode cX4_place 20 = .ok (.goto 4, 3) := by decide +kernel
theorem dX4_place_23 : decode cX4_place 23 = .ok (.iconst 0, 1) := by decide +kernel
theorem dX4_place_24 : decode cX4_place 24 = .ok (.iadd, 1) := by decide +kernel
theorem dX4_place_25 : decode cX4_place 25 = .ok (.istore_n 2, 1) := by decide +kernel
theorem dX4_place_26 : decode cX4_place 26 = .ok (.iinc 3 1, 3) := by decide +kernel
theorem dX4_place_29 : decode cX4_place 29 = .ok (.goto (-25), 3) := by decide +kernel
theorem dX4_place_32 : decode cX4_place 32 = .ok (.iload_n 2, 1) := by decide +kernel
theorem dX4_place_33 : decode cX4_place 33 = .ok (.ireturn, 1) := by decide +kernel
theorem dX4_drop_0 : decode cX4_drop 0 = .ok (.aload_n 0, 1) := by decide +kernel
theorem dX4_drop_1 : decode cX4_drop 1 = .ok (.iconst 0, 1) := by decide +kernel
theorem dX4_drop_2 : decode cX4_drop 2 = .ok (.putfield 78, 3) := by decide +kernel
theorem dX4_drop_5 : decode cX4_drop 5 = .ok (.aload_n 0, 1) := by decide +kernel
theorem dX4_drop_6 : decode cX4_drop 6 = .ok (.iload_n 1, 1) := by decide +kernel
theorem dX4_drop_7 : decode cX4_drop 7 = .ok (.invokevirtual 134, 3) := by decide +kernel
theorem dX4_drop_10 : decode cX4_drop 10 = .ok (.ifCond .ne 9, 3) := by decide +kernel
theorem dX4_drop_13 : decode cX4_drop 13 = .ok (.aload_n 0, 1) := by decide +kernel
theorem dX4_drop_14 : decode cX4_drop 14 = .ok (.iconst 1, 1) := by decide +kernel
theorem dX4_drop_15 : decode cX4_drop 15 = .ok (.invokevirtual 94, 3) := by decide +kernel
theorem dX4_drop_18 : decode cX4_drop 18 = .ok (.ireturn, 1) := by decide +kernel
theorem dX4_drop_19 : decode cX4_drop 19 = .ok (.aload_n 0, 1) := by decide +kernel
theorem dX4_drop_20 : decode cX4_drop 20 = .ok (.getfield 75, 3) := by decide +kernel
theorem dX4_drop_23 : decode cX4_drop 23 = .ok (.iload_n 1, 1) := by decide +kernel
theorem dX4_drop_24 : decode cX4_drop 24 = .ok (.iaload, 1) := by decide +kernel
theorem dX4_drop_25 : decode cX4_drop 25 = .ok (.ifCond .eq 9, 3) := by decide +kernel
theorem dX4_drop_28 : decode cX4_drop 28 = .ok (.aload_n 0, 1) := by decide +kernel
theorem dX4_drop_29 : decode cX4_drop 29 = .ok (.iconst 2, 1) := by decide +kernel
theorem dX4_drop_30 : decode cX4_drop 30 = .ok (.invokevirtual 94, 3) := by decide +kernel
theorem dX4_drop_33 : decode cX4_drop 33 = .ok (.ireturn, 1) := by decide +kernel
theorem dX4_drop_34 : decode cX4_drop 34 = .ok (.aload_n 0, 1) := by decide +kernel
theorem dX4_drop_35 : decode cX4_drop 35 = .ok (.getfield 75, 3) := by decide +kernel
theorem dX4_drop_38 : decode cX4_drop 38 = .ok (.iload_n 1, 1) := by decide +kernel
theorem dX4_drop_39 : decode cX4_drop 39 = .ok (.iconst 3, 1) := by decide +kernel
theorem dX4_drop_40 : decode cX4_drop 40 = .ok (.iastore, 1) := by decide +kernel
theorem dX4_drop_41 : decode cX4_drop 41 = .ok (.aload_n 0, 1) := by decide +kernel
theorem dX4_drop_42 : decode cX4_drop 42 = .ok (.iload_n 1, 1) := by decide +kernel
theorem dX4_drop_43 : decode cX4_drop 43 = .ok (.invokevirtual 137, 3) := by decide +kernel
theorem dX4_drop_46 : decode cX4_drop 46 = .ok (.ireturn, 1) := by decide +kernel
theorem dX4_list_0 : decode cX4_list 0 = .ok (.aload_n 0, 1) := by decide +kernel
theorem dX4_list_1 : decode cX4_list 1 = .ok (.iconst 0, 1) := by decide +kernel
theorem dX4_list_2 : decode cX4_list 2 = .ok (.putfield 78, 3) := by decide +kernel
theorem dX4_list_5 : decode cX4_list 5 = .ok (.iload_n 1, 1) := by decide +kernel
theorem dX4_list_6 : decode cX4_list 6 = .ok (.ifCond .ge 9, 3) := by decide +kernel
theorem dX4_list_9 : decode cX4_list 9 = .ok (.aload_n 0, 1) := by decide +kernel
theorem dX4_list_10 : decode cX4_list 10 = .ok (.iconst 1, 1) := by decide +kernel
theorem dX4_list_11 : decode cX4_list 11 = .ok (.invokevirtual 94, 3) := by decide +kernel
theorem dX4_list_14 : decode cX4_list 14 = .ok (.ireturn, 1) := by decide +kernel
theorem dX4_list_15 : decode cX4_list 15 = .ok (.iconst 0, 1) := by decide +kernel
theorem dX4_list_16 : decode cX4_list 16 = .ok (.istore_n 2, 1) := by decide +kernel
theorem dX4_list_17 : decode cX4_list 17 = .ok (.iload_n 2, 1) := by decide +kernel
theorem dX4_list_18 : decode cX4_list 18 = .ok (.aload_n 0, 1) := by decide +kernel
theorem dX4_list_19 : decode cX4_list 19 = .ok (.getfield 91, 3) := by decide +kernel
theorem dX4_list_22 : decode cX4_list 22 = .ok (.if_icmp .ge 29, 3) := by decide +kernel
theorem dX4_list_25 : decode cX4_list 25 = .ok (.aload_n 0, 1) := by decide +kernel
theorem dX4_list_26 : decode cX4_list 26 = .ok (.getfield 75, 3) := by decide +kernel
theorem dX4_list_29 : decode cX4_list 29 = .ok (.iload_n 2, 1) := by decide +kernel
theorem dX4_list_30 : decode cX4_list 30 = .ok (.iaload, 1) := by decide +kernel
theorem dX4_list_31 : decode cX4_list 31 = .ok (.ifCond .ne 14, 3) := by decide +kernel
theorem dX4_list_34 : decode cX4_list 34 = .ok (.aload_n 0, 1) := by decide +kernel
theorem dX4_list_35 : decode cX4_list 35 = .ok (.iload_n 2, 1) := by decide +kernel
theorem dX4_list_36 : decode cX4_list 36 = .ok (.invokevirtual 137, 3) := by decide +kernel
theorem dX4_list_39 : decode cX4_list 39 = .ok (.iload_n 1, 1) := by decide +kernel
theorem dX4_list_40 : decode cX4_list 40 = .ok (.if_icmp .ne 5, 3) := by decide +kernel
theorem dX4_list_43 : decode cX4_list 43 = .ok (.iload_n 2, 1) := by decide +kernel
theorem dX4_list_44 : decode cX4_list 44 = .ok (.ireturn, 1) := by decide +kernel
theorem dX4_list_45 : decode cX4_list 45 = .ok (.iinc 2 1, 3) := by decide +kernel
theorem dX4_list_48 : decode cX4_list 48 = .ok (.goto (-31), 3) := by decide +kernel
theorem dX4_list_51 : decode cX4_list 51 = .ok (.iconst (-1), 1) := by decide +kernel
theorem dX4_list_52 : decode cX4_list 52 = .ok (.ireturn, 1) := by decide +kernel
theorem dX4_isBusyNow_0 : decode cX4_isBusyNow 0 = .ok (.aload_n 0, 1) := by decide +kernel
theorem dX4_isBusyNow_1 : decode cX4_isBusyNow 1 = .ok (.getfield 131, 3) := by decide +kernel
theorem dX4_isBusyNow_4 : decode cX4_isBusyNow 4 = .ok (.aload_n 0, 1) := by decide +kernel
theorem dX4_isBusyNow_5 : decode cX4_isBusyNow 5 = .ok (.getfield 140, 3) := by decide +kernel
theorem dX4_isBusyNow_8 : decode cX4_isBusyNow 8 = .ok (.if_icmp .ge 7, 3) := by decide +kernel
theorem dX4_isBusyNow_11 : decode cX4_isBusyNow 11 = .ok (.iconst 1, 1) := by decide +kernel
theorem dX4_isBusyNow_12 : decode cX4_isBusyNow 12 = .ok (.goto 4, 3) := by decide +kernel
theorem dX4_isBusyNow_15 : decode cX4_isBusyNow 15 = .ok (.iconst 0, 1) := by decide +kernel
theorem dX4_isBusyNow_16 : decode cX4_isBusyNow 16 = .ok (.ireturn, 1) := by decide +kernel
theorem dX4_windOf_0 : decode cX4_windOf 0 = .ok (.iload_n 0, 1) := by decide +kernel
theorem dX4_windOf_1 : decode cX4_windOf 1 = .ok (.ifCond .ne 7, 3) := by decide +kernel
theorem dX4_windOf_4 : decode cX4_windOf 4 = .ok (.iconst 0, 1) := by decide +kernel
theorem dX4_windOf_5 : decode cX4_windOf 5 = .ok (.goto 25, 3) := by decide +kernel
theorem dX4_windOf_8 : decode cX4_windOf 8 = .ok (.iload_n 0, 1) := by decide +kernel
theorem dX4_windOf_9 : decode cX4_windOf 9 = .ok (.iconst 1, 1) := by decide +kernel
theorem dX4_windOf_10 : decode cX4_windOf 10 = .ok (.if_icmp .ne 8, 3) := by decide +kernel
theorem dX4_windOf_13 : decode cX4_windOf 13 = .ok (.bipush 12, 2) := by decide +kernel
theorem dX4_windOf_15 : decode cX4_windOf 15 = .ok (.goto 15, 3) := by decide +kernel
theorem dX4_windOf_18 : decode cX4_windOf 18 = .ok (.iload_n 0, 1) := by decide +kernel
theorem dX4_windOf_19 : decode cX4_windOf 19 = .ok (.iconst 2, 1) := by decide +kernel
theorem dX4_windOf_20 : decode cX4_windOf 20 = .ok (.if_icmp .ne 8, 3) := by decide +kernel
theorem dX4_windOf_23 : decode cX4_windOf 23 = .ok (.bipush 25, 2) := by decide +kernel
theorem dX4_windOf_25 : decode cX4_windOf 25 = .ok (.goto 5, 3) := by decide +kernel
theorem dX4_windOf_28 : decode cX4_windOf 28 = .ok (.bipush 30, 2) := by decide +kernel
theorem dX4_windOf_30 : decode cX4_windOf 30 = .ok (.ireturn, 1) := by decide +kernel
theorem dX4_reasonOf_0 : decode cX4_reasonOf 0 = .ok (.aload_n 0, 1) := by decide +kernel
theorem dX4_reasonOf_1 : decode cX4_reasonOf 1 = .ok (.getfield 51, 3) := by decide +kernel
theorem dX4_reasonOf_4 : decode cX4_reasonOf 4 = .ok (.iload_n 1, 1) := by decide +kernel
theorem dX4_reasonOf_5 : decode cX4_reasonOf 5 = .ok (.iaload, 1) := by decide +kernel
theorem dX4_reasonOf_6 : decode cX4_reasonOf 6 = .ok (.istore_n 2, 1) := by decide +kernel
theorem dX4_reasonOf_7 : decode cX4_reasonOf 7 = .ok (.aload_n 0, 1) := by decide +kernel
theorem dX4_reasonOf_8 : decode cX4_reasonOf 8 = .ok (.getfield 26, 3) := by decide +kernel
theorem dX4_reasonOf_11 : decode cX4_reasonOf 11 = .ok (.iload_n 2, 1) := by decide +kernel
theorem dX4_reasonOf_12 : decode cX4_reasonOf 12 = .ok (.iaload, 1) := by decide +kernel
theorem dX4_reasonOf_13 : decode cX4_reasonOf 13 = .ok (.istore_n 3, 1) := by decide +kernel
theorem dX4_reasonOf_14 : decode cX4_reasonOf 14 = .ok (.aload_n 0, 1) := by decide +kernel
theorem dX4_reasonOf_15 : decode cX4_reasonOf 15 = .ok (.iload_n 2, 1) := by decide +kernel
theorem dX4_reasonOf_16 : decode cX4_reasonOf 16 = .ok (.invokevirtual 119, 3) := by decide +kernel
theorem dX4_reasonOf_19 : decode cX4_reasonOf 19 = .ok (.ifCond .ne 26, 3) := by decide +kernel
theorem dX4_reasonOf_22 : decode cX4_reasonOf 22 = .ok (.aload_n 0, 1) := by decide +kernel
theorem dX4_reasonOf_23 : decode cX4_reasonOf 23 = .ok (.getfield 54, 3) := by decide +kernel
theorem dX4_reasonOf_26 : decode cX4_reasonOf 26 = .ok (.iload_n 1, 1) := by decide +kernel
theorem dX4_reasonOf_27 : decode cX4_reasonOf 27 = .ok (.iaload, 1) := by decide +kernel
theorem dX4_reasonOf_28 : decode cX4_reasonOf 28 = .ok (.iconst (-1), 1) := by decide +kernel
theorem dX4_reasonOf_29 : decode cX4_reasonOf 29 = .ok (.if_icmp .eq 18, 3) := by decide +kernel
theorem dX4_reasonOf_32 : decode cX4_reasonOf 32 = .ok (.aload_n 0, 1) := by decide +kernel
theorem dX4_reasonOf_33 : decode cX4_reasonOf 33 = .ok (.aload_n 0, 1) := by decide +kernel
theorem dX4_reasonOf_34 : decode cX4_reasonOf 34 = .ok (.getfield 54, 3) := by decide +kernel
theorem dX4_reasonOf_37 : decode cX4_reasonOf 37 = .ok (.iload_n 1, 1) := by decide +kernel
theorem dX4_reasonOf_38 : decode cX4_reasonOf 38 = .ok (.iaload, 1) := by decide +kernel
theorem dX4_reasonOf_39 : decode cX4_reasonOf 39 = .ok (.invokevirtual 119, 3) := by decide +kernel
theorem dX4_reasonOf_42 : decode cX4_reasonOf 42 = .ok (.ifCond .eq 5, 3) := by decide +kernel
theorem dX4_reasonOf_45 : decode cX4_reasonOf 45 = .ok (.iconst 1, 1) := by decide +kernel
theorem dX4_reasonOf_46 : decode cX4_reasonOf 46 = .ok (.ireturn, 1) := by decide +kernel
theorem dX4_reasonOf_47 : decode cX4_reasonOf 47 = .ok (.aload_n 0, 1) := by decide +kernel
theorem dX4_reasonOf_48 : decode cX4_reasonOf 48 = .ok (.aload_n 0, 1) := by decide +kernel
theorem dX4_reasonOf_49 : decode cX4_reasonOf 49 = .ok (.getfield 57, 3) := by decide +kernel
theorem dX4_reasonOf_52 : decode cX4_reasonOf 52 = .ok (.iload_n 1, 1) := by decide +kernel
theorem dX4_reasonOf_53 : decode cX4_reasonOf 53 = .ok (.iaload, 1) := by decide +kernel
theorem dX4_reasonOf_54 : decode cX4_reasonOf 54 = .ok (.invokevirtual 106, 3) := by decide +kernel
theorem dX4_reasonOf_57 : decode cX4_reasonOf 57 = .ok (.iconst (-1), 1) := by decide +kernel
theorem dX4_reasonOf_58 : decode cX4_reasonOf 58 = .ok (.if_icmp .ne 17, 3) := by decide +kernel
theorem dX4_reasonOf_61 : decode cX4_reasonOf 61 = .ok (.aload_n 0, 1) := by decide +kernel
theorem dX4_reasonOf_62 : decode cX4_reasonOf 62 = .ok (.getfield 41, 3) := by decide +kernel
theorem dX4_reasonOf_65 : decode cX4_reasonOf 65 = .ok (.aload_n 0, 1) := by decide +kernel
theorem dX4_reasonOf_66 : decode cX4_reasonOf 66 = .ok (.getfield 57, 3) := by decide +kernel
theorem dX4_reasonOf_69 : decode cX4_reasonOf 69 = .ok (.iload_n 1, 1) := by decide +kernel
theorem dX4_reasonOf_70 : decode cX4_reasonOf 70 = .ok (.iaload, 1) := by decide +kernel
theorem dX4_reasonOf_71 : decode cX4_reasonOf 71 = .ok (.baload, 1) := by decide +kernel
theorem dX4_reasonOf_72 : decode cX4_reasonOf 72 = .ok (.ifCond .eq 5, 3) := by decide +kernel
theorem dX4_reasonOf_75 : decode cX4_reasonOf 75 = .ok (.iconst 2, 1) := by decide +kernel
theorem dX4_reasonOf_76 : decode cX4_reasonOf 76 = .ok (.ireturn, 1) := by decide +kernel
theorem dX4_reasonOf_77 : decode cX4_reasonOf 77 = .ok (.aload_n 0, 1) := by decide +kernel
theorem dX4_reasonOf_78 : decode cX4_reasonOf 78 = .ok (.getfield 54, 3) := by decide +kernel
theorem dX4_reasonOf_81 : decode cX4_reasonOf 81 = .ok (.iload_n 1, 1) := by decide +kernel
theorem dX4_reasonOf_82 : decode cX4_reasonOf 82 = .ok (.iaload, 1) := by decide +kernel
theorem dX4_reasonOf_83 : decode cX4_reasonOf 83 = .ok (.iconst (-1), 1) := by decide +kernel
theorem dX4_reasonOf_84 : decode cX4_reasonOf 84 = .ok (.if_icmp .eq 20, 3) := by decide +kernel
theorem dX4_reasonOf_87 : decode cX4_reasonOf 87 = .ok (.aload_n 0, 1) := by decide +kernel
theorem dX4_reasonOf_88 : decode cX4_reasonOf 88 = .ok (.getfield 32, 3) := by decide +kernel
theorem dX4_reasonOf_91 : decode cX4_reasonOf 91 = .ok (.aload_n 0, 1) := by decide +kernel
theorem dX4_reasonOf_92 : decode cX4_reasonOf 92 = .ok (.getfield 57, 3) := by decide +kernel
theorem dX4_reasonOf_95 : decode cX4_reasonOf 95 = .ok (.iload_n 1, 1) := by decide +kernel
theorem dX4_reasonOf_96 : decode cX4_reasonOf 96 = .ok (.iaload, 1) := by decide +kernel
theorem dX4_reasonOf_97 : decode cX4_reasonOf 97 = .ok (.iaload, 1) := by decide +kernel
theorem dX4_reasonOf_98 : decode cX4_reasonOf 98 = .ok (.iconst 1, 1) := by decide +kernel
theorem dX4_reasonOf_99 : decode cX4_reasonOf 99 = .ok (.if_icmp .ne 5, 3) := by decide +kernel
theorem dX4_reasonOf_102 : decode cX4_reasonOf 102 = .ok (.iconst 3, 1) := by decide +kernel
theorem dX4_reasonOf_103 : decode cX4_reasonOf 103 = .ok (.ireturn, 1) := by decide +kernel
theorem dX4_reasonOf_104 : decode cX4_reasonOf 104 = .ok (.aload_n 0, 1) := by decide +kernel
theorem dX4_reasonOf_105 : decode cX4_reasonOf 105 = .ok (.iload_n 1, 1) := by decide +kernel
theorem dX4_reasonOf_106 : decode cX4_reasonOf 106 = .ok (.invokevirtual 109, 3) := by decide +kernel
theorem dX4_reasonOf_109 : decode cX4_reasonOf 109 = .ok (.ifCond .ne 23, 3) := by decide +kernel
theorem dX4_reasonOf_112 : decode cX4_reasonOf 112 = .ok (.iload_n 3, 1) := by decide +kernel
theorem dX4_reasonOf_113 : decode cX4_reasonOf 113 = .ok (.ifCond .eq 17, 3) := by decide +kernel
theorem dX4_reasonOf_116 : decode cX4_reasonOf 116 = .ok (.iload_n 3, 1) := by decide +kernel
theorem dX4_reasonOf_117 : decode cX4_reasonOf 117 = .ok (.iconst 1, 1) := by decide +kernel
theorem dX4_reasonOf_118 : decode cX4_reasonOf 118 = .ok (.if_icmp .ne 14, 3) := by decide +kernel
theorem dX4_reasonOf_121 : decode cX4_reasonOf 121 = .ok (.aload_n 0, 1) := by decide +kernel
theorem dX4_reasonOf_122 : decode cX4_reasonOf 122 = .ok (.iload_n 2, 1) := by decide +kernel
theorem dX4_reasonOf_123 : decode cX4_reasonOf 123 = .ok (.iconst 4, 1) := by decide +kernel
theorem dX4_reasonOf_124 : decode cX4_reasonOf 124 = .ok (.invokevirtual 115, 3) := by decide +kernel
theorem dX4_reasonOf_127 : decode cX4_reasonOf 127 = .ok (.ifCond .ne 5, 3) := by decide +kernel
theorem dX4_reasonOf_130 : decode cX4_reasonOf 130 = .ok (.iconst 4, 1) := by decide +kernel
theorem dX4_reasonOf_131 : decode cX4_reasonOf 131 = .ok (.ireturn, 1) := by decide +kernel
theorem dX4_reasonOf_132 : decode cX4_reasonOf 132 = .ok (.aload_n 0, 1) := by decide +kernel
theorem dX4_reasonOf_133 : decode cX4_reasonOf 133 = .ok (.getfield 7, 3) := by decide +kernel
theorem dX4_reasonOf_136 : decode cX4_reasonOf 136 = .ok (.aload_n 0, 1) := by decide +kernel
theorem dX4_reasonOf_137 : decode cX4_reasonOf 137 = .ok (.getfield 38, 3) := by decide +kernel
theorem dX4_reasonOf_140 : decode cX4_reasonOf 140 = .ok (.aload_n 0, 1) := by decide +kernel
theorem dX4_reasonOf_141 : decode cX4_reasonOf 141 = .ok (.getfield 57, 3) := by decide +kernel
theorem dX4_reasonOf_144 : decode cX4_reasonOf 144 = .ok (.iload_n 1, 1) := by decide +kernel
theorem dX4_reasonOf_145 : decode cX4_reasonOf 145 = .ok (.iaload, 1) := by decide +kernel
theorem dX4_reasonOf_146 : decode cX4_reasonOf 146 = .ok (.iaload, 1) := by decide +kernel
theorem dX4_reasonOf_147 : decode cX4_reasonOf 147 = .ok (.if_icmp .gt 26, 3) := by decide +kernel
theorem dX4_reasonOf_150 : decode cX4_reasonOf 150 = .ok (.aload_n 0, 1) := by decide +kernel
theorem dX4_reasonOf_151 : decode cX4_reasonOf 151 = .ok (.getfield 7, 3) := by decide +kernel
theorem dX4_reasonOf_154 : decode cX4_reasonOf 154 = .ok (.aload_n 0, 1) := by decide +kernel
theorem dX4_reasonOf_155 : decode cX4_reasonOf 155 = .ok (.iload_n 1, 1) := by decide +kernel
theorem dX4_reasonOf_156 : decode cX4_reasonOf 156 = .ok (.invokevirtual 109, 3) := by decide +kernel
theorem dX4_reasonOf_159 : decode cX4_reasonOf 159 = .ok (.ifCond .eq 7, 3) := by decide +kernel
theorem dX4_reasonOf_162 : decode cX4_reasonOf 162 = .ok (.iconst 3, 1) := by decide +kernel
theorem dX4_reasonOf_163 : decode cX4_reasonOf 163 = .ok (.goto 4, 3) := by decide +kernel
theorem dX4_reasonOf_166 : decode cX4_reasonOf 166 = .ok (.iload_n 3, 1) := by decide +kernel
theorem dX4_reasonOf_167 : decode cX4_reasonOf 167 = .ok (.invokestatic 143, 3) := by decide +kernel
theorem dX4_reasonOf_170 : decode cX4_reasonOf 170 = .ok (.if_icmp .le 5, 3) := by decide +kernel
theorem dX4_reasonOf_173 : decode cX4_reasonOf 173 = .ok (.iconst 5, 1) := by decide +kernel
theorem dX4_reasonOf_174 : decode cX4_reasonOf 174 = .ok (.ireturn, 1) := by decide +kernel
theorem dX4_reasonOf_175 : decode cX4_reasonOf 175 = .ok (.aload_n 0, 1) := by decide +kernel
theorem dX4_reasonOf_176 : decode cX4_reasonOf 176 = .ok (.getfield 13, 3) := by decide +kernel
theorem dX4_reasonOf_179 : decode cX4_reasonOf 179 = .ok (.aload_n 0, 1) := by decide +kernel
theorem dX4_reasonOf_180 : decode cX4_reasonOf 180 = .ok (.getfield 131, 3) := by decide +kernel
theorem dX4_reasonOf_183 : decode cX4_reasonOf 183 = .ok (.isub, 1) := by decide +kernel
theorem dX4_reasonOf_184 : decode cX4_reasonOf 184 = .ok (.bipush 10, 2) := by decide +kernel
theorem dX4_reasonOf_186 : decode cX4_reasonOf 186 = .ok (.if_icmp .ge 6, 3) := by decide +kernel
theorem dX4_reasonOf_189 : decode cX4_reasonOf 189 = .ok (.bipush 6, 2) := by decide +kernel
theorem dX4_reasonOf_191 : decode cX4_reasonOf 191 = .ok (.ireturn, 1) := by decide +kernel
theorem dX4_reasonOf_192 : decode cX4_reasonOf 192 = .ok (.aload_n 0, 1) := by decide +kernel
theorem dX4_reasonOf_193 : decode cX4_reasonOf 193 = .ok (.getfield 60, 3) := by decide +kernel
theorem dX4_reasonOf_196 : decode cX4_reasonOf 196 = .ok (.iload_n 1, 1) := by decide +kernel
theorem dX4_reasonOf_197 : decode cX4_reasonOf 197 = .ok (.iaload, 1) := by decide +kernel
theorem dX4_reasonOf_198 : decode cX4_reasonOf 198 = .ok (.ifCond .ne 13, 3) := by decide +kernel
theorem dX4_reasonOf_201 : decode cX4_reasonOf 201 = .ok (.aload_n 0, 1) := by decide +kernel
theorem dX4_reasonOf_202 : decode cX4_reasonOf 202 = .ok (.getfield 16, 3) := by decide +kernel
theorem dX4_reasonOf_205 : decode cX4_reasonOf 205 = .ok (.ifCond .ne 20, 3) := by decide +kernel
theorem dX4_reasonOf_208 : decode cX4_reasonOf 208 = .ok (.goto 14, 3) := by decide +kernel
theorem dX4_reasonOf_211 : decode cX4_reasonOf 211 = .ok (.aload_n 0, 1) := by decide +kernel
theorem dX4_reasonOf_212 : decode cX4_reasonOf 212 = .ok (.invokevirtual 98, 3) := by decide +kernel
theorem dX4_reasonOf_215 : decode cX4_reasonOf 215 = .ok (.aload_n 0, 1) := by decide +kernel
theorem dX4_reasonOf_216 : decode cX4_reasonOf 216 = .ok (.getfield 19, 3) := by decide +kernel
theorem dX4_reasonOf_219 : decode cX4_reasonOf 219 = .ok (.if_icmp .lt 6, 3) := by decide +kernel
theorem dX4_reasonOf_222 : decode cX4_reasonOf 222 = .ok (.bipush 7, 2) := by decide +kernel
theorem dX4_reasonOf_224 : decode cX4_reasonOf 224 = .ok (.ireturn, 1) := by decide +kernel
theorem dX4_reasonOf_225 : decode cX4_reasonOf 225 = .ok (.aload_n 0, 1) := by decide +kernel
theorem dX4_reasonOf_226 : decode cX4_reasonOf 226 = .ok (.invokevirtual 146, 3) := by decide +kernel
theorem dX4_reasonOf_229 : decode cX4_reasonOf 229 = .ok (.ifCond .eq 8, 3) := by decide +kernel
theorem dX4_reasonOf_232 : decode cX4_reasonOf 232 = .ok (.bipush 8, 2) := by decide +kernel
theorem dX4_reasonOf_234 : decode cX4_reasonOf 234 = .ok (.goto 4, 3) := by decide +kernel
theorem dX4_reasonOf_237 : decode cX4_reasonOf 237 = .ok (.iconst 0, 1) := by decide +kernel
theorem dX4_reasonOf_238 : decode cX4_reasonOf 238 = .ok (.ireturn, 1) := by decide +kernel
theorem dX4_reason_0 : decode cX4_reason 0 = .ok (.aload_n 0, 1) := by decide +kernel
theorem dX4_reason_1 : decode cX4_reason 1 = .ok (.iconst 0, 1) := by decide +kernel
theorem dX4_reason_2 : decode cX4_reason 2 = .ok (.putfield 78, 3) := by decide +kernel
theorem dX4_reason_5 : decode cX4_reason 5 = .ok (.aload_n 0, 1) := by decide +kernel
theorem dX4_reason_6 : decode cX4_reason 6 = .ok (.iload_n 1, 1) := by decide +kernel
theorem dX4_reason_7 : decode cX4_reason 7 = .ok (.invokevirtual 134, 3) := by decide +kernel
theorem dX4_reason_10 : decode cX4_reason 10 = .ok (.ifCond .ne 9, 3) := by decide +kernel
theorem dX4_reason_13 : decode cX4_reason 13 = .ok (.aload_n 0, 1) := by decide +kernel
theorem dX4_reason_14 : decode cX4_reason 14 = .ok (.iconst 1, 1) := by decide +kernel
theorem dX4_reason_15 : decode cX4_reason 15 = .ok (.invokevirtual 94, 3) := by decide +kernel
theorem dX4_reason_18 : decode cX4_reason 18 = .ok (.ireturn, 1) := by decide +kernel
theorem dX4_reason_19 : decode cX4_reason 19 = .ok (.aload_n 0, 1) := by decide +kernel
theorem dX4_reason_20 : decode cX4_reason 20 = .ok (.getfield 75, 3) := by decide +kernel
theorem dX4_reason_23 : decode cX4_reason 23 = .ok (.iload_n 1, 1) := by decide +kernel
theorem dX4_reason_24 : decode cX4_reason 24 = .ok (.iaload, 1) := by decide +kernel
theorem dX4_reason_25 : decode cX4_reason 25 = .ok (.ifCond .ne 11, 3) := by decide +kernel
theorem dX4_reason_28 : decode cX4_reason 28 = .ok (.aload_n 0, 1) := by decide +kernel
theorem dX4_reason_29 : decode cX4_reason 29 = .ok (.iload_n 1, 1) := by decide +kernel
theorem dX4_reason_30 : decode cX4_reason 30 = .ok (.invokevirtual 150, 3) := by decide +kernel
theorem dX4_reason_33 : decode cX4_reason 33 = .ok (.goto 8, 3) := by decide +kernel
theorem dX4_reason_36 : decode cX4_reason 36 = .ok (.aload_n 0, 1) := by decide +kernel
theorem dX4_reason_37 : decode cX4_reason 37 = .ok (.iconst 2, 1) := by decide +kernel
theorem dX4_reason_38 : decode cX4_reason 38 = .ok (.invokevirtual 94, 3) := by decide +kernel
theorem dX4_reason_41 : decode cX4_reason 41 = .ok (.ireturn, 1) := by decide +kernel
theorem dX4_call_0 : decode cX4_call 0 = .ok (.aload_n 0, 1) := by decide +kernel
theorem dX4_call_1 : decode cX4_call 1 = .ok (.iconst 0, 1) := by decide +kernel
theorem dX4_call_2 : decode cX4_call 2 = .ok (.putfield 78, 3) := by decide +kernel
theorem dX4_call_5 : decode cX4_call 5 = .ok (.aload_n 0, 1) := by decide +kernel
theorem dX4_call_6 : decode cX4_call 6 = .ok (.iload_n 1, 1) := by decide +kernel
theorem dX4_call_7 : decode cX4_call 7 = .ok (.invokevirtual 102, 3) := by decide +kernel
theorem dX4_call_10 : decode cX4_call 10 = .ok (.ifCond .ne 9, 3) := by decide +kernel
theorem dX4_call_13 : decode cX4_call 13 = .ok (.aload_n 0, 1) := by decide +kernel
theorem dX4_call_14 : decode cX4_call 14 = .ok (.iconst 1, 1) := by decide +kernel
theorem dX4_call_15 : decode cX4_call 15 = .ok (.invokevirtual 94, 3) := by decide +kernel
theorem dX4_call_18 : decode cX4_call 18 = .ok (.ireturn, 1) := by decide +kernel
theorem dX4_call_19 : decode cX4_call 19 = .ok (.aload_n 0, 1) := by decide +kernel
theorem dX4_call_20 : decode cX4_call 20 = .ok (.iload_n 1, 1) := by decide +kernel
theorem dX4_call_21 : decode cX4_call 21 = .ok (.invokevirtual 106, 3) := by decide +kernel
theorem dX4_call_24 : decode cX4_call 24 = .ok (.istore_n 2, 1) := by decide +kernel
theorem dX4_call_25 : decode cX4_call 25 = .ok (.iload_n 2, 1) := by decide +kernel
theorem dX4_call_26 : decode cX4_call 26 = .ok (.iconst (-1), 1) := by decide +kernel
theorem dX4_call_27 : decode cX4_call 27 = .ok (.if_icmp .ne 9, 3) := by decide +kernel
theorem dX4_call_30 : decode cX4_call 30 = .ok (.aload_n 0, 1) := by decide +kernel
theorem dX4_call_31 : decode cX4_call 31 = .ok (.iconst 2, 1) := by decide +kernel
theorem dX4_call_32 : decode cX4_call 32 = .ok (.invokevirtual 94, 3) := by decide +kernel
theorem dX4_call_35 : decode cX4_call 35 = .ok (.ireturn, 1) := by decide +kernel
theorem dX4_call_36 : decode cX4_call 36 = .ok (.aload_n 0, 1) := by decide +kernel
theorem dX4_call_37 : decode cX4_call 37 = .ok (.getfield 45, 3) := by decide +kernel
theorem dX4_call_40 : decode cX4_call 40 = .ok (.iload_n 1, 1) := by decide +kernel
theorem dX4_call_41 : decode cX4_call 41 = .ok (.iconst 1, 1) := by decide +kernel
theorem dX4_call_42 : decode cX4_call 42 = .ok (.bastore, 1) := by decide +kernel
theorem dX4_call_43 : decode cX4_call 43 = .ok (.aload_n 0, 1) := by decide +kernel
theorem dX4_call_44 : decode cX4_call 44 = .ok (.getfield 131, 3) := by decide +kernel
theorem dX4_call_47 : decode cX4_call 47 = .ok (.aload_n 0, 1) := by decide +kernel
theorem dX4_call_48 : decode cX4_call 48 = .ok (.getfield 69, 3) := by decide +kernel
theorem dX4_call_51 : decode cX4_call 51 = .ok (.iload_n 2, 1) := by decide +kernel
theorem dX4_call_52 : decode cX4_call 52 = .ok (.iaload, 1) := by decide +kernel
theorem dX4_call_53 : decode cX4_call 53 = .ok (.isub, 1) := by decide +kernel
theorem dX4_call_54 : decode cX4_call 54 = .ok (.ireturn, 1) := by decide +kernel
theorem dX4_begin_0 : decode cX4_begin 0 = .ok (.aload_n 0, 1) := by decide +kernel
theorem dX4_begin_1 : decode cX4_begin 1 = .ok (.getfield 75, 3) := by decide +kernel
theorem dX4_begin_4 : decode cX4_begin 4 = .ok (.iload_n 1, 1) := by decide +kernel
theorem dX4_begin_5 : decode cX4_begin 5 = .ok (.iconst 1, 1) := by decide +kernel
theorem dX4_begin_6 : decode cX4_begin 6 = .ok (.iastore, 1) := by decide +kernel
theorem dX4_begin_7 : decode cX4_begin 7 = .ok (.aload_n 0, 1) := by decide +kernel
theorem dX4_begin_8 : decode cX4_begin 8 = .ok (.getfield 69, 3) := by decide +kernel
theorem dX4_begin_11 : decode cX4_begin 11 = .ok (.iload_n 1, 1) := by decide +kernel
theorem dX4_begin_12 : decode cX4_begin 12 = .ok (.aload_n 0, 1) := by decide +kernel
theorem dX4_begin_13 : decode cX4_begin 13 = .ok (.getfield 131, 3) := by decide +kernel
theorem dX4_begin_16 : decode cX4_begin 16 = .ok (.iastore, 1) := by decide +kernel
theorem dX4_begin_17 : decode cX4_begin 17 = .ok (.aload_n 0, 1) := by decide +kernel
theorem dX4_begin_18 : decode cX4_begin 18 = .ok (.getfield 45, 3) := by decide +kernel
theorem dX4_begin_21 : decode cX4_begin 21 = .ok (.aload_n 0, 1) := by decide +kernel
theorem dX4_begin_22 : decode cX4_begin 22 = .ok (.getfield 57, 3) := by decide +kernel
theorem dX4_begin_25 : decode cX4_begin 25 = .ok (.iload_n 1, 1) := by decide +kernel
theorem dX4_begin_26 : decode cX4_begin 26 = .ok (.iaload, 1) := by decide +kernel
theorem dX4_begin_27 : decode cX4_begin 27 = .ok (.iconst 0, 1) := by decide +kernel
theorem dX4_begin_28 : decode cX4_begin 28 = .ok (.bastore, 1) := by decide +kernel
theorem dX4_begin_29 : decode cX4_begin 29 = .ok (.aload_n 0, 1) := by decide +kernel
theorem dX4_begin_30 : decode cX4_begin 30 = .ok (.getfield 60, 3) := by decide +kernel
theorem dX4_begin_33 : decode cX4_begin 33 = .ok (.iload_n 1, 1) := by decide +kernel
theorem dX4_begin_34 : decode cX4_begin 34 = .ok (.iaload, 1) := by decide +kernel
theorem dX4_begin_35 : decode cX4_begin 35 = .ok (.ifCond .le 51, 3) := by decide +kernel
theorem dX4_begin_38 : decode cX4_begin 38 = .ok (.aload_n 0, 1) := by decide +kernel
theorem dX4_begin_39 : decode cX4_begin 39 = .ok (.getfield 22, 3) := by decide +kernel
theorem dX4_begin_42 : decode cX4_begin 42 = .ok (.iconst 0, 1) := by decide +kernel
theorem dX4_begin_43 : decode cX4_begin 43 = .ok (.iaload, 1) := by decide +kernel
theorem dX4_begin_44 : decode cX4_begin 44 = .ok (.ifCond .ne 7, 3) := by decide +kernel
theorem dX4_begin_47 : decode cX4_begin 47 = .ok (.iconst 0, 1) := by decide +kernel
theorem dX4_begin_48 : decode cX4_begin 48 = .ok (.goto 4, 3) := by decide +kernel
theorem dX4_begin_51 : decode cX4_begin 51 = .ok (.iconst 1, 1) := by decide +kernel
theorem dX4_begin_52 : decode cX4_begin 52 = .ok (.istore_n 2, 1) := by decide +kernel
theorem dX4_begin_53 : decode cX4_begin 53 = .ok (.aload_n 0, 1) := by decide +kernel
theorem dX4_begin_54 : decode cX4_begin 54 = .ok (.getfield 22, 3) := by decide +kernel
theorem dX4_begin_57 : decode cX4_begin 57 = .ok (.iload_n 2, 1) := by decide +kernel
theorem dX4_begin_58 : decode cX4_begin 58 = .ok (.aload_n 0, 1) := by decide +kernel
theorem dX4_begin_59 : decode cX4_begin 59 = .ok (.getfield 131, 3) := by decide +kernel
theorem dX4_begin_62 : decode cX4_begin 62 = .ok (.iconst 4, 1) := by decide +kernel
theorem dX4_begin_63 : decode cX4_begin 63 = .ok (.iadd, 1) := by decide +kernel
theorem dX4_begin_64 : decode cX4_begin 64 = .ok (.aload_n 0, 1) := by decide +kernel
theorem dX4_begin_65 : decode cX4_begin 65 = .ok (.getfield 60, 3) := by decide +kernel
theorem dX4_begin_68 : decode cX4_begin 68 = .ok (.iload_n 1, 1) := by decide +kernel
theorem dX4_begin_69 : decode cX4_begin 69 = .ok (.iaload, 1) := by decide +kernel
theorem dX4_begin_70 : decode cX4_begin 70 = .ok (.bipush 100, 2) := by decide +kernel
theorem dX4_begin_72 : decode cX4_begin 72 = .ok (.idiv, 1) := by decide +kernel
theorem dX4_begin_73 : decode cX4_begin 73 = .ok (.iadd, 1) := by decide +kernel
theorem dX4_begin_74 : decode cX4_begin 74 = .ok (.iastore, 1) := by decide +kernel
theorem dX4_begin_75 : decode cX4_begin 75 = .ok (.aload_n 0, 1) := by decide +kernel
theorem dX4_begin_76 : decode cX4_begin 76 = .ok (.aload_n 0, 1) := by decide +kernel
theorem dX4_begin_77 : decode cX4_begin 77 = .ok (.getfield 131, 3) := by decide +kernel
theorem dX4_begin_80 : decode cX4_begin 80 = .ok (.iconst 3, 1) := by decide +kernel
theorem dX4_begin_81 : decode cX4_begin 81 = .ok (.iadd, 1) := by decide +kernel
theorem dX4_begin_82 : decode cX4_begin 82 = .ok (.putfield 140, 3) := by decide +kernel
theorem dX4_begin_85 : decode cX4_begin 85 = .ok (.return_, 1) := by decide +kernel
theorem dX4_begin_86 : decode cX4_begin 86 = .ok (.aload_n 0, 1) := by decide +kernel
theorem dX4_begin_87 : decode cX4_begin 87 = .ok (.dup, 1) := by decide +kernel
theorem dX4_begin_88 : decode cX4_begin 88 = .ok (.getfield 16, 3) := by decide +kernel
theorem dX4_begin_91 : decode cX4_begin 91 = .ok (.iconst 1, 1) := by decide +kernel
theorem dX4_begin_92 : decode cX4_begin 92 = .ok (.isub, 1) := by decide +kernel
theorem dX4_begin_93 : decode cX4_begin 93 = .ok (.putfield 16, 3) := by decide +kernel
theorem dX4_begin_96 : decode cX4_begin 96 = .ok (.aload_n 0, 1) := by decide +kernel
theorem dX4_begin_97 : decode cX4_begin 97 = .ok (.aload_n 0, 1) := by decide +kernel
theorem dX4_begin_98 : decode cX4_begin 98 = .ok (.getfield 131, 3) := by decide +kernel
theorem dX4_begin_101 : decode cX4_begin 101 = .ok (.bipush 10, 2) := by decide +kernel
theorem dX4_begin_103 : decode cX4_begin 103 = .ok (.iadd, 1) := by decide +kernel
theorem dX4_begin_104 : decode cX4_begin 104 = .ok (.putfield 153, 3) := by decide +kernel
theorem dX4_begin_107 : decode cX4_begin 107 = .ok (.aload_n 0, 1) := by decide +kernel
theorem dX4_begin_108 : decode cX4_begin 108 = .ok (.aload_n 0, 1) := by decide +kernel
theorem dX4_begin_109 : decode cX4_begin 109 = .ok (.getfield 131, 3) := by decide +kernel
theorem dX4_begin_112 : decode cX4_begin 112 = .ok (.iconst 2, 1) := by decide +kernel
theorem dX4_begin_113 : decode cX4_begin 113 = .ok (.iadd, 1) := by decide +kernel
theorem dX4_begin_114 : decode cX4_begin 114 = .ok (.putfield 140, 3) := by decide +kernel
theorem dX4_begin_117 : decode cX4_begin 117 = .ok (.return_, 1) := by decide +kernel
theorem dX4_land_0 : decode cX4_land 0 = .ok (.aload_n 0, 1) := by decide +kernel
theorem dX4_land_1 : decode cX4_land 1 = .ok (.iload_n 1, 1) := by decide +kernel
theorem dX4_land_2 : decode cX4_land 2 = .ok (.invokevirtual 106, 3) := by decide +kernel
theorem dX4_land_5 : decode cX4_land 5 = .ok (.istore_n 2, 1) := by decide +kernel
theorem dX4_land_6 : decode cX4_land 6 = .ok (.aload_n 0, 1) := by decide +kernel
theorem dX4_land_7 : decode cX4_land 7 = .ok (.getfield 75, 3) := by decide +kernel
theorem dX4_land_10 : decode cX4_land 10 = .ok (.iload_n 2, 1) := by decide +kernel
theorem dX4_land_11 : decode cX4_land 11 = .ok (.iconst 2, 1) := by decide +kernel
theorem dX4_land_12 : decode cX4_land 12 = .ok (.iastore, 1) := by decide +kernel
theorem dX4_land_13 : decode cX4_land 13 = .ok (.aload_n 0, 1) := by decide +kernel
theorem dX4_land_14 : decode cX4_land 14 = .ok (.getfield 72, 3) := by decide +kernel
theorem dX4_land_17 : decode cX4_land 17 = .ok (.iload_n 2, 1) := by decide +kernel
theorem dX4_land_18 : decode cX4_land 18 = .ok (.aload_n 0, 1) := by decide +kernel
theorem dX4_land_19 : decode cX4_land 19 = .ok (.getfield 131, 3) := by decide +kernel
theorem dX4_land_22 : decode cX4_land 22 = .ok (.iastore, 1) := by decide +kernel
theorem dX4_land_23 : decode cX4_land 23 = .ok (.aload_n 0, 1) := by decide +kernel
theorem dX4_land_24 : decode cX4_land 24 = .ok (.getfield 48, 3) := by decide +kernel
theorem dX4_land_27 : decode cX4_land 27 = .ok (.iload_n 1, 1) := by decide +kernel
theorem dX4_land_28 : decode cX4_land 28 = .ok (.iconst 0, 1) := by decide +kernel
theorem dX4_land_29 : decode cX4_land 29 = .ok (.iastore, 1) := by decide +kernel
theorem dX4_land_30 : decode cX4_land 30 = .ok (.aload_n 0, 1) := by decide +kernel
theorem dX4_land_31 : decode cX4_land 31 = .ok (.aload_n 0, 1) := by decide +kernel
theorem dX4_land_32 : decode cX4_land 32 = .ok (.getfield 131, 3) := by decide +kernel
theorem dX4_land_35 : decode cX4_land 35 = .ok (.iconst 2, 1) := by decide +kernel
theorem dX4_land_36 : decode cX4_land 36 = .ok (.iadd, 1) := by decide +kernel
theorem dX4_land_37 : decode cX4_land 37 = .ok (.putfield 140, 3) := by decide +kernel
theorem dX4_land_40 : decode cX4_land 40 = .ok (.return_, 1) := by decide +kernel
theorem dX4_minute_0 : decode cX4_minute 0 = .ok (.aload_n 0, 1) := by decide +kernel
theorem dX4_minute_1 : decode cX4_minute 1 = .ok (.dup, 1) := by decide +kernel
theorem dX4_minute_2 : decode cX4_minute 2 = .ok (.getfield 131, 3) := by decide +kernel
theorem dX4_minute_5 : decode cX4_minute 5 = .ok (.iconst 1, 1) := by decide +kernel
theorem dX4_minute_6 : decode cX4_minute 6 = .ok (.iadd, 1) := by decide +kernel
theorem dX4_minute_7 : decode cX4_minute 7 = .ok (.putfield 131, 3) := by decide +kernel
theorem dX4_minute_10 : decode cX4_minute 10 = .ok (.aload_n 0, 1) := by decide +kernel
theorem dX4_minute_11 : decode cX4_minute 11 = .ok (.getfield 16, 3) := by decide +kernel
theorem dX4_minute_14 : decode cX4_minute 14 = .ok (.ifCond .ne 19, 3) := by decide +kernel
theorem dX4_minute_17 : decode cX4_minute 17 = .ok (.aload_n 0, 1) := by decide +kernel
theorem dX4_minute_18 : decode cX4_minute 18 = .ok (.getfield 131, 3) := by decide +kernel
theorem dX4_minute_21 : decode cX4_minute 21 = .ok (.aload_n 0, 1) := by decide +kernel
theorem dX4_minute_22 : decode cX4_minute 22 = .ok (.getfield 153, 3) := by decide +kernel
theorem dX4_minute_25 : decode cX4_minute 25 = .ok (.if_icmp .lt 8, 3) := by decide +kernel
theorem dX4_minute_28 : decode cX4_minute 28 = .ok (.aload_n 0, 1) := by decide +kernel
theorem dX4_minute_29 : decode cX4_minute 29 = .ok (.iconst 2, 1) := by decide +kernel
theorem dX4_minute_30 : decode cX4_minute 30 = .ok (.putfield 16, 3) := by decide +kernel
theorem dX4_minute_33 : decode cX4_minute 33 = .ok (.iconst 0, 1) := by decide +kernel
theorem dX4_minute_34 : decode cX4_minute 34 = .ok (.istore_n 1, 1) := by decide +kernel
theorem dX4_minute_35 : decode cX4_minute 35 = .ok (.iload_n 1, 1) := by decide +kernel
theorem dX4_minute_36 : decode cX4_minute 36 = .ok (.iconst 2, 1) := by decide +kernel
theorem dX4_minute_37 : decode cX4_minute 37 = .ok (.if_icmp .ge 38, 3) := by decide +kernel
theorem dX4_minute_40 : decode cX4_minute 40 = .ok (.aload_n 0, 1) := by decide +kernel
theorem dX4_minute_41 : decode cX4_minute 41 = .ok (.getfield 22, 3) := by decide +kernel
theorem dX4_minute_44 : decode cX4_minute 44 = .ok (.iload_n 1, 1) := by decide +kernel
theorem dX4_minute_45 : decode cX4_minute 45 = .ok (.aload_n 0, 1) := by decide +kernel
theorem dX4_minute_46 : decode cX4_minute 46 = .ok (.getfield 22, 3) := by decide +kernel
theorem dX4_minute_49 : decode cX4_minute 49 = .ok (.iload_n 1, 1) := by decide +kernel
theorem dX4_minute_50 : decode cX4_minute 50 = .ok (.iaload, 1) := by decide +kernel
theorem dX4_minute_51 : decode cX4_minute 51 = .ok (.aload_n 0, 1) := by decide +kernel
theorem dX4_minute_52 : decode cX4_minute 52 = .ok (.getfield 131, 3) := by decide +kernel
theorem dX4_minute_55 : decode cX4_minute 55 = .ok (.if_icmp .gt 7, 3) := by decide +kernel
theorem dX4_minute_58 : decode cX4_minute 58 = .ok (.iconst 0, 1) := by decide +kernel
theorem dX4_minute_59 : decode cX4_minute 59 = .ok (.goto 9, 3) := by decide +kernel
theorem dX4_minute_62 : decode cX4_minute 62 = .ok (.aload_n 0, 1) := by decide +kernel
theorem dX4_minute_63 : decode cX4_minute 63 = .ok (.getfield 22, 3) := by decide +kernel
theorem dX4_minute_66 : decode cX4_minute 66 = .ok (.iload_n 1, 1) := by decide +kernel
theorem dX4_minute_67 : decode cX4_minute 67 = .ok (.iaload, 1) := by decide +kernel
theorem dX4_minute_68 : decode cX4_minute 68 = .ok (.iastore, 1) := by decide +kernel
theorem dX4_minute_69 : decode cX4_minute 69 = .ok (.iinc 1 1, 3) := by decide +kernel
theorem dX4_minute_72 : decode cX4_minute 72 = .ok (.goto (-37), 3) := by decide +kernel
theorem dX4_minute_75 : decode cX4_minute 75 = .ok (.iconst 0, 1) := by decide +kernel
theorem dX4_minute_76 : decode cX4_minute 76 = .ok (.istore_n 1, 1) := by decide +kernel
theorem dX4_minute_77 : decode cX4_minute 77 = .ok (.iload_n 1, 1) := by decide +kernel
theorem dX4_minute_78 : decode cX4_minute 78 = .ok (.aload_n 0, 1) := by decide +kernel
theorem dX4_minute_79 : decode cX4_minute 79 = .ok (.getfield 88, 3) := by decide +kernel
theorem dX4_minute_82 : decode cX4_minute 82 = .ok (.if_icmp .ge 92, 3) := by decide +kernel
theorem dX4_minute_85 : decode cX4_minute 85 = .ok (.aload_n 0, 1) := by decide +kernel
theorem dX4_minute_86 : decode cX4_minute 86 = .ok (.iload_n 1, 1) := by decide +kernel
theorem dX4_minute_87 : decode cX4_minute 87 = .ok (.invokevirtual 106, 3) := by decide +kernel
theorem dX4_minute_90 : decode cX4_minute 90 = .ok (.istore_n 2, 1) := by decide +kernel
theorem dX4_minute_91 : decode cX4_minute 91 = .ok (.iload_n 2, 1) := by decide +kernel
theorem dX4_minute_92 : decode cX4_minute 92 = .ok (.iconst (-1), 1) := by decide +kernel
theorem dX4_minute_93 : decode cX4_minute 93 = .ok (.if_icmp .eq 75, 3) := by decide +kernel
theorem dX4_minute_96 : decode cX4_minute 96 = .ok (.aload_n 0, 1) := by decide +kernel
theorem dX4_minute_97 : decode cX4_minute 97 = .ok (.getfield 48, 3) := by decide +kernel
theorem dX4_minute_100 : decode cX4_minute 100 = .ok (.iload_n 1, 1) := by decide +kernel
theorem dX4_minute_101 : decode cX4_minute 101 = .ok (.iaload, 1) := by decide +kernel
theorem dX4_minute_102 : decode cX4_minute 102 = .ok (.ifCond .gt 66, 3) := by decide +kernel
theorem dX4_minute_105 : decode cX4_minute 105 = .ok (.aload_n 0, 1) := by decide +kernel
theorem dX4_minute_106 : decode cX4_minute 106 = .ok (.getfield 131, 3) := by decide +kernel
theorem dX4_minute_109 : decode cX4_minute 109 = .ok (.aload_n 0, 1) := by decide +kernel
theorem dX4_minute_110 : decode cX4_minute 110 = .ok (.getfield 69, 3) := by decide +kernel
theorem dX4_minute_113 : decode cX4_minute 113 = .ok (.iload_n 2, 1) := by decide +kernel
theorem dX4_minute_114 : decode cX4_minute 114 = .ok (.iaload, 1) := by decide +kernel
theorem dX4_minute_115 : decode cX4_minute 115 = .ok (.isub, 1) := by decide +kernel
theorem dX4_minute_116 : decode cX4_minute 116 = .ok (.aload_n 0, 1) := by decide +kernel
theorem dX4_minute_117 : decode cX4_minute 117 = .ok (.getfield 63, 3) := by decide +kernel
theorem dX4_minute_120 : decode cX4_minute 120 = .ok (.iload_n 2, 1) := by decide +kernel
theorem dX4_minute_121 : decode cX4_minute 121 = .ok (.iaload, 1) := by decide +kernel
theorem dX4_minute_122 : decode cX4_minute 122 = .ok (.if_icmp .ge 26, 3) := by decide +kernel
theorem dX4_minute_125 : decode cX4_minute 125 = .ok (.aload_n 0, 1) := by decide +kernel
theorem dX4_minute_126 : decode cX4_minute 126 = .ok (.getfield 131, 3) := by decide +kernel
theorem dX4_minute_129 : decode cX4_minute 129 = .ok (.aload_n 0, 1) := by decide +kernel
theorem dX4_minute_130 : decode cX4_minute 130 = .ok (.getfield 13, 3) := by decide +kernel
theorem dX4_minute_133 : decode cX4_minute 133 = .ok (.if_icmp .ge 15, 3) := by decide +kernel
theorem dX4_minute_136 : decode cX4_minute 136 = .ok (.aload_n 0, 1) := by decide +kernel
theorem dX4_minute_137 : decode cX4_minute 137 = .ok (.getfield 45, 3) := by decide +kernel
theorem dX4_minute_140 : decode cX4_minute 140 = .ok (.iload_n 1, 1) := by decide +kernel
theorem dX4_minute_141 : decode cX4_minute 141 = .ok (.baload, 1) := by decide +kernel
theorem dX4_minute_142 : decode cX4_minute 142 = .ok (.ifCond .ne 6, 3) := by decide +kernel
theorem dX4_minute_145 : decode cX4_minute 145 = .ok (.goto 23, 3) := by decide +kernel
theorem dX4_minute_148 : decode cX4_minute 148 = .ok (.aload_n 0, 1) := by decide +kernel
theorem dX4_minute_149 : decode cX4_minute 149 = .ok (.dup, 1) := by decide +kernel
theorem dX4_minute_150 : decode cX4_minute 150 = .ok (.getfield 156, 3) := by decide +kernel
theorem dX4_minute_153 : decode cX4_minute 153 = .ok (.iconst 1, 1) := by decide +kernel
theorem dX4_minute_154 : decode cX4_minute 154 = .ok (.iadd, 1) := by decide +kernel
theorem dX4_minute_155 : decode cX4_minute 155 = .ok (.putfield 156, 3) := by decide +kernel
theorem dX4_minute_158 : decode cX4_minute 158 = .ok (.aload_n 0, 1) := by decide +kernel
theorem dX4_minute_159 : decode cX4_minute 159 = .ok (.getfield 48, 3) := by decide +kernel
theorem dX4_minute_162 : decode cX4_minute 162 = .ok (.iload_n 1, 1) := by decide +kernel
theorem dX4_minute_163 : decode cX4_minute 163 = .ok (.aload_n 0, 1) := by decide +kernel
theorem dX4_minute_164 : decode cX4_minute 164 = .ok (.getfield 156, 3) := by decide +kernel
theorem dX4_minute_167 : decode cX4_minute 167 = .ok (.iastore, 1) := by decide +kernel
theorem dX4_minute_168 : decode cX4_minute 168 = .ok (.iinc 1 1, 3) := by decide +kernel
theorem dX4_minute_171 : decode cX4_minute 171 = .ok (.goto (-94), 3) := by decide +kernel
theorem dX4_minute_174 : decode cX4_minute 174 = .ok (.iconst (-1), 1) := by decide +kernel
theorem dX4_minute_175 : decode cX4_minute 175 = .ok (.istore_n 1, 1) := by decide +kernel
theorem dX4_minute_176 : decode cX4_minute 176 = .ok (.iconst 0, 1) := by decide +kernel
theorem dX4_minute_177 : decode cX4_minute 177 = .ok (.istore_n 2, 1) := by decide +kernel
theorem dX4_minute_178 : decode cX4_minute 178 = .ok (.iload_n 2, 1) := by decide +kernel
theorem dX4_minute_179 : decode cX4_minute 179 = .ok (.aload_n 0, 1) := by decide +kernel
theorem dX4_minute_180 : decode cX4_minute 180 = .ok (.getfield 88, 3) := by decide +kernel
theorem dX4_minute_183 : decode cX4_minute 183 = .ok (.if_icmp .ge 40, 3) := by decide +kernel
theorem dX4_minute_186 : decode cX4_minute 186 = .ok (.aload_n 0, 1) := by decide +kernel
theorem dX4_minute_187 : decode cX4_minute 187 = .ok (.getfield 48, 3) := by decide +kernel
theorem dX4_minute_190 : decode cX4_minute 190 = .ok (.iload_n 2, 1) := by decide +kernel
theorem dX4_minute_191 : decode cX4_minute 191 = .ok (.iaload, 1) := by decide +kernel
theorem dX4_minute_192 : decode cX4_minute 192 = .ok (.ifCond .le 25, 3) := by decide +kernel
theorem dX4_minute_195 : decode cX4_minute 195 = .ok (.iload_n 1, 1) := by decide +kernel
theorem dX4_minute_196 : decode cX4_minute 196 = .ok (.iconst (-1), 1) := by decide +kernel
theorem dX4_minute_197 : decode cX4_minute 197 = .ok (.if_icmp .eq 18, 3) := by decide +kernel
theorem dX4_minute_200 : decode cX4_minute 200 = .ok (.aload_n 0, 1) := by decide +kernel
theorem dX4_minute_201 : decode cX4_minute 201 = .ok (.getfield 48, 3) := by decide +kernel
theorem dX4_minute_204 : decode cX4_minute 204 = .ok (.iload_n 2, 1) := by decide +kernel
theorem dX4_minute_205 : decode cX4_minute 205 = .ok (.iaload, 1) := by decide +kernel
theorem dX4_minute_206 : decode cX4_minute 206 = .ok (.aload_n 0, 1) := by decide +kernel
theorem dX4_minute_207 : decode cX4_minute 207 = .ok (.getfield 48, 3) := by decide +kernel
theorem dX4_minute_210 : decode cX4_minute 210 = .ok (.iload_n 1, 1) := by decide +kernel
theorem dX4_minute_211 : decode cX4_minute 211 = .ok (.iaload, 1) := by decide +kernel
theorem dX4_minute_212 : decode cX4_minute 212 = .ok (.if_icmp .ge 5, 3) := by decide +kernel
theorem dX4_minute_215 : decode cX4_minute 215 = .ok (.iload_n 2, 1) := by decide +kernel
theorem dX4_minute_216 : decode cX4_minute 216 = .ok (.istore_n 1, 1) := by decide +kernel
theorem dX4_minute_217 : decode cX4_minute 217 = .ok (.iinc 2 1, 3) := by decide +kernel
theorem dX4_minute_220 : decode cX4_minute 220 = .ok (.goto (-42), 3) := by decide +kernel
theorem dX4_minute_223 : decode cX4_minute 223 = .ok (.aload_n 0, 1) := by decide +kernel
theorem dX4_minute_224 : decode cX4_minute 224 = .ok (.invokevirtual 146, 3) := by decide +kernel
theorem dX4_minute_227 : decode cX4_minute 227 = .ok (.ifCond .ne 13, 3) := by decide +kernel
theorem dX4_minute_230 : decode cX4_minute 230 = .ok (.iload_n 1, 1) := by decide +kernel
theorem dX4_minute_231 : decode cX4_minute 231 = .ok (.iconst (-1), 1) := by decide +kernel
theorem dX4_minute_232 : decode cX4_minute 232 = .ok (.if_icmp .eq 8, 3) := by decide +kernel
theorem dX4_minute_235 : decode cX4_minute 235 = .ok (.aload_n 0, 1) := by decide +kernel
theorem dX4_minute_236 : decode cX4_minute 236 = .ok (.iload_n 1, 1) := by decide +kernel
theorem dX4_minute_237 : decode cX4_minute 237 = .ok (.invokevirtual 159, 3) := by decide +kernel
theorem dX4_minute_240 : decode cX4_minute 240 = .ok (.iconst 0, 1) := by decide +kernel
theorem dX4_minute_241 : decode cX4_minute 241 = .ok (.istore_n 2, 1) := by decide +kernel
theorem dX4_minute_242 : decode cX4_minute 242 = .ok (.iload_n 2, 1) := by decide +kernel
theorem dX4_minute_243 : decode cX4_minute 243 = .ok (.aload_n 0, 1) := by decide +kernel
theorem dX4_minute_244 : decode cX4_minute 244 = .ok (.getfield 91, 3) := by decide +kernel
theorem dX4_minute_247 : decode cX4_minute 247 = .ok (.if_icmp .ge 43, 3) := by decide +kernel
theorem dX4_minute_250 : decode cX4_minute 250 = .ok (.aload_n 0, 1) := by decide +kernel
theorem dX4_minute_251 : decode cX4_minute 251 = .ok (.invokevirtual 146, 3) := by decide +kernel
theorem dX4_minute_254 : decode cX4_minute 254 = .ok (.ifCond .ne 36, 3) := by decide +kernel
theorem dX4_minute_257 : decode cX4_minute 257 = .ok (.aload_n 0, 1) := by decide +kernel
theorem dX4_minute_258 : decode cX4_minute 258 = .ok (.getfield 75, 3) := by decide +kernel
theorem dX4_minute_261 : decode cX4_minute 261 = .ok (.iload_n 2, 1) := by decide +kernel
theorem dX4_minute_262 : decode cX4_minute 262 = .ok (.iaload, 1) := by decide +kernel
theorem dX4_minute_263 : decode cX4_minute 263 = .ok (.ifCond .ne 21, 3) := by decide +kernel
theorem dX4_minute_266 : decode cX4_minute 266 = .ok (.aload_n 0, 1) := by decide +kernel
theorem dX4_minute_267 : decode cX4_minute 267 = .ok (.iload_n 2, 1) := by decide +kernel
theorem dX4_minute_268 : decode cX4_minute 268 = .ok (.invokevirtual 150, 3) := by decide +kernel
theorem dX4_minute_271 : decode cX4_minute 271 = .ok (.ifCond .eq 6, 3) := by decide +kernel
theorem dX4_minute_274 : decode cX4_minute 274 = .ok (.goto 10, 3) := by decide +kernel
theorem dX4_minute_277 : decode cX4_minute 277 = .ok (.aload_n 0, 1) := by decide +kernel
theorem dX4_minute_278 : decode cX4_minute 278 = .ok (.iload_n 2, 1) := by decide +kernel
theorem dX4_minute_279 : decode cX4_minute 279 = .ok (.invokevirtual 163, 3) := by decide +kernel
theorem dX4_minute_282 : decode cX4_minute 282 = .ok (.iconst 1, 1) := by decide +kernel
theorem dX4_minute_283 : decode cX4_minute 283 = .ok (.ireturn, 1) := by decide +kernel
theorem dX4_minute_284 : decode cX4_minute 284 = .ok (.iinc 2 1, 3) := by decide +kernel
theorem dX4_minute_287 : decode cX4_minute 287 = .ok (.goto (-45), 3) := by decide +kernel
theorem dX4_minute_290 : decode cX4_minute 290 = .ok (.iconst 0, 1) := by decide +kernel
theorem dX4_minute_291 : decode cX4_minute 291 = .ok (.ireturn, 1) := by decide +kernel
theorem dX4_tick_0 : decode cX4_tick 0 = .ok (.aload_n 0, 1) := by decide +kernel
theorem dX4_tick_1 : decode cX4_tick 1 = .ok (.iconst 0, 1) := by decide +kernel
theorem dX4_tick_2 : decode cX4_tick 2 = .ok (.putfield 78, 3) := by decide +kernel
theorem dX4_tick_5 : decode cX4_tick 5 = .ok (.iload_n 1, 1) := by decide +kernel
theorem dX4_tick_6 : decode cX4_tick 6 = .ok (.iconst 1, 1) := by decide +kernel
theorem dX4_tick_7 : decode cX4_tick 7 = .ok (.sipush 300, 3) := by decide +kernel
theorem dX4_tick_10 : decode cX4_tick 10 = .ok (.invokestatic 84, 3) := by decide +kernel
theorem dX4_tick_13 : decode cX4_tick 13 = .ok (.ifCond .eq 15, 3) := by decide +kernel
theorem dX4_tick_16 : decode cX4_tick 16 = .ok (.aload_n 0, 1) := by decide +kernel
theorem dX4_tick_17 : decode cX4_tick 17 = .ok (.getfield 131, 3) := by decide +kernel
theorem dX4_tick_20 : decode cX4_tick 20 = .ok (.iload_n 1, 1) := by decide +kernel
theorem dX4_tick_21 : decode cX4_tick 21 = .ok (.iadd, 1) := by decide +kernel
theorem dX4_tick_22 : decode cX4_tick 22 = .ok (.sipush 1500, 3) := by decide +kernel
theorem dX4_tick_25 : decode cX4_tick 25 = .ok (.if_icmp .le 9, 3) := by decide +kernel
theorem dX4_tick_28 : decode cX4_tick 28 = .ok (.aload_n 0, 1) := by decide +kernel
theorem dX4_tick_29 : decode cX4_tick 29 = .ok (.iconst 1, 1) := by decide +kernel
theorem dX4_tick_30 : decode cX4_tick 30 = .ok (.invokevirtual 94, 3) := by decide +kernel
theorem dX4_tick_33 : decode cX4_tick 33 = .ok (.ireturn, 1) := by decide +kernel
theorem dX4_tick_34 : decode cX4_tick 34 = .ok (.iconst 0, 1) := by decide +kernel
theorem dX4_tick_35 : decode cX4_tick 35 = .ok (.istore_n 2, 1) := by decide +kernel
theorem dX4_tick_36 : decode cX4_tick 36 = .ok (.iconst 0, 1) := by decide +kernel
theorem dX4_tick_37 : decode cX4_tick 37 = .ok (.istore_n 3, 1) := by decide +kernel
theorem dX4_tick_38 : decode cX4_tick 38 = .ok (.iload_n 3, 1) := by decide +kernel
theorem dX4_tick_39 : decode cX4_tick 39 = .ok (.iload_n 1, 1) := by decide +kernel
theorem dX4_tick_40 : decode cX4_tick 40 = .ok (.if_icmp .ge 24, 3) := by decide +kernel
theorem dX4_tick_43 : decode cX4_tick 43 = .ok (.iload_n 2, 1) := by decide +kernel
theorem dX4_tick_44 : decode cX4_tick 44 = .ok (.aload_n 0, 1) := by decide +kernel
theorem dX4_tick_45 : decode cX4_tick 45 = .ok (.invokevirtual 166, 3) := by decide +kernel
theorem dX4_tick_48 : decode cX4_tick 48 = .ok (.ifCond .eq 7, 3) := by decide +kernel
theorem dX4_tick_51 : decode cX4_tick 51 = .ok (.iconst 1, 1) := by decide +kernel
theorem dX4_tick_52 : decode cX4_tick 52 = .ok (.goto 4, 3) := by decide +kernel
theorem dX4_tick_55 : decode cX4_tick 55 = .ok (.iconst 0, 1) := by decide +kernel
theorem dX4_tick_56 : decode cX4_tick 56 = .ok (.iadd, 1) := by decide +kernel
theorem dX4_tick_57 : decode cX4_tick 57 = .ok (.istore_n 2, 1) := by decide +kernel
theorem dX4_tick_58 : decode cX4_tick 58 = .ok (.iinc 3 1, 3) := by decide +kernel
theorem dX4_tick_61 : decode cX4_tick 61 = .ok (.goto (-23), 3) := by decide +kernel
theorem dX4_tick_64 : decode cX4_tick 64 = .ok (.iload_n 2, 1) := by decide +kernel
theorem dX4_tick_65 : decode cX4_tick 65 = .ok (.ireturn, 1) := by decide +kernel
theorem dX4_now_0 : decode cX4_now 0 = .ok (.aload_n 0, 1) := by decide +kernel
theorem dX4_now_1 : decode cX4_now 1 = .ok (.iconst 0, 1) := by decide +kernel
theorem dX4_now_2 : decode cX4_now 2 = .ok (.putfield 78, 3) := by decide +kernel
theorem dX4_now_5 : decode cX4_now 5 = .ok (.aload_n 0, 1) := by decide +kernel
theorem dX4_now_6 : decode cX4_now 6 = .ok (.getfield 131, 3) := by decide +kernel
theorem dX4_now_9 : decode cX4_now 9 = .ok (.ireturn, 1) := by decide +kernel
theorem dX4_costOf_0 : decode cX4_costOf 0 = .ok (.aload_n 0, 1) := by decide +kernel
theorem dX4_costOf_1 : decode cX4_costOf 1 = .ok (.getfield 75, 3) := by decide +kernel
theorem dX4_costOf_4 : decode cX4_costOf 4 = .ok (.iload_n 1, 1) := by decide +kernel
theorem dX4_costOf_5 : decode cX4_costOf 5 = .ok (.iaload, 1) := by decide +kernel
theorem dX4_costOf_6 : decode cX4_costOf 6 = .ok (.iconst 2, 1) := by decide +kernel
theorem dX4_costOf_7 : decode cX4_costOf 7 = .ok (.if_icmp .eq 5, 3) := by decide +kernel
theorem dX4_costOf_10 : decode cX4_costOf 10 = .ok (.iconst 0, 1) := by decide +kernel
theorem dX4_costOf_11 : decode cX4_costOf 11 = .ok (.ireturn, 1) := by decide +kernel
theorem dX4_costOf_12 : decode cX4_costOf 12 = .ok (.aload_n 0, 1) := by decide +kernel
theorem dX4_costOf_13 : decode cX4_costOf 13 = .ok (.getfield 60, 3) := by decide +kernel
theorem dX4_costOf_16 : decode cX4_costOf 16 = .ok (.iload_n 1, 1) := by decide +kernel
theorem dX4_costOf_17 : decode cX4_costOf 17 = .ok (.iaload, 1) := by decide +kernel
theorem dX4_costOf_18 : decode cX4_costOf 18 = .ok (.ifCond .ne 8, 3) := by decide +kernel
theorem dX4_costOf_21 : decode cX4_costOf 21 = .ok (.bipush 8, 2) := by decide +kernel
theorem dX4_costOf_23 : decode cX4_costOf 23 = .ok (.goto 12, 3) := by decide +kernel
theorem dX4_costOf_26 : decode cX4_costOf 26 = .ok (.aload_n 0, 1) := by decide +kernel
theorem dX4_costOf_27 : decode cX4_costOf 27 = .ok (.getfield 60, 3) := by decide +kernel
theorem dX4_costOf_30 : decode cX4_costOf 30 = .ok (.iload_n 1, 1) := by decide +kernel
theorem dX4_costOf_31 : decode cX4_costOf 31 = .ok (.iaload, 1) := by decide +kernel
theorem dX4_costOf_32 : decode cX4_costOf 32 = .ok (.bipush 20, 2) := by decide +kernel
theorem dX4_costOf_34 : decode cX4_costOf 34 = .ok (.idiv, 1) := by decide +kernel
theorem dX4_costOf_35 : decode cX4_costOf 35 = .ok (.aload_n 0, 1) := by decide +kernel
theorem dX4_costOf_36 : decode cX4_costOf 36 = .ok (.getfield 35, 3) := by decide +kernel
theorem dX4_costOf_39 : decode cX4_costOf 39 = .ok (.aload_n 0, 1) := by decide +kernel
theorem dX4_costOf_40 : decode cX4_costOf 40 = .ok (.getfield 57, 3) := by decide +kernel
theorem dX4_costOf_43 : decode cX4_costOf 43 = .ok (.iload_n 1, 1) := by decide +kernel
theorem dX4_costOf_44 : decode cX4_costOf 44 = .ok (.iaload, 1) := by decide +kernel
theorem dX4_costOf_45 : decode cX4_costOf 45 = .ok (.iaload, 1) := by decide +kernel
theorem dX4_costOf_46 : decode cX4_costOf 46 = .ok (.sipush 180, 3) := by decide +kernel
theorem dX4_costOf_49 : decode cX4_costOf 49 = .ok (.aload_n 0, 1) := by decide +kernel
theorem dX4_costOf_50 : decode cX4_costOf 50 = .ok (.getfield 72, 3) := by decide +kernel
theorem dX4_costOf_53 : decode cX4_costOf 53 = .ok (.iload_n 1, 1) := by decide +kernel
theorem dX4_costOf_54 : decode cX4_costOf 54 = .ok (.iaload, 1) := by decide +kernel
theorem dX4_costOf_55 : decode cX4_costOf 55 = .ok (.aload_n 0, 1) := by decide +kernel
theorem dX4_costOf_56 : decode cX4_costOf 56 = .ok (.getfield 69, 3) := by decide +kernel
theorem dX4_costOf_59 : decode cX4_costOf 59 = .ok (.iload_n 1, 1) := by decide +kernel
theorem dX4_costOf_60 : decode cX4_costOf 60 = .ok (.iaload, 1) := by decide +kernel
theorem dX4_costOf_61 : decode cX4_costOf 61 = .ok (.isub, 1) := by decide +kernel
theorem dX4_costOf_62 : decode cX4_costOf 62 = .ok (.invokestatic 169, 3) := by decide +kernel
theorem dX4_costOf_65 : decode cX4_costOf 65 = .ok (.imul, 1) := by decide +kernel
theorem dX4_costOf_66 : decode cX4_costOf 66 = .ok (.iadd, 1) := by decide +kernel
theorem dX4_costOf_67 : decode cX4_costOf 67 = .ok (.ireturn, 1) := by decide +kernel
theorem dX4_toldOf_0 : decode cX4_toldOf 0 = .ok (.bipush 8, 2) := by decide +kernel
theorem dX4_toldOf_2 : decode cX4_toldOf 2 = .ok (.newarray .int, 2) := by decide +kernel
theorem dX4_toldOf_4 : decode cX4_toldOf 4 = .ok (.dup, 1) := by decide +kernel
theorem dX4_toldOf_5 : decode cX4_toldOf 5 = .ok (.iconst 0, 1) := by decide +kernel
theorem dX4_toldOf_6 : decode cX4_toldOf 6 = .ok (.aload_n 0, 1) := by decide +kernel
theorem dX4_toldOf_7 : decode cX4_toldOf 7 = .ok (.getfield 75, 3) := by decide +kernel
theorem dX4_toldOf_10 : decode cX4_toldOf 10 = .ok (.iload_n 1, 1) := by decide +kernel
theorem dX4_toldOf_11 : decode cX4_toldOf 11 = .ok (.iaload, 1) := by decide +kernel
theorem dX4_toldOf_12 : decode cX4_toldOf 12 = .ok (.iastore, 1) := by decide +kernel
theorem dX4_toldOf_13 : decode cX4_toldOf 13 = .ok (.dup, 1) := by decide +kernel
theorem dX4_toldOf_14 : decode cX4_toldOf 14 = .ok (.iconst 1, 1) := by decide +kernel
theorem dX4_toldOf_15 : decode cX4_toldOf 15 = .ok (.aload_n 0, 1) := by decide +kernel
theorem dX4_toldOf_16 : decode cX4_toldOf 16 = .ok (.getfield 51, 3) := by decide +kernel
theorem dX4_toldOf_19 : decode cX4_toldOf 19 = .ok (.iload_n 1, 1) := by decide +kernel
theorem dX4_toldOf_20 : decode cX4_toldOf 20 = .ok (.iaload, 1) := by decide +kernel
theorem dX4_toldOf_21 : decode cX4_toldOf 21 = .ok (.iastore, 1) := by decide +kernel
theorem dX4_toldOf_22 : decode cX4_toldOf 22 = .ok (.dup, 1) := by decide +kernel
theorem dX4_toldOf_23 : decode cX4_toldOf 23 = .ok (.iconst 2, 1) := by decide +kernel
theorem dX4_toldOf_24 : decode cX4_toldOf 24 = .ok (.aload_n 0, 1) := by decide +kernel
theorem dX4_toldOf_25 : decode cX4_toldOf 25 = .ok (.getfield 54, 3) := by decide +kernel
theorem dX4_toldOf_28 : decode cX4_toldOf 28 = .ok (.iload_n 1, 1) := by decide +kernel
theorem dX4_toldOf_29 : decode cX4_toldOf 29 = .ok (.iaload, 1) := by decide +kernel
theorem dX4_toldOf_30 : decode cX4_toldOf 30 = .ok (.iastore, 1) := by decide +kernel
theorem dX4_toldOf_31 : decode cX4_toldOf 31 = .ok (.dup, 1) := by decide +kernel
theorem dX4_toldOf_32 : decode cX4_toldOf 32 = .ok (.iconst 3, 1) := by decide +kernel
theorem dX4_toldOf_33 : decode cX4_toldOf 33 = .ok (.aload_n 0, 1) := by decide +kernel
theorem dX4_toldOf_34 : decode cX4_toldOf 34 = .ok (.getfield 57, 3) := by decide +kernel
theorem dX4_toldOf_37 : decode cX4_toldOf 37 = .ok (.iload_n 1, 1) := by decide +kernel
theorem dX4_toldOf_38 : decode cX4_toldOf 38 = .ok (.iaload, 1) := by decide +kernel
theorem dX4_toldOf_39 : decode cX4_toldOf 39 = .ok (.iastore, 1) := by decide +kernel
theorem dX4_toldOf_40 : decode cX4_toldOf 40 = .ok (.dup, 1) := by decide +kernel
theorem dX4_toldOf_41 : decode cX4_toldOf 41 = .ok (.iconst 4, 1) := by decide +kernel
theorem dX4_toldOf_42 : decode cX4_toldOf 42 = .ok (.aload_n 0, 1) := by decide +kernel
theorem dX4_toldOf_43 : decode cX4_toldOf 43 = .ok (.getfield 60, 3) := by decide +kernel
theorem dX4_toldOf_46 : decode cX4_toldOf 46 = .ok (.iload_n 1, 1) := by decide +kernel
theorem dX4_toldOf_47 : decode cX4_toldOf 47 = .ok (.iaload, 1) := by decide +kernel
theorem dX4_toldOf_48 : decode cX4_toldOf 48 = .ok (.iastore, 1) := by decide +kernel
theorem dX4_toldOf_49 : decode cX4_toldOf 49 = .ok (.dup, 1) := by decide +kernel
theorem dX4_toldOf_50 : decode cX4_toldOf 50 = .ok (.iconst 5, 1) := by decide +kernel
theorem dX4_toldOf_51 : decode cX4_toldOf 51 = .ok (.aload_n 0, 1) := by decide +kernel
theorem dX4_toldOf_52 : decode cX4_toldOf 52 = .ok (.getfield 69, 3) := by decide +kernel
theorem dX4_toldOf_55 : decode cX4_toldOf 55 = .ok (.iload_n 1, 1) := by decide +kernel
theorem dX4_toldOf_56 : decode cX4_toldOf 56 = .ok (.iaload, 1) := by decide +kernel
theorem dX4_toldOf_57 : decode cX4_toldOf 57 = .ok (.iastore, 1) := by decide +kernel
theorem dX4_toldOf_58 : decode cX4_toldOf 58 = .ok (.dup, 1) := by decide +kernel
theorem dX4_toldOf_59 : decode cX4_toldOf 59 = .ok (.bipush 6, 2) := by decide +kernel
theorem dX4_toldOf_61 : decode cX4_toldOf 61 = .ok (.aload_n 0, 1) := by decide +kernel
theorem dX4_toldOf_62 : decode cX4_toldOf 62 = .ok (.getfield 72, 3) := by decide +kernel
theorem dX4_toldOf_65 : decode cX4_toldOf 65 = .ok (.iload_n 1, 1) := by decide +kernel
theorem dX4_toldOf_66 : decode cX4_toldOf 66 = .ok (.iaload, 1) := by decide +kernel
theorem dX4_toldOf_67 : decode cX4_toldOf 67 = .ok (.iastore, 1) := by decide +kernel
theorem dX4_toldOf_68 : decode cX4_toldOf 68 = .ok (.dup, 1) := by decide +kernel
theorem dX4_toldOf_69 : decode cX4_toldOf 69 = .ok (.bipush 7, 2) := by decide +kernel
theorem dX4_toldOf_71 : decode cX4_toldOf 71 = .ok (.aload_n 0, 1) := by decide +kernel
theorem dX4_toldOf_72 : decode cX4_toldOf 72 = .ok (.iload_n 1, 1) := by decide +kernel
theorem dX4_toldOf_73 : decode cX4_toldOf 73 = .ok (.invokevirtual 174, 3) := by decide +kernel
theorem dX4_toldOf_76 : decode cX4_toldOf 76 = .ok (.iastore, 1) := by decide +kernel
theorem dX4_toldOf_77 : decode cX4_toldOf 77 = .ok (.astore_n 3, 1) := by decide +kernel
theorem dX4_toldOf_78 : decode cX4_toldOf 78 = .ok (.aload_n 3, 1) := by decide +kernel
theorem dX4_toldOf_79 : decode cX4_toldOf 79 = .ok (.iload_n 2, 1) := by decide +kernel
theorem dX4_toldOf_80 : decode cX4_toldOf 80 = .ok (.iaload, 1) := by decide +kernel
theorem dX4_toldOf_81 : decode cX4_toldOf 81 = .ok (.ireturn, 1) := by decide +kernel
theorem dX4_flight_0 : decode cX4_flight 0 = .ok (.aload_n 0, 1) := by decide +kernel
theorem dX4_flight_1 : decode cX4_flight 1 = .ok (.iconst 0, 1) := by decide +kernel
theorem dX4_flight_2 : decode cX4_flight 2 = .ok (.putfield 78, 3) := by decide +kernel
theorem dX4_flight_5 : decode cX4_flight 5 = .ok (.aload_n 0, 1) := by decide +kernel
theorem dX4_flight_6 : decode cX4_flight 6 = .ok (.iload_n 1, 1) := by decide +kernel
theorem dX4_flight_7 : decode cX4_flight 7 = .ok (.invokevirtual 134, 3) := by decide +kernel
theorem dX4_flight_10 : decode cX4_flight 10 = .ok (.ifCond .eq 22, 3) := by decide +kernel
theorem dX4_flight_13 : decode cX4_flight 13 = .ok (.iload_n 2, 1) := by decide +kernel
theorem dX4_flight_14 : decode cX4_flight 14 = .ok (.iconst 0, 1) := by decide +kernel
theorem dX4_flight_15 : decode cX4_flight 15 = .ok (.bipush 7, 2) := by decide +kernel
theorem dX4_flight_17 : decode cX4_flight 17 = .ok (.invokestatic 84, 3) := by decide +kernel
theorem dX4_flight_20 : decode cX4_flight 20 = .ok (.ifCond .eq 12, 3) := by decide +kernel
theorem dX4_flight_23 : decode cX4_flight 23 = .ok (.aload_n 0, 1) := by decide +kernel
theorem dX4_flight_24 : decode cX4_flight 24 = .ok (.iload_n 1, 1) := by decide +kernel
theorem dX4_flight_25 : decode cX4_flight 25 = .ok (.iload_n 2, 1) := by decide +kernel
theorem dX4_flight_26 : decode cX4_flight 26 = .ok (.invokevirtual 177, 3) := by decide +kernel
theorem dX4_flight_29 : decode cX4_flight 29 = .ok (.goto 8, 3) := by decide +kernel
theorem dX4_flight_32 : decode cX4_flight 32 = .ok (.aload_n 0, 1) := by decide +kernel
theorem dX4_flight_33 : decode cX4_flight 33 = .ok (.iconst 1, 1) := by decide +kernel
theorem dX4_flight_34 : decode cX4_flight 34 = .ok (.invokevirtual 94, 3) := by decide +kernel
theorem dX4_flight_37 : decode cX4_flight 37 = .ok (.ireturn, 1) := by decide +kernel
theorem dX4_counted_0 : decode cX4_counted 0 = .ok (.iload_n 1, 1) := by decide +kernel
theorem dX4_counted_1 : decode cX4_counted 1 = .ok (.tableswitch 89 0 7 #[47, 52, 57, 62, 68, 89, 74, 79], 47) := by decide +kernel
theorem dX4_counted_48 : decode cX4_counted 48 = .ok (.aload_n 0, 1) := by decide +kernel
theorem dX4_counted_49 : decode cX4_counted 49 = .ok (.getfield 81, 3) := by decide +kernel
theorem dX4_counted_52 : decode cX4_counted 52 = .ok (.ireturn, 1) := by decide +kernel
theorem dX4_counted_53 : decode cX4_counted 53 = .ok (.aload_n 0, 1) := by decide +kernel
theorem dX4_counted_54 : decode cX4_counted 54 = .ok (.getfield 88, 3) := by decide +kernel
theorem dX4_counted_57 : decode cX4_counted 57 = .ok (.ireturn, 1) := by decide +kernel
theorem dX4_counted_58 : decode cX4_counted 58 = .ok (.aload_n 0, 1) := by decide +kernel
theorem dX4_counted_59 : decode cX4_counted 59 = .ok (.getfield 91, 3) := by decide +kernel
theorem dX4_counted_62 : decode cX4_counted 62 = .ok (.ireturn, 1) := by decide +kernel
theorem dX4_counted_63 : decode cX4_counted 63 = .ok (.aload_n 0, 1) := by decide +kernel
theorem dX4_counted_64 : decode cX4_counted 64 = .ok (.iconst 0, 1) := by decide +kernel
theorem dX4_counted_65 : decode cX4_counted 65 = .ok (.invokevirtual 128, 3) := by decide +kernel
theorem dX4_counted_68 : decode cX4_counted 68 = .ok (.ireturn, 1) := by decide +kernel
theorem dX4_counted_69 : decode cX4_counted 69 = .ok (.aload_n 0, 1) := by decide +kernel
theorem dX4_counted_70 : decode cX4_counted 70 = .ok (.iconst 1, 1) := by decide +kernel
theorem dX4_counted_71 : decode cX4_counted 71 = .ok (.invokevirtual 128, 3) := by decide +kernel
theorem dX4_counted_74 : decode cX4_counted 74 = .ok (.ireturn, 1) := by decide +kernel
theorem dX4_counted_75 : decode cX4_counted 75 = .ok (.aload_n 0, 1) := by decide +kernel
theorem dX4_counted_76 : decode cX4_counted 76 = .ok (.getfield 16, 3) := by decide +kernel
theorem dX4_counted_79 : decode cX4_counted 79 = .ok (.ireturn, 1) := by decide +kernel
theorem dX4_counted_80 : decode cX4_counted 80 = .ok (.aload_n 0, 1) := by decide +kernel
theorem dX4_counted_81 : decode cX4_counted 81 = .ok (.getfield 19, 3) := by decide +kernel
theorem dX4_counted_84 : decode cX4_counted 84 = .ok (.aload_n 0, 1) := by decide +kernel
theorem dX4_counted_85 : decode cX4_counted 85 = .ok (.invokevirtual 98, 3) := by decide +kernel
theorem dX4_counted_88 : decode cX4_counted 88 = .ok (.isub, 1) := by decide +kernel
theorem dX4_counted_89 : decode cX4_counted 89 = .ok (.ireturn, 1) := by decide +kernel
theorem dX4_counted_90 : decode cX4_counted 90 = .ok (.iconst 0, 1) := by decide +kernel
theorem dX4_counted_91 : decode cX4_counted 91 = .ok (.istore_n 2, 1) := by decide +kernel
theorem dX4_counted_92 : decode cX4_counted 92 = .ok (.aload_n 0, 1) := by decide +kernel
theorem dX4_counted_93 : decode cX4_counted 93 = .ok (.getfield 48, 3) := by decide +kernel
theorem dX4_counted_96 : decode cX4_counted 96 = .ok (.astore_n 3, 1) := by decide +kernel
theorem dX4_counted_97 : decode cX4_counted 97 = .ok (.aload_n 3, 1) := by decide +kernel
theorem dX4_counted_98 : decode cX4_counted 98 = .ok (.arraylength, 1) := by decide +kernel
theorem dX4_counted_99 : decode cX4_counted 99 = .ok (.istore 4, 2) := by decide +kernel
theorem dX4_counted_101 : decode cX4_counted 101 = .ok (.iconst 0, 1) := by decide +kernel
theorem dX4_counted_102 : decode cX4_counted 102 = .ok (.istore 5, 2) := by decide +kernel
theorem dX4_counted_104 : decode cX4_counted 104 = .ok (.iload 5, 2) := by decide +kernel
theorem dX4_counted_106 : decode cX4_counted 106 = .ok (.iload 4, 2) := by decide +kernel
theorem dX4_counted_108 : decode cX4_counted 108 = .ok (.if_icmp .ge 28, 3) := by decide +kernel
theorem dX4_counted_111 : decode cX4_counted 111 = .ok (.aload_n 3, 1) := by decide +kernel
theorem dX4_counted_112 : decode cX4_counted 112 = .ok (.iload 5, 2) := by decide +kernel
theorem dX4_counted_114 : decode cX4_counted 114 = .ok (.iaload, 1) := by decide +kernel
theorem dX4_counted_115 : decode cX4_counted 115 = .ok (.istore 6, 2) := by decide +kernel
theorem dX4_counted_117 : decode cX4_counted 117 = .ok (.iload_n 2, 1) := by decide +kernel
theorem dX4_counted_118 : decode cX4_counted 118 = .ok (.iload 6, 2) := by decide +kernel
theorem dX4_counted_120 : decode cX4_counted 120 = .ok (.ifCond .le 7, 3) := by decide +kernel
theorem dX4_counted_123 : decode cX4_counted 123 = .ok (.iconst 1, 1) := by decide +kernel
theorem dX4_counted_124 : decode cX4_counted 124 = .ok (.goto 4, 3) := by decide +kernel
theorem dX4_counted_127 : decode cX4_counted 127 = .ok (.iconst 0, 1) := by decide +kernel
theorem dX4_counted_128 : decode cX4_counted 128 = .ok (.iadd, 1) := by decide +kernel
theorem dX4_counted_129 : decode cX4_counted 129 = .ok (.istore_n 2, 1) := by decide +kernel
theorem dX4_counted_130 : decode cX4_counted 130 = .ok (.iinc 5 1, 3) := by decide +kernel
theorem dX4_counted_133 : decode cX4_counted 133 = .ok (.goto (-29), 3) := by decide +kernel
theorem dX4_counted_136 : decode cX4_counted 136 = .ok (.iload_n 2, 1) := by decide +kernel
theorem dX4_counted_137 : decode cX4_counted 137 = .ok (.ireturn, 1) := by decide +kernel
theorem dX4_count_0 : decode cX4_count 0 = .ok (.aload_n 0, 1) := by decide +kernel
theorem dX4_count_1 : decode cX4_count 1 = .ok (.iconst 0, 1) := by decide +kernel
theorem dX4_count_2 : decode cX4_count 2 = .ok (.putfield 78, 3) := by decide +kernel
theorem dX4_count_5 : decode cX4_count 5 = .ok (.iload_n 1, 1) := by decide +kernel
theorem dX4_count_6 : decode cX4_count 6 = .ok (.iconst 0, 1) := by decide +kernel
theorem dX4_count_7 : decode cX4_count 7 = .ok (.bipush 7, 2) := by decide +kernel
theorem dX4_count_9 : decode cX4_count 9 = .ok (.invokestatic 84, 3) := by decide +kernel
theorem dX4_count_12 : decode cX4_count 12 = .ok (.ifCond .eq 11, 3) := by decide +kernel
theorem dX4_count_15 : decode cX4_count 15 = .ok (.aload_n 0, 1) := by decide +kernel
theorem dX4_count_16 : decode cX4_count 16 = .ok (.iload_n 1, 1) := by decide +kernel
theorem dX4_count_17 : decode cX4_count 17 = .ok (.invokevirtual 180, 3) := by decide +kernel
theorem dX4_count_20 : decode cX4_count 20 = .ok (.goto 8, 3) := by decide +kernel
theorem dX4_count_23 : decode cX4_count 23 = .ok (.aload_n 0, 1) := by decide +kernel
theorem dX4_count_24 : decode cX4_count 24 = .ok (.iconst 1, 1) := by decide +kernel
theorem dX4_count_25 : decode cX4_count 25 = .ok (.invokevirtual 94, 3) := by decide +kernel
theorem dX4_count_28 : decode cX4_count 28 = .ok (.ireturn, 1) := by decide +kernel
theorem dX4_isBusy_0 : decode cX4_isBusy 0 = .ok (.aload_n 0, 1) := by decide +kernel
theorem dX4_isBusy_1 : decode cX4_isBusy 1 = .ok (.iconst 0, 1) := by decide +kernel
theorem dX4_isBusy_2 : decode cX4_isBusy 2 = .ok (.putfield 78, 3) := by decide +kernel
theorem dX4_isBusy_5 : decode cX4_isBusy 5 = .ok (.aload_n 0, 1) := by decide +kernel
theorem dX4_isBusy_6 : decode cX4_isBusy 6 = .ok (.invokevirtual 146, 3) := by decide +kernel
theorem dX4_isBusy_9 : decode cX4_isBusy 9 = .ok (.ireturn, 1) := by decide +kernel
theorem dX4_billOf_0 : decode cX4_billOf 0 = .ok (.aload_n 0, 1) := by decide +kernel
theorem dX4_billOf_1 : decode cX4_billOf 1 = .ok (.getfield 29, 3) := by decide +kernel
theorem dX4_billOf_4 : decode cX4_billOf 4 = .ok (.iload_n 1, 1) := by decide +kernel
theorem dX4_billOf_5 : decode cX4_billOf 5 = .ok (.iaload, 1) := by decide +kernel
theorem dX4_billOf_6 : decode cX4_billOf 6 = .ok (.ineg, 1) := by decide +kernel
theorem dX4_billOf_7 : decode cX4_billOf 7 = .ok (.istore_n 2, 1) := by decide +kernel
theorem dX4_billOf_8 : decode cX4_billOf 8 = .ok (.iconst 0, 1) := by decide +kernel
theorem dX4_billOf_9 : decode cX4_billOf 9 = .ok (.istore_n 3, 1) := by decide +kernel
theorem dX4_billOf_10 : decode cX4_billOf 10 = .ok (.iload_n 3, 1) := by decide +kernel
theorem dX4_billOf_11 : decode cX4_billOf 11 = .ok (.aload_n 0, 1) := by decide +kernel
theorem dX4_billOf_12 : decode cX4_billOf 12 = .ok (.getfield 91, 3) := by decide +kernel
theorem dX4_billOf_15 : decode cX4_billOf 15 = .ok (.if_icmp .ge 31, 3) := by decide +kernel
theorem dX4_billOf_18 : decode cX4_billOf 18 = .ok (.iload_n 2, 1) := by decide +kernel
theorem dX4_billOf_19 : decode cX4_billOf 19 = .ok (.aload_n 0, 1) := by decide +kernel
theorem dX4_billOf_20 : decode cX4_billOf 20 = .ok (.getfield 51, 3) := by decide +kernel
theorem dX4_billOf_23 : decode cX4_billOf 23 = .ok (.iload_n 3, 1) := by decide +kernel
theorem dX4_billOf_24 : decode cX4_billOf 24 = .ok (.iaload, 1) := by decide +kernel
theorem dX4_billOf_25 : decode cX4_billOf 25 = .ok (.iload_n 1, 1) := by decide +kernel
theorem dX4_billOf_26 : decode cX4_billOf 26 = .ok (.if_icmp .ne 11, 3) := by decide +kernel
theorem dX4_billOf_29 : decode cX4_billOf 29 = .ok (.aload_n 0, 1) := by decide +kernel
theorem dX4_billOf_30 : decode cX4_billOf 30 = .ok (.iload_n 3, 1) := by decide +kernel
theorem dX4_billOf_31 : decode cX4_billOf 31 = .ok (.invokevirtual 174, 3) := by decide +kernel
theorem dX4_billOf_34 : decode cX4_billOf 34 = .ok (.goto 4, 3) := by decide +kernel
theorem dX4_billOf_37 : decode cX4_billOf 37 = .ok (.iconst 0, 1) := by decide +kernel
theorem dX4_billOf_38 : decode cX4_billOf 38 = .ok (.iadd, 1) := by decide +kernel
theorem dX4_billOf_39 : decode cX4_billOf 39 = .ok (.istore_n 2, 1) := by decide +kernel
theorem dX4_billOf_40 : decode cX4_billOf 40 = .ok (.iinc 3 1, 3) := by decide +kernel
theorem dX4_billOf_43 : decode cX4_billOf 43 = .ok (.goto (-33), 3) := by decide +kernel
theorem dX4_billOf_46 : decode cX4_billOf 46 = .ok (.iload_n 2, 1) := by decide +kernel
theorem dX4_billOf_47 : decode cX4_billOf 47 = .ok (.ireturn, 1) := by decide +kernel
theorem dX4_bill_0 : decode cX4_bill 0 = .ok (.aload_n 0, 1) := by decide +kernel
theorem dX4_bill_1 : decode cX4_bill 1 = .ok (.iconst 0, 1) := by decide +kernel
theorem dX4_bill_2 : decode cX4_bill 2 = .ok (.putfield 78, 3) := by decide +kernel
theorem dX4_bill_5 : decode cX4_bill 5 = .ok (.aload_n 0, 1) := by decide +kernel
theorem dX4_bill_6 : decode cX4_bill 6 = .ok (.iload_n 1, 1) := by decide +kernel
theorem dX4_bill_7 : decode cX4_bill 7 = .ok (.invokevirtual 112, 3) := by decide +kernel
theorem dX4_bill_10 : decode cX4_bill 10 = .ok (.ifCond .eq 11, 3) := by decide +kernel
theorem dX4_bill_13 : decode cX4_bill 13 = .ok (.aload_n 0, 1) := by decide +kernel
theorem dX4_bill_14 : decode cX4_bill 14 = .ok (.iload_n 1, 1) := by decide +kernel
theorem dX4_bill_15 : decode cX4_bill 15 = .ok (.invokevirtual 183, 3) := by decide +kernel
theorem dX4_bill_18 : decode cX4_bill 18 = .ok (.goto 8, 3) := by decide +kernel
theorem dX4_bill_21 : decode cX4_bill 21 = .ok (.aload_n 0, 1) := by decide +kernel
theorem dX4_bill_22 : decode cX4_bill 22 = .ok (.iconst 1, 1) := by decide +kernel
theorem dX4_bill_23 : decode cX4_bill 23 = .ok (.invokevirtual 94, 3) := by decide +kernel
theorem dX4_bill_26 : decode cX4_bill 26 = .ok (.ireturn, 1) := by decide +kernel
theorem dX4_pay_0 : decode cX4_pay 0 = .ok (.aload_n 0, 1) := by decide +kernel
theorem dX4_pay_1 : decode cX4_pay 1 = .ok (.iconst 0, 1) := by decide +kernel
theorem dX4_pay_2 : decode cX4_pay 2 = .ok (.putfield 78, 3) := by decide +kernel
theorem dX4_pay_5 : decode cX4_pay 5 = .ok (.aload_n 0, 1) := by decide +kernel
theorem dX4_pay_6 : decode cX4_pay 6 = .ok (.iload_n 1, 1) := by decide +kernel
theorem dX4_pay_7 : decode cX4_pay 7 = .ok (.invokevirtual 112, 3) := by decide +kernel
theorem dX4_pay_10 : decode cX4_pay 10 = .ok (.ifCond .ne 9, 3) := by decide +kernel
theorem dX4_pay_13 : decode cX4_pay 13 = .ok (.aload_n 0, 1) := by decide +kernel
theorem dX4_pay_14 : decode cX4_pay 14 = .ok (.iconst 1, 1) := by decide +kernel
theorem dX4_pay_15 : decode cX4_pay 15 = .ok (.invokevirtual 94, 3) := by decide +kernel
theorem dX4_pay_18 : decode cX4_pay 18 = .ok (.ireturn, 1) := by decide +kernel
theorem dX4_pay_19 : decode cX4_pay 19 = .ok (.iload_n 2, 1) := by decide +kernel
theorem dX4_pay_20 : decode cX4_pay 20 = .ok (.iconst 1, 1) := by decide +kernel
theorem dX4_pay_21 : decode cX4_pay 21 = .ok (.ldc 186, 2) := by decide +kernel
theorem dX4_pay_23 : decode cX4_pay 23 = .ok (.invokestatic 84, 3) := by decide +kernel
theorem dX4_pay_26 : decode cX4_pay 26 = .ok (.ifCond .ne 9, 3) := by decide +kernel
theorem dX4_pay_29 : decode cX4_pay 29 = .ok (.aload_n 0, 1) := by decide +kernel
theorem dX4_pay_30 : decode cX4_pay 30 = .ok (.iconst 2, 1) := by decide +kernel
theorem dX4_pay_31 : decode cX4_pay 31 = .ok (.invokevirtual 94, 3) := by decide +kernel
theorem dX4_pay_34 : decode cX4_pay 34 = .ok (.ireturn, 1) := by decide +kernel
theorem dX4_pay_35 : decode cX4_pay 35 = .ok (.aload_n 0, 1) := by decide +kernel
theorem dX4_pay_36 : decode cX4_pay 36 = .ok (.getfield 29, 3) := by decide +kernel
theorem dX4_pay_39 : decode cX4_pay 39 = .ok (.iload_n 1, 1) := by decide +kernel
theorem dX4_pay_40 : decode cX4_pay 40 = .ok (.dup2, 1) := by decide +kernel
theorem dX4_pay_41 : decode cX4_pay 41 = .ok (.iaload, 1) := by decide +kernel
theorem dX4_pay_42 : decode cX4_pay 42 = .ok (.iload_n 2, 1) := by decide +kernel
theorem dX4_pay_43 : decode cX4_pay 43 = .ok (.iadd, 1) := by decide +kernel
theorem dX4_pay_44 : decode cX4_pay 44 = .ok (.iastore, 1) := by decide +kernel
theorem dX4_pay_45 : decode cX4_pay 45 = .ok (.aload_n 0, 1) := by decide +kernel
theorem dX4_pay_46 : decode cX4_pay 46 = .ok (.iload_n 1, 1) := by decide +kernel
theorem dX4_pay_47 : decode cX4_pay 47 = .ok (.invokevirtual 183, 3) := by decide +kernel
theorem dX4_pay_50 : decode cX4_pay 50 = .ok (.ireturn, 1) := by decide +kernel
theorem dX4_income_0 : decode cX4_income 0 = .ok (.aload_n 0, 1) := by decide +kernel
theorem dX4_income_1 : decode cX4_income 1 = .ok (.iconst 0, 1) := by decide +kernel
theorem dX4_income_2 : decode cX4_income 2 = .ok (.putfield 78, 3) := by decide +kernel
theorem dX4_income_5 : decode cX4_income 5 = .ok (.iconst 0, 1) := by decide +kernel
theorem dX4_income_6 : decode cX4_income 6 = .ok (.istore_n 1, 1) := by decide +kernel
theorem dX4_income_7 : decode cX4_income 7 = .ok (.iconst 0, 1) := by decide +kernel
theorem dX4_income_8 : decode cX4_income 8 = .ok (.istore_n 2, 1) := by decide +kernel
theorem dX4_income_9 : decode cX4_income 9 = .ok (.iload_n 2, 1) := by decide +kernel
theorem dX4_income_10 : decode cX4_income 10 = .ok (.aload_n 0, 1) := by decide +kernel
theorem dX4_income_11 : decode cX4_income 11 = .ok (.getfield 91, 3) := by decide +kernel
theorem dX4_income_14 : decode cX4_income 14 = .ok (.if_icmp .ge 17, 3) := by decide +kernel
theorem dX4_income_17 : decode cX4_income 17 = .ok (.iload_n 1, 1) := by decide +kernel
theorem dX4_income_18 : decode cX4_income 18 = .ok (.aload_n 0, 1) := by decide +kernel
theorem dX4_income_19 : decode cX4_income 19 = .ok (.iload_n 2, 1) := by decide +kernel
theorem dX4_income_20 : decode cX4_income 20 = .ok (.invokevirtual 174, 3) := by decide +kernel
theorem dX4_income_23 : decode cX4_income 23 = .ok (.iadd, 1) := by decide +kernel
theorem dX4_income_24 : decode cX4_income 24 = .ok (.istore_n 1, 1) := by decide +kernel
theorem dX4_income_25 : decode cX4_income 25 = .ok (.iinc 2 1, 3) := by decide +kernel
theorem dX4_income_28 : decode cX4_income 28 = .ok (.goto (-19), 3) := by decide +kernel
theorem dX4_income_31 : decode cX4_income 31 = .ok (.iload_n 1, 1) := by decide +kernel
theorem dX4_income_32 : decode cX4_income 32 = .ok (.ireturn, 1) := by decide +kernel
theorem dX4_longest_0 : decode cX4_longest 0 = .ok (.aload_n 0, 1) := by decide +kernel
theorem dX4_longest_1 : decode cX4_longest 1 = .ok (.iconst 0, 1) := by decide +kernel
theorem dX4_longest_2 : decode cX4_longest 2 = .ok (.putfield 78, 3) := by decide +kernel
theorem dX4_longest_5 : decode cX4_longest 5 = .ok (.iconst (-1), 1) := by decide +kernel
theorem dX4_longest_6 : decode cX4_longest 6 = .ok (.istore_n 1, 1) := by decide +kernel
theorem dX4_longest_7 : decode cX4_longest 7 = .ok (.iconst 0, 1) := by decide +kernel
theorem dX4_longest_8 : decode cX4_longest 8 = .ok (.istore_n 2, 1) := by decide +kernel
theorem dX4_longest_9 : decode cX4_longest 9 = .ok (.iload_n 2, 1) := by decide +kernel
theorem dX4_longest_10 : decode cX4_longest 10 = .ok (.aload_n 0, 1) := by decide +kernel
theorem dX4_longest_11 : decode cX4_longest 11 = .ok (.getfield 91, 3) := by decide +kernel
theorem dX4_longest_14 : decode cX4_longest 14 = .ok (.if_icmp .ge 55, 3) := by decide +kernel
theorem dX4_longest_17 : decode cX4_longest 17 = .ok (.aload_n 0, 1) := by decide +kernel
theorem dX4_longest_18 : decode cX4_longest 18 = .ok (.getfield 75, 3) := by decide +kernel
theorem dX4_longest_21 : decode cX4_longest 21 = .ok (.iload_n 2, 1) := by decide +kernel
theorem dX4_longest_22 : decode cX4_longest 22 = .ok (.iaload, 1) := by decide +kernel
theorem dX4_longest_23 : decode cX4_longest 23 = .ok (.iconst 2, 1) := by decide +kernel
theorem dX4_longest_24 : decode cX4_longest 24 = .ok (.if_icmp .ne 39, 3) := by decide +kernel
theorem dX4_longest_27 : decode cX4_longest 27 = .ok (.iload_n 1, 1) := by decide +kernel
theorem dX4_longest_28 : decode cX4_longest 28 = .ok (.iconst (-1), 1) := by decide +kernel
theorem dX4_longest_29 : decode cX4_longest 29 = .ok (.if_icmp .eq 32, 3) := by decide +kernel
theorem dX4_longest_32 : decode cX4_longest 32 = .ok (.aload_n 0, 1) := by decide +kernel
theorem dX4_longest_33 : decode cX4_longest 33 = .ok (.getfield 72, 3) := by decide +kernel
theorem dX4_longest_36 : decode cX4_longest 36 = .ok (.iload_n 2, 1) := by decide +kernel
theorem dX4_longest_37 : decode cX4_longest 37 = .ok (.iaload, 1) := by decide +kernel
theorem dX4_longest_38 : decode cX4_longest 38 = .ok (.aload_n 0, 1) := by decide +kernel
theorem dX4_longest_39 : decode cX4_longest 39 = .ok (.getfield 69, 3) := by decide +kernel
theorem dX4_longest_42 : decode cX4_longest 42 = .ok (.iload_n 2, 1) := by decide +kernel
theorem dX4_longest_43 : decode cX4_longest 43 = .ok (.iaload, 1) := by decide +kernel
theorem dX4_longest_44 : decode cX4_longest 44 = .ok (.isub, 1) := by decide +kernel
theorem dX4_longest_45 : decode cX4_longest 45 = .ok (.aload_n 0, 1) := by decide +kernel
theorem dX4_longest_46 : decode cX4_longest 46 = .ok (.getfield 72, 3) := by decide +kernel
theorem dX4_longest_49 : decode cX4_longest 49 = .ok (.iload_n 1, 1) := by decide +kernel
theorem dX4_longest_50 : decode cX4_longest 50 = .ok (.iaload, 1) := by decide +kernel
theorem dX4_longest_51 : decode cX4_longest 51 = .ok (.aload_n 0, 1) := by decide +kernel
theorem dX4_longest_52 : decode cX4_longest 52 = .ok (.getfield 69, 3) := by decide +kernel
theorem dX4_longest_55 : decode cX4_longest 55 = .ok (.iload_n 1, 1) := by decide +kernel
theorem dX4_longest_56 : decode cX4_longest 56 = .ok (.iaload, 1) := by decide +kernel
theorem dX4_longest_57 : decode cX4_longest 57 = .ok (.isub, 1) := by decide +kernel
theorem dX4_longest_58 : decode cX4_longest 58 = .ok (.if_icmp .le 5, 3) := by decide +kernel
theorem dX4_longest_61 : decode cX4_longest 61 = .ok (.iload_n 2, 1) := by decide +kernel
theorem dX4_longest_62 : decode cX4_longest 62 = .ok (.istore_n 1, 1) := by decide +kernel
theorem dX4_longest_63 : decode cX4_longest 63 = .ok (.iinc 2 1, 3) := by decide +kernel
theorem dX4_longest_66 : decode cX4_longest 66 = .ok (.goto (-57), 3) := by decide +kernel
theorem dX4_longest_69 : decode cX4_longest 69 = .ok (.iload_n 1, 1) := by decide +kernel
theorem dX4_longest_70 : decode cX4_longest 70 = .ok (.ireturn, 1) := by decide +kernel
theorem dX4_waited_0 : decode cX4_waited 0 = .ok (.aload_n 0, 1) := by decide +kernel
theorem dX4_waited_1 : decode cX4_waited 1 = .ok (.iconst 0, 1) := by decide +kernel
theorem dX4_waited_2 : decode cX4_waited 2 = .ok (.putfield 78, 3) := by decide +kernel
theorem dX4_waited_5 : decode cX4_waited 5 = .ok (.iconst 0, 1) := by decide +kernel
theorem dX4_waited_6 : decode cX4_waited 6 = .ok (.istore_n 1, 1) := by decide +kernel
theorem dX4_waited_7 : decode cX4_waited 7 = .ok (.iconst 0, 1) := by decide +kernel
theorem dX4_waited_8 : decode cX4_waited 8 = .ok (.istore_n 2, 1) := by decide +kernel
theorem dX4_waited_9 : decode cX4_waited 9 = .ok (.iconst 0, 1) := by decide +kernel
theorem dX4_waited_10 : decode cX4_waited 10 = .ok (.istore_n 3, 1) := by decide +kernel
theorem dX4_waited_11 : decode cX4_waited 11 = .ok (.iload_n 3, 1) := by decide +kernel
theorem dX4_waited_12 : decode cX4_waited 12 = .ok (.aload_n 0, 1) := by decide +kernel
theorem dX4_waited_13 : decode cX4_waited 13 = .ok (.getfield 91, 3) := by decide +kernel
theorem dX4_waited_16 : decode cX4_waited 16 = .ok (.if_icmp .ge 41, 3) := by decide +kernel
theorem dX4_waited_19 : decode cX4_waited 19 = .ok (.aload_n 0, 1) := by decide +kernel
theorem dX4_waited_20 : decode cX4_waited 20 = .ok (.getfield 69, 3) := by decide +kernel
theorem dX4_waited_23 : decode cX4_waited 23 = .ok (.iload_n 3, 1) := by decide +kernel
theorem dX4_waited_24 : decode cX4_waited 24 = .ok (.iaload, 1) := by decide +kernel
theorem dX4_waited_25 : decode cX4_waited 25 = .ok (.iconst (-1), 1) := by decide +kernel
theorem dX4_waited_26 : decode cX4_waited 26 = .ok (.if_icmp .ne 6, 3) := by decide +kernel
theorem dX4_waited_29 : decode cX4_waited 29 = .ok (.goto 22, 3) := by decide +kernel
theorem dX4_waited_32 : decode cX4_waited 32 = .ok (.iload_n 1, 1) := by decide +kernel
theorem dX4_waited_33 : decode cX4_waited 33 = .ok (.aload_n 0, 1) := by decide +kernel
theorem dX4_waited_34 : decode cX4_waited 34 = .ok (.getfield 69, 3) := by decide +kernel
theorem dX4_waited_37 : decode cX4_waited 37 = .ok (.iload_n 3, 1) := by decide +kernel
theorem dX4_waited_38 : decode cX4_waited 38 = .ok (.iaload, 1) := by decide +kernel
theorem dX4_waited_39 : decode cX4_waited 39 = .ok (.aload_n 0, 1) := by decide +kernel
theorem dX4_waited_40 : decode cX4_waited 40 = .ok (.getfield 66, 3) := by decide +kernel
theorem dX4_waited_43 : decode cX4_waited 43 = .ok (.iload_n 3, 1) := by decide +kernel
theorem dX4_waited_44 : decode cX4_waited 44 = .ok (.iaload, 1) := by decide +kernel
theorem dX4_waited_45 : decode cX4_waited 45 = .ok (.isub, 1) := by decide +kernel
theorem dX4_waited_46 : decode cX4_waited 46 = .ok (.iadd, 1) := by decide +kernel
theorem dX4_waited_47 : decode cX4_waited 47 = .ok (.istore_n 1, 1) := by decide +kernel
theorem dX4_waited_48 : decode cX4_waited 48 = .ok (.iinc 2 1, 3) := by decide +kernel
theorem dX4_waited_51 : decode cX4_waited 51 = .ok (.iinc 3 1, 3) := by decide +kernel
theorem dX4_waited_54 : decode cX4_waited 54 = .ok (.goto (-43), 3) := by decide +kernel
theorem dX4_waited_57 : decode cX4_waited 57 = .ok (.iload_n 2, 1) := by decide +kernel
theorem dX4_waited_58 : decode cX4_waited 58 = .ok (.ifCond .ne 7, 3) := by decide +kernel
theorem dX4_waited_61 : decode cX4_waited 61 = .ok (.dconst 0, 1) := by decide +kernel
theorem dX4_waited_62 : decode cX4_waited 62 = .ok (.goto 8, 3) := by decide +kernel
theorem dX4_waited_65 : decode cX4_waited 65 = .ok (.iload_n 1, 1) := by decide +kernel
theorem dX4_waited_66 : decode cX4_waited 66 = .ok (.i2d, 1) := by decide +kernel
theorem dX4_waited_67 : decode cX4_waited 67 = .ok (.iload_n 2, 1) := by decide +kernel
theorem dX4_waited_68 : decode cX4_waited 68 = .ok (.i2d, 1) := by decide +kernel
theorem dX4_waited_69 : decode cX4_waited 69 = .ok (.ddiv, 1) := by decide +kernel
theorem dX4_waited_70 : decode cX4_waited 70 = .ok (.dreturn, 1) := by decide +kernel
theorem dX4_digest_0 : decode cX4_digest 0 = .ok (.aload_n 0, 1) := by decide +kernel
theorem dX4_digest_1 : decode cX4_digest 1 = .ok (.iconst 0, 1) := by decide +kernel
theorem dX4_digest_2 : decode cX4_digest 2 = .ok (.putfield 78, 3) := by decide +kernel
theorem dX4_digest_5 : decode cX4_digest 5 = .ok (.ldc2_w 187, 3) := by decide +kernel
theorem dX4_digest_8 : decode cX4_digest 8 = .ok (.aload_n 0, 1) := by decide +kernel
theorem dX4_digest_9 : decode cX4_digest 9 = .ok (.getfield 131, 3) := by decide +kernel
theorem dX4_digest_12 : decode cX4_digest 12 = .ok (.i2l, 1) := by decide +kernel
theorem dX4_digest_13 : decode cX4_digest 13 = .ok (.ladd, 1) := by decide +kernel
theorem dX4_digest_14 : decode cX4_digest 14 = .ok (.lstore_n 1, 1) := by decide +kernel
theorem dX4_digest_15 : decode cX4_digest 15 = .ok (.iconst 0, 1) := by decide +kernel
theorem dX4_digest_16 : decode cX4_digest 16 = .ok (.istore_n 3, 1) := by decide +kernel
theorem dX4_digest_17 : decode cX4_digest 17 = .ok (.iload_n 3, 1) := by decide +kernel
theorem dX4_digest_18 : decode cX4_digest 18 = .ok (.bipush 8, 2) := by decide +kernel
theorem dX4_digest_20 : decode cX4_digest 20 = .ok (.if_icmp .ge 22, 3) := by decide +kernel
theorem dX4_digest_23 : decode cX4_digest 23 = .ok (.lload_n 1, 1) := by decide +kernel
theorem dX4_digest_24 : decode cX4_digest 24 = .ok (.ldc2_w 189, 3) := by decide +kernel
theorem dX4_digest_27 : decode cX4_digest 27 = .ok (.lmul, 1) := by decide +kernel
theorem dX4_digest_28 : decode cX4_digest 28 = .ok (.aload_n 0, 1) := by decide +kernel
theorem dX4_digest_29 : decode cX4_digest 29 = .ok (.iload_n 3, 1) := by decide +kernel
theorem dX4_digest_30 : decode cX4_digest 30 = .ok (.invokevirtual 180, 3) := by decide +kernel
theorem dX4_digest_33 : decode cX4_digest 33 = .ok (.i2l, 1) := by decide +kernel
theorem dX4_digest_34 : decode cX4_digest 34 = .ok (.ladd, 1) := by decide +kernel
theorem dX4_digest_35 : decode cX4_digest 35 = .ok (.lstore_n 1, 1) := by decide +kernel
theorem dX4_digest_36 : decode cX4_digest 36 = .ok (.iinc 3 1, 3) := by decide +kernel
theorem dX4_digest_39 : decode cX4_digest 39 = .ok (.goto (-22), 3) := by decide +kernel
theorem dX4_digest_42 : decode cX4_digest 42 = .ok (.iconst 0, 1) := by decide +kernel
theorem dX4_digest_43 : decode cX4_digest 43 = .ok (.istore_n 3, 1) := by decide +kernel
theorem dX4_digest_44 : decode cX4_digest 44 = .ok (.iload_n 3, 1) := by decide +kernel
theorem dX4_digest_45 : decode cX4_digest 45 = .ok (.aload_n 0, 1) := by decide +kernel
theorem dX4_digest_46 : decode cX4_digest 46 = .ok (.getfield 81, 3) := by decide +kernel
theorem dX4_digest_49 : decode cX4_digest 49 = .ok (.if_icmp .ge 53, 3) := by decide +kernel
theorem dX4_digest_52 : decode cX4_digest 52 = .ok (.iconst 0, 1) := by decide +kernel
theorem dX4_digest_53 : decode cX4_digest 53 = .ok (.istore 4, 2) := by decide +kernel
theorem dX4_digest_55 : decode cX4_digest 55 = .ok (.iload 4, 2) := by decide +kernel
theorem dX4_digest_57 : decode cX4_digest 57 = .ok (.bipush 6, 2) := by decide +kernel
theorem dX4_digest_59 : decode cX4_digest 59 = .ok (.if_icmp .ge 24, 3) := by decide +kernel
theorem dX4_digest_62 : decode cX4_digest 62 = .ok (.lload_n 1, 1) := by decide +kernel
theorem dX4_digest_63 : decode cX4_digest 63 = .ok (.ldc2_w 189, 3) := by decide +kernel
theorem dX4_digest_66 : decode cX4_digest 66 = .ok (.lmul, 1) := by decide +kernel
theorem dX4_digest_67 : decode cX4_digest 67 = .ok (.aload_n 0, 1) := by decide +kernel
theorem dX4_digest_68 : decode cX4_digest 68 = .ok (.iload_n 3, 1) := by decide +kernel
theorem dX4_digest_69 : decode cX4_digest 69 = .ok (.iload 4, 2) := by decide +kernel
theorem dX4_digest_71 : decode cX4_digest 71 = .ok (.invokevirtual 122, 3) := by decide +kernel
theorem dX4_digest_74 : decode cX4_digest 74 = .ok (.i2l, 1) := by decide +kernel
theorem dX4_digest_75 : decode cX4_digest 75 = .ok (.ladd, 1) := by decide +kernel
theorem dX4_digest_76 : decode cX4_digest 76 = .ok (.lstore_n 1, 1) := by decide +kernel
theorem dX4_digest_77 : decode cX4_digest 77 = .ok (.iinc 4 1, 3) := by decide +kernel
theorem dX4_digest_80 : decode cX4_digest 80 = .ok (.goto (-25), 3) := by decide +kernel
theorem dX4_digest_83 : decode cX4_digest 83 = .ok (.lload_n 1, 1) := by decide +kernel
theorem dX4_digest_84 : decode cX4_digest 84 = .ok (.ldc2_w 189, 3) := by decide +kernel
theorem dX4_digest_87 : decode cX4_digest 87 = .ok (.lmul, 1) := by decide +kernel
theorem dX4_digest_88 : decode cX4_digest 88 = .ok (.aload_n 0, 1) := by decide +kernel
theorem dX4_digest_89 : decode cX4_digest 89 = .ok (.iload_n 3, 1) := by decide +kernel
theorem dX4_digest_90 : decode cX4_digest 90 = .ok (.invokevirtual 183, 3) := by decide +kernel
theorem dX4_digest_93 : decode cX4_digest 93 = .ok (.i2l, 1) := by decide +kernel
theorem dX4_digest_94 : decode cX4_digest 94 = .ok (.ladd, 1) := by decide +kernel
theorem dX4_digest_95 : decode cX4_digest 95 = .ok (.lstore_n 1, 1) := by decide +kernel
theorem dX4_digest_96 : decode cX4_digest 96 = .ok (.iinc 3 1, 3) := by decide +kernel
theorem dX4_digest_99 : decode cX4_digest 99 = .ok (.goto (-55), 3) := by decide +kernel
theorem dX4_digest_102 : decode cX4_digest 102 = .ok (.iconst 0, 1) := by decide +kernel
theorem dX4_digest_103 : decode cX4_digest 103 = .ok (.istore_n 3, 1) := by decide +kernel
theorem dX4_digest_104 : decode cX4_digest 104 = .ok (.iload_n 3, 1) := by decide +kernel
theorem dX4_digest_105 : decode cX4_digest 105 = .ok (.aload_n 0, 1) := by decide +kernel
theorem dX4_digest_106 : decode cX4_digest 106 = .ok (.getfield 88, 3) := by decide +kernel
theorem dX4_digest_109 : decode cX4_digest 109 = .ok (.if_icmp .ge 39, 3) := by decide +kernel
theorem dX4_digest_112 : decode cX4_digest 112 = .ok (.iconst 0, 1) := by decide +kernel
theorem dX4_digest_113 : decode cX4_digest 113 = .ok (.istore 4, 2) := by decide +kernel
theorem dX4_digest_115 : decode cX4_digest 115 = .ok (.iload 4, 2) := by decide +kernel
theorem dX4_digest_117 : decode cX4_digest 117 = .ok (.iconst 5, 1) := by decide +kernel
theorem dX4_digest_118 : decode cX4_digest 118 = .ok (.if_icmp .ge 24, 3) := by decide +kernel
theorem dX4_digest_121 : decode cX4_digest 121 = .ok (.lload_n 1, 1) := by decide +kernel
theorem dX4_digest_122 : decode cX4_digest 122 = .ok (.ldc2_w 189, 3) := by decide +kernel
theorem dX4_digest_125 : decode cX4_digest 125 = .ok (.lmul, 1) := by decide +kernel
theorem dX4_digest_126 : decode cX4_digest 126 = .ok (.aload_n 0, 1) := by decide +kernel
theorem dX4_digest_127 : decode cX4_digest 127 = .ok (.iload_n 3, 1) := by decide +kernel
theorem dX4_digest_128 : decode cX4_digest 128 = .ok (.iload 4, 2) := by decide +kernel
theorem dX4_digest_130 : decode cX4_digest 130 = .ok (.invokevirtual 125, 3) := by decide +kernel
theorem dX4_digest_133 : decode cX4_digest 133 = .ok (.i2l, 1) := by decide +kernel
theorem dX4_digest_134 : decode cX4_digest 134 = .ok (.ladd, 1) := by decide +kernel
theorem dX4_digest_135 : decode cX4_digest 135 = .ok (.lstore_n 1, 1) := by decide +kernel
theorem dX4_digest_136 : decode cX4_digest 136 = .ok (.iinc 4 1, 3) := by decide +kernel
theorem dX4_digest_139 : decode cX4_digest 139 = .ok (.goto (-24), 3) := by decide +kernel
theorem dX4_digest_142 : decode cX4_digest 142 = .ok (.iinc 3 1, 3) := by decide +kernel
theorem dX4_digest_145 : decode cX4_digest 145 = .ok (.goto (-41), 3) := by decide +kernel
theorem dX4_digest_148 : decode cX4_digest 148 = .ok (.iconst 0, 1) := by decide +kernel
theorem dX4_digest_149 : decode cX4_digest 149 = .ok (.istore_n 3, 1) := by decide +kernel
theorem dX4_digest_150 : decode cX4_digest 150 = .ok (.iload_n 3, 1) := by decide +kernel
theorem dX4_digest_151 : decode cX4_digest 151 = .ok (.aload_n 0, 1) := by decide +kernel
theorem dX4_digest_152 : decode cX4_digest 152 = .ok (.getfield 91, 3) := by decide +kernel
theorem dX4_digest_155 : decode cX4_digest 155 = .ok (.if_icmp .ge 40, 3) := by decide +kernel
theorem dX4_digest_158 : decode cX4_digest 158 = .ok (.iconst 0, 1) := by decide +kernel
theorem dX4_digest_159 : decode cX4_digest 159 = .ok (.istore 4, 2) := by decide +kernel
theorem dX4_digest_161 : decode cX4_digest 161 = .ok (.iload 4, 2) := by decide +kernel
theorem dX4_digest_163 : decode cX4_digest 163 = .ok (.bipush 8, 2) := by decide +kernel
theorem dX4_digest_165 : decode cX4_digest 165 = .ok (.if_icmp .ge 24, 3) := by decide +kernel
theorem dX4_digest_168 : decode cX4_digest 168 = .ok (.lload_n 1, 1) := by decide +kernel
theorem dX4_digest_169 : decode cX4_digest 169 = .ok (.ldc2_w 189, 3) := by decide +kernel
theorem dX4_digest_172 : decode cX4_digest 172 = .ok (.lmul, 1) := by decide +kernel
theorem dX4_digest_173 : decode cX4_digest 173 = .ok (.aload_n 0, 1) := by decide +kernel
theorem dX4_digest_174 : decode cX4_digest 174 = .ok (.iload_n 3, 1) := by decide +kernel
theorem dX4_digest_175 : decode cX4_digest 175 = .ok (.iload 4, 2) := by decide +kernel
theorem dX4_digest_177 : decode cX4_digest 177 = .ok (.invokevirtual 177, 3) := by decide +kernel
theorem dX4_digest_180 : decode cX4_digest 180 = .ok (.i2l, 1) := by decide +kernel
theorem dX4_digest_181 : decode cX4_digest 181 = .ok (.ladd, 1) := by decide +kernel
theorem dX4_digest_182 : decode cX4_digest 182 = .ok (.lstore_n 1, 1) := by decide +kernel
theorem dX4_digest_183 : decode cX4_digest 183 = .ok (.iinc 4 1, 3) := by decide +kernel
theorem dX4_digest_186 : decode cX4_digest 186 = .ok (.goto (-25), 3) := by decide +kernel
theorem dX4_digest_189 : decode cX4_digest 189 = .ok (.iinc 3 1, 3) := by decide +kernel
theorem dX4_digest_192 : decode cX4_digest 192 = .ok (.goto (-42), 3) := by decide +kernel
theorem dX4_digest_195 : decode cX4_digest 195 = .ok (.iconst 0, 1) := by decide +kernel
theorem dX4_digest_196 : decode cX4_digest 196 = .ok (.istore_n 3, 1) := by decide +kernel
theorem dX4_digest_197 : decode cX4_digest 197 = .ok (.iload_n 3, 1) := by decide +kernel
theorem dX4_digest_198 : decode cX4_digest 198 = .ok (.aload_n 0, 1) := by decide +kernel
theorem dX4_digest_199 : decode cX4_digest 199 = .ok (.getfield 91, 3) := by decide +kernel
theorem dX4_digest_202 : decode cX4_digest 202 = .ok (.if_icmp .ge 27, 3) := by decide +kernel
theorem dX4_digest_205 : decode cX4_digest 205 = .ok (.aload_n 0, 1) := by decide +kernel
theorem dX4_digest_206 : decode cX4_digest 206 = .ok (.getfield 75, 3) := by decide +kernel
theorem dX4_digest_209 : decode cX4_digest 209 = .ok (.iload_n 3, 1) := by decide +kernel
theorem dX4_digest_210 : decode cX4_digest 210 = .ok (.iaload, 1) := by decide +kernel
theorem dX4_digest_211 : decode cX4_digest 211 = .ok (.ifCond .ne 12, 3) := by decide +kernel
theorem dX4_digest_214 : decode cX4_digest 214 = .ok (.lload_n 1, 1) := by decide +kernel
theorem dX4_digest_215 : decode cX4_digest 215 = .ok (.ldc2_w 189, 3) := by decide +kernel
theorem dX4_digest_218 : decode cX4_digest 218 = .ok (.lmul, 1) := by decide +kernel
theorem dX4_digest_219 : decode cX4_digest 219 = .ok (.iload_n 3, 1) := by decide +kernel
theorem dX4_digest_220 : decode cX4_digest 220 = .ok (.i2l, 1) := by decide +kernel
theorem dX4_digest_221 : decode cX4_digest 221 = .ok (.ladd, 1) := by decide +kernel
theorem dX4_digest_222 : decode cX4_digest 222 = .ok (.lstore_n 1, 1) := by decide +kernel
theorem dX4_digest_223 : decode cX4_digest 223 = .ok (.iinc 3 1, 3) := by decide +kernel
theorem dX4_digest_226 : decode cX4_digest 226 = .ok (.goto (-29), 3) := by decide +kernel
theorem dX4_digest_229 : decode cX4_digest 229 = .ok (.lload_n 1, 1) := by decide +kernel
theorem dX4_digest_230 : decode cX4_digest 230 = .ok (.lreturn, 1) := by decide +kernel
