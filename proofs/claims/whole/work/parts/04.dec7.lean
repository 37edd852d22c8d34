theorem dX7_init_0 : decode cX7_init 0 = .ok (.aload_n 0, 1) := by decide +kernel
theorem dX7_init_1 : decode cX7_init 1 = .ok (.invokespecial 1, 3) := by decide +kernel
theorem dX7_init_4 : decode cX7_init 4 = .ok (.aload_n 0, 1) := by decide +kernel
theorem dX7_init_5 : decode cX7_init 5 = .ok (.iconst 4, 1) := by decide +kernel
theorem dX7_init_6 : decode cX7_init 6 = .ok (.newarray .int, 2) := by decide +kernel
theorem dX7_init_8 : decode cX7_init 8 = .ok (.dup, 1) := by decide +kernel
theorem dX7_init_9 : decode cX7_init 9 = .ok (.iconst 0, 1) := by decide +kernel
theorem dX7_init_10 : decode cX7_init 10 = .ok (.bipush (-9), 2) := by decide +kernel
theorem dX7_init_12 : decode cX7_init 12 = .ok (.iastore, 1) := by decide +kernel
theorem dX7_init_13 : decode cX7_init 13 = .ok (.dup, 1) := by decide +kernel
theorem dX7_init_14 : decode cX7_init 14 = .ok (.iconst 1, 1) := by decide +kernel
theorem dX7_init_15 : decode cX7_init 15 = .ok (.bipush (-9), 2) := by decide +kernel
theorem dX7_init_17 : decode cX7_init 17 = .ok (.iastore, 1) := by decide +kernel
theorem dX7_init_18 : decode cX7_init 18 = .ok (.dup, 1) := by decide +kernel
theorem dX7_init_19 : decode cX7_init 19 = .ok (.iconst 2, 1) := by decide +kernel
theorem dX7_init_20 : decode cX7_init 20 = .ok (.bipush (-9), 2) := by decide +kernel
theorem dX7_init_22 : decode cX7_init 22 = .ok (.iastore, 1) := by decide +kernel
theorem dX7_init_23 : decode cX7_init 23 = .ok (.dup, 1) := by decide +kernel
theorem dX7_init_24 : decode cX7_init 24 = .ok (.iconst 3, 1) := by decide +kernel
theorem dX7_init_25 : decode cX7_init 25 = .ok (.bipush (-9), 2) := by decide +kernel
theorem dX7_init_27 : decode cX7_init 27 = .ok (.iastore, 1) := by decide +kernel
theorem dX7_init_28 : decode cX7_init 28 = .ok (.putfield 9, 3) := by decide +kernel
theorem dX7_init_31 : decode cX7_init 31 = .ok (.aload_n 0, 1) := by decide +kernel
theorem dX7_init_32 : decode cX7_init 32 = .ok (.iconst 4, 1) := by decide +kernel
theorem dX7_init_33 : decode cX7_init 33 = .ok (.newarray .int, 2) := by decide +kernel
theorem dX7_init_35 : decode cX7_init 35 = .ok (.putfield 13, 3) := by decide +kernel
theorem dX7_init_38 : decode cX7_init 38 = .ok (.aload_n 0, 1) := by decide +kernel
theorem dX7_init_39 : decode cX7_init 39 = .ok (.sipush 240, 3) := by decide +kernel
theorem dX7_init_42 : decode cX7_init 42 = .ok (.newarray .int, 2) := by decide +kernel
theorem dX7_init_44 : decode cX7_init 44 = .ok (.putfield 16, 3) := by decide +kernel
theorem dX7_init_47 : decode cX7_init 47 = .ok (.aload_n 0, 1) := by decide +kernel
theorem dX7_init_48 : decode cX7_init 48 = .ok (.bipush 8, 2) := by decide +kernel
theorem dX7_init_50 : decode cX7_init 50 = .ok (.newarray .int, 2) := by decide +kernel
theorem dX7_init_52 : decode cX7_init 52 = .ok (.putfield 19, 3) := by decide +kernel
theorem dX7_init_55 : decode cX7_init 55 = .ok (.aload_n 0, 1) := by decide +kernel
theorem dX7_init_56 : decode cX7_init 56 = .ok (.bipush 8, 2) := by decide +kernel
theorem dX7_init_58 : decode cX7_init 58 = .ok (.newarray .int, 2) := by decide +kernel
theorem dX7_init_60 : decode cX7_init 60 = .ok (.putfield 22, 3) := by decide +kernel
theorem dX7_init_63 : decode cX7_init 63 = .ok (.aload_n 0, 1) := by decide +kernel
theorem dX7_init_64 : decode cX7_init 64 = .ok (.bipush 8, 2) := by decide +kernel
theorem dX7_init_66 : decode cX7_init 66 = .ok (.newarray .int, 2) := by decide +kernel
theorem dX7_init_68 : decode cX7_init 68 = .ok (.putfield 25, 3) := by decide +kernel
theorem dX7_init_71 : decode cX7_init 71 = .ok (.aload_n 0, 1) := by decide +kernel
theorem dX7_init_72 : decode cX7_init 72 = .ok (.bipush 6, 2) := by decide +kernel
theorem dX7_init_74 : decode cX7_init 74 = .ok (.newarray .int, 2) := by decide +kernel
theorem dX7_init_76 : decode cX7_init 76 = .ok (.putfield 28, 3) := by decide +kernel
theorem dX7_init_79 : decode cX7_init 79 = .ok (.aload_n 0, 1) := by decide +kernel
theorem dX7_init_80 : decode cX7_init 80 = .ok (.bipush 6, 2) := by decide +kernel
theorem dX7_init_82 : decode cX7_init 82 = .ok (.newarray .int, 2) := by decide +kernel
theorem dX7_init_84 : decode cX7_init 84 = .ok (.putfield 31, 3) := by decide +kernel
theorem dX7_init_87 : decode cX7_init 87 = .ok (.aload_n 0, 1) := by decide +kernel
theorem dX7_init_88 : decode cX7_init 88 = .ok (.bipush 8, 2) := by decide +kernel
theorem dX7_init_90 : decode cX7_init 90 = .ok (.newarray .int, 2) := by decide +kernel
theorem dX7_init_92 : decode cX7_init 92 = .ok (.putfield 34, 3) := by decide +kernel
theorem dX7_init_95 : decode cX7_init 95 = .ok (.aload_n 0, 1) := by decide +kernel
theorem dX7_init_96 : decode cX7_init 96 = .ok (.bipush 8, 2) := by decide +kernel
theorem dX7_init_98 : decode cX7_init 98 = .ok (.newarray .int, 2) := by decide +kernel
theorem dX7_init_100 : decode cX7_init 100 = .ok (.putfield 37, 3) := by decide +kernel
theorem dX7_init_103 : decode cX7_init 103 = .ok (.aload_n 0, 1) := by decide +kernel
theorem dX7_init_104 : decode cX7_init 104 = .ok (.bipush 8, 2) := by decide +kernel
theorem dX7_init_106 : decode cX7_init 106 = .ok (.newarray .int, 2) := by decide +kernel
theorem dX7_init_108 : decode cX7_init 108 = .ok (.putfield 40, 3) := by decide +kernel
theorem dX7_init_111 : decode cX7_init 111 = .ok (.aload_n 0, 1) := by decide +kernel
theorem dX7_init_112 : decode cX7_init 112 = .ok (.bipush 6, 2) := by decide +kernel
theorem dX7_init_114 : decode cX7_init 114 = .ok (.newarray .int, 2) := by decide +kernel
theorem dX7_init_116 : decode cX7_init 116 = .ok (.putfield 43, 3) := by decide +kernel
theorem dX7_init_119 : decode cX7_init 119 = .ok (.aload_n 0, 1) := by decide +kernel
theorem dX7_init_120 : decode cX7_init 120 = .ok (.bipush 6, 2) := by decide +kernel
theorem dX7_init_122 : decode cX7_init 122 = .ok (.newarray .int, 2) := by decide +kernel
theorem dX7_init_124 : decode cX7_init 124 = .ok (.putfield 46, 3) := by decide +kernel
theorem dX7_init_127 : decode cX7_init 127 = .ok (.aload_n 0, 1) := by decide +kernel
theorem dX7_init_128 : decode cX7_init 128 = .ok (.bipush 64, 2) := by decide +kernel
theorem dX7_init_130 : decode cX7_init 130 = .ok (.newarray .int, 2) := by decide +kernel
theorem dX7_init_132 : decode cX7_init 132 = .ok (.putfield 49, 3) := by decide +kernel
theorem dX7_init_135 : decode cX7_init 135 = .ok (.aload_n 0, 1) := by decide +kernel
theorem dX7_init_136 : decode cX7_init 136 = .ok (.sipush 256, 3) := by decide +kernel
theorem dX7_init_139 : decode cX7_init 139 = .ok (.newarray .int, 2) := by decide +kernel
theorem dX7_init_141 : decode cX7_init 141 = .ok (.putfield 52, 3) := by decide +kernel
theorem dX7_init_144 : decode cX7_init 144 = .ok (.aload_n 0, 1) := by decide +kernel
theorem dX7_init_145 : decode cX7_init 145 = .ok (.bipush 8, 2) := by decide +kernel
theorem dX7_init_147 : decode cX7_init 147 = .ok (.newarray .long, 2) := by decide +kernel
theorem dX7_init_149 : decode cX7_init 149 = .ok (.putfield 55, 3) := by decide +kernel
theorem dX7_init_152 : decode cX7_init 152 = .ok (.aload_n 0, 1) := by decide +kernel
theorem dX7_init_153 : decode cX7_init 153 = .ok (.bipush 8, 2) := by decide +kernel
theorem dX7_init_155 : decode cX7_init 155 = .ok (.newarray .long, 2) := by decide +kernel
theorem dX7_init_157 : decode cX7_init 157 = .ok (.putfield 59, 3) := by decide +kernel
theorem dX7_init_160 : decode cX7_init 160 = .ok (.aload_n 0, 1) := by decide +kernel
theorem dX7_init_161 : decode cX7_init 161 = .ok (.bipush 8, 2) := by decide +kernel
theorem dX7_init_163 : decode cX7_init 163 = .ok (.newarray .int, 2) := by decide +kernel
theorem dX7_init_165 : decode cX7_init 165 = .ok (.putfield 62, 3) := by decide +kernel
theorem dX7_init_168 : decode cX7_init 168 = .ok (.aload_n 0, 1) := by decide +kernel
theorem dX7_init_169 : decode cX7_init 169 = .ok (.bipush 8, 2) := by decide +kernel
theorem dX7_init_171 : decode cX7_init 171 = .ok (.newarray .int, 2) := by decide +kernel
theorem dX7_init_173 : decode cX7_init 173 = .ok (.putfield 65, 3) := by decide +kernel
theorem dX7_init_176 : decode cX7_init 176 = .ok (.return_, 1) := by decide +kernel
theorem dX7_fails_0 : decode cX7_fails 0 = .ok (.aload_n 0, 1) := by decide +kernel
theorem dX7_fails_1 : decode cX7_fails 1 = .ok (.iload_n 1, 1) := by decide +kernel
theorem dX7_fails_2 : decode cX7_fails 2 = .ok (.putfield 68, 3) := by decide +kernel
theorem dX7_fails_5 : decode cX7_fails 5 = .ok (.bipush (-10), 2) := by decide +kernel
theorem dX7_fails_7 : decode cX7_fails 7 = .ok (.iload_n 1, 1) := by decide +kernel
theorem dX7_fails_8 : decode cX7_fails 8 = .ok (.isub, 1) := by decide +kernel
theorem dX7_fails_9 : decode cX7_fails 9 = .ok (.ireturn, 1) := by decide +kernel
theorem dX7_lost_0 : decode cX7_lost 0 = .ok (.aload_n 0, 1) := by decide +kernel
theorem dX7_lost_1 : decode cX7_lost 1 = .ok (.iload_n 1, 1) := by decide +kernel
theorem dX7_lost_2 : decode cX7_lost 2 = .ok (.putfield 68, 3) := by decide +kernel
theorem dX7_lost_5 : decode cX7_lost 5 = .ok (.ldc2_w 72, 3) := by decide +kernel
theorem dX7_lost_8 : decode cX7_lost 8 = .ok (.lreturn, 1) := by decide +kernel
theorem dX7_within_0 : decode cX7_within 0 = .ok (.iload_n 0, 1) := by decide +kernel
theorem dX7_within_1 : decode cX7_within 1 = .ok (.iload_n 1, 1) := by decide +kernel
theorem dX7_within_2 : decode cX7_within 2 = .ok (.if_icmp .lt 12, 3) := by decide +kernel
theorem dX7_within_5 : decode cX7_within 5 = .ok (.iload_n 0, 1) := by decide +kernel
theorem dX7_within_6 : decode cX7_within 6 = .ok (.iload_n 2, 1) := by decide +kernel
theorem dX7_within_7 : decode cX7_within 7 = .ok (.if_icmp .gt 7, 3) := by decide +kernel
theorem dX7_within_10 : decode cX7_within 10 = .ok (.iconst 1, 1) := by decide +kernel
theorem dX7_within_11 : decode cX7_within 11 = .ok (.goto 4, 3) := by decide +kernel
theorem dX7_within_14 : decode cX7_within 14 = .ok (.iconst 0, 1) := by decide +kernel
theorem dX7_within_15 : decode cX7_within 15 = .ok (.ireturn, 1) := by decide +kernel
theorem dX7_isSheet_0 : decode cX7_isSheet 0 = .ok (.iload_n 0, 1) := by decide +kernel
theorem dX7_isSheet_1 : decode cX7_isSheet 1 = .ok (.iconst 0, 1) := by decide +kernel
theorem dX7_isSheet_2 : decode cX7_isSheet 2 = .ok (.iconst 3, 1) := by decide +kernel
theorem dX7_isSheet_3 : decode cX7_isSheet 3 = .ok (.invokestatic 74, 3) := by decide +kernel
theorem dX7_isSheet_6 : decode cX7_isSheet 6 = .ok (.ireturn, 1) := by decide +kernel
theorem dX7_isSort_0 : decode cX7_isSort 0 = .ok (.iload_n 0, 1) := by decide +kernel
theorem dX7_isSort_1 : decode cX7_isSort 1 = .ok (.iconst 0, 1) := by decide +kernel
theorem dX7_isSort_2 : decode cX7_isSort 2 = .ok (.iconst 2, 1) := by decide +kernel
theorem dX7_isSort_3 : decode cX7_isSort 3 = .ok (.invokestatic 74, 3) := by decide +kernel
theorem dX7_isSort_6 : decode cX7_isSort 6 = .ok (.ireturn, 1) := by decide +kernel
theorem dX7_against_0 : decode cX7_against 0 = .ok (.aload_n 0, 1) := by decide +kernel
theorem dX7_against_1 : decode cX7_against 1 = .ok (.getfield 9, 3) := by decide +kernel
theorem dX7_against_4 : decode cX7_against 4 = .ok (.iload_n 1, 1) := by decide +kernel
theorem dX7_against_5 : decode cX7_against 5 = .ok (.iaload, 1) := by decide +kernel
theorem dX7_against_6 : decode cX7_against 6 = .ok (.bipush (-9), 2) := by decide +kernel
theorem dX7_against_8 : decode cX7_against 8 = .ok (.if_icmp .eq 15, 3) := by decide +kernel
theorem dX7_against_11 : decode cX7_against 11 = .ok (.aload_n 0, 1) := by decide +kernel
theorem dX7_against_12 : decode cX7_against 12 = .ok (.getfield 9, 3) := by decide +kernel
theorem dX7_against_15 : decode cX7_against 15 = .ok (.iload_n 1, 1) := by decide +kernel
theorem dX7_against_16 : decode cX7_against 16 = .ok (.iaload, 1) := by decide +kernel
theorem dX7_against_17 : decode cX7_against 17 = .ok (.iload_n 2, 1) := by decide +kernel
theorem dX7_against_18 : decode cX7_against 18 = .ok (.if_icmp .eq 5, 3) := by decide +kernel
theorem dX7_against_21 : decode cX7_against 21 = .ok (.iconst 2, 1) := by decide +kernel
theorem dX7_against_22 : decode cX7_against 22 = .ok (.ireturn, 1) := by decide +kernel
theorem dX7_against_23 : decode cX7_against 23 = .ok (.aload_n 0, 1) := by decide +kernel
theorem dX7_against_24 : decode cX7_against 24 = .ok (.getfield 9, 3) := by decide +kernel
theorem dX7_against_27 : decode cX7_against 27 = .ok (.iload_n 1, 1) := by decide +kernel
theorem dX7_against_28 : decode cX7_against 28 = .ok (.iaload, 1) := by decide +kernel
theorem dX7_against_29 : decode cX7_against 29 = .ok (.bipush (-9), 2) := by decide +kernel
theorem dX7_against_31 : decode cX7_against 31 = .ok (.if_icmp .ne 5, 3) := by decide +kernel
theorem dX7_against_34 : decode cX7_against 34 = .ok (.iconst 1, 1) := by decide +kernel
theorem dX7_against_35 : decode cX7_against 35 = .ok (.ireturn, 1) := by decide +kernel
theorem dX7_against_36 : decode cX7_against 36 = .ok (.iload 4, 2) := by decide +kernel
theorem dX7_against_38 : decode cX7_against 38 = .ok (.ifCond .ge 5, 3) := by decide +kernel
theorem dX7_against_41 : decode cX7_against 41 = .ok (.iconst 4, 1) := by decide +kernel
theorem dX7_against_42 : decode cX7_against 42 = .ok (.ireturn, 1) := by decide +kernel
theorem dX7_against_43 : decode cX7_against 43 = .ok (.iload_n 3, 1) := by decide +kernel
theorem dX7_against_44 : decode cX7_against 44 = .ok (.ifCond .lt 26, 3) := by decide +kernel
theorem dX7_against_47 : decode cX7_against 47 = .ok (.iload_n 3, 1) := by decide +kernel
theorem dX7_against_48 : decode cX7_against 48 = .ok (.aload_n 0, 1) := by decide +kernel
theorem dX7_against_49 : decode cX7_against 49 = .ok (.getfield 13, 3) := by decide +kernel
theorem dX7_against_52 : decode cX7_against 52 = .ok (.iload_n 1, 1) := by decide +kernel
theorem dX7_against_53 : decode cX7_against 53 = .ok (.iaload, 1) := by decide +kernel
theorem dX7_against_54 : decode cX7_against 54 = .ok (.if_icmp .gt 16, 3) := by decide +kernel
theorem dX7_against_57 : decode cX7_against 57 = .ok (.iload 4, 2) := by decide +kernel
theorem dX7_against_59 : decode cX7_against 59 = .ok (.aload_n 0, 1) := by decide +kernel
theorem dX7_against_60 : decode cX7_against 60 = .ok (.getfield 13, 3) := by decide +kernel
theorem dX7_against_63 : decode cX7_against 63 = .ok (.iload_n 1, 1) := by decide +kernel
theorem dX7_against_64 : decode cX7_against 64 = .ok (.iaload, 1) := by decide +kernel
theorem dX7_against_65 : decode cX7_against 65 = .ok (.iload_n 3, 1) := by decide +kernel
theorem dX7_against_66 : decode cX7_against 66 = .ok (.isub, 1) := by decide +kernel
theorem dX7_against_67 : decode cX7_against 67 = .ok (.if_icmp .le 7, 3) := by decide +kernel
theorem dX7_against_70 : decode cX7_against 70 = .ok (.iconst 3, 1) := by decide +kernel
theorem dX7_against_71 : decode cX7_against 71 = .ok (.goto 4, 3) := by decide +kernel
theorem dX7_against_74 : decode cX7_against 74 = .ok (.iconst 0, 1) := by decide +kernel
theorem dX7_against_75 : decode cX7_against 75 = .ok (.ireturn, 1) := by decide +kernel
theorem dX7_isGuest_0 : decode cX7_isGuest 0 = .ok (.iload_n 1, 1) := by decide +kernel
theorem dX7_isGuest_1 : decode cX7_isGuest 1 = .ok (.ifCond .lt 15, 3) := by decide +kernel
theorem dX7_isGuest_4 : decode cX7_isGuest 4 = .ok (.iload_n 1, 1) := by decide +kernel
theorem dX7_isGuest_5 : decode cX7_isGuest 5 = .ok (.aload_n 0, 1) := by decide +kernel
theorem dX7_isGuest_6 : decode cX7_isGuest 6 = .ok (.getfield 78, 3) := by decide +kernel
theorem dX7_isGuest_9 : decode cX7_isGuest 9 = .ok (.if_icmp .ge 7, 3) := by decide +kernel
theorem dX7_isGuest_12 : decode cX7_isGuest 12 = .ok (.iconst 1, 1) := by decide +kernel
theorem dX7_isGuest_13 : decode cX7_isGuest 13 = .ok (.goto 4, 3) := by decide +kernel
theorem dX7_isGuest_16 : decode cX7_isGuest 16 = .ok (.iconst 0, 1) := by decide +kernel
theorem dX7_isGuest_17 : decode cX7_isGuest 17 = .ok (.ireturn, 1) := by decide +kernel
theorem dX7_isDish_0 : decode cX7_isDish 0 = .ok (.iload_n 1, 1) := by decide +kernel
theorem dX7_isDish_1 : decode cX7_isDish 1 = .ok (.ifCond .lt 15, 3) := by decide +kernel
theorem dX7_isDish_4 : decode cX7_isDish 4 = .ok (.iload_n 1, 1) := by decide +kernel
theorem dX7_isDish_5 : decode cX7_isDish 5 = .ok (.aload_n 0, 1) := by decide +kernel
theorem dX7_isDish_6 : decode cX7_isDish 6 = .ok (.getfield 81, 3) := by decide +kernel
theorem dX7_isDish_9 : decode cX7_isDish 9 = .ok (.if_icmp .ge 7, 3) := by decide +kernel
theorem dX7_isDish_12 : decode cX7_isDish 12 = .ok (.iconst 1, 1) := by decide +kernel
theorem dX7_isDish_13 : decode cX7_isDish 13 = .ok (.goto 4, 3) := by decide +kernel
theorem dX7_isDish_16 : decode cX7_isDish 16 = .ok (.iconst 0, 1) := by decide +kernel
theorem dX7_isDish_17 : decode cX7_isDish 17 = .ok (.ireturn, 1) := by decide +kernel
theorem dX7_isCountry_0 : decode cX7_isCountry 0 = .ok (.iload_n 0, 1) := by decide +kernel
theorem dX7_isCountry_1 : decode cX7_isCountry 1 = .ok (.ifCond .eq 8, 3) := by decide +kernel
theorem dX7_isCountry_4 : decode cX7_isCountry 4 = .ok (.iload_n 0, 1) := by decide +kernel
theorem dX7_isCountry_5 : decode cX7_isCountry 5 = .ok (.iconst 1, 1) := by decide +kernel
theorem dX7_isCountry_6 : decode cX7_isCountry 6 = .ok (.if_icmp .ne 7, 3) := by decide +kernel
theorem dX7_isCountry_9 : decode cX7_isCountry 9 = .ok (.iconst 1, 1) := by decide +kernel
theorem dX7_isCountry_10 : decode cX7_isCountry 10 = .ok (.goto 4, 3) := by decide +kernel
theorem dX7_isCountry_13 : decode cX7_isCountry 13 = .ok (.iconst 0, 1) := by decide +kernel
theorem dX7_isCountry_14 : decode cX7_isCountry 14 = .ok (.ireturn, 1) := by decide +kernel
theorem dX7_digit_0 : decode cX7_digit 0 = .ok (.aload_n 0, 1) := by decide +kernel
theorem dX7_digit_1 : decode cX7_digit 1 = .ok (.getfield 84, 3) := by decide +kernel
theorem dX7_digit_4 : decode cX7_digit 4 = .ok (.iload_n 1, 1) := by decide +kernel
theorem dX7_digit_5 : decode cX7_digit 5 = .ok (.if_icmp .ge 24, 3) := by decide +kernel
theorem dX7_digit_8 : decode cX7_digit 8 = .ok (.aload_n 0, 1) := by decide +kernel
theorem dX7_digit_9 : decode cX7_digit 9 = .ok (.getfield 16, 3) := by decide +kernel
theorem dX7_digit_12 : decode cX7_digit 12 = .ok (.aload_n 0, 1) := by decide +kernel
theorem dX7_digit_13 : decode cX7_digit 13 = .ok (.getfield 84, 3) := by decide +kernel
theorem dX7_digit_16 : decode cX7_digit 16 = .ok (.iaload, 1) := by decide +kernel
theorem dX7_digit_17 : decode cX7_digit 17 = .ok (.bipush 48, 2) := by decide +kernel
theorem dX7_digit_19 : decode cX7_digit 19 = .ok (.bipush 48, 2) := by decide +kernel
theorem dX7_digit_21 : decode cX7_digit 21 = .ok (.iload_n 2, 1) := by decide +kernel
theorem dX7_digit_22 : decode cX7_digit 22 = .ok (.iadd, 1) := by decide +kernel
theorem dX7_digit_23 : decode cX7_digit 23 = .ok (.invokestatic 74, 3) := by decide +kernel
theorem dX7_digit_26 : decode cX7_digit 26 = .ok (.ifCond .ne 6, 3) := by decide +kernel
theorem dX7_digit_29 : decode cX7_digit 29 = .ok (.bipush (-9), 2) := by decide +kernel
theorem dX7_digit_31 : decode cX7_digit 31 = .ok (.ireturn, 1) := by decide +kernel
theorem dX7_digit_32 : decode cX7_digit 32 = .ok (.aload_n 0, 1) := by decide +kernel
theorem dX7_digit_33 : decode cX7_digit 33 = .ok (.dup, 1) := by decide +kernel
theorem dX7_digit_34 : decode cX7_digit 34 = .ok (.getfield 84, 3) := by decide +kernel
theorem dX7_digit_37 : decode cX7_digit 37 = .ok (.iconst 1, 1) := by decide +kernel
theorem dX7_digit_38 : decode cX7_digit 38 = .ok (.iadd, 1) := by decide +kernel
theorem dX7_digit_39 : decode cX7_digit 39 = .ok (.putfield 84, 3) := by decide +kernel
theorem dX7_digit_42 : decode cX7_digit 42 = .ok (.aload_n 0, 1) := by decide +kernel
theorem dX7_digit_43 : decode cX7_digit 43 = .ok (.getfield 16, 3) := by decide +kernel
theorem dX7_digit_46 : decode cX7_digit 46 = .ok (.aload_n 0, 1) := by decide +kernel
theorem dX7_digit_47 : decode cX7_digit 47 = .ok (.getfield 84, 3) := by decide +kernel
theorem dX7_digit_50 : decode cX7_digit 50 = .ok (.iconst 1, 1) := by decide +kernel
theorem dX7_digit_51 : decode cX7_digit 51 = .ok (.isub, 1) := by decide +kernel
theorem dX7_digit_52 : decode cX7_digit 52 = .ok (.iaload, 1) := by decide +kernel
theorem dX7_digit_53 : decode cX7_digit 53 = .ok (.bipush 48, 2) := by decide +kernel
theorem dX7_digit_55 : decode cX7_digit 55 = .ok (.isub, 1) := by decide +kernel
theorem dX7_digit_56 : decode cX7_digit 56 = .ok (.ireturn, 1) := by decide +kernel
theorem dX7_isSign_0 : decode cX7_isSign 0 = .ok (.aload_n 0, 1) := by decide +kernel
theorem dX7_isSign_1 : decode cX7_isSign 1 = .ok (.getfield 84, 3) := by decide +kernel
theorem dX7_isSign_4 : decode cX7_isSign 4 = .ok (.iload_n 1, 1) := by decide +kernel
theorem dX7_isSign_5 : decode cX7_isSign 5 = .ok (.if_icmp .ge 16, 3) := by decide +kernel
theorem dX7_isSign_8 : decode cX7_isSign 8 = .ok (.aload_n 0, 1) := by decide +kernel
theorem dX7_isSign_9 : decode cX7_isSign 9 = .ok (.getfield 16, 3) := by decide +kernel
theorem dX7_isSign_12 : decode cX7_isSign 12 = .ok (.aload_n 0, 1) := by decide +kernel
theorem dX7_isSign_13 : decode cX7_isSign 13 = .ok (.getfield 84, 3) := by decide +kernel
theorem dX7_isSign_16 : decode cX7_isSign 16 = .ok (.iaload, 1) := by decide +kernel
theorem dX7_isSign_17 : decode cX7_isSign 17 = .ok (.iload_n 2, 1) := by decide +kernel
theorem dX7_isSign_18 : decode cX7_isSign 18 = .ok (.if_icmp .eq 5, 3) := by decide +kernel
theorem dX7_isSign_21 : decode cX7_isSign 21 = .ok (.iconst 0, 1) := by decide +kernel
theorem dX7_isSign_22 : decode cX7_isSign 22 = .ok (.ireturn, 1) := by decide +kernel
theorem dX7_isSign_23 : decode cX7_isSign 23 = .ok (.aload_n 0, 1) := by decide +kernel
theorem dX7_isSign_24 : decode cX7_isSign 24 = .ok (.dup, 1) := by decide +kernel
theorem dX7_isSign_25 : decode cX7_isSign 25 = .ok (.getfield 84, 3) := by decide +kernel
theorem dX7_isSign_28 : decode cX7_isSign 28 = .ok (.iconst 1, 1) := by decide +kernel
theorem dX7_isSign_29 : decode cX7_isSign 29 = .ok (.iadd, 1) := by decide +kernel
theorem dX7_isSign_30 : decode cX7_isSign 30 = .ok (.putfield 84, 3) := by decide +kernel
theorem dX7_isSign_33 : decode cX7_isSign 33 = .ok (.iconst 1, 1) := by decide +kernel
theorem dX7_isSign_34 : decode cX7_isSign 34 = .ok (.ireturn, 1) := by decide +kernel
theorem dX7_table_0 : decode cX7_table 0 = .ok (.aload_n 0, 1) := by decide +kernel
theorem dX7_table_1 : decode cX7_table 1 = .ok (.iconst 0, 1) := by decide +kernel
theorem dX7_table_2 : decode cX7_table 2 = .ok (.putfield 68, 3) := by decide +kernel
theorem dX7_table_5 : decode cX7_table 5 = .ok (.iload_n 1, 1) := by decide +kernel
theorem dX7_table_6 : decode cX7_table 6 = .ok (.invokestatic 87, 3) := by decide +kernel
theorem dX7_table_9 : decode cX7_table 9 = .ok (.ifCond .ne 5, 3) := by decide +kernel
theorem dX7_table_12 : decode cX7_table 12 = .ok (.iconst (-1), 1) := by decide +kernel
theorem dX7_table_13 : decode cX7_table 13 = .ok (.ireturn, 1) := by decide +kernel
theorem dX7_table_14 : decode cX7_table 14 = .ok (.iload_n 2, 1) := by decide +kernel
theorem dX7_table_15 : decode cX7_table 15 = .ok (.invokestatic 91, 3) := by decide +kernel
theorem dX7_table_18 : decode cX7_table 18 = .ok (.ifCond .ne 6, 3) := by decide +kernel
theorem dX7_table_21 : decode cX7_table 21 = .ok (.bipush (-2), 2) := by decide +kernel
theorem dX7_table_23 : decode cX7_table 23 = .ok (.ireturn, 1) := by decide +kernel
theorem dX7_table_24 : decode cX7_table 24 = .ok (.aload_n 0, 1) := by decide +kernel
theorem dX7_table_25 : decode cX7_table 25 = .ok (.iload_n 1, 1) := by decide +kernel
theorem dX7_table_26 : decode cX7_table 26 = .ok (.iload_n 2, 1) := by decide +kernel
theorem dX7_table_27 : decode cX7_table 27 = .ok (.iload_n 3, 1) := by decide +kernel
theorem dX7_table_28 : decode cX7_table 28 = .ok (.iload 4, 2) := by decide +kernel
theorem dX7_table_30 : decode cX7_table 30 = .ok (.invokevirtual 94, 3) := by decide +kernel
theorem dX7_table_33 : decode cX7_table 33 = .ok (.istore 5, 2) := by decide +kernel
theorem dX7_table_35 : decode cX7_table 35 = .ok (.iload 5, 2) := by decide +kernel
theorem dX7_table_37 : decode cX7_table 37 = .ok (.ifCond .eq 10, 3) := by decide +kernel
theorem dX7_table_40 : decode cX7_table 40 = .ok (.aload_n 0, 1) := by decide +kernel
theorem dX7_table_41 : decode cX7_table 41 = .ok (.iload 5, 2) := by decide +kernel
theorem dX7_table_43 : decode cX7_table 43 = .ok (.invokevirtual 98, 3) := by decide +kernel
theorem dX7_table_46 : decode cX7_table 46 = .ok (.ireturn, 1) := by decide +kernel
theorem dX7_table_47 : decode cX7_table 47 = .ok (.bipush 60, 2) := by decide +kernel
theorem dX7_table_49 : decode cX7_table 49 = .ok (.iload_n 1, 1) := by decide +kernel
theorem dX7_table_50 : decode cX7_table 50 = .ok (.imul, 1) := by decide +kernel
theorem dX7_table_51 : decode cX7_table 51 = .ok (.iload_n 3, 1) := by decide +kernel
theorem dX7_table_52 : decode cX7_table 52 = .ok (.iadd, 1) := by decide +kernel
theorem dX7_table_53 : decode cX7_table 53 = .ok (.istore 6, 2) := by decide +kernel
theorem dX7_table_55 : decode cX7_table 55 = .ok (.aload_n 0, 1) := by decide +kernel
theorem dX7_table_56 : decode cX7_table 56 = .ok (.iload 6, 2) := by decide +kernel
theorem dX7_table_58 : decode cX7_table 58 = .ok (.putfield 84, 3) := by decide +kernel
theorem dX7_table_61 : decode cX7_table 61 = .ok (.aload_n 0, 1) := by decide +kernel
theorem dX7_table_62 : decode cX7_table 62 = .ok (.iload 6, 2) := by decide +kernel
theorem dX7_table_64 : decode cX7_table 64 = .ok (.iload 4, 2) := by decide +kernel
theorem dX7_table_66 : decode cX7_table 66 = .ok (.iadd, 1) := by decide +kernel
theorem dX7_table_67 : decode cX7_table 67 = .ok (.invokevirtual 102, 3) := by decide +kernel
theorem dX7_table_70 : decode cX7_table 70 = .ok (.ifCond .ne 14, 3) := by decide +kernel
theorem dX7_table_73 : decode cX7_table 73 = .ok (.bipush (-100), 2) := by decide +kernel
theorem dX7_table_75 : decode cX7_table 75 = .ok (.aload_n 0, 1) := by decide +kernel
theorem dX7_table_76 : decode cX7_table 76 = .ok (.getfield 84, 3) := by decide +kernel
theorem dX7_table_79 : decode cX7_table 79 = .ok (.iload 6, 2) := by decide +kernel
theorem dX7_table_81 : decode cX7_table 81 = .ok (.isub, 1) := by decide +kernel
theorem dX7_table_82 : decode cX7_table 82 = .ok (.isub, 1) := by decide +kernel
theorem dX7_table_83 : decode cX7_table 83 = .ok (.ireturn, 1) := by decide +kernel
theorem dX7_table_84 : decode cX7_table 84 = .ok (.aload_n 0, 1) := by decide +kernel
theorem dX7_table_85 : decode cX7_table 85 = .ok (.invokevirtual 105, 3) := by decide +kernel
theorem dX7_table_88 : decode cX7_table 88 = .ok (.aload_n 0, 1) := by decide +kernel
theorem dX7_table_89 : decode cX7_table 89 = .ok (.getfield 78, 3) := by decide +kernel
theorem dX7_table_92 : decode cX7_table 92 = .ok (.ireturn, 1) := by decide +kernel
theorem dX7_takeTable_0 : decode cX7_takeTable 0 = .ok (.aload_n 0, 1) := by decide +kernel
theorem dX7_takeTable_1 : decode cX7_takeTable 1 = .ok (.aload_n 0, 1) := by decide +kernel
theorem dX7_takeTable_2 : decode cX7_takeTable 2 = .ok (.getfield 108, 3) := by decide +kernel
theorem dX7_takeTable_5 : decode cX7_takeTable 5 = .ok (.putfield 111, 3) := by decide +kernel
theorem dX7_takeTable_8 : decode cX7_takeTable 8 = .ok (.aload_n 0, 1) := by decide +kernel
theorem dX7_takeTable_9 : decode cX7_takeTable 9 = .ok (.aload_n 0, 1) := by decide +kernel
theorem dX7_takeTable_10 : decode cX7_takeTable 10 = .ok (.getfield 114, 3) := by decide +kernel
theorem dX7_takeTable_13 : decode cX7_takeTable 13 = .ok (.putfield 78, 3) := by decide +kernel
theorem dX7_takeTable_16 : decode cX7_takeTable 16 = .ok (.iconst 0, 1) := by decide +kernel
theorem dX7_takeTable_17 : decode cX7_takeTable 17 = .ok (.istore_n 1, 1) := by decide +kernel
theorem dX7_takeTable_18 : decode cX7_takeTable 18 = .ok (.iload_n 1, 1) := by decide +kernel
theorem dX7_takeTable_19 : decode cX7_takeTable 19 = .ok (.aload_n 0, 1) := by decide +kernel
theorem dX7_takeTable_20 : decode cX7_takeTable 20 = .ok (.getfield 78, 3) := by decide +kernel
theorem dX7_takeTable_23 : decode cX7_takeTable 23 = .ok (.if_icmp .ge 45, 3) := by decide +kernel
theorem dX7_takeTable_26 : decode cX7_takeTable 26 = .ok (.aload_n 0, 1) := by decide +kernel
theorem dX7_takeTable_27 : decode cX7_takeTable 27 = .ok (.getfield 19, 3) := by decide +kernel
theorem dX7_takeTable_30 : decode cX7_takeTable 30 = .ok (.iload_n 1, 1) := by decide +kernel
theorem dX7_takeTable_31 : decode cX7_takeTable 31 = .ok (.aload_n 0, 1) := by decide +kernel
theorem dX7_takeTable_32 : decode cX7_takeTable 32 = .ok (.getfield 34, 3) := by decide +kernel
theorem dX7_takeTable_35 : decode cX7_takeTable 35 = .ok (.iload_n 1, 1) := by decide +kernel
theorem dX7_takeTable_36 : decode cX7_takeTable 36 = .ok (.iaload, 1) := by decide +kernel
theorem dX7_takeTable_37 : decode cX7_takeTable 37 = .ok (.iastore, 1) := by decide +kernel
theorem dX7_takeTable_38 : decode cX7_takeTable 38 = .ok (.aload_n 0, 1) := by decide +kernel
theorem dX7_takeTable_39 : decode cX7_takeTable 39 = .ok (.getfield 22, 3) := by decide +kernel
theorem dX7_takeTable_42 : decode cX7_takeTable 42 = .ok (.iload_n 1, 1) := by decide +kernel
theorem dX7_takeTable_43 : decode cX7_takeTable 43 = .ok (.aload_n 0, 1) := by decide +kernel
theorem dX7_takeTable_44 : decode cX7_takeTable 44 = .ok (.getfield 37, 3) := by decide +kernel
theorem dX7_takeTable_47 : decode cX7_takeTable 47 = .ok (.iload_n 1, 1) := by decide +kernel
theorem dX7_takeTable_48 : decode cX7_takeTable 48 = .ok (.iaload, 1) := by decide +kernel
theorem dX7_takeTable_49 : decode cX7_takeTable 49 = .ok (.iastore, 1) := by decide +kernel
theorem dX7_takeTable_50 : decode cX7_takeTable 50 = .ok (.aload_n 0, 1) := by decide +kernel
theorem dX7_takeTable_51 : decode cX7_takeTable 51 = .ok (.getfield 25, 3) := by decide +kernel
theorem dX7_takeTable_54 : decode cX7_takeTable 54 = .ok (.iload_n 1, 1) := by decide +kernel
theorem dX7_takeTable_55 : decode cX7_takeTable 55 = .ok (.aload_n 0, 1) := by decide +kernel
theorem dX7_takeTable_56 : decode cX7_takeTable 56 = .ok (.getfield 40, 3) := by decide +kernel
theorem dX7_takeTable_59 : decode cX7_takeTable 59 = .ok (.iload_n 1, 1) := by decide +kernel
theorem dX7_takeTable_60 : decode cX7_takeTable 60 = .ok (.iaload, 1) := by decide +kernel
theorem dX7_takeTable_61 : decode cX7_takeTable 61 = .ok (.iastore, 1) := by decide +kernel
theorem dX7_takeTable_62 : decode cX7_takeTable 62 = .ok (.iinc 1 1, 3) := by decide +kernel
theorem dX7_takeTable_65 : decode cX7_takeTable 65 = .ok (.goto (-47), 3) := by decide +kernel
theorem dX7_takeTable_68 : decode cX7_takeTable 68 = .ok (.aload_n 0, 1) := by decide +kernel
theorem dX7_takeTable_69 : decode cX7_takeTable 69 = .ok (.aload_n 0, 1) := by decide +kernel
theorem dX7_takeTable_70 : decode cX7_takeTable 70 = .ok (.getfield 117, 3) := by decide +kernel
theorem dX7_takeTable_73 : decode cX7_takeTable 73 = .ok (.putfield 120, 3) := by decide +kernel
theorem dX7_takeTable_76 : decode cX7_takeTable 76 = .ok (.aload_n 0, 1) := by decide +kernel
theorem dX7_takeTable_77 : decode cX7_takeTable 77 = .ok (.aload_n 0, 1) := by decide +kernel
theorem dX7_takeTable_78 : decode cX7_takeTable 78 = .ok (.getfield 123, 3) := by decide +kernel
theorem dX7_takeTable_81 : decode cX7_takeTable 81 = .ok (.putfield 126, 3) := by decide +kernel
theorem dX7_takeTable_84 : decode cX7_takeTable 84 = .ok (.aload_n 0, 1) := by decide +kernel
theorem dX7_takeTable_85 : decode cX7_takeTable 85 = .ok (.aload_n 0, 1) := by decide +kernel
theorem dX7_takeTable_86 : decode cX7_takeTable 86 = .ok (.getfield 129, 3) := by decide +kernel
theorem dX7_takeTable_89 : decode cX7_takeTable 89 = .ok (.putfield 81, 3) := by decide +kernel
theorem dX7_takeTable_92 : decode cX7_takeTable 92 = .ok (.iconst 0, 1) := by decide +kernel
theorem dX7_takeTable_93 : decode cX7_takeTable 93 = .ok (.istore_n 1, 1) := by decide +kernel
theorem dX7_takeTable_94 : decode cX7_takeTable 94 = .ok (.iload_n 1, 1) := by decide +kernel
theorem dX7_takeTable_95 : decode cX7_takeTable 95 = .ok (.aload_n 0, 1) := by decide +kernel
theorem dX7_takeTable_96 : decode cX7_takeTable 96 = .ok (.getfield 81, 3) := by decide +kernel
theorem dX7_takeTable_99 : decode cX7_takeTable 99 = .ok (.if_icmp .ge 33, 3) := by decide +kernel
theorem dX7_takeTable_102 : decode cX7_takeTable 102 = .ok (.aload_n 0, 1) := by decide +kernel
theorem dX7_takeTable_103 : decode cX7_takeTable 103 = .ok (.getfield 28, 3) := by decide +kernel
theorem dX7_takeTable_106 : decode cX7_takeTable 106 = .ok (.iload_n 1, 1) := by decide +kernel
theorem dX7_takeTable_107 : decode cX7_takeTable 107 = .ok (.aload_n 0, 1) := by decide +kernel
theorem dX7_takeTable_108 : decode cX7_takeTable 108 = .ok (.getfield 43, 3) := by decide +kernel
theorem dX7_takeTable_111 : decode cX7_takeTable 111 = .ok (.iload_n 1, 1) := by decide +kernel
theorem dX7_takeTable_112 : decode cX7_takeTable 112 = .ok (.iaload, 1) := by decide +kernel
theorem dX7_takeTable_113 : decode cX7_takeTable 113 = .ok (.iastore, 1) := by decide +kernel
theorem dX7_takeTable_114 : decode cX7_takeTable 114 = .ok (.aload_n 0, 1) := by decide +kernel
theorem dX7_takeTable_115 : decode cX7_takeTable 115 = .ok (.getfield 31, 3) := by decide +kernel
theorem dX7_takeTable_118 : decode cX7_takeTable 118 = .ok (.iload_n 1, 1) := by decide +kernel
theorem dX7_takeTable_119 : decode cX7_takeTable 119 = .ok (.aload_n 0, 1) := by decide +kernel
theorem dX7_takeTable_120 : decode cX7_takeTable 120 = .ok (.getfield 46, 3) := by decide +kernel
theorem dX7_takeTable_123 : decode cX7_takeTable 123 = .ok (.iload_n 1, 1) := by decide +kernel
theorem dX7_takeTable_124 : decode cX7_takeTable 124 = .ok (.iaload, 1) := by decide +kernel
theorem dX7_takeTable_125 : decode cX7_takeTable 125 = .ok (.iastore, 1) := by decide +kernel
theorem dX7_takeTable_126 : decode cX7_takeTable 126 = .ok (.iinc 1 1, 3) := by decide +kernel
theorem dX7_takeTable_129 : decode cX7_takeTable 129 = .ok (.goto (-35), 3) := by decide +kernel
theorem dX7_takeTable_132 : decode cX7_takeTable 132 = .ok (.aload_n 0, 1) := by decide +kernel
theorem dX7_takeTable_133 : decode cX7_takeTable 133 = .ok (.iconst 0, 1) := by decide +kernel
theorem dX7_takeTable_134 : decode cX7_takeTable 134 = .ok (.putfield 132, 3) := by decide +kernel
theorem dX7_takeTable_137 : decode cX7_takeTable 137 = .ok (.return_, 1) := by decide +kernel
theorem dX7_readTable_0 : decode cX7_readTable 0 = .ok (.aload_n 0, 1) := by decide +kernel
theorem dX7_readTable_1 : decode cX7_readTable 1 = .ok (.iconst 0, 1) := by decide +kernel
theorem dX7_readTable_2 : decode cX7_readTable 2 = .ok (.putfield 114, 3) := by decide +kernel
theorem dX7_readTable_5 : decode cX7_readTable 5 = .ok (.aload_n 0, 1) := by decide +kernel
theorem dX7_readTable_6 : decode cX7_readTable 6 = .ok (.iconst 0, 1) := by decide +kernel
theorem dX7_readTable_7 : decode cX7_readTable 7 = .ok (.putfield 129, 3) := by decide +kernel
theorem dX7_readTable_10 : decode cX7_readTable 10 = .ok (.aload_n 0, 1) := by decide +kernel
theorem dX7_readTable_11 : decode cX7_readTable 11 = .ok (.iload_n 1, 1) := by decide +kernel
theorem dX7_readTable_12 : decode cX7_readTable 12 = .ok (.bipush 116, 2) := by decide +kernel
theorem dX7_readTable_14 : decode cX7_readTable 14 = .ok (.invokevirtual 135, 3) := by decide +kernel
theorem dX7_readTable_17 : decode cX7_readTable 17 = .ok (.ifCond .ne 5, 3) := by decide +kernel
theorem dX7_readTable_20 : decode cX7_readTable 20 = .ok (.iconst 0, 1) := by decide +kernel
theorem dX7_readTable_21 : decode cX7_readTable 21 = .ok (.ireturn, 1) := by decide +kernel
theorem dX7_readTable_22 : decode cX7_readTable 22 = .ok (.aload_n 0, 1) := by decide +kernel
theorem dX7_readTable_23 : decode cX7_readTable 23 = .ok (.aload_n 0, 1) := by decide +kernel
theorem dX7_readTable_24 : decode cX7_readTable 24 = .ok (.iload_n 1, 1) := by decide +kernel
theorem dX7_readTable_25 : decode cX7_readTable 25 = .ok (.iconst 3, 1) := by decide +kernel
theorem dX7_readTable_26 : decode cX7_readTable 26 = .ok (.invokevirtual 139, 3) := by decide +kernel
theorem dX7_readTable_29 : decode cX7_readTable 29 = .ok (.putfield 108, 3) := by decide +kernel
theorem dX7_readTable_32 : decode cX7_readTable 32 = .ok (.aload_n 0, 1) := by decide +kernel
theorem dX7_readTable_33 : decode cX7_readTable 33 = .ok (.getfield 108, 3) := by decide +kernel
theorem dX7_readTable_36 : decode cX7_readTable 36 = .ok (.bipush (-9), 2) := by decide +kernel
theorem dX7_readTable_38 : decode cX7_readTable 38 = .ok (.if_icmp .ne 5, 3) := by decide +kernel
theorem dX7_readTable_41 : decode cX7_readTable 41 = .ok (.iconst 0, 1) := by decide +kernel
theorem dX7_readTable_42 : decode cX7_readTable 42 = .ok (.ireturn, 1) := by decide +kernel
theorem dX7_readTable_43 : decode cX7_readTable 43 = .ok (.aload_n 0, 1) := by decide +kernel
theorem dX7_readTable_44 : decode cX7_readTable 44 = .ok (.getfield 114, 3) := by decide +kernel
theorem dX7_readTable_47 : decode cX7_readTable 47 = .ok (.bipush 8, 2) := by decide +kernel
theorem dX7_readTable_49 : decode cX7_readTable 49 = .ok (.if_icmp .ge 23, 3) := by decide +kernel
theorem dX7_readTable_52 : decode cX7_readTable 52 = .ok (.aload_n 0, 1) := by decide +kernel
theorem dX7_readTable_53 : decode cX7_readTable 53 = .ok (.iload_n 1, 1) := by decide +kernel
theorem dX7_readTable_54 : decode cX7_readTable 54 = .ok (.bipush 44, 2) := by decide +kernel
theorem dX7_readTable_56 : decode cX7_readTable 56 = .ok (.invokevirtual 135, 3) := by decide +kernel
theorem dX7_readTable_59 : decode cX7_readTable 59 = .ok (.ifCond .eq 13, 3) := by decide +kernel
theorem dX7_readTable_62 : decode cX7_readTable 62 = .ok (.aload_n 0, 1) := by decide +kernel
theorem dX7_readTable_63 : decode cX7_readTable 63 = .ok (.iload_n 1, 1) := by decide +kernel
theorem dX7_readTable_64 : decode cX7_readTable 64 = .ok (.invokevirtual 143, 3) := by decide +kernel
theorem dX7_readTable_67 : decode cX7_readTable 67 = .ok (.ifCond .ne (-24), 3) := by decide +kernel
theorem dX7_readTable_70 : decode cX7_readTable 70 = .ok (.iconst 0, 1) := by decide +kernel
theorem dX7_readTable_71 : decode cX7_readTable 71 = .ok (.ireturn, 1) := by decide +kernel
theorem dX7_readTable_72 : decode cX7_readTable 72 = .ok (.aload_n 0, 1) := by decide +kernel
theorem dX7_readTable_73 : decode cX7_readTable 73 = .ok (.getfield 114, 3) := by decide +kernel
theorem dX7_readTable_76 : decode cX7_readTable 76 = .ok (.iconst 3, 1) := by decide +kernel
theorem dX7_readTable_77 : decode cX7_readTable 77 = .ok (.if_icmp .lt 13, 3) := by decide +kernel
theorem dX7_readTable_80 : decode cX7_readTable 80 = .ok (.aload_n 0, 1) := by decide +kernel
theorem dX7_readTable_81 : decode cX7_readTable 81 = .ok (.iload_n 1, 1) := by decide +kernel
theorem dX7_readTable_82 : decode cX7_readTable 82 = .ok (.bipush 47, 2) := by decide +kernel
theorem dX7_readTable_84 : decode cX7_readTable 84 = .ok (.invokevirtual 135, 3) := by decide +kernel
theorem dX7_readTable_87 : decode cX7_readTable 87 = .ok (.ifCond .ne 5, 3) := by decide +kernel
theorem dX7_readTable_90 : decode cX7_readTable 90 = .ok (.iconst 0, 1) := by decide +kernel
theorem dX7_readTable_91 : decode cX7_readTable 91 = .ok (.ireturn, 1) := by decide +kernel
theorem dX7_readTable_92 : decode cX7_readTable 92 = .ok (.aload_n 0, 1) := by decide +kernel
theorem dX7_readTable_93 : decode cX7_readTable 93 = .ok (.aload_n 0, 1) := by decide +kernel
theorem dX7_readTable_94 : decode cX7_readTable 94 = .ok (.iload_n 1, 1) := by decide +kernel
theorem dX7_readTable_95 : decode cX7_readTable 95 = .ok (.aload_n 0, 1) := by decide +kernel
theorem dX7_readTable_96 : decode cX7_readTable 96 = .ok (.getfield 114, 3) := by decide +kernel
theorem dX7_readTable_99 : decode cX7_readTable 99 = .ok (.iconst 1, 1) := by decide +kernel
theorem dX7_readTable_100 : decode cX7_readTable 100 = .ok (.isub, 1) := by decide +kernel
theorem dX7_readTable_101 : decode cX7_readTable 101 = .ok (.invokevirtual 139, 3) := by decide +kernel
theorem dX7_readTable_104 : decode cX7_readTable 104 = .ok (.putfield 117, 3) := by decide +kernel
theorem dX7_readTable_107 : decode cX7_readTable 107 = .ok (.aload_n 0, 1) := by decide +kernel
theorem dX7_readTable_108 : decode cX7_readTable 108 = .ok (.getfield 117, 3) := by decide +kernel
theorem dX7_readTable_111 : decode cX7_readTable 111 = .ok (.bipush (-9), 2) := by decide +kernel
theorem dX7_readTable_113 : decode cX7_readTable 113 = .ok (.if_icmp .ne 5, 3) := by decide +kernel
theorem dX7_readTable_116 : decode cX7_readTable 116 = .ok (.iconst 0, 1) := by decide +kernel
theorem dX7_readTable_117 : decode cX7_readTable 117 = .ok (.ireturn, 1) := by decide +kernel
theorem dX7_readTable_118 : decode cX7_readTable 118 = .ok (.aload_n 0, 1) := by decide +kernel
theorem dX7_readTable_119 : decode cX7_readTable 119 = .ok (.getfield 84, 3) := by decide +kernel
theorem dX7_readTable_122 : decode cX7_readTable 122 = .ok (.iload_n 1, 1) := by decide +kernel
theorem dX7_readTable_123 : decode cX7_readTable 123 = .ok (.if_icmp .ge 24, 3) := by decide +kernel
theorem dX7_readTable_126 : decode cX7_readTable 126 = .ok (.aload_n 0, 1) := by decide +kernel
theorem dX7_readTable_127 : decode cX7_readTable 127 = .ok (.getfield 16, 3) := by decide +kernel
theorem dX7_readTable_130 : decode cX7_readTable 130 = .ok (.aload_n 0, 1) := by decide +kernel
theorem dX7_readTable_131 : decode cX7_readTable 131 = .ok (.getfield 84, 3) := by decide +kernel
theorem dX7_readTable_134 : decode cX7_readTable 134 = .ok (.iaload, 1) := by decide +kernel
theorem dX7_readTable_135 : decode cX7_readTable 135 = .ok (.bipush 48, 2) := by decide +kernel
theorem dX7_readTable_137 : decode cX7_readTable 137 = .ok (.aload_n 0, 1) := by decide +kernel
theorem dX7_readTable_138 : decode cX7_readTable 138 = .ok (.getfield 117, 3) := by decide +kernel
theorem dX7_readTable_141 : decode cX7_readTable 141 = .ok (.iadd, 1) := by decide +kernel
theorem dX7_readTable_142 : decode cX7_readTable 142 = .ok (.if_icmp .ne 5, 3) := by decide +kernel
theorem dX7_readTable_145 : decode cX7_readTable 145 = .ok (.iconst 0, 1) := by decide +kernel
theorem dX7_readTable_146 : decode cX7_readTable 146 = .ok (.ireturn, 1) := by decide +kernel
theorem dX7_readTable_147 : decode cX7_readTable 147 = .ok (.aload_n 0, 1) := by decide +kernel
theorem dX7_readTable_148 : decode cX7_readTable 148 = .ok (.aload_n 0, 1) := by decide +kernel
theorem dX7_readTable_149 : decode cX7_readTable 149 = .ok (.iload_n 1, 1) := by decide +kernel
theorem dX7_readTable_150 : decode cX7_readTable 150 = .ok (.aload_n 0, 1) := by decide +kernel
theorem dX7_readTable_151 : decode cX7_readTable 151 = .ok (.getfield 114, 3) := by decide +kernel
theorem dX7_readTable_154 : decode cX7_readTable 154 = .ok (.iconst 1, 1) := by decide +kernel
theorem dX7_readTable_155 : decode cX7_readTable 155 = .ok (.isub, 1) := by decide +kernel
theorem dX7_readTable_156 : decode cX7_readTable 156 = .ok (.invokevirtual 139, 3) := by decide +kernel
theorem dX7_readTable_159 : decode cX7_readTable 159 = .ok (.putfield 123, 3) := by decide +kernel
theorem dX7_readTable_162 : decode cX7_readTable 162 = .ok (.aload_n 0, 1) := by decide +kernel
theorem dX7_readTable_163 : decode cX7_readTable 163 = .ok (.getfield 123, 3) := by decide +kernel
theorem dX7_readTable_166 : decode cX7_readTable 166 = .ok (.bipush (-9), 2) := by decide +kernel
theorem dX7_readTable_168 : decode cX7_readTable 168 = .ok (.if_icmp .ne 5, 3) := by decide +kernel
theorem dX7_readTable_171 : decode cX7_readTable 171 = .ok (.iconst 0, 1) := by decide +kernel
theorem dX7_readTable_172 : decode cX7_readTable 172 = .ok (.ireturn, 1) := by decide +kernel
theorem dX7_readTable_173 : decode cX7_readTable 173 = .ok (.aload_n 0, 1) := by decide +kernel
theorem dX7_readTable_174 : decode cX7_readTable 174 = .ok (.getfield 129, 3) := by decide +kernel
theorem dX7_readTable_177 : decode cX7_readTable 177 = .ok (.ifCond .eq 20, 3) := by decide +kernel
theorem dX7_readTable_180 : decode cX7_readTable 180 = .ok (.aload_n 0, 1) := by decide +kernel
theorem dX7_readTable_181 : decode cX7_readTable 181 = .ok (.getfield 129, 3) := by decide +kernel
theorem dX7_readTable_184 : decode cX7_readTable 184 = .ok (.bipush 6, 2) := by decide +kernel
theorem dX7_readTable_186 : decode cX7_readTable 186 = .ok (.if_icmp .ge 31, 3) := by decide +kernel
theorem dX7_readTable_189 : decode cX7_readTable 189 = .ok (.aload_n 0, 1) := by decide +kernel
theorem dX7_readTable_190 : decode cX7_readTable 190 = .ok (.getfield 84, 3) := by decide +kernel
theorem dX7_readTable_193 : decode cX7_readTable 193 = .ok (.iload_n 1, 1) := by decide +kernel
theorem dX7_readTable_194 : decode cX7_readTable 194 = .ok (.if_icmp .ge 23, 3) := by decide +kernel
theorem dX7_readTable_197 : decode cX7_readTable 197 = .ok (.aload_n 0, 1) := by decide +kernel
theorem dX7_readTable_198 : decode cX7_readTable 198 = .ok (.iload_n 1, 1) := by decide +kernel
theorem dX7_readTable_199 : decode cX7_readTable 199 = .ok (.bipush 59, 2) := by decide +kernel
theorem dX7_readTable_201 : decode cX7_readTable 201 = .ok (.invokevirtual 135, 3) := by decide +kernel
theorem dX7_readTable_204 : decode cX7_readTable 204 = .ok (.ifCond .eq 11, 3) := by decide +kernel
theorem dX7_readTable_207 : decode cX7_readTable 207 = .ok (.aload_n 0, 1) := by decide +kernel
theorem dX7_readTable_208 : decode cX7_readTable 208 = .ok (.iload_n 1, 1) := by decide +kernel
theorem dX7_readTable_209 : decode cX7_readTable 209 = .ok (.invokevirtual 146, 3) := by decide +kernel
theorem dX7_readTable_212 : decode cX7_readTable 212 = .ok (.ifCond .ne (-39), 3) := by decide +kernel
theorem dX7_readTable_215 : decode cX7_readTable 215 = .ok (.iconst 0, 1) := by decide +kernel
theorem dX7_readTable_216 : decode cX7_readTable 216 = .ok (.ireturn, 1) := by decide +kernel
theorem dX7_readTable_217 : decode cX7_readTable 217 = .ok (.aload_n 0, 1) := by decide +kernel
theorem dX7_readTable_218 : decode cX7_readTable 218 = .ok (.getfield 84, 3) := by decide +kernel
theorem dX7_readTable_221 : decode cX7_readTable 221 = .ok (.iload_n 1, 1) := by decide +kernel
theorem dX7_readTable_222 : decode cX7_readTable 222 = .ok (.if_icmp .ne 7, 3) := by decide +kernel
theorem dX7_readTable_225 : decode cX7_readTable 225 = .ok (.iconst 1, 1) := by decide +kernel
theorem dX7_readTable_226 : decode cX7_readTable 226 = .ok (.goto 4, 3) := by decide +kernel
theorem dX7_readTable_229 : decode cX7_readTable 229 = .ok (.iconst 0, 1) := by decide +kernel
theorem dX7_readTable_230 : decode cX7_readTable 230 = .ok (.ireturn, 1) := by decide +kernel
theorem dX7_readGuest_0 : decode cX7_readGuest 0 = .ok (.aload_n 0, 1) := by decide +kernel
theorem dX7_readGuest_1 : decode cX7_readGuest 1 = .ok (.getfield 84, 3) := by decide +kernel
theorem dX7_readGuest_4 : decode cX7_readGuest 4 = .ok (.iload_n 1, 1) := by decide +kernel
theorem dX7_readGuest_5 : decode cX7_readGuest 5 = .ok (.if_icmp .ge 15, 3) := by decide +kernel
theorem dX7_readGuest_8 : decode cX7_readGuest 8 = .ok (.aload_n 0, 1) := by decide +kernel
theorem dX7_readGuest_9 : decode cX7_readGuest 9 = .ok (.getfield 16, 3) := by decide +kernel
theorem dX7_readGuest_12 : decode cX7_readGuest 12 = .ok (.aload_n 0, 1) := by decide +kernel
theorem dX7_readGuest_13 : decode cX7_readGuest 13 = .ok (.getfield 84, 3) := by decide +kernel
theorem dX7_readGuest_16 : decode cX7_readGuest 16 = .ok (.iaload, 1) := by decide +kernel
theorem dX7_readGuest_17 : decode cX7_readGuest 17 = .ok (.goto 4, 3) := by decide +kernel
theorem dX7_readGuest_20 : decode cX7_readGuest 20 = .ok (.iconst 0, 1) := by decide +kernel
theorem dX7_readGuest_21 : decode cX7_readGuest 21 = .ok (.istore_n 2, 1) := by decide +kernel
theorem dX7_readGuest_22 : decode cX7_readGuest 22 = .ok (.aload_n 0, 1) := by decide +kernel
theorem dX7_readGuest_23 : decode cX7_readGuest 23 = .ok (.getfield 34, 3) := by decide +kernel
theorem dX7_readGuest_26 : decode cX7_readGuest 26 = .ok (.aload_n 0, 1) := by decide +kernel
theorem dX7_readGuest_27 : decode cX7_readGuest 27 = .ok (.getfield 114, 3) := by decide +kernel
theorem dX7_readGuest_30 : decode cX7_readGuest 30 = .ok (.iload_n 2, 1) := by decide +kernel
theorem dX7_readGuest_31 : decode cX7_readGuest 31 = .ok (.bipush 103, 2) := by decide +kernel
theorem dX7_readGuest_33 : decode cX7_readGuest 33 = .ok (.if_icmp .ne 7, 3) := by decide +kernel
theorem dX7_readGuest_36 : decode cX7_readGuest 36 = .ok (.iconst 0, 1) := by decide +kernel
theorem dX7_readGuest_37 : decode cX7_readGuest 37 = .ok (.goto 25, 3) := by decide +kernel
theorem dX7_readGuest_40 : decode cX7_readGuest 40 = .ok (.iload_n 2, 1) := by decide +kernel
theorem dX7_readGuest_41 : decode cX7_readGuest 41 = .ok (.bipush 97, 2) := by decide +kernel
theorem dX7_readGuest_43 : decode cX7_readGuest 43 = .ok (.if_icmp .ne 7, 3) := by decide +kernel
theorem dX7_readGuest_46 : decode cX7_readGuest 46 = .ok (.iconst 1, 1) := by decide +kernel
theorem dX7_readGuest_47 : decode cX7_readGuest 47 = .ok (.goto 15, 3) := by decide +kernel
theorem dX7_readGuest_50 : decode cX7_readGuest 50 = .ok (.iload_n 2, 1) := by decide +kernel
theorem dX7_readGuest_51 : decode cX7_readGuest 51 = .ok (.bipush 99, 2) := by decide +kernel
theorem dX7_readGuest_53 : decode cX7_readGuest 53 = .ok (.if_icmp .ne 7, 3) := by decide +kernel
theorem dX7_readGuest_56 : decode cX7_readGuest 56 = .ok (.iconst 2, 1) := by decide +kernel
theorem dX7_readGuest_57 : decode cX7_readGuest 57 = .ok (.goto 5, 3) := by decide +kernel
theorem dX7_readGuest_60 : decode cX7_readGuest 60 = .ok (.bipush (-9), 2) := by decide +kernel
theorem dX7_readGuest_62 : decode cX7_readGuest 62 = .ok (.iastore, 1) := by decide +kernel
theorem dX7_readGuest_63 : decode cX7_readGuest 63 = .ok (.aload_n 0, 1) := by decide +kernel
theorem dX7_readGuest_64 : decode cX7_readGuest 64 = .ok (.getfield 34, 3) := by decide +kernel
theorem dX7_readGuest_67 : decode cX7_readGuest 67 = .ok (.aload_n 0, 1) := by decide +kernel
theorem dX7_readGuest_68 : decode cX7_readGuest 68 = .ok (.getfield 114, 3) := by decide +kernel
theorem dX7_readGuest_71 : decode cX7_readGuest 71 = .ok (.iaload, 1) := by decide +kernel
theorem dX7_readGuest_72 : decode cX7_readGuest 72 = .ok (.bipush (-9), 2) := by decide +kernel
theorem dX7_readGuest_74 : decode cX7_readGuest 74 = .ok (.if_icmp .ne 5, 3) := by decide +kernel
theorem dX7_readGuest_77 : decode cX7_readGuest 77 = .ok (.iconst 0, 1) := by decide +kernel
theorem dX7_readGuest_78 : decode cX7_readGuest 78 = .ok (.ireturn, 1) := by decide +kernel
theorem dX7_readGuest_79 : decode cX7_readGuest 79 = .ok (.aload_n 0, 1) := by decide +kernel
theorem dX7_readGuest_80 : decode cX7_readGuest 80 = .ok (.dup, 1) := by decide +kernel
theorem dX7_readGuest_81 : decode cX7_readGuest 81 = .ok (.getfield 84, 3) := by decide +kernel
theorem dX7_readGuest_84 : decode cX7_readGuest 84 = .ok (.iconst 1, 1) := by decide +kernel
theorem dX7_readGuest_85 : decode cX7_readGuest 85 = .ok (.iadd, 1) := by decide +kernel
theorem dX7_readGuest_86 : decode cX7_readGuest 86 = .ok (.putfield 84, 3) := by decide +kernel
theorem dX7_readGuest_89 : decode cX7_readGuest 89 = .ok (.aload_n 0, 1) := by decide +kernel
theorem dX7_readGuest_90 : decode cX7_readGuest 90 = .ok (.getfield 37, 3) := by decide +kernel
theorem dX7_readGuest_93 : decode cX7_readGuest 93 = .ok (.aload_n 0, 1) := by decide +kernel
theorem dX7_readGuest_94 : decode cX7_readGuest 94 = .ok (.getfield 114, 3) := by decide +kernel
theorem dX7_readGuest_97 : decode cX7_readGuest 97 = .ok (.aload_n 0, 1) := by decide +kernel
theorem dX7_readGuest_98 : decode cX7_readGuest 98 = .ok (.iload_n 1, 1) := by decide +kernel
theorem dX7_readGuest_99 : decode cX7_readGuest 99 = .ok (.bipush 9, 2) := by decide +kernel
theorem dX7_readGuest_101 : decode cX7_readGuest 101 = .ok (.invokevirtual 139, 3) := by decide +kernel
theorem dX7_readGuest_104 : decode cX7_readGuest 104 = .ok (.iastore, 1) := by decide +kernel
theorem dX7_readGuest_105 : decode cX7_readGuest 105 = .ok (.aload_n 0, 1) := by decide +kernel
theorem dX7_readGuest_106 : decode cX7_readGuest 106 = .ok (.getfield 37, 3) := by decide +kernel
theorem dX7_readGuest_109 : decode cX7_readGuest 109 = .ok (.aload_n 0, 1) := by decide +kernel
theorem dX7_readGuest_110 : decode cX7_readGuest 110 = .ok (.getfield 114, 3) := by decide +kernel
theorem dX7_readGuest_113 : decode cX7_readGuest 113 = .ok (.iaload, 1) := by decide +kernel
theorem dX7_readGuest_114 : decode cX7_readGuest 114 = .ok (.bipush (-9), 2) := by decide +kernel
theorem dX7_readGuest_116 : decode cX7_readGuest 116 = .ok (.if_icmp .ne 5, 3) := by decide +kernel
theorem dX7_readGuest_119 : decode cX7_readGuest 119 = .ok (.iconst 0, 1) := by decide +kernel
theorem dX7_readGuest_120 : decode cX7_readGuest 120 = .ok (.ireturn, 1) := by decide +kernel
theorem dX7_readGuest_121 : decode cX7_readGuest 121 = .ok (.aload_n 0, 1) := by decide +kernel
theorem dX7_readGuest_122 : decode cX7_readGuest 122 = .ok (.getfield 40, 3) := by decide +kernel
theorem dX7_readGuest_125 : decode cX7_readGuest 125 = .ok (.aload_n 0, 1) := by decide +kernel
theorem dX7_readGuest_126 : decode cX7_readGuest 126 = .ok (.getfield 114, 3) := by decide +kernel
theorem dX7_readGuest_129 : decode cX7_readGuest 129 = .ok (.aload_n 0, 1) := by decide +kernel
theorem dX7_readGuest_130 : decode cX7_readGuest 130 = .ok (.iload_n 1, 1) := by decide +kernel
theorem dX7_readGuest_131 : decode cX7_readGuest 131 = .ok (.iconst 3, 1) := by decide +kernel
theorem dX7_readGuest_132 : decode cX7_readGuest 132 = .ok (.invokevirtual 139, 3) := by decide +kernel
theorem dX7_readGuest_135 : decode cX7_readGuest 135 = .ok (.iastore, 1) := by decide +kernel
theorem dX7_readGuest_136 : decode cX7_readGuest 136 = .ok (.aload_n 0, 1) := by decide +kernel
theorem dX7_readGuest_137 : decode cX7_readGuest 137 = .ok (.dup, 1) := by decide +kernel
theorem dX7_readGuest_138 : decode cX7_readGuest 138 = .ok (.getfield 114, 3) := by decide +kernel
theorem dX7_readGuest_141 : decode cX7_readGuest 141 = .ok (.iconst 1, 1) := by decide +kernel
theorem dX7_readGuest_142 : decode cX7_readGuest 142 = .ok (.iadd, 1) := by decide +kernel
theorem dX7_readGuest_143 : decode cX7_readGuest 143 = .ok (.putfield 114, 3) := by decide +kernel
theorem dX7_readGuest_146 : decode cX7_readGuest 146 = .ok (.aload_n 0, 1) := by decide +kernel
theorem dX7_readGuest_147 : decode cX7_readGuest 147 = .ok (.getfield 40, 3) := by decide +kernel
theorem dX7_readGuest_150 : decode cX7_readGuest 150 = .ok (.aload_n 0, 1) := by decide +kernel
theorem dX7_readGuest_151 : decode cX7_readGuest 151 = .ok (.getfield 114, 3) := by decide +kernel
theorem dX7_readGuest_154 : decode cX7_readGuest 154 = .ok (.iconst 1, 1) := by decide +kernel
theorem dX7_readGuest_155 : decode cX7_readGuest 155 = .ok (.isub, 1) := by decide +kernel
theorem dX7_readGuest_156 : decode cX7_readGuest 156 = .ok (.iaload, 1) := by decide +kernel
theorem dX7_readGuest_157 : decode cX7_readGuest 157 = .ok (.bipush (-9), 2) := by decide +kernel
theorem dX7_readGuest_159 : decode cX7_readGuest 159 = .ok (.if_icmp .eq 7, 3) := by decide +kernel
theorem dX7_readGuest_162 : decode cX7_readGuest 162 = .ok (.iconst 1, 1) := by decide +kernel
theorem dX7_readGuest_163 : decode cX7_readGuest 163 = .ok (.goto 4, 3) := by decide +kernel
theorem dX7_readGuest_166 : decode cX7_readGuest 166 = .ok (.iconst 0, 1) := by decide +kernel
theorem dX7_readGuest_167 : decode cX7_readGuest 167 = .ok (.ireturn, 1) := by decide +kernel
theorem dX7_readDish_0 : decode cX7_readDish 0 = .ok (.aload_n 0, 1) := by decide +kernel
theorem dX7_readDish_1 : decode cX7_readDish 1 = .ok (.getfield 43, 3) := by decide +kernel
theorem dX7_readDish_4 : decode cX7_readDish 4 = .ok (.aload_n 0, 1) := by decide +kernel
theorem dX7_readDish_5 : decode cX7_readDish 5 = .ok (.getfield 129, 3) := by decide +kernel
theorem dX7_readDish_8 : decode cX7_readDish 8 = .ok (.aload_n 0, 1) := by decide +kernel
theorem dX7_readDish_9 : decode cX7_readDish 9 = .ok (.iload_n 1, 1) := by decide +kernel
theorem dX7_readDish_10 : decode cX7_readDish 10 = .ok (.aload_n 0, 1) := by decide +kernel
theorem dX7_readDish_11 : decode cX7_readDish 11 = .ok (.getfield 114, 3) := by decide +kernel
theorem dX7_readDish_14 : decode cX7_readDish 14 = .ok (.iconst 1, 1) := by decide +kernel
theorem dX7_readDish_15 : decode cX7_readDish 15 = .ok (.isub, 1) := by decide +kernel
theorem dX7_readDish_16 : decode cX7_readDish 16 = .ok (.invokevirtual 139, 3) := by decide +kernel
theorem dX7_readDish_19 : decode cX7_readDish 19 = .ok (.iastore, 1) := by decide +kernel
theorem dX7_readDish_20 : decode cX7_readDish 20 = .ok (.aload_n 0, 1) := by decide +kernel
theorem dX7_readDish_21 : decode cX7_readDish 21 = .ok (.getfield 43, 3) := by decide +kernel
theorem dX7_readDish_24 : decode cX7_readDish 24 = .ok (.aload_n 0, 1) := by decide +kernel
theorem dX7_readDish_25 : decode cX7_readDish 25 = .ok (.getfield 129, 3) := by decide +kernel
theorem dX7_readDish_28 : decode cX7_readDish 28 = .ok (.iaload, 1) := by decide +kernel
theorem dX7_readDish_29 : decode cX7_readDish 29 = .ok (.bipush (-9), 2) := by decide +kernel
theorem dX7_readDish_31 : decode cX7_readDish 31 = .ok (.if_icmp .ne 5, 3) := by decide +kernel
theorem dX7_readDish_34 : decode cX7_readDish 34 = .ok (.iconst 0, 1) := by decide +kernel
theorem dX7_readDish_35 : decode cX7_readDish 35 = .ok (.ireturn, 1) := by decide +kernel
theorem dX7_readDish_36 : decode cX7_readDish 36 = .ok (.aload_n 0, 1) := by decide +kernel
theorem dX7_readDish_37 : decode cX7_readDish 37 = .ok (.getfield 46, 3) := by decide +kernel
theorem dX7_readDish_40 : decode cX7_readDish 40 = .ok (.aload_n 0, 1) := by decide +kernel
theorem dX7_readDish_41 : decode cX7_readDish 41 = .ok (.getfield 129, 3) := by decide +kernel
theorem dX7_readDish_44 : decode cX7_readDish 44 = .ok (.aload_n 0, 1) := by decide +kernel
theorem dX7_readDish_45 : decode cX7_readDish 45 = .ok (.iload_n 1, 1) := by decide +kernel
theorem dX7_readDish_46 : decode cX7_readDish 46 = .ok (.bipush 9, 2) := by decide +kernel
theorem dX7_readDish_48 : decode cX7_readDish 48 = .ok (.invokevirtual 139, 3) := by decide +kernel
theorem dX7_readDish_51 : decode cX7_readDish 51 = .ok (.iastore, 1) := by decide +kernel
theorem dX7_readDish_52 : decode cX7_readDish 52 = .ok (.aload_n 0, 1) := by decide +kernel
theorem dX7_readDish_53 : decode cX7_readDish 53 = .ok (.dup, 1) := by decide +kernel
theorem dX7_readDish_54 : decode cX7_readDish 54 = .ok (.getfield 129, 3) := by decide +kernel
theorem dX7_readDish_57 : decode cX7_readDish 57 = .ok (.iconst 1, 1) := by decide +kernel
theorem dX7_readDish_58 : decode cX7_readDish 58 = .ok (.iadd, 1) := by decide +kernel
theorem dX7_readDish_59 : decode cX7_readDish 59 = .ok (.putfield 129, 3) := by decide +kernel
theorem dX7_readDish_62 : decode cX7_readDish 62 = .ok (.aload_n 0, 1) := by decide +kernel
theorem dX7_readDish_63 : decode cX7_readDish 63 = .ok (.getfield 46, 3) := by decide +kernel
theorem dX7_readDish_66 : decode cX7_readDish 66 = .ok (.aload_n 0, 1) := by decide +kernel
theorem dX7_readDish_67 : decode cX7_readDish 67 = .ok (.getfield 129, 3) := by decide +kernel
theorem dX7_readDish_70 : decode cX7_readDish 70 = .ok (.iconst 1, 1) := by decide +kernel
theorem dX7_readDish_71 : decode cX7_readDish 71 = .ok (.isub, 1) := by decide +kernel
theorem dX7_readDish_72 : decode cX7_readDish 72 = .ok (.iaload, 1) := by decide +kernel
theorem dX7_readDish_73 : decode cX7_readDish 73 = .ok (.bipush (-9), 2) := by decide +kernel
theorem dX7_readDish_75 : decode cX7_readDish 75 = .ok (.if_icmp .eq 7, 3) := by decide +kernel
theorem dX7_readDish_78 : decode cX7_readDish 78 = .ok (.iconst 1, 1) := by decide +kernel
theorem dX7_readDish_79 : decode cX7_readDish 79 = .ok (.goto 4, 3) := by decide +kernel
theorem dX7_readDish_82 : decode cX7_readDish 82 = .ok (.iconst 0, 1) := by decide +kernel
theorem dX7_readDish_83 : decode cX7_readDish 83 = .ok (.ireturn, 1) := by decide +kernel
theorem dX7_minutesOf_0 : decode cX7_minutesOf 0 = .ok (.aload_n 0, 1) := by decide +kernel
theorem dX7_minutesOf_1 : decode cX7_minutesOf 1 = .ok (.getfield 22, 3) := by decide +kernel
theorem dX7_minutesOf_4 : decode cX7_minutesOf 4 = .ok (.iload_n 1, 1) := by decide +kernel
theorem dX7_minutesOf_5 : decode cX7_minutesOf 5 = .ok (.iaload, 1) := by decide +kernel
theorem dX7_minutesOf_6 : decode cX7_minutesOf 6 = .ok (.aload_n 0, 1) := by decide +kernel
theorem dX7_minutesOf_7 : decode cX7_minutesOf 7 = .ok (.getfield 111, 3) := by decide +kernel
theorem dX7_minutesOf_10 : decode cX7_minutesOf 10 = .ok (.iadd, 1) := by decide +kernel
theorem dX7_minutesOf_11 : decode cX7_minutesOf 11 = .ok (.istore_n 2, 1) := by decide +kernel
theorem dX7_minutesOf_12 : decode cX7_minutesOf 12 = .ok (.aload_n 0, 1) := by decide +kernel
theorem dX7_minutesOf_13 : decode cX7_minutesOf 13 = .ok (.getfield 19, 3) := by decide +kernel
theorem dX7_minutesOf_16 : decode cX7_minutesOf 16 = .ok (.iload_n 1, 1) := by decide +kernel
theorem dX7_minutesOf_17 : decode cX7_minutesOf 17 = .ok (.iaload, 1) := by decide +kernel
theorem dX7_minutesOf_18 : decode cX7_minutesOf 18 = .ok (.iconst 1, 1) := by decide +kernel
theorem dX7_minutesOf_19 : decode cX7_minutesOf 19 = .ok (.if_icmp .ne 15, 3) := by decide +kernel
theorem dX7_minutesOf_22 : decode cX7_minutesOf 22 = .ok (.iload_n 2, 1) := by decide +kernel
theorem dX7_minutesOf_23 : decode cX7_minutesOf 23 = .ok (.ifCond .le 9, 3) := by decide +kernel
theorem dX7_minutesOf_26 : decode cX7_minutesOf 26 = .ok (.iload_n 2, 1) := by decide +kernel
theorem dX7_minutesOf_27 : decode cX7_minutesOf 27 = .ok (.iconst 1, 1) := by decide +kernel
theorem dX7_minutesOf_28 : decode cX7_minutesOf 28 = .ok (.isub, 1) := by decide +kernel
theorem dX7_minutesOf_29 : decode cX7_minutesOf 29 = .ok (.goto 4, 3) := by decide +kernel
theorem dX7_minutesOf_32 : decode cX7_minutesOf 32 = .ok (.iconst 0, 1) := by decide +kernel
theorem dX7_minutesOf_33 : decode cX7_minutesOf 33 = .ok (.ireturn, 1) := by decide +kernel
theorem dX7_minutesOf_34 : decode cX7_minutesOf 34 = .ok (.aload_n 0, 1) := by decide +kernel
theorem dX7_minutesOf_35 : decode cX7_minutesOf 35 = .ok (.getfield 19, 3) := by decide +kernel
theorem dX7_minutesOf_38 : decode cX7_minutesOf 38 = .ok (.iload_n 1, 1) := by decide +kernel
theorem dX7_minutesOf_39 : decode cX7_minutesOf 39 = .ok (.iaload, 1) := by decide +kernel
theorem dX7_minutesOf_40 : decode cX7_minutesOf 40 = .ok (.ifCond .ne 7, 3) := by decide +kernel
theorem dX7_minutesOf_43 : decode cX7_minutesOf 43 = .ok (.iload_n 2, 1) := by decide +kernel
theorem dX7_minutesOf_44 : decode cX7_minutesOf 44 = .ok (.goto 6, 3) := by decide +kernel
theorem dX7_minutesOf_47 : decode cX7_minutesOf 47 = .ok (.iload_n 2, 1) := by decide +kernel
theorem dX7_minutesOf_48 : decode cX7_minutesOf 48 = .ok (.iconst 2, 1) := by decide +kernel
theorem dX7_minutesOf_49 : decode cX7_minutesOf 49 = .ok (.idiv, 1) := by decide +kernel
theorem dX7_minutesOf_50 : decode cX7_minutesOf 50 = .ok (.ireturn, 1) := by decide +kernel
theorem dX7_whoseBy_0 : decode cX7_whoseBy 0 = .ok (.iload_n 1, 1) := by decide +kernel
theorem dX7_whoseBy_1 : decode cX7_whoseBy 1 = .ok (.iload_n 2, 1) := by decide +kernel
theorem dX7_whoseBy_2 : decode cX7_whoseBy 2 = .ok (.if_icmp .eq 8, 3) := by decide +kernel
theorem dX7_whoseBy_5 : decode cX7_whoseBy 5 = .ok (.iload_n 1, 1) := by decide +kernel
theorem dX7_whoseBy_6 : decode cX7_whoseBy 6 = .ok (.iload_n 3, 1) := by decide +kernel
theorem dX7_whoseBy_7 : decode cX7_whoseBy 7 = .ok (.if_icmp .ne 6, 3) := by decide +kernel
theorem dX7_whoseBy_10 : decode cX7_whoseBy 10 = .ok (.bipush (-9), 2) := by decide +kernel
theorem dX7_whoseBy_12 : decode cX7_whoseBy 12 = .ok (.ireturn, 1) := by decide +kernel
theorem dX7_whoseBy_13 : decode cX7_whoseBy 13 = .ok (.iload_n 1, 1) := by decide +kernel
theorem dX7_whoseBy_14 : decode cX7_whoseBy 14 = .ok (.iload_n 2, 1) := by decide +kernel
theorem dX7_whoseBy_15 : decode cX7_whoseBy 15 = .ok (.isub, 1) := by decide +kernel
theorem dX7_whoseBy_16 : decode cX7_whoseBy 16 = .ok (.aload_n 0, 1) := by decide +kernel
theorem dX7_whoseBy_17 : decode cX7_whoseBy 17 = .ok (.getfield 78, 3) := by decide +kernel
theorem dX7_whoseBy_20 : decode cX7_whoseBy 20 = .ok (.iadd, 1) := by decide +kernel
theorem dX7_whoseBy_21 : decode cX7_whoseBy 21 = .ok (.aload_n 0, 1) := by decide +kernel
theorem dX7_whoseBy_22 : decode cX7_whoseBy 22 = .ok (.getfield 78, 3) := by decide +kernel
theorem dX7_whoseBy_25 : decode cX7_whoseBy 25 = .ok (.irem, 1) := by decide +kernel
theorem dX7_whoseBy_26 : decode cX7_whoseBy 26 = .ok (.istore 4, 2) := by decide +kernel
theorem dX7_whoseBy_28 : decode cX7_whoseBy 28 = .ok (.iload_n 3, 1) := by decide +kernel
theorem dX7_whoseBy_29 : decode cX7_whoseBy 29 = .ok (.iload_n 2, 1) := by decide +kernel
theorem dX7_whoseBy_30 : decode cX7_whoseBy 30 = .ok (.isub, 1) := by decide +kernel
theorem dX7_whoseBy_31 : decode cX7_whoseBy 31 = .ok (.aload_n 0, 1) := by decide +kernel
theorem dX7_whoseBy_32 : decode cX7_whoseBy 32 = .ok (.getfield 78, 3) := by decide +kernel
theorem dX7_whoseBy_35 : decode cX7_whoseBy 35 = .ok (.iadd, 1) := by decide +kernel
theorem dX7_whoseBy_36 : decode cX7_whoseBy 36 = .ok (.aload_n 0, 1) := by decide +kernel
theorem dX7_whoseBy_37 : decode cX7_whoseBy 37 = .ok (.getfield 78, 3) := by decide +kernel
theorem dX7_whoseBy_40 : decode cX7_whoseBy 40 = .ok (.irem, 1) := by decide +kernel
theorem dX7_whoseBy_41 : decode cX7_whoseBy 41 = .ok (.istore 5, 2) := by decide +kernel
theorem dX7_whoseBy_43 : decode cX7_whoseBy 43 = .ok (.iload 4, 2) := by decide +kernel
theorem dX7_whoseBy_45 : decode cX7_whoseBy 45 = .ok (.iload 5, 2) := by decide +kernel
theorem dX7_whoseBy_47 : decode cX7_whoseBy 47 = .ok (.if_icmp .ge 7, 3) := by decide +kernel
theorem dX7_whoseBy_50 : decode cX7_whoseBy 50 = .ok (.iconst 0, 1) := by decide +kernel
theorem dX7_whoseBy_51 : decode cX7_whoseBy 51 = .ok (.goto 4, 3) := by decide +kernel
theorem dX7_whoseBy_54 : decode cX7_whoseBy 54 = .ok (.iconst 1, 1) := by decide +kernel
theorem dX7_whoseBy_55 : decode cX7_whoseBy 55 = .ok (.ireturn, 1) := by decide +kernel
theorem dX7_landBy_0 : decode cX7_landBy 0 = .ok (.iconst 0, 1) := by decide +kernel
theorem dX7_landBy_1 : decode cX7_landBy 1 = .ok (.istore 4, 2) := by decide +kernel
theorem dX7_landBy_3 : decode cX7_landBy 3 = .ok (.iconst 0, 1) := by decide +kernel
theorem dX7_landBy_4 : decode cX7_landBy 4 = .ok (.istore 5, 2) := by decide +kernel
theorem dX7_landBy_6 : decode cX7_landBy 6 = .ok (.iload 5, 2) := by decide +kernel
theorem dX7_landBy_8 : decode cX7_landBy 8 = .ok (.aload_n 0, 1) := by decide +kernel
theorem dX7_landBy_9 : decode cX7_landBy 9 = .ok (.getfield 81, 3) := by decide +kernel
theorem dX7_landBy_12 : decode cX7_landBy 12 = .ok (.if_icmp .ge 42, 3) := by decide +kernel
theorem dX7_landBy_15 : decode cX7_landBy 15 = .ok (.iload 4, 2) := by decide +kernel
theorem dX7_landBy_17 : decode cX7_landBy 17 = .ok (.aload_n 0, 1) := by decide +kernel
theorem dX7_landBy_18 : decode cX7_landBy 18 = .ok (.aload_n 0, 1) := by decide +kernel
theorem dX7_landBy_19 : decode cX7_landBy 19 = .ok (.getfield 28, 3) := by decide +kernel
theorem dX7_landBy_22 : decode cX7_landBy 22 = .ok (.iload 5, 2) := by decide +kernel
theorem dX7_landBy_24 : decode cX7_landBy 24 = .ok (.iaload, 1) := by decide +kernel
theorem dX7_landBy_25 : decode cX7_landBy 25 = .ok (.iload_n 2, 1) := by decide +kernel
theorem dX7_landBy_26 : decode cX7_landBy 26 = .ok (.iload_n 3, 1) := by decide +kernel
theorem dX7_landBy_27 : decode cX7_landBy 27 = .ok (.invokevirtual 149, 3) := by decide +kernel
theorem dX7_landBy_30 : decode cX7_landBy 30 = .ok (.iload_n 1, 1) := by decide +kernel
theorem dX7_landBy_31 : decode cX7_landBy 31 = .ok (.if_icmp .ne 13, 3) := by decide +kernel
theorem dX7_landBy_34 : decode cX7_landBy 34 = .ok (.aload_n 0, 1) := by decide +kernel
theorem dX7_landBy_35 : decode cX7_landBy 35 = .ok (.getfield 31, 3) := by decide +kernel
theorem dX7_landBy_38 : decode cX7_landBy 38 = .ok (.iload 5, 2) := by decide +kernel
theorem dX7_landBy_40 : decode cX7_landBy 40 = .ok (.iaload, 1) := by decide +kernel
theorem dX7_landBy_41 : decode cX7_landBy 41 = .ok (.goto 4, 3) := by decide +kernel
theorem dX7_landBy_44 : decode cX7_landBy 44 = .ok (.iconst 0, 1) := by decide +kernel
theorem dX7_landBy_45 : decode cX7_landBy 45 = .ok (.iadd, 1) := by decide +kernel
theorem dX7_landBy_46 : decode cX7_landBy 46 = .ok (.istore 4, 2) := by decide +kernel
theorem dX7_landBy_48 : decode cX7_landBy 48 = .ok (.iinc 5 1, 3) := by decide +kernel
theorem dX7_landBy_51 : decode cX7_landBy 51 = .ok (.goto (-45), 3) := by decide +kernel
theorem dX7_landBy_54 : decode cX7_landBy 54 = .ok (.iload 4, 2) := by decide +kernel
theorem dX7_landBy_56 : decode cX7_landBy 56 = .ok (.ireturn, 1) := by decide +kernel
theorem dX7_ofGuest_0 : decode cX7_ofGuest 0 = .ok (.aload_n 0, 1) := by decide +kernel
theorem dX7_ofGuest_1 : decode cX7_ofGuest 1 = .ok (.iload_n 1, 1) := by decide +kernel
theorem dX7_ofGuest_2 : decode cX7_ofGuest 2 = .ok (.invokevirtual 153, 3) := by decide +kernel
theorem dX7_ofGuest_5 : decode cX7_ofGuest 5 = .ok (.ifCond .ne 5, 3) := by decide +kernel
theorem dX7_ofGuest_8 : decode cX7_ofGuest 8 = .ok (.iconst (-1), 1) := by decide +kernel
theorem dX7_ofGuest_9 : decode cX7_ofGuest 9 = .ok (.ireturn, 1) := by decide +kernel
theorem dX7_ofGuest_10 : decode cX7_ofGuest 10 = .ok (.iload_n 2, 1) := by decide +kernel
theorem dX7_ofGuest_11 : decode cX7_ofGuest 11 = .ok (.ifCond .ne 12, 3) := by decide +kernel
theorem dX7_ofGuest_14 : decode cX7_ofGuest 14 = .ok (.aload_n 0, 1) := by decide +kernel
theorem dX7_ofGuest_15 : decode cX7_ofGuest 15 = .ok (.getfield 19, 3) := by decide +kernel
theorem dX7_ofGuest_18 : decode cX7_ofGuest 18 = .ok (.iload_n 1, 1) := by decide +kernel
theorem dX7_ofGuest_19 : decode cX7_ofGuest 19 = .ok (.iaload, 1) := by decide +kernel
theorem dX7_ofGuest_20 : decode cX7_ofGuest 20 = .ok (.goto 46, 3) := by decide +kernel
theorem dX7_ofGuest_23 : decode cX7_ofGuest 23 = .ok (.iload_n 2, 1) := by decide +kernel
theorem dX7_ofGuest_24 : decode cX7_ofGuest 24 = .ok (.iconst 1, 1) := by decide +kernel
theorem dX7_ofGuest_25 : decode cX7_ofGuest 25 = .ok (.if_icmp .ne 12, 3) := by decide +kernel
theorem dX7_ofGuest_28 : decode cX7_ofGuest 28 = .ok (.aload_n 0, 1) := by decide +kernel
theorem dX7_ofGuest_29 : decode cX7_ofGuest 29 = .ok (.getfield 22, 3) := by decide +kernel
theorem dX7_ofGuest_32 : decode cX7_ofGuest 32 = .ok (.iload_n 1, 1) := by decide +kernel
theorem dX7_ofGuest_33 : decode cX7_ofGuest 33 = .ok (.iaload, 1) := by decide +kernel
theorem dX7_ofGuest_34 : decode cX7_ofGuest 34 = .ok (.goto 32, 3) := by decide +kernel
theorem dX7_ofGuest_37 : decode cX7_ofGuest 37 = .ok (.iload_n 2, 1) := by decide +kernel
theorem dX7_ofGuest_38 : decode cX7_ofGuest 38 = .ok (.iconst 2, 1) := by decide +kernel
theorem dX7_ofGuest_39 : decode cX7_ofGuest 39 = .ok (.if_icmp .ne 12, 3) := by decide +kernel
theorem dX7_ofGuest_42 : decode cX7_ofGuest 42 = .ok (.aload_n 0, 1) := by decide +kernel
theorem dX7_ofGuest_43 : decode cX7_ofGuest 43 = .ok (.getfield 25, 3) := by decide +kernel
theorem dX7_ofGuest_46 : decode cX7_ofGuest 46 = .ok (.iload_n 1, 1) := by decide +kernel
theorem dX7_ofGuest_47 : decode cX7_ofGuest 47 = .ok (.iaload, 1) := by decide +kernel
theorem dX7_ofGuest_48 : decode cX7_ofGuest 48 = .ok (.goto 18, 3) := by decide +kernel
theorem dX7_ofGuest_51 : decode cX7_ofGuest 51 = .ok (.iload_n 2, 1) := by decide +kernel
theorem dX7_ofGuest_52 : decode cX7_ofGuest 52 = .ok (.iconst 3, 1) := by decide +kernel
theorem dX7_ofGuest_53 : decode cX7_ofGuest 53 = .ok (.if_icmp .ne 11, 3) := by decide +kernel
theorem dX7_ofGuest_56 : decode cX7_ofGuest 56 = .ok (.aload_n 0, 1) := by decide +kernel
theorem dX7_ofGuest_57 : decode cX7_ofGuest 57 = .ok (.iload_n 1, 1) := by decide +kernel
theorem dX7_ofGuest_58 : decode cX7_ofGuest 58 = .ok (.invokevirtual 156, 3) := by decide +kernel
theorem dX7_ofGuest_61 : decode cX7_ofGuest 61 = .ok (.goto 5, 3) := by decide +kernel
theorem dX7_ofGuest_64 : decode cX7_ofGuest 64 = .ok (.bipush (-2), 2) := by decide +kernel
theorem dX7_ofGuest_66 : decode cX7_ofGuest 66 = .ok (.ireturn, 1) := by decide +kernel
theorem dX7_ofDish_0 : decode cX7_ofDish 0 = .ok (.aload_n 0, 1) := by decide +kernel
theorem dX7_ofDish_1 : decode cX7_ofDish 1 = .ok (.iload_n 1, 1) := by decide +kernel
theorem dX7_ofDish_2 : decode cX7_ofDish 2 = .ok (.invokevirtual 159, 3) := by decide +kernel
theorem dX7_ofDish_5 : decode cX7_ofDish 5 = .ok (.ifCond .ne 5, 3) := by decide +kernel
theorem dX7_ofDish_8 : decode cX7_ofDish 8 = .ok (.iconst (-1), 1) := by decide +kernel
theorem dX7_ofDish_9 : decode cX7_ofDish 9 = .ok (.ireturn, 1) := by decide +kernel
theorem dX7_ofDish_10 : decode cX7_ofDish 10 = .ok (.iload_n 2, 1) := by decide +kernel
theorem dX7_ofDish_11 : decode cX7_ofDish 11 = .ok (.ifCond .ne 12, 3) := by decide +kernel
theorem dX7_ofDish_14 : decode cX7_ofDish 14 = .ok (.aload_n 0, 1) := by decide +kernel
theorem dX7_ofDish_15 : decode cX7_ofDish 15 = .ok (.getfield 28, 3) := by decide +kernel
theorem dX7_ofDish_18 : decode cX7_ofDish 18 = .ok (.iload_n 1, 1) := by decide +kernel
theorem dX7_ofDish_19 : decode cX7_ofDish 19 = .ok (.iaload, 1) := by decide +kernel
theorem dX7_ofDish_20 : decode cX7_ofDish 20 = .ok (.goto 45, 3) := by decide +kernel
theorem dX7_ofDish_23 : decode cX7_ofDish 23 = .ok (.iload_n 2, 1) := by decide +kernel
theorem dX7_ofDish_24 : decode cX7_ofDish 24 = .ok (.iconst 1, 1) := by decide +kernel
theorem dX7_ofDish_25 : decode cX7_ofDish 25 = .ok (.if_icmp .ne 12, 3) := by decide +kernel
theorem dX7_ofDish_28 : decode cX7_ofDish 28 = .ok (.aload_n 0, 1) := by decide +kernel
theorem dX7_ofDish_29 : decode cX7_ofDish 29 = .ok (.getfield 31, 3) := by decide +kernel
theorem dX7_ofDish_32 : decode cX7_ofDish 32 = .ok (.iload_n 1, 1) := by decide +kernel
theorem dX7_ofDish_33 : decode cX7_ofDish 33 = .ok (.iaload, 1) := by decide +kernel
theorem dX7_ofDish_34 : decode cX7_ofDish 34 = .ok (.goto 31, 3) := by decide +kernel
theorem dX7_ofDish_37 : decode cX7_ofDish 37 = .ok (.iload_n 2, 1) := by decide +kernel
theorem dX7_ofDish_38 : decode cX7_ofDish 38 = .ok (.iconst 2, 1) := by decide +kernel
theorem dX7_ofDish_39 : decode cX7_ofDish 39 = .ok (.if_icmp .ne 24, 3) := by decide +kernel
theorem dX7_ofDish_42 : decode cX7_ofDish 42 = .ok (.aload_n 0, 1) := by decide +kernel
theorem dX7_ofDish_43 : decode cX7_ofDish 43 = .ok (.aload_n 0, 1) := by decide +kernel
theorem dX7_ofDish_44 : decode cX7_ofDish 44 = .ok (.getfield 28, 3) := by decide +kernel
theorem dX7_ofDish_47 : decode cX7_ofDish 47 = .ok (.iload_n 1, 1) := by decide +kernel
theorem dX7_ofDish_48 : decode cX7_ofDish 48 = .ok (.iaload, 1) := by decide +kernel
theorem dX7_ofDish_49 : decode cX7_ofDish 49 = .ok (.aload_n 0, 1) := by decide +kernel
theorem dX7_ofDish_50 : decode cX7_ofDish 50 = .ok (.getfield 120, 3) := by decide +kernel
theorem dX7_ofDish_53 : decode cX7_ofDish 53 = .ok (.aload_n 0, 1) := by decide +kernel
theorem dX7_ofDish_54 : decode cX7_ofDish 54 = .ok (.getfield 126, 3) := by decide +kernel
theorem dX7_ofDish_57 : decode cX7_ofDish 57 = .ok (.invokevirtual 149, 3) := by decide +kernel
theorem dX7_ofDish_60 : decode cX7_ofDish 60 = .ok (.goto 5, 3) := by decide +kernel
theorem dX7_ofDish_63 : decode cX7_ofDish 63 = .ok (.bipush (-2), 2) := by decide +kernel
theorem dX7_ofDish_65 : decode cX7_ofDish 65 = .ok (.ireturn, 1) := by decide +kernel
theorem dX7_whose_0 : decode cX7_whose 0 = .ok (.aload_n 0, 1) := by decide +kernel
theorem dX7_whose_1 : decode cX7_whose 1 = .ok (.iload_n 1, 1) := by decide +kernel
theorem dX7_whose_2 : decode cX7_whose 2 = .ok (.invokevirtual 153, 3) := by decide +kernel
theorem dX7_whose_5 : decode cX7_whose 5 = .ok (.ifCond .eq 19, 3) := by decide +kernel
theorem dX7_whose_8 : decode cX7_whose 8 = .ok (.aload_n 0, 1) := by decide +kernel
theorem dX7_whose_9 : decode cX7_whose 9 = .ok (.iload_n 1, 1) := by decide +kernel
theorem dX7_whose_10 : decode cX7_whose 10 = .ok (.aload_n 0, 1) := by decide +kernel
theorem dX7_whose_11 : decode cX7_whose 11 = .ok (.getfield 120, 3) := by decide +kernel
theorem dX7_whose_14 : decode cX7_whose 14 = .ok (.aload_n 0, 1) := by decide +kernel
theorem dX7_whose_15 : decode cX7_whose 15 = .ok (.getfield 126, 3) := by decide +kernel
theorem dX7_whose_18 : decode cX7_whose 18 = .ok (.invokevirtual 149, 3) := by decide +kernel
theorem dX7_whose_21 : decode cX7_whose 21 = .ok (.goto 4, 3) := by decide +kernel
theorem dX7_whose_24 : decode cX7_whose 24 = .ok (.iconst (-1), 1) := by decide +kernel
theorem dX7_whose_25 : decode cX7_whose 25 = .ok (.ireturn, 1) := by decide +kernel
theorem dX7_land_0 : decode cX7_land 0 = .ok (.iload_n 1, 1) := by decide +kernel
theorem dX7_land_1 : decode cX7_land 1 = .ok (.invokestatic 162, 3) := by decide +kernel
theorem dX7_land_4 : decode cX7_land 4 = .ok (.ifCond .ne 5, 3) := by decide +kernel
theorem dX7_land_7 : decode cX7_land 7 = .ok (.iconst (-1), 1) := by decide +kernel
theorem dX7_land_8 : decode cX7_land 8 = .ok (.ireturn, 1) := by decide +kernel
theorem dX7_land_9 : decode cX7_land 9 = .ok (.aload_n 0, 1) := by decide +kernel
theorem dX7_land_10 : decode cX7_land 10 = .ok (.getfield 78, 3) := by decide +kernel
theorem dX7_land_13 : decode cX7_land 13 = .ok (.ifCond .ne 8, 3) := by decide +kernel
theorem dX7_land_16 : decode cX7_land 16 = .ok (.bipush (-3), 2) := by decide +kernel
theorem dX7_land_18 : decode cX7_land 18 = .ok (.goto 16, 3) := by decide +kernel
theorem dX7_land_21 : decode cX7_land 21 = .ok (.aload_n 0, 1) := by decide +kernel
theorem dX7_land_22 : decode cX7_land 22 = .ok (.iload_n 1, 1) := by decide +kernel
theorem dX7_land_23 : decode cX7_land 23 = .ok (.aload_n 0, 1) := by decide +kernel
theorem dX7_land_24 : decode cX7_land 24 = .ok (.getfield 120, 3) := by decide +kernel
theorem dX7_land_27 : decode cX7_land 27 = .ok (.aload_n 0, 1) := by decide +kernel
theorem dX7_land_28 : decode cX7_land 28 = .ok (.getfield 126, 3) := by decide +kernel
theorem dX7_land_31 : decode cX7_land 31 = .ok (.invokevirtual 165, 3) := by decide +kernel
theorem dX7_land_34 : decode cX7_land 34 = .ok (.ireturn, 1) := by decide +kernel
theorem dX7_chew_0 : decode cX7_chew 0 = .ok (.aload_n 0, 1) := by decide +kernel
theorem dX7_chew_1 : decode cX7_chew 1 = .ok (.iload_n 1, 1) := by decide +kernel
theorem dX7_chew_2 : decode cX7_chew 2 = .ok (.invokevirtual 153, 3) := by decide +kernel
theorem dX7_chew_5 : decode cX7_chew 5 = .ok (.ifCond .ne 5, 3) := by decide +kernel
theorem dX7_chew_8 : decode cX7_chew 8 = .ok (.iconst (-1), 1) := by decide +kernel
theorem dX7_chew_9 : decode cX7_chew 9 = .ok (.ireturn, 1) := by decide +kernel
theorem dX7_chew_10 : decode cX7_chew 10 = .ok (.iload_n 2, 1) := by decide +kernel
theorem dX7_chew_11 : decode cX7_chew 11 = .ok (.iconst 0, 1) := by decide +kernel
theorem dX7_chew_12 : decode cX7_chew 12 = .ok (.bipush 9, 2) := by decide +kernel
theorem dX7_chew_14 : decode cX7_chew 14 = .ok (.invokestatic 74, 3) := by decide +kernel
theorem dX7_chew_17 : decode cX7_chew 17 = .ok (.ifCond .ne 6, 3) := by decide +kernel
theorem dX7_chew_20 : decode cX7_chew 20 = .ok (.bipush (-2), 2) := by decide +kernel
theorem dX7_chew_22 : decode cX7_chew 22 = .ok (.ireturn, 1) := by decide +kernel
theorem dX7_chew_23 : decode cX7_chew 23 = .ok (.aload_n 0, 1) := by decide +kernel
theorem dX7_chew_24 : decode cX7_chew 24 = .ok (.getfield 22, 3) := by decide +kernel
theorem dX7_chew_27 : decode cX7_chew 27 = .ok (.iload_n 1, 1) := by decide +kernel
theorem dX7_chew_28 : decode cX7_chew 28 = .ok (.iaload, 1) := by decide +kernel
theorem dX7_chew_29 : decode cX7_chew 29 = .ok (.istore_n 3, 1) := by decide +kernel
theorem dX7_chew_30 : decode cX7_chew 30 = .ok (.aload_n 0, 1) := by decide +kernel
theorem dX7_chew_31 : decode cX7_chew 31 = .ok (.getfield 22, 3) := by decide +kernel
theorem dX7_chew_34 : decode cX7_chew 34 = .ok (.iload_n 1, 1) := by decide +kernel
theorem dX7_chew_35 : decode cX7_chew 35 = .ok (.iload_n 2, 1) := by decide +kernel
theorem dX7_chew_36 : decode cX7_chew 36 = .ok (.iastore, 1) := by decide +kernel
theorem dX7_chew_37 : decode cX7_chew 37 = .ok (.iload_n 3, 1) := by decide +kernel
theorem dX7_chew_38 : decode cX7_chew 38 = .ok (.ireturn, 1) := by decide +kernel
theorem dX7_cook_0 : decode cX7_cook 0 = .ok (.iload_n 1, 1) := by decide +kernel
theorem dX7_cook_1 : decode cX7_cook 1 = .ok (.iconst 0, 1) := by decide +kernel
theorem dX7_cook_2 : decode cX7_cook 2 = .ok (.iconst 3, 1) := by decide +kernel
theorem dX7_cook_3 : decode cX7_cook 3 = .ok (.invokestatic 74, 3) := by decide +kernel
theorem dX7_cook_6 : decode cX7_cook 6 = .ok (.ifCond .ne 6, 3) := by decide +kernel
theorem dX7_cook_9 : decode cX7_cook 9 = .ok (.bipush (-2), 2) := by decide +kernel
theorem dX7_cook_11 : decode cX7_cook 11 = .ok (.ireturn, 1) := by decide +kernel
theorem dX7_cook_12 : decode cX7_cook 12 = .ok (.aload_n 0, 1) := by decide +kernel
theorem dX7_cook_13 : decode cX7_cook 13 = .ok (.getfield 78, 3) := by decide +kernel
theorem dX7_cook_16 : decode cX7_cook 16 = .ok (.ifCond .ne 6, 3) := by decide +kernel
theorem dX7_cook_19 : decode cX7_cook 19 = .ok (.bipush (-3), 2) := by decide +kernel
theorem dX7_cook_21 : decode cX7_cook 21 = .ok (.ireturn, 1) := by decide +kernel
theorem dX7_cook_22 : decode cX7_cook 22 = .ok (.aload_n 0, 1) := by decide +kernel
theorem dX7_cook_23 : decode cX7_cook 23 = .ok (.getfield 111, 3) := by decide +kernel
theorem dX7_cook_26 : decode cX7_cook 26 = .ok (.istore_n 2, 1) := by decide +kernel
theorem dX7_cook_27 : decode cX7_cook 27 = .ok (.aload_n 0, 1) := by decide +kernel
theorem dX7_cook_28 : decode cX7_cook 28 = .ok (.iload_n 1, 1) := by decide +kernel
theorem dX7_cook_29 : decode cX7_cook 29 = .ok (.putfield 111, 3) := by decide +kernel
theorem dX7_cook_32 : decode cX7_cook 32 = .ok (.iload_n 2, 1) := by decide +kernel
theorem dX7_cook_33 : decode cX7_cook 33 = .ok (.ireturn, 1) := by decide +kernel
theorem dX7_rate_0 : decode cX7_rate 0 = .ok (.aload_n 0, 1) := by decide +kernel
theorem dX7_rate_1 : decode cX7_rate 1 = .ok (.iload_n 1, 1) := by decide +kernel
theorem dX7_rate_2 : decode cX7_rate 2 = .ok (.invokevirtual 159, 3) := by decide +kernel
theorem dX7_rate_5 : decode cX7_rate 5 = .ok (.ifCond .ne 5, 3) := by decide +kernel
theorem dX7_rate_8 : decode cX7_rate 8 = .ok (.iconst (-1), 1) := by decide +kernel
theorem dX7_rate_9 : decode cX7_rate 9 = .ok (.ireturn, 1) := by decide +kernel
theorem dX7_rate_10 : decode cX7_rate 10 = .ok (.iload_n 2, 1) := by decide +kernel
theorem dX7_rate_11 : decode cX7_rate 11 = .ok (.iconst 0, 1) := by decide +kernel
theorem dX7_rate_12 : decode cX7_rate 12 = .ok (.bipush 9, 2) := by decide +kernel
theorem dX7_rate_14 : decode cX7_rate 14 = .ok (.invokestatic 74, 3) := by decide +kernel
theorem dX7_rate_17 : decode cX7_rate 17 = .ok (.ifCond .ne 6, 3) := by decide +kernel
theorem dX7_rate_20 : decode cX7_rate 20 = .ok (.bipush (-2), 2) := by decide +kernel
theorem dX7_rate_22 : decode cX7_rate 22 = .ok (.ireturn, 1) := by decide +kernel
theorem dX7_rate_23 : decode cX7_rate 23 = .ok (.aload_n 0, 1) := by decide +kernel
theorem dX7_rate_24 : decode cX7_rate 24 = .ok (.getfield 31, 3) := by decide +kernel
theorem dX7_rate_27 : decode cX7_rate 27 = .ok (.iload_n 1, 1) := by decide +kernel
theorem dX7_rate_28 : decode cX7_rate 28 = .ok (.iaload, 1) := by decide +kernel
theorem dX7_rate_29 : decode cX7_rate 29 = .ok (.istore_n 3, 1) := by decide +kernel
theorem dX7_rate_30 : decode cX7_rate 30 = .ok (.aload_n 0, 1) := by decide +kernel
theorem dX7_rate_31 : decode cX7_rate 31 = .ok (.getfield 31, 3) := by decide +kernel
theorem dX7_rate_34 : decode cX7_rate 34 = .ok (.iload_n 1, 1) := by decide +kernel
theorem dX7_rate_35 : decode cX7_rate 35 = .ok (.iload_n 2, 1) := by decide +kernel
theorem dX7_rate_36 : decode cX7_rate 36 = .ok (.iastore, 1) := by decide +kernel
theorem dX7_rate_37 : decode cX7_rate 37 = .ok (.iload_n 3, 1) := by decide +kernel
theorem dX7_rate_38 : decode cX7_rate 38 = .ok (.ireturn, 1) := by decide +kernel
theorem dX7_carry_0 : decode cX7_carry 0 = .ok (.aload_n 0, 1) := by decide +kernel
theorem dX7_carry_1 : decode cX7_carry 1 = .ok (.iload_n 1, 1) := by decide +kernel
theorem dX7_carry_2 : decode cX7_carry 2 = .ok (.invokevirtual 159, 3) := by decide +kernel
theorem dX7_carry_5 : decode cX7_carry 5 = .ok (.ifCond .eq 11, 3) := by decide +kernel
theorem dX7_carry_8 : decode cX7_carry 8 = .ok (.aload_n 0, 1) := by decide +kernel
theorem dX7_carry_9 : decode cX7_carry 9 = .ok (.iload_n 2, 1) := by decide +kernel
theorem dX7_carry_10 : decode cX7_carry 10 = .ok (.invokevirtual 153, 3) := by decide +kernel
theorem dX7_carry_13 : decode cX7_carry 13 = .ok (.ifCond .ne 5, 3) := by decide +kernel
theorem dX7_carry_16 : decode cX7_carry 16 = .ok (.iconst (-1), 1) := by decide +kernel
theorem dX7_carry_17 : decode cX7_carry 17 = .ok (.ireturn, 1) := by decide +kernel
theorem dX7_carry_18 : decode cX7_carry 18 = .ok (.aload_n 0, 1) := by decide +kernel
theorem dX7_carry_19 : decode cX7_carry 19 = .ok (.getfield 28, 3) := by decide +kernel
theorem dX7_carry_22 : decode cX7_carry 22 = .ok (.iload_n 1, 1) := by decide +kernel
theorem dX7_carry_23 : decode cX7_carry 23 = .ok (.iaload, 1) := by decide +kernel
theorem dX7_carry_24 : decode cX7_carry 24 = .ok (.istore_n 3, 1) := by decide +kernel
theorem dX7_carry_25 : decode cX7_carry 25 = .ok (.aload_n 0, 1) := by decide +kernel
theorem dX7_carry_26 : decode cX7_carry 26 = .ok (.getfield 28, 3) := by decide +kernel
theorem dX7_carry_29 : decode cX7_carry 29 = .ok (.iload_n 1, 1) := by decide +kernel
theorem dX7_carry_30 : decode cX7_carry 30 = .ok (.iload_n 2, 1) := by decide +kernel
theorem dX7_carry_31 : decode cX7_carry 31 = .ok (.iastore, 1) := by decide +kernel
theorem dX7_carry_32 : decode cX7_carry 32 = .ok (.iload_n 3, 1) := by decide +kernel
theorem dX7_carry_33 : decode cX7_carry 33 = .ok (.ireturn, 1) := by decide +kernel
theorem dX7_next_0 : decode cX7_next 0 = .ok (.iload_n 2, 1) := by decide +kernel
theorem dX7_next_1 : decode cX7_next 1 = .ok (.iconst 2, 1) := by decide +kernel
theorem dX7_next_2 : decode cX7_next 2 = .ok (.irem, 1) := by decide +kernel
theorem dX7_next_3 : decode cX7_next 3 = .ok (.ifCond .ne 19, 3) := by decide +kernel
theorem dX7_next_6 : decode cX7_next 6 = .ok (.iload_n 1, 1) := by decide +kernel
theorem dX7_next_7 : decode cX7_next 7 = .ok (.aload_n 0, 1) := by decide +kernel
theorem dX7_next_8 : decode cX7_next 8 = .ok (.getfield 78, 3) := by decide +kernel
theorem dX7_next_11 : decode cX7_next 11 = .ok (.iadd, 1) := by decide +kernel
theorem dX7_next_12 : decode cX7_next 12 = .ok (.iconst 1, 1) := by decide +kernel
theorem dX7_next_13 : decode cX7_next 13 = .ok (.isub, 1) := by decide +kernel
theorem dX7_next_14 : decode cX7_next 14 = .ok (.aload_n 0, 1) := by decide +kernel
theorem dX7_next_15 : decode cX7_next 15 = .ok (.getfield 78, 3) := by decide +kernel
theorem dX7_next_18 : decode cX7_next 18 = .ok (.irem, 1) := by decide +kernel
theorem dX7_next_19 : decode cX7_next 19 = .ok (.goto 11, 3) := by decide +kernel
theorem dX7_next_22 : decode cX7_next 22 = .ok (.iload_n 1, 1) := by decide +kernel
theorem dX7_next_23 : decode cX7_next 23 = .ok (.iconst 1, 1) := by decide +kernel
theorem dX7_next_24 : decode cX7_next 24 = .ok (.iadd, 1) := by decide +kernel
theorem dX7_next_25 : decode cX7_next 25 = .ok (.aload_n 0, 1) := by decide +kernel
theorem dX7_next_26 : decode cX7_next 26 = .ok (.getfield 78, 3) := by decide +kernel
theorem dX7_next_29 : decode cX7_next 29 = .ok (.irem, 1) := by decide +kernel
theorem dX7_next_30 : decode cX7_next 30 = .ok (.ireturn, 1) := by decide +kernel
theorem dX7_behind_0 : decode cX7_behind 0 = .ok (.iload_n 1, 1) := by decide +kernel
theorem dX7_behind_1 : decode cX7_behind 1 = .ok (.bipush 8, 2) := by decide +kernel
theorem dX7_behind_3 : decode cX7_behind 3 = .ok (.idiv, 1) := by decide +kernel
theorem dX7_behind_4 : decode cX7_behind 4 = .ok (.istore_n 3, 1) := by decide +kernel
theorem dX7_behind_5 : decode cX7_behind 5 = .ok (.iload_n 1, 1) := by decide +kernel
theorem dX7_behind_6 : decode cX7_behind 6 = .ok (.bipush 8, 2) := by decide +kernel
theorem dX7_behind_8 : decode cX7_behind 8 = .ok (.irem, 1) := by decide +kernel
theorem dX7_behind_9 : decode cX7_behind 9 = .ok (.istore 4, 2) := by decide +kernel
theorem dX7_behind_11 : decode cX7_behind 11 = .ok (.aload_n 0, 1) := by decide +kernel
theorem dX7_behind_12 : decode cX7_behind 12 = .ok (.iload_n 2, 1) := by decide +kernel
theorem dX7_behind_13 : decode cX7_behind 13 = .ok (.iconst 2, 1) := by decide +kernel
theorem dX7_behind_14 : decode cX7_behind 14 = .ok (.if_icmp .ge 7, 3) := by decide +kernel
theorem dX7_behind_17 : decode cX7_behind 17 = .ok (.iload_n 3, 1) := by decide +kernel
theorem dX7_behind_18 : decode cX7_behind 18 = .ok (.goto 5, 3) := by decide +kernel
theorem dX7_behind_21 : decode cX7_behind 21 = .ok (.iload 4, 2) := by decide +kernel
theorem dX7_behind_23 : decode cX7_behind 23 = .ok (.iload_n 2, 1) := by decide +kernel
theorem dX7_behind_24 : decode cX7_behind 24 = .ok (.invokevirtual 168, 3) := by decide +kernel
theorem dX7_behind_27 : decode cX7_behind 27 = .ok (.istore 5, 2) := by decide +kernel
theorem dX7_behind_29 : decode cX7_behind 29 = .ok (.iload 5, 2) := by decide +kernel
theorem dX7_behind_31 : decode cX7_behind 31 = .ok (.iload_n 2, 1) := by decide +kernel
theorem dX7_behind_32 : decode cX7_behind 32 = .ok (.iconst 2, 1) := by decide +kernel
theorem dX7_behind_33 : decode cX7_behind 33 = .ok (.if_icmp .ge 8, 3) := by decide +kernel
theorem dX7_behind_36 : decode cX7_behind 36 = .ok (.iload 4, 2) := by decide +kernel
theorem dX7_behind_38 : decode cX7_behind 38 = .ok (.goto 4, 3) := by decide +kernel
theorem dX7_behind_41 : decode cX7_behind 41 = .ok (.iload_n 3, 1) := by decide +kernel
theorem dX7_behind_42 : decode cX7_behind 42 = .ok (.if_icmp .ne 6, 3) := by decide +kernel
theorem dX7_behind_45 : decode cX7_behind 45 = .ok (.bipush (-9), 2) := by decide +kernel
theorem dX7_behind_47 : decode cX7_behind 47 = .ok (.ireturn, 1) := by decide +kernel
theorem dX7_behind_48 : decode cX7_behind 48 = .ok (.iload_n 2, 1) := by decide +kernel
theorem dX7_behind_49 : decode cX7_behind 49 = .ok (.iconst 2, 1) := by decide +kernel
theorem dX7_behind_50 : decode cX7_behind 50 = .ok (.if_icmp .ge 14, 3) := by decide +kernel
theorem dX7_behind_53 : decode cX7_behind 53 = .ok (.bipush 8, 2) := by decide +kernel
theorem dX7_behind_55 : decode cX7_behind 55 = .ok (.iload 5, 2) := by decide +kernel
theorem dX7_behind_57 : decode cX7_behind 57 = .ok (.imul, 1) := by decide +kernel
theorem dX7_behind_58 : decode cX7_behind 58 = .ok (.iload 4, 2) := by decide +kernel
theorem dX7_behind_60 : decode cX7_behind 60 = .ok (.iadd, 1) := by decide +kernel
theorem dX7_behind_61 : decode cX7_behind 61 = .ok (.goto 10, 3) := by decide +kernel
theorem dX7_behind_64 : decode cX7_behind 64 = .ok (.bipush 8, 2) := by decide +kernel
theorem dX7_behind_66 : decode cX7_behind 66 = .ok (.iload_n 3, 1) := by decide +kernel
theorem dX7_behind_67 : decode cX7_behind 67 = .ok (.imul, 1) := by decide +kernel
theorem dX7_behind_68 : decode cX7_behind 68 = .ok (.iload 5, 2) := by decide +kernel
theorem dX7_behind_70 : decode cX7_behind 70 = .ok (.iadd, 1) := by decide +kernel
theorem dX7_behind_71 : decode cX7_behind 71 = .ok (.ireturn, 1) := by decide +kernel
theorem dX7_takes_0 : decode cX7_takes 0 = .ok (.aload_n 0, 1) := by decide +kernel
theorem dX7_takes_1 : decode cX7_takes 1 = .ok (.iload_n 2, 1) := by decide +kernel
theorem dX7_takes_2 : decode cX7_takes 2 = .ok (.iconst 2, 1) := by decide +kernel
theorem dX7_takes_3 : decode cX7_takes 3 = .ok (.if_icmp .ge 10, 3) := by decide +kernel
theorem dX7_takes_6 : decode cX7_takes 6 = .ok (.iload_n 1, 1) := by decide +kernel
theorem dX7_takes_7 : decode cX7_takes 7 = .ok (.bipush 8, 2) := by decide +kernel
theorem dX7_takes_9 : decode cX7_takes 9 = .ok (.idiv, 1) := by decide +kernel
theorem dX7_takes_10 : decode cX7_takes 10 = .ok (.goto 7, 3) := by decide +kernel
theorem dX7_takes_13 : decode cX7_takes 13 = .ok (.iload_n 1, 1) := by decide +kernel
theorem dX7_takes_14 : decode cX7_takes 14 = .ok (.bipush 8, 2) := by decide +kernel
theorem dX7_takes_16 : decode cX7_takes 16 = .ok (.irem, 1) := by decide +kernel
theorem dX7_takes_17 : decode cX7_takes 17 = .ok (.invokevirtual 156, 3) := by decide +kernel
theorem dX7_takes_20 : decode cX7_takes 20 = .ok (.ireturn, 1) := by decide +kernel
theorem dX7_stateNow_0 : decode cX7_stateNow 0 = .ok (.bipush 8, 2) := by decide +kernel
theorem dX7_stateNow_2 : decode cX7_stateNow 2 = .ok (.aload_n 0, 1) := by decide +kernel
theorem dX7_stateNow_3 : decode cX7_stateNow 3 = .ok (.getfield 120, 3) := by decide +kernel
theorem dX7_stateNow_6 : decode cX7_stateNow 6 = .ok (.imul, 1) := by decide +kernel
theorem dX7_stateNow_7 : decode cX7_stateNow 7 = .ok (.aload_n 0, 1) := by decide +kernel
theorem dX7_stateNow_8 : decode cX7_stateNow 8 = .ok (.getfield 126, 3) := by decide +kernel
theorem dX7_stateNow_11 : decode cX7_stateNow 11 = .ok (.iadd, 1) := by decide +kernel
theorem dX7_stateNow_12 : decode cX7_stateNow 12 = .ok (.ireturn, 1) := by decide +kernel
theorem dX7_pass_0 : decode cX7_pass 0 = .ok (.iload_n 1, 1) := by decide +kernel
theorem dX7_pass_1 : decode cX7_pass 1 = .ok (.iconst 0, 1) := by decide +kernel
theorem dX7_pass_2 : decode cX7_pass 2 = .ok (.iconst 3, 1) := by decide +kernel
theorem dX7_pass_3 : decode cX7_pass 3 = .ok (.invokestatic 74, 3) := by decide +kernel
theorem dX7_pass_6 : decode cX7_pass 6 = .ok (.ifCond .ne 6, 3) := by decide +kernel
theorem dX7_pass_9 : decode cX7_pass 9 = .ok (.bipush (-2), 2) := by decide +kernel
theorem dX7_pass_11 : decode cX7_pass 11 = .ok (.ireturn, 1) := by decide +kernel
theorem dX7_pass_12 : decode cX7_pass 12 = .ok (.aload_n 0, 1) := by decide +kernel
theorem dX7_pass_13 : decode cX7_pass 13 = .ok (.getfield 78, 3) := by decide +kernel
theorem dX7_pass_16 : decode cX7_pass 16 = .ok (.ifCond .eq 17, 3) := by decide +kernel
theorem dX7_pass_19 : decode cX7_pass 19 = .ok (.aload_n 0, 1) := by decide +kernel
theorem dX7_pass_20 : decode cX7_pass 20 = .ok (.aload_n 0, 1) := by decide +kernel
theorem dX7_pass_21 : decode cX7_pass 21 = .ok (.invokevirtual 171, 3) := by decide +kernel
theorem dX7_pass_24 : decode cX7_pass 24 = .ok (.iload_n 1, 1) := by decide +kernel
theorem dX7_pass_25 : decode cX7_pass 25 = .ok (.invokevirtual 175, 3) := by decide +kernel
theorem dX7_pass_28 : decode cX7_pass 28 = .ok (.bipush (-9), 2) := by decide +kernel
theorem dX7_pass_30 : decode cX7_pass 30 = .ok (.if_icmp .ne 6, 3) := by decide +kernel
theorem dX7_pass_33 : decode cX7_pass 33 = .ok (.bipush (-3), 2) := by decide +kernel
theorem dX7_pass_35 : decode cX7_pass 35 = .ok (.ireturn, 1) := by decide +kernel
theorem dX7_pass_36 : decode cX7_pass 36 = .ok (.aload_n 0, 1) := by decide +kernel
theorem dX7_pass_37 : decode cX7_pass 37 = .ok (.aload_n 0, 1) := by decide +kernel
theorem dX7_pass_38 : decode cX7_pass 38 = .ok (.invokevirtual 171, 3) := by decide +kernel
theorem dX7_pass_41 : decode cX7_pass 41 = .ok (.iload_n 1, 1) := by decide +kernel
theorem dX7_pass_42 : decode cX7_pass 42 = .ok (.invokevirtual 178, 3) := by decide +kernel
theorem dX7_pass_45 : decode cX7_pass 45 = .ok (.istore_n 2, 1) := by decide +kernel
theorem dX7_pass_46 : decode cX7_pass 46 = .ok (.aload_n 0, 1) := by decide +kernel
theorem dX7_pass_47 : decode cX7_pass 47 = .ok (.aload_n 0, 1) := by decide +kernel
theorem dX7_pass_48 : decode cX7_pass 48 = .ok (.invokevirtual 171, 3) := by decide +kernel
theorem dX7_pass_51 : decode cX7_pass 51 = .ok (.iload_n 1, 1) := by decide +kernel
theorem dX7_pass_52 : decode cX7_pass 52 = .ok (.invokevirtual 175, 3) := by decide +kernel
theorem dX7_pass_55 : decode cX7_pass 55 = .ok (.istore_n 3, 1) := by decide +kernel
theorem dX7_pass_56 : decode cX7_pass 56 = .ok (.aload_n 0, 1) := by decide +kernel
theorem dX7_pass_57 : decode cX7_pass 57 = .ok (.iload_n 3, 1) := by decide +kernel
theorem dX7_pass_58 : decode cX7_pass 58 = .ok (.bipush 8, 2) := by decide +kernel
theorem dX7_pass_60 : decode cX7_pass 60 = .ok (.idiv, 1) := by decide +kernel
theorem dX7_pass_61 : decode cX7_pass 61 = .ok (.putfield 120, 3) := by decide +kernel
theorem dX7_pass_64 : decode cX7_pass 64 = .ok (.aload_n 0, 1) := by decide +kernel
theorem dX7_pass_65 : decode cX7_pass 65 = .ok (.iload_n 3, 1) := by decide +kernel
theorem dX7_pass_66 : decode cX7_pass 66 = .ok (.bipush 8, 2) := by decide +kernel
theorem dX7_pass_68 : decode cX7_pass 68 = .ok (.irem, 1) := by decide +kernel
theorem dX7_pass_69 : decode cX7_pass 69 = .ok (.putfield 126, 3) := by decide +kernel
theorem dX7_pass_72 : decode cX7_pass 72 = .ok (.iload_n 2, 1) := by decide +kernel
theorem dX7_pass_73 : decode cX7_pass 73 = .ok (.ireturn, 1) := by decide +kernel
theorem dX7_dinner_0 : decode cX7_dinner 0 = .ok (.aload_n 0, 1) := by decide +kernel
theorem dX7_dinner_1 : decode cX7_dinner 1 = .ok (.iconst 0, 1) := by decide +kernel
theorem dX7_dinner_2 : decode cX7_dinner 2 = .ok (.putfield 68, 3) := by decide +kernel
theorem dX7_dinner_5 : decode cX7_dinner 5 = .ok (.iload_n 1, 1) := by decide +kernel
theorem dX7_dinner_6 : decode cX7_dinner 6 = .ok (.invokestatic 87, 3) := by decide +kernel
theorem dX7_dinner_9 : decode cX7_dinner 9 = .ok (.ifCond .ne 5, 3) := by decide +kernel
theorem dX7_dinner_12 : decode cX7_dinner 12 = .ok (.iconst (-1), 1) := by decide +kernel
theorem dX7_dinner_13 : decode cX7_dinner 13 = .ok (.ireturn, 1) := by decide +kernel
theorem dX7_dinner_14 : decode cX7_dinner 14 = .ok (.iload_n 2, 1) := by decide +kernel
theorem dX7_dinner_15 : decode cX7_dinner 15 = .ok (.invokestatic 91, 3) := by decide +kernel
theorem dX7_dinner_18 : decode cX7_dinner 18 = .ok (.ifCond .eq 36, 3) := by decide +kernel
theorem dX7_dinner_21 : decode cX7_dinner 21 = .ok (.iload 4, 2) := by decide +kernel
theorem dX7_dinner_23 : decode cX7_dinner 23 = .ok (.iconst 0, 1) := by decide +kernel
theorem dX7_dinner_24 : decode cX7_dinner 24 = .ok (.bipush 40, 2) := by decide +kernel
theorem dX7_dinner_26 : decode cX7_dinner 26 = .ok (.invokestatic 74, 3) := by decide +kernel
theorem dX7_dinner_29 : decode cX7_dinner 29 = .ok (.ifCond .eq 25, 3) := by decide +kernel
theorem dX7_dinner_32 : decode cX7_dinner 32 = .ok (.iload 5, 2) := by decide +kernel
theorem dX7_dinner_34 : decode cX7_dinner 34 = .ok (.iconst 0, 1) := by decide +kernel
theorem dX7_dinner_35 : decode cX7_dinner 35 = .ok (.iconst 5, 1) := by decide +kernel
theorem dX7_dinner_36 : decode cX7_dinner 36 = .ok (.invokestatic 74, 3) := by decide +kernel
theorem dX7_dinner_39 : decode cX7_dinner 39 = .ok (.ifCond .ne 18, 3) := by decide +kernel
theorem dX7_dinner_42 : decode cX7_dinner 42 = .ok (.iload 5, 2) := by decide +kernel
theorem dX7_dinner_44 : decode cX7_dinner 44 = .ok (.bipush 10, 2) := by decide +kernel
theorem dX7_dinner_46 : decode cX7_dinner 46 = .ok (.bipush 15, 2) := by decide +kernel
theorem dX7_dinner_48 : decode cX7_dinner 48 = .ok (.invokestatic 74, 3) := by decide +kernel
theorem dX7_dinner_51 : decode cX7_dinner 51 = .ok (.ifCond .ne 6, 3) := by decide +kernel
theorem dX7_dinner_54 : decode cX7_dinner 54 = .ok (.bipush (-2), 2) := by decide +kernel
theorem dX7_dinner_56 : decode cX7_dinner 56 = .ok (.ireturn, 1) := by decide +kernel
theorem dX7_dinner_57 : decode cX7_dinner 57 = .ok (.aload_n 0, 1) := by decide +kernel
theorem dX7_dinner_58 : decode cX7_dinner 58 = .ok (.iload_n 1, 1) := by decide +kernel
theorem dX7_dinner_59 : decode cX7_dinner 59 = .ok (.iload_n 2, 1) := by decide +kernel
theorem dX7_dinner_60 : decode cX7_dinner 60 = .ok (.iload_n 3, 1) := by decide +kernel
theorem dX7_dinner_61 : decode cX7_dinner 61 = .ok (.iload 4, 2) := by decide +kernel
theorem dX7_dinner_63 : decode cX7_dinner 63 = .ok (.invokevirtual 94, 3) := by decide +kernel
theorem dX7_dinner_66 : decode cX7_dinner 66 = .ok (.istore 6, 2) := by decide +kernel
theorem dX7_dinner_68 : decode cX7_dinner 68 = .ok (.iload 6, 2) := by decide +kernel
theorem dX7_dinner_70 : decode cX7_dinner 70 = .ok (.ifCond .eq 10, 3) := by decide +kernel
theorem dX7_dinner_73 : decode cX7_dinner 73 = .ok (.aload_n 0, 1) := by decide +kernel
theorem dX7_dinner_74 : decode cX7_dinner 74 = .ok (.iload 6, 2) := by decide +kernel
theorem dX7_dinner_76 : decode cX7_dinner 76 = .ok (.invokevirtual 98, 3) := by decide +kernel
theorem dX7_dinner_79 : decode cX7_dinner 79 = .ok (.ireturn, 1) := by decide +kernel
theorem dX7_dinner_80 : decode cX7_dinner 80 = .ok (.aload_n 0, 1) := by decide +kernel
theorem dX7_dinner_81 : decode cX7_dinner 81 = .ok (.getfield 78, 3) := by decide +kernel
theorem dX7_dinner_84 : decode cX7_dinner 84 = .ok (.ifCond .ne 6, 3) := by decide +kernel
theorem dX7_dinner_87 : decode cX7_dinner 87 = .ok (.bipush (-3), 2) := by decide +kernel
theorem dX7_dinner_89 : decode cX7_dinner 89 = .ok (.ireturn, 1) := by decide +kernel
theorem dX7_dinner_90 : decode cX7_dinner 90 = .ok (.bipush 60, 2) := by decide +kernel
theorem dX7_dinner_92 : decode cX7_dinner 92 = .ok (.iload_n 1, 1) := by decide +kernel
theorem dX7_dinner_93 : decode cX7_dinner 93 = .ok (.imul, 1) := by decide +kernel
theorem dX7_dinner_94 : decode cX7_dinner 94 = .ok (.iload_n 3, 1) := by decide +kernel
theorem dX7_dinner_95 : decode cX7_dinner 95 = .ok (.iadd, 1) := by decide +kernel
theorem dX7_dinner_96 : decode cX7_dinner 96 = .ok (.istore 7, 2) := by decide +kernel
theorem dX7_dinner_98 : decode cX7_dinner 98 = .ok (.iconst 0, 1) := by decide +kernel
theorem dX7_dinner_99 : decode cX7_dinner 99 = .ok (.istore 8, 2) := by decide +kernel
theorem dX7_dinner_101 : decode cX7_dinner 101 = .ok (.iload 8, 2) := by decide +kernel
theorem dX7_dinner_103 : decode cX7_dinner 103 = .ok (.iload 4, 2) := by decide +kernel
theorem dX7_dinner_105 : decode cX7_dinner 105 = .ok (.if_icmp .ge 30, 3) := by decide +kernel
theorem dX7_dinner_108 : decode cX7_dinner 108 = .ok (.aload_n 0, 1) := by decide +kernel
theorem dX7_dinner_109 : decode cX7_dinner 109 = .ok (.getfield 16, 3) := by decide +kernel
theorem dX7_dinner_112 : decode cX7_dinner 112 = .ok (.iload 7, 2) := by decide +kernel
theorem dX7_dinner_114 : decode cX7_dinner 114 = .ok (.iload 8, 2) := by decide +kernel
theorem dX7_dinner_116 : decode cX7_dinner 116 = .ok (.iadd, 1) := by decide +kernel
theorem dX7_dinner_117 : decode cX7_dinner 117 = .ok (.iaload, 1) := by decide +kernel
theorem dX7_dinner_118 : decode cX7_dinner 118 = .ok (.iconst 0, 1) := by decide +kernel
theorem dX7_dinner_119 : decode cX7_dinner 119 = .ok (.iconst 3, 1) := by decide +kernel
theorem dX7_dinner_120 : decode cX7_dinner 120 = .ok (.invokestatic 74, 3) := by decide +kernel
theorem dX7_dinner_123 : decode cX7_dinner 123 = .ok (.ifCond .ne 6, 3) := by decide +kernel
theorem dX7_dinner_126 : decode cX7_dinner 126 = .ok (.bipush (-2), 2) := by decide +kernel
theorem dX7_dinner_128 : decode cX7_dinner 128 = .ok (.ireturn, 1) := by decide +kernel
theorem dX7_dinner_129 : decode cX7_dinner 129 = .ok (.iinc 8 1, 3) := by decide +kernel
theorem dX7_dinner_132 : decode cX7_dinner 132 = .ok (.goto (-31), 3) := by decide +kernel
theorem dX7_dinner_135 : decode cX7_dinner 135 = .ok (.aload_n 0, 1) := by decide +kernel
theorem dX7_dinner_136 : decode cX7_dinner 136 = .ok (.invokevirtual 171, 3) := by decide +kernel
theorem dX7_dinner_139 : decode cX7_dinner 139 = .ok (.istore 8, 2) := by decide +kernel
theorem dX7_dinner_141 : decode cX7_dinner 141 = .ok (.iconst 0, 1) := by decide +kernel
theorem dX7_dinner_142 : decode cX7_dinner 142 = .ok (.istore 9, 2) := by decide +kernel
theorem dX7_dinner_144 : decode cX7_dinner 144 = .ok (.iconst 0, 1) := by decide +kernel
theorem dX7_dinner_145 : decode cX7_dinner 145 = .ok (.istore 10, 2) := by decide +kernel
theorem dX7_dinner_147 : decode cX7_dinner 147 = .ok (.iload 10, 2) := by decide +kernel
theorem dX7_dinner_149 : decode cX7_dinner 149 = .ok (.iload 4, 2) := by decide +kernel
theorem dX7_dinner_151 : decode cX7_dinner 151 = .ok (.if_icmp .ge 76, 3) := by decide +kernel
theorem dX7_dinner_154 : decode cX7_dinner 154 = .ok (.aload_n 0, 1) := by decide +kernel
theorem dX7_dinner_155 : decode cX7_dinner 155 = .ok (.iload 8, 2) := by decide +kernel
theorem dX7_dinner_157 : decode cX7_dinner 157 = .ok (.aload_n 0, 1) := by decide +kernel
theorem dX7_dinner_158 : decode cX7_dinner 158 = .ok (.getfield 16, 3) := by decide +kernel
theorem dX7_dinner_161 : decode cX7_dinner 161 = .ok (.iload 7, 2) := by decide +kernel
theorem dX7_dinner_163 : decode cX7_dinner 163 = .ok (.iload 10, 2) := by decide +kernel
theorem dX7_dinner_165 : decode cX7_dinner 165 = .ok (.iadd, 1) := by decide +kernel
theorem dX7_dinner_166 : decode cX7_dinner 166 = .ok (.iaload, 1) := by decide +kernel
theorem dX7_dinner_167 : decode cX7_dinner 167 = .ok (.invokevirtual 175, 3) := by decide +kernel
theorem dX7_dinner_170 : decode cX7_dinner 170 = .ok (.istore 11, 2) := by decide +kernel
theorem dX7_dinner_172 : decode cX7_dinner 172 = .ok (.iload 11, 2) := by decide +kernel
theorem dX7_dinner_174 : decode cX7_dinner 174 = .ok (.bipush (-9), 2) := by decide +kernel
theorem dX7_dinner_176 : decode cX7_dinner 176 = .ok (.if_icmp .ne 20, 3) := by decide +kernel
theorem dX7_dinner_179 : decode cX7_dinner 179 = .ok (.iload 5, 2) := by decide +kernel
theorem dX7_dinner_181 : decode cX7_dinner 181 = .ok (.iconst 1, 1) := by decide +kernel
theorem dX7_dinner_182 : decode cX7_dinner 182 = .ok (.if_icmp .ne 8, 3) := by decide +kernel
theorem dX7_dinner_185 : decode cX7_dinner 185 = .ok (.iload 10, 2) := by decide +kernel
theorem dX7_dinner_187 : decode cX7_dinner 187 = .ok (.goto 8, 3) := by decide +kernel
theorem dX7_dinner_190 : decode cX7_dinner 190 = .ok (.bipush (-100), 2) := by decide +kernel
theorem dX7_dinner_192 : decode cX7_dinner 192 = .ok (.iload 10, 2) := by decide +kernel
theorem dX7_dinner_194 : decode cX7_dinner 194 = .ok (.isub, 1) := by decide +kernel
theorem dX7_dinner_195 : decode cX7_dinner 195 = .ok (.ireturn, 1) := by decide +kernel
theorem dX7_dinner_196 : decode cX7_dinner 196 = .ok (.iload 9, 2) := by decide +kernel
theorem dX7_dinner_198 : decode cX7_dinner 198 = .ok (.aload_n 0, 1) := by decide +kernel
theorem dX7_dinner_199 : decode cX7_dinner 199 = .ok (.iload 8, 2) := by decide +kernel
theorem dX7_dinner_201 : decode cX7_dinner 201 = .ok (.aload_n 0, 1) := by decide +kernel
theorem dX7_dinner_202 : decode cX7_dinner 202 = .ok (.getfield 16, 3) := by decide +kernel
theorem dX7_dinner_205 : decode cX7_dinner 205 = .ok (.iload 7, 2) := by decide +kernel
theorem dX7_dinner_207 : decode cX7_dinner 207 = .ok (.iload 10, 2) := by decide +kernel
theorem dX7_dinner_209 : decode cX7_dinner 209 = .ok (.iadd, 1) := by decide +kernel
theorem dX7_dinner_210 : decode cX7_dinner 210 = .ok (.iaload, 1) := by decide +kernel
theorem dX7_dinner_211 : decode cX7_dinner 211 = .ok (.invokevirtual 178, 3) := by decide +kernel
theorem dX7_dinner_214 : decode cX7_dinner 214 = .ok (.iadd, 1) := by decide +kernel
theorem dX7_dinner_215 : decode cX7_dinner 215 = .ok (.istore 9, 2) := by decide +kernel
theorem dX7_dinner_217 : decode cX7_dinner 217 = .ok (.iload 11, 2) := by decide +kernel
theorem dX7_dinner_219 : decode cX7_dinner 219 = .ok (.istore 8, 2) := by decide +kernel
theorem dX7_dinner_221 : decode cX7_dinner 221 = .ok (.iinc 10 1, 3) := by decide +kernel
theorem dX7_dinner_224 : decode cX7_dinner 224 = .ok (.goto (-77), 3) := by decide +kernel
theorem dX7_dinner_227 : decode cX7_dinner 227 = .ok (.iload 5, 2) := by decide +kernel
theorem dX7_dinner_229 : decode cX7_dinner 229 = .ok (.iconst 1, 1) := by decide +kernel
theorem dX7_dinner_230 : decode cX7_dinner 230 = .ok (.if_icmp .ne 8, 3) := by decide +kernel
theorem dX7_dinner_233 : decode cX7_dinner 233 = .ok (.bipush (-9), 2) := by decide +kernel
theorem dX7_dinner_235 : decode cX7_dinner 235 = .ok (.goto 21, 3) := by decide +kernel
theorem dX7_dinner_238 : decode cX7_dinner 238 = .ok (.aload_n 0, 1) := by decide +kernel
theorem dX7_dinner_239 : decode cX7_dinner 239 = .ok (.iload 5, 2) := by decide +kernel
theorem dX7_dinner_241 : decode cX7_dinner 241 = .ok (.iload 9, 2) := by decide +kernel
theorem dX7_dinner_243 : decode cX7_dinner 243 = .ok (.iload 8, 2) := by decide +kernel
theorem dX7_dinner_245 : decode cX7_dinner 245 = .ok (.bipush 8, 2) := by decide +kernel
theorem dX7_dinner_247 : decode cX7_dinner 247 = .ok (.idiv, 1) := by decide +kernel
theorem dX7_dinner_248 : decode cX7_dinner 248 = .ok (.iload 8, 2) := by decide +kernel
theorem dX7_dinner_250 : decode cX7_dinner 250 = .ok (.bipush 8, 2) := by decide +kernel
theorem dX7_dinner_252 : decode cX7_dinner 252 = .ok (.irem, 1) := by decide +kernel
theorem dX7_dinner_253 : decode cX7_dinner 253 = .ok (.invokevirtual 181, 3) := by decide +kernel
theorem dX7_dinner_256 : decode cX7_dinner 256 = .ok (.ireturn, 1) := by decide +kernel
theorem dX7_tellDinner_0 : decode cX7_tellDinner 0 = .ok (.iload_n 1, 1) := by decide +kernel
theorem dX7_tellDinner_1 : decode cX7_tellDinner 1 = .ok (.tableswitch 64 0 5 #[39, 64, 41, 50, 59, 61], 39) := by decide +kernel
theorem dX7_tellDinner_40 : decode cX7_tellDinner 40 = .ok (.iload_n 2, 1) := by decide +kernel
theorem dX7_tellDinner_41 : decode cX7_tellDinner 41 = .ok (.ireturn, 1) := by decide +kernel
theorem dX7_tellDinner_42 : decode cX7_tellDinner 42 = .ok (.aload_n 0, 1) := by decide +kernel
theorem dX7_tellDinner_43 : decode cX7_tellDinner 43 = .ok (.iconst 0, 1) := by decide +kernel
theorem dX7_tellDinner_44 : decode cX7_tellDinner 44 = .ok (.iload_n 3, 1) := by decide +kernel
theorem dX7_tellDinner_45 : decode cX7_tellDinner 45 = .ok (.iload 4, 2) := by decide +kernel
theorem dX7_tellDinner_47 : decode cX7_tellDinner 47 = .ok (.invokevirtual 165, 3) := by decide +kernel
theorem dX7_tellDinner_50 : decode cX7_tellDinner 50 = .ok (.ireturn, 1) := by decide +kernel
theorem dX7_tellDinner_51 : decode cX7_tellDinner 51 = .ok (.aload_n 0, 1) := by decide +kernel
theorem dX7_tellDinner_52 : decode cX7_tellDinner 52 = .ok (.iconst 1, 1) := by decide +kernel
theorem dX7_tellDinner_53 : decode cX7_tellDinner 53 = .ok (.iload_n 3, 1) := by decide +kernel
theorem dX7_tellDinner_54 : decode cX7_tellDinner 54 = .ok (.iload 4, 2) := by decide +kernel
theorem dX7_tellDinner_56 : decode cX7_tellDinner 56 = .ok (.invokevirtual 165, 3) := by decide +kernel
theorem dX7_tellDinner_59 : decode cX7_tellDinner 59 = .ok (.ireturn, 1) := by decide +kernel
theorem dX7_tellDinner_60 : decode cX7_tellDinner 60 = .ok (.iload_n 3, 1) := by decide +kernel
theorem dX7_tellDinner_61 : decode cX7_tellDinner 61 = .ok (.ireturn, 1) := by decide +kernel
theorem dX7_tellDinner_62 : decode cX7_tellDinner 62 = .ok (.iload 4, 2) := by decide +kernel
theorem dX7_tellDinner_64 : decode cX7_tellDinner 64 = .ok (.ireturn, 1) := by decide +kernel
theorem dX7_tellDinner_65 : decode cX7_tellDinner 65 = .ok (.aload_n 0, 1) := by decide +kernel
theorem dX7_tellDinner_66 : decode cX7_tellDinner 66 = .ok (.iload_n 1, 1) := by decide +kernel
theorem dX7_tellDinner_67 : decode cX7_tellDinner 67 = .ok (.bipush 10, 2) := by decide +kernel
theorem dX7_tellDinner_69 : decode cX7_tellDinner 69 = .ok (.isub, 1) := by decide +kernel
theorem dX7_tellDinner_70 : decode cX7_tellDinner 70 = .ok (.invokevirtual 159, 3) := by decide +kernel
theorem dX7_tellDinner_73 : decode cX7_tellDinner 73 = .ok (.ifCond .eq 22, 3) := by decide +kernel
theorem dX7_tellDinner_76 : decode cX7_tellDinner 76 = .ok (.aload_n 0, 1) := by decide +kernel
theorem dX7_tellDinner_77 : decode cX7_tellDinner 77 = .ok (.aload_n 0, 1) := by decide +kernel
theorem dX7_tellDinner_78 : decode cX7_tellDinner 78 = .ok (.getfield 28, 3) := by decide +kernel
theorem dX7_tellDinner_81 : decode cX7_tellDinner 81 = .ok (.iload_n 1, 1) := by decide +kernel
theorem dX7_tellDinner_82 : decode cX7_tellDinner 82 = .ok (.bipush 10, 2) := by decide +kernel
theorem dX7_tellDinner_84 : decode cX7_tellDinner 84 = .ok (.isub, 1) := by decide +kernel
theorem dX7_tellDinner_85 : decode cX7_tellDinner 85 = .ok (.iaload, 1) := by decide +kernel
theorem dX7_tellDinner_86 : decode cX7_tellDinner 86 = .ok (.iload_n 3, 1) := by decide +kernel
theorem dX7_tellDinner_87 : decode cX7_tellDinner 87 = .ok (.iload 4, 2) := by decide +kernel
theorem dX7_tellDinner_89 : decode cX7_tellDinner 89 = .ok (.invokevirtual 149, 3) := by decide +kernel
theorem dX7_tellDinner_92 : decode cX7_tellDinner 92 = .ok (.goto 5, 3) := by decide +kernel
theorem dX7_tellDinner_95 : decode cX7_tellDinner 95 = .ok (.bipush (-9), 2) := by decide +kernel
theorem dX7_tellDinner_97 : decode cX7_tellDinner 97 = .ok (.ireturn, 1) := by decide +kernel
theorem dX7_isState_0 : decode cX7_isState 0 = .ok (.iload_n 1, 1) := by decide +kernel
theorem dX7_isState_1 : decode cX7_isState 1 = .ok (.bipush 8, 2) := by decide +kernel
theorem dX7_isState_3 : decode cX7_isState 3 = .ok (.idiv, 1) := by decide +kernel
theorem dX7_isState_4 : decode cX7_isState 4 = .ok (.istore_n 2, 1) := by decide +kernel
theorem dX7_isState_5 : decode cX7_isState 5 = .ok (.iload_n 1, 1) := by decide +kernel
theorem dX7_isState_6 : decode cX7_isState 6 = .ok (.bipush 8, 2) := by decide +kernel
theorem dX7_isState_8 : decode cX7_isState 8 = .ok (.irem, 1) := by decide +kernel
theorem dX7_isState_9 : decode cX7_isState 9 = .ok (.istore_n 3, 1) := by decide +kernel
theorem dX7_isState_10 : decode cX7_isState 10 = .ok (.iload_n 2, 1) := by decide +kernel
theorem dX7_isState_11 : decode cX7_isState 11 = .ok (.aload_n 0, 1) := by decide +kernel
theorem dX7_isState_12 : decode cX7_isState 12 = .ok (.getfield 78, 3) := by decide +kernel
theorem dX7_isState_15 : decode cX7_isState 15 = .ok (.if_icmp .ge 20, 3) := by decide +kernel
theorem dX7_isState_18 : decode cX7_isState 18 = .ok (.iload_n 3, 1) := by decide +kernel
theorem dX7_isState_19 : decode cX7_isState 19 = .ok (.aload_n 0, 1) := by decide +kernel
theorem dX7_isState_20 : decode cX7_isState 20 = .ok (.getfield 78, 3) := by decide +kernel
theorem dX7_isState_23 : decode cX7_isState 23 = .ok (.if_icmp .ge 12, 3) := by decide +kernel
theorem dX7_isState_26 : decode cX7_isState 26 = .ok (.iload_n 2, 1) := by decide +kernel
theorem dX7_isState_27 : decode cX7_isState 27 = .ok (.iload_n 3, 1) := by decide +kernel
theorem dX7_isState_28 : decode cX7_isState 28 = .ok (.if_icmp .eq 7, 3) := by decide +kernel
theorem dX7_isState_31 : decode cX7_isState 31 = .ok (.iconst 1, 1) := by decide +kernel
theorem dX7_isState_32 : decode cX7_isState 32 = .ok (.goto 4, 3) := by decide +kernel
theorem dX7_isState_35 : decode cX7_isState 35 = .ok (.iconst 0, 1) := by decide +kernel
theorem dX7_isState_36 : decode cX7_isState 36 = .ok (.ireturn, 1) := by decide +kernel
theorem dX7_isGoal_0 : decode cX7_isGoal 0 = .ok (.iload_n 1, 1) := by decide +kernel
theorem dX7_isGoal_1 : decode cX7_isGoal 1 = .ok (.bipush 8, 2) := by decide +kernel
theorem dX7_isGoal_3 : decode cX7_isGoal 3 = .ok (.idiv, 1) := by decide +kernel
theorem dX7_isGoal_4 : decode cX7_isGoal 4 = .ok (.istore 4, 2) := by decide +kernel
theorem dX7_isGoal_6 : decode cX7_isGoal 6 = .ok (.iload_n 1, 1) := by decide +kernel
theorem dX7_isGoal_7 : decode cX7_isGoal 7 = .ok (.bipush 8, 2) := by decide +kernel
theorem dX7_isGoal_9 : decode cX7_isGoal 9 = .ok (.irem, 1) := by decide +kernel
theorem dX7_isGoal_10 : decode cX7_isGoal 10 = .ok (.istore 5, 2) := by decide +kernel
theorem dX7_isGoal_12 : decode cX7_isGoal 12 = .ok (.iload_n 2, 1) := by decide +kernel
theorem dX7_isGoal_13 : decode cX7_isGoal 13 = .ok (.bipush (-9), 2) := by decide +kernel
theorem dX7_isGoal_15 : decode cX7_isGoal 15 = .ok (.if_icmp .ne 32, 3) := by decide +kernel
theorem dX7_isGoal_18 : decode cX7_isGoal 18 = .ok (.aload_n 0, 1) := by decide +kernel
theorem dX7_isGoal_19 : decode cX7_isGoal 19 = .ok (.iconst 0, 1) := by decide +kernel
theorem dX7_isGoal_20 : decode cX7_isGoal 20 = .ok (.iload 4, 2) := by decide +kernel
theorem dX7_isGoal_22 : decode cX7_isGoal 22 = .ok (.iload 5, 2) := by decide +kernel
theorem dX7_isGoal_24 : decode cX7_isGoal 24 = .ok (.invokevirtual 165, 3) := by decide +kernel
theorem dX7_isGoal_27 : decode cX7_isGoal 27 = .ok (.aload_n 0, 1) := by decide +kernel
theorem dX7_isGoal_28 : decode cX7_isGoal 28 = .ok (.iconst 1, 1) := by decide +kernel
theorem dX7_isGoal_29 : decode cX7_isGoal 29 = .ok (.iload 4, 2) := by decide +kernel
theorem dX7_isGoal_31 : decode cX7_isGoal 31 = .ok (.iload 5, 2) := by decide +kernel
theorem dX7_isGoal_33 : decode cX7_isGoal 33 = .ok (.invokevirtual 165, 3) := by decide +kernel
theorem dX7_isGoal_36 : decode cX7_isGoal 36 = .ok (.if_icmp .ne 7, 3) := by decide +kernel
theorem dX7_isGoal_39 : decode cX7_isGoal 39 = .ok (.iconst 1, 1) := by decide +kernel
theorem dX7_isGoal_40 : decode cX7_isGoal 40 = .ok (.goto 30, 3) := by decide +kernel
theorem dX7_isGoal_43 : decode cX7_isGoal 43 = .ok (.iconst 0, 1) := by decide +kernel
theorem dX7_isGoal_44 : decode cX7_isGoal 44 = .ok (.goto 26, 3) := by decide +kernel
theorem dX7_isGoal_47 : decode cX7_isGoal 47 = .ok (.aload_n 0, 1) := by decide +kernel
theorem dX7_isGoal_48 : decode cX7_isGoal 48 = .ok (.aload_n 0, 1) := by decide +kernel
theorem dX7_isGoal_49 : decode cX7_isGoal 49 = .ok (.getfield 28, 3) := by decide +kernel
theorem dX7_isGoal_52 : decode cX7_isGoal 52 = .ok (.iload_n 2, 1) := by decide +kernel
theorem dX7_isGoal_53 : decode cX7_isGoal 53 = .ok (.iaload, 1) := by decide +kernel
theorem dX7_isGoal_54 : decode cX7_isGoal 54 = .ok (.iload 4, 2) := by decide +kernel
theorem dX7_isGoal_56 : decode cX7_isGoal 56 = .ok (.iload 5, 2) := by decide +kernel
theorem dX7_isGoal_58 : decode cX7_isGoal 58 = .ok (.invokevirtual 149, 3) := by decide +kernel
theorem dX7_isGoal_61 : decode cX7_isGoal 61 = .ok (.iload_n 3, 1) := by decide +kernel
theorem dX7_isGoal_62 : decode cX7_isGoal 62 = .ok (.if_icmp .ne 7, 3) := by decide +kernel
theorem dX7_isGoal_65 : decode cX7_isGoal 65 = .ok (.iconst 1, 1) := by decide +kernel
theorem dX7_isGoal_66 : decode cX7_isGoal 66 = .ok (.goto 4, 3) := by decide +kernel
theorem dX7_isGoal_69 : decode cX7_isGoal 69 = .ok (.iconst 0, 1) := by decide +kernel
theorem dX7_isGoal_70 : decode cX7_isGoal 70 = .ok (.ireturn, 1) := by decide +kernel
theorem dX7_costOf_0 : decode cX7_costOf 0 = .ok (.iload_n 3, 1) := by decide +kernel
theorem dX7_costOf_1 : decode cX7_costOf 1 = .ok (.aload_n 0, 1) := by decide +kernel
theorem dX7_costOf_2 : decode cX7_costOf 2 = .ok (.iload_n 1, 1) := by decide +kernel
theorem dX7_costOf_3 : decode cX7_costOf 3 = .ok (.iload_n 2, 1) := by decide +kernel
theorem dX7_costOf_4 : decode cX7_costOf 4 = .ok (.invokevirtual 178, 3) := by decide +kernel
theorem dX7_costOf_7 : decode cX7_costOf 7 = .ok (.imul, 1) := by decide +kernel
theorem dX7_costOf_8 : decode cX7_costOf 8 = .ok (.iconst 1, 1) := by decide +kernel
theorem dX7_costOf_9 : decode cX7_costOf 9 = .ok (.iadd, 1) := by decide +kernel
theorem dX7_costOf_10 : decode cX7_costOf 10 = .ok (.ireturn, 1) := by decide +kernel
theorem dX7_findLeft_0 : decode cX7_findLeft 0 = .ok (.iconst 0, 1) := by decide +kernel
theorem dX7_findLeft_1 : decode cX7_findLeft 1 = .ok (.istore 4, 2) := by decide +kernel
theorem dX7_findLeft_3 : decode cX7_findLeft 3 = .ok (.iload 4, 2) := by decide +kernel
theorem dX7_findLeft_5 : decode cX7_findLeft 5 = .ok (.bipush 64, 2) := by decide +kernel
theorem dX7_findLeft_7 : decode cX7_findLeft 7 = .ok (.if_icmp .ge 42, 3) := by decide +kernel
theorem dX7_findLeft_10 : decode cX7_findLeft 10 = .ok (.aload_n 0, 1) := by decide +kernel
theorem dX7_findLeft_11 : decode cX7_findLeft 11 = .ok (.getfield 49, 3) := by decide +kernel
theorem dX7_findLeft_14 : decode cX7_findLeft 14 = .ok (.iload 4, 2) := by decide +kernel
theorem dX7_findLeft_16 : decode cX7_findLeft 16 = .ok (.aload_n 0, 1) := by decide +kernel
theorem dX7_findLeft_17 : decode cX7_findLeft 17 = .ok (.iload 4, 2) := by decide +kernel
theorem dX7_findLeft_19 : decode cX7_findLeft 19 = .ok (.invokevirtual 184, 3) := by decide +kernel
theorem dX7_findLeft_22 : decode cX7_findLeft 22 = .ok (.ifCond .eq 18, 3) := by decide +kernel
theorem dX7_findLeft_25 : decode cX7_findLeft 25 = .ok (.aload_n 0, 1) := by decide +kernel
theorem dX7_findLeft_26 : decode cX7_findLeft 26 = .ok (.iload 4, 2) := by decide +kernel
theorem dX7_findLeft_28 : decode cX7_findLeft 28 = .ok (.iload_n 1, 1) := by decide +kernel
theorem dX7_findLeft_29 : decode cX7_findLeft 29 = .ok (.iload_n 2, 1) := by decide +kernel
theorem dX7_findLeft_30 : decode cX7_findLeft 30 = .ok (.invokevirtual 187, 3) := by decide +kernel
theorem dX7_findLeft_33 : decode cX7_findLeft 33 = .ok (.ifCond .eq 7, 3) := by decide +kernel
theorem dX7_findLeft_36 : decode cX7_findLeft 36 = .ok (.iconst 0, 1) := by decide +kernel
theorem dX7_findLeft_37 : decode cX7_findLeft 37 = .ok (.goto 5, 3) := by decide +kernel
theorem dX7_findLeft_40 : decode cX7_findLeft 40 = .ok (.ldc 190, 2) := by decide +kernel
theorem dX7_findLeft_42 : decode cX7_findLeft 42 = .ok (.iastore, 1) := by decide +kernel
theorem dX7_findLeft_43 : decode cX7_findLeft 43 = .ok (.iinc 4 1, 3) := by decide +kernel
theorem dX7_findLeft_46 : decode cX7_findLeft 46 = .ok (.goto (-43), 3) := by decide +kernel
theorem dX7_findLeft_49 : decode cX7_findLeft 49 = .ok (.iconst 1, 1) := by decide +kernel
theorem dX7_findLeft_50 : decode cX7_findLeft 50 = .ok (.istore 4, 2) := by decide +kernel
theorem dX7_findLeft_52 : decode cX7_findLeft 52 = .ok (.iload 4, 2) := by decide +kernel
theorem dX7_findLeft_54 : decode cX7_findLeft 54 = .ok (.ifCond .eq 123, 3) := by decide +kernel
theorem dX7_findLeft_57 : decode cX7_findLeft 57 = .ok (.iconst 0, 1) := by decide +kernel
theorem dX7_findLeft_58 : decode cX7_findLeft 58 = .ok (.istore 4, 2) := by decide +kernel
theorem dX7_findLeft_60 : decode cX7_findLeft 60 = .ok (.iconst 0, 1) := by decide +kernel
theorem dX7_findLeft_61 : decode cX7_findLeft 61 = .ok (.istore 5, 2) := by decide +kernel
theorem dX7_findLeft_63 : decode cX7_findLeft 63 = .ok (.iload 5, 2) := by decide +kernel
theorem dX7_findLeft_65 : decode cX7_findLeft 65 = .ok (.sipush 256, 3) := by decide +kernel
theorem dX7_findLeft_68 : decode cX7_findLeft 68 = .ok (.if_icmp .ge 106, 3) := by decide +kernel
theorem dX7_findLeft_71 : decode cX7_findLeft 71 = .ok (.iload 5, 2) := by decide +kernel
theorem dX7_findLeft_73 : decode cX7_findLeft 73 = .ok (.iconst 4, 1) := by decide +kernel
theorem dX7_findLeft_74 : decode cX7_findLeft 74 = .ok (.idiv, 1) := by decide +kernel
theorem dX7_findLeft_75 : decode cX7_findLeft 75 = .ok (.istore 6, 2) := by decide +kernel
theorem dX7_findLeft_77 : decode cX7_findLeft 77 = .ok (.aload_n 0, 1) := by decide +kernel
theorem dX7_findLeft_78 : decode cX7_findLeft 78 = .ok (.iload 6, 2) := by decide +kernel
theorem dX7_findLeft_80 : decode cX7_findLeft 80 = .ok (.invokevirtual 184, 3) := by decide +kernel
theorem dX7_findLeft_83 : decode cX7_findLeft 83 = .ok (.ifCond .eq 16, 3) := by decide +kernel
theorem dX7_findLeft_86 : decode cX7_findLeft 86 = .ok (.aload_n 0, 1) := by decide +kernel
theorem dX7_findLeft_87 : decode cX7_findLeft 87 = .ok (.iload 6, 2) := by decide +kernel
theorem dX7_findLeft_89 : decode cX7_findLeft 89 = .ok (.iload 5, 2) := by decide +kernel
theorem dX7_findLeft_91 : decode cX7_findLeft 91 = .ok (.iconst 4, 1) := by decide +kernel
theorem dX7_findLeft_92 : decode cX7_findLeft 92 = .ok (.irem, 1) := by decide +kernel
theorem dX7_findLeft_93 : decode cX7_findLeft 93 = .ok (.invokevirtual 175, 3) := by decide +kernel
theorem dX7_findLeft_96 : decode cX7_findLeft 96 = .ok (.goto 5, 3) := by decide +kernel
theorem dX7_findLeft_99 : decode cX7_findLeft 99 = .ok (.bipush (-9), 2) := by decide +kernel
theorem dX7_findLeft_101 : decode cX7_findLeft 101 = .ok (.istore 7, 2) := by decide +kernel
theorem dX7_findLeft_103 : decode cX7_findLeft 103 = .ok (.iload 7, 2) := by decide +kernel
theorem dX7_findLeft_105 : decode cX7_findLeft 105 = .ok (.bipush (-9), 2) := by decide +kernel
theorem dX7_findLeft_107 : decode cX7_findLeft 107 = .ok (.if_icmp .eq 61, 3) := by decide +kernel
theorem dX7_findLeft_110 : decode cX7_findLeft 110 = .ok (.aload_n 0, 1) := by decide +kernel
theorem dX7_findLeft_111 : decode cX7_findLeft 111 = .ok (.getfield 49, 3) := by decide +kernel
theorem dX7_findLeft_114 : decode cX7_findLeft 114 = .ok (.iload 7, 2) := by decide +kernel
theorem dX7_findLeft_116 : decode cX7_findLeft 116 = .ok (.iaload, 1) := by decide +kernel
theorem dX7_findLeft_117 : decode cX7_findLeft 117 = .ok (.aload_n 0, 1) := by decide +kernel
theorem dX7_findLeft_118 : decode cX7_findLeft 118 = .ok (.iload 6, 2) := by decide +kernel
theorem dX7_findLeft_120 : decode cX7_findLeft 120 = .ok (.iload 5, 2) := by decide +kernel
theorem dX7_findLeft_122 : decode cX7_findLeft 122 = .ok (.iconst 4, 1) := by decide +kernel
theorem dX7_findLeft_123 : decode cX7_findLeft 123 = .ok (.irem, 1) := by decide +kernel
theorem dX7_findLeft_124 : decode cX7_findLeft 124 = .ok (.iload_n 3, 1) := by decide +kernel
theorem dX7_findLeft_125 : decode cX7_findLeft 125 = .ok (.invokevirtual 191, 3) := by decide +kernel
theorem dX7_findLeft_128 : decode cX7_findLeft 128 = .ok (.iadd, 1) := by decide +kernel
theorem dX7_findLeft_129 : decode cX7_findLeft 129 = .ok (.aload_n 0, 1) := by decide +kernel
theorem dX7_findLeft_130 : decode cX7_findLeft 130 = .ok (.getfield 49, 3) := by decide +kernel
theorem dX7_findLeft_133 : decode cX7_findLeft 133 = .ok (.iload 6, 2) := by decide +kernel
theorem dX7_findLeft_135 : decode cX7_findLeft 135 = .ok (.iaload, 1) := by decide +kernel
theorem dX7_findLeft_136 : decode cX7_findLeft 136 = .ok (.if_icmp .ge 32, 3) := by decide +kernel
theorem dX7_findLeft_139 : decode cX7_findLeft 139 = .ok (.aload_n 0, 1) := by decide +kernel
theorem dX7_findLeft_140 : decode cX7_findLeft 140 = .ok (.getfield 49, 3) := by decide +kernel
theorem dX7_findLeft_143 : decode cX7_findLeft 143 = .ok (.iload 6, 2) := by decide +kernel
theorem dX7_findLeft_145 : decode cX7_findLeft 145 = .ok (.aload_n 0, 1) := by decide +kernel
theorem dX7_findLeft_146 : decode cX7_findLeft 146 = .ok (.getfield 49, 3) := by decide +kernel
theorem dX7_findLeft_149 : decode cX7_findLeft 149 = .ok (.iload 7, 2) := by decide +kernel
theorem dX7_findLeft_151 : decode cX7_findLeft 151 = .ok (.iaload, 1) := by decide +kernel
theorem dX7_findLeft_152 : decode cX7_findLeft 152 = .ok (.aload_n 0, 1) := by decide +kernel
theorem dX7_findLeft_153 : decode cX7_findLeft 153 = .ok (.iload 6, 2) := by decide +kernel
theorem dX7_findLeft_155 : decode cX7_findLeft 155 = .ok (.iload 5, 2) := by decide +kernel
theorem dX7_findLeft_157 : decode cX7_findLeft 157 = .ok (.iconst 4, 1) := by decide +kernel
theorem dX7_findLeft_158 : decode cX7_findLeft 158 = .ok (.irem, 1) := by decide +kernel
theorem dX7_findLeft_159 : decode cX7_findLeft 159 = .ok (.iload_n 3, 1) := by decide +kernel
theorem dX7_findLeft_160 : decode cX7_findLeft 160 = .ok (.invokevirtual 191, 3) := by decide +kernel
theorem dX7_findLeft_163 : decode cX7_findLeft 163 = .ok (.iadd, 1) := by decide +kernel
theorem dX7_findLeft_164 : decode cX7_findLeft 164 = .ok (.iastore, 1) := by decide +kernel
theorem dX7_findLeft_165 : decode cX7_findLeft 165 = .ok (.iconst 1, 1) := by decide +kernel
theorem dX7_findLeft_166 : decode cX7_findLeft 166 = .ok (.istore 4, 2) := by decide +kernel
theorem dX7_findLeft_168 : decode cX7_findLeft 168 = .ok (.iinc 5 1, 3) := by decide +kernel
theorem dX7_findLeft_171 : decode cX7_findLeft 171 = .ok (.goto (-108), 3) := by decide +kernel
theorem dX7_findLeft_174 : decode cX7_findLeft 174 = .ok (.goto (-122), 3) := by decide +kernel
theorem dX7_findLeft_177 : decode cX7_findLeft 177 = .ok (.return_, 1) := by decide +kernel
theorem dX7_firstRequest_0 : decode cX7_firstRequest 0 = .ok (.iconst 0, 1) := by decide +kernel
theorem dX7_firstRequest_1 : decode cX7_firstRequest 1 = .ok (.istore_n 3, 1) := by decide +kernel
theorem dX7_firstRequest_2 : decode cX7_firstRequest 2 = .ok (.aload_n 0, 1) := by decide +kernel
theorem dX7_firstRequest_3 : decode cX7_firstRequest 3 = .ok (.iload_n 1, 1) := by decide +kernel
theorem dX7_firstRequest_4 : decode cX7_firstRequest 4 = .ok (.iload_n 3, 1) := by decide +kernel
theorem dX7_firstRequest_5 : decode cX7_firstRequest 5 = .ok (.invokevirtual 175, 3) := by decide +kernel
theorem dX7_firstRequest_8 : decode cX7_firstRequest 8 = .ok (.bipush (-9), 2) := by decide +kernel
theorem dX7_firstRequest_10 : decode cX7_firstRequest 10 = .ok (.if_icmp .eq 31, 3) := by decide +kernel
theorem dX7_firstRequest_13 : decode cX7_firstRequest 13 = .ok (.aload_n 0, 1) := by decide +kernel
theorem dX7_firstRequest_14 : decode cX7_firstRequest 14 = .ok (.getfield 49, 3) := by decide +kernel
theorem dX7_firstRequest_17 : decode cX7_firstRequest 17 = .ok (.aload_n 0, 1) := by decide +kernel
theorem dX7_firstRequest_18 : decode cX7_firstRequest 18 = .ok (.iload_n 1, 1) := by decide +kernel
theorem dX7_firstRequest_19 : decode cX7_firstRequest 19 = .ok (.iload_n 3, 1) := by decide +kernel
theorem dX7_firstRequest_20 : decode cX7_firstRequest 20 = .ok (.invokevirtual 175, 3) := by decide +kernel
theorem dX7_firstRequest_23 : decode cX7_firstRequest 23 = .ok (.iaload, 1) := by decide +kernel
theorem dX7_firstRequest_24 : decode cX7_firstRequest 24 = .ok (.aload_n 0, 1) := by decide +kernel
theorem dX7_firstRequest_25 : decode cX7_firstRequest 25 = .ok (.iload_n 1, 1) := by decide +kernel
theorem dX7_firstRequest_26 : decode cX7_firstRequest 26 = .ok (.iload_n 3, 1) := by decide +kernel
theorem dX7_firstRequest_27 : decode cX7_firstRequest 27 = .ok (.iload_n 2, 1) := by decide +kernel
theorem dX7_firstRequest_28 : decode cX7_firstRequest 28 = .ok (.invokevirtual 191, 3) := by decide +kernel
theorem dX7_firstRequest_31 : decode cX7_firstRequest 31 = .ok (.iadd, 1) := by decide +kernel
theorem dX7_firstRequest_32 : decode cX7_firstRequest 32 = .ok (.aload_n 0, 1) := by decide +kernel
theorem dX7_firstRequest_33 : decode cX7_firstRequest 33 = .ok (.getfield 49, 3) := by decide +kernel
theorem dX7_firstRequest_36 : decode cX7_firstRequest 36 = .ok (.iload_n 1, 1) := by decide +kernel
theorem dX7_firstRequest_37 : decode cX7_firstRequest 37 = .ok (.iaload, 1) := by decide +kernel
theorem dX7_firstRequest_38 : decode cX7_firstRequest 38 = .ok (.if_icmp .eq 9, 3) := by decide +kernel
theorem dX7_firstRequest_41 : decode cX7_firstRequest 41 = .ok (.iinc 3 1, 3) := by decide +kernel
theorem dX7_firstRequest_44 : decode cX7_firstRequest 44 = .ok (.goto (-42), 3) := by decide +kernel
theorem dX7_firstRequest_47 : decode cX7_firstRequest 47 = .ok (.iload_n 3, 1) := by decide +kernel
theorem dX7_firstRequest_48 : decode cX7_firstRequest 48 = .ok (.ireturn, 1) := by decide +kernel
theorem dX7_requestOf_0 : decode cX7_requestOf 0 = .ok (.aload_n 0, 1) := by decide +kernel
theorem dX7_requestOf_1 : decode cX7_requestOf 1 = .ok (.invokevirtual 171, 3) := by decide +kernel
theorem dX7_requestOf_4 : decode cX7_requestOf 4 = .ok (.istore_n 3, 1) := by decide +kernel
theorem dX7_requestOf_5 : decode cX7_requestOf 5 = .ok (.bipush (-9), 2) := by decide +kernel
theorem dX7_requestOf_7 : decode cX7_requestOf 7 = .ok (.istore 4, 2) := by decide +kernel
theorem dX7_requestOf_9 : decode cX7_requestOf 9 = .ok (.iconst 0, 1) := by decide +kernel
theorem dX7_requestOf_10 : decode cX7_requestOf 10 = .ok (.istore 5, 2) := by decide +kernel
theorem dX7_requestOf_12 : decode cX7_requestOf 12 = .ok (.iload 5, 2) := by decide +kernel
theorem dX7_requestOf_14 : decode cX7_requestOf 14 = .ok (.iload_n 1, 1) := by decide +kernel
theorem dX7_requestOf_15 : decode cX7_requestOf 15 = .ok (.if_icmp .gt 50, 3) := by decide +kernel
theorem dX7_requestOf_18 : decode cX7_requestOf 18 = .ok (.aload_n 0, 1) := by decide +kernel
theorem dX7_requestOf_19 : decode cX7_requestOf 19 = .ok (.getfield 49, 3) := by decide +kernel
theorem dX7_requestOf_22 : decode cX7_requestOf 22 = .ok (.iload_n 3, 1) := by decide +kernel
theorem dX7_requestOf_23 : decode cX7_requestOf 23 = .ok (.iaload, 1) := by decide +kernel
theorem dX7_requestOf_24 : decode cX7_requestOf 24 = .ok (.ifCond .ne 8, 3) := by decide +kernel
theorem dX7_requestOf_27 : decode cX7_requestOf 27 = .ok (.bipush (-9), 2) := by decide +kernel
theorem dX7_requestOf_29 : decode cX7_requestOf 29 = .ok (.goto 9, 3) := by decide +kernel
theorem dX7_requestOf_32 : decode cX7_requestOf 32 = .ok (.aload_n 0, 1) := by decide +kernel
theorem dX7_requestOf_33 : decode cX7_requestOf 33 = .ok (.iload_n 3, 1) := by decide +kernel
theorem dX7_requestOf_34 : decode cX7_requestOf 34 = .ok (.iload_n 2, 1) := by decide +kernel
theorem dX7_requestOf_35 : decode cX7_requestOf 35 = .ok (.invokevirtual 194, 3) := by decide +kernel
theorem dX7_requestOf_38 : decode cX7_requestOf 38 = .ok (.istore 4, 2) := by decide +kernel
theorem dX7_requestOf_40 : decode cX7_requestOf 40 = .ok (.iload 4, 2) := by decide +kernel
theorem dX7_requestOf_42 : decode cX7_requestOf 42 = .ok (.bipush (-9), 2) := by decide +kernel
theorem dX7_requestOf_44 : decode cX7_requestOf 44 = .ok (.if_icmp .ne 7, 3) := by decide +kernel
theorem dX7_requestOf_47 : decode cX7_requestOf 47 = .ok (.iload_n 3, 1) := by decide +kernel
theorem dX7_requestOf_48 : decode cX7_requestOf 48 = .ok (.goto 10, 3) := by decide +kernel
theorem dX7_requestOf_51 : decode cX7_requestOf 51 = .ok (.aload_n 0, 1) := by decide +kernel
theorem dX7_requestOf_52 : decode cX7_requestOf 52 = .ok (.iload_n 3, 1) := by decide +kernel
theorem dX7_requestOf_53 : decode cX7_requestOf 53 = .ok (.iload 4, 2) := by decide +kernel
theorem dX7_requestOf_55 : decode cX7_requestOf 55 = .ok (.invokevirtual 175, 3) := by decide +kernel
theorem dX7_requestOf_58 : decode cX7_requestOf 58 = .ok (.istore_n 3, 1) := by decide +kernel
theorem dX7_requestOf_59 : decode cX7_requestOf 59 = .ok (.iinc 5 1, 3) := by decide +kernel
theorem dX7_requestOf_62 : decode cX7_requestOf 62 = .ok (.goto (-50), 3) := by decide +kernel
theorem dX7_requestOf_65 : decode cX7_requestOf 65 = .ok (.iload 4, 2) := by decide +kernel
theorem dX7_requestOf_67 : decode cX7_requestOf 67 = .ok (.ireturn, 1) := by decide +kernel
theorem dX7_ask_0 : decode cX7_ask 0 = .ok (.aload_n 0, 1) := by decide +kernel
theorem dX7_ask_1 : decode cX7_ask 1 = .ok (.iload_n 1, 1) := by decide +kernel
theorem dX7_ask_2 : decode cX7_ask 2 = .ok (.invokevirtual 159, 3) := by decide +kernel
theorem dX7_ask_5 : decode cX7_ask 5 = .ok (.ifCond .eq 10, 3) := by decide +kernel
theorem dX7_ask_8 : decode cX7_ask 8 = .ok (.iload_n 2, 1) := by decide +kernel
theorem dX7_ask_9 : decode cX7_ask 9 = .ok (.invokestatic 162, 3) := by decide +kernel
theorem dX7_ask_12 : decode cX7_ask 12 = .ok (.ifCond .ne 5, 3) := by decide +kernel
theorem dX7_ask_15 : decode cX7_ask 15 = .ok (.iconst (-1), 1) := by decide +kernel
theorem dX7_ask_16 : decode cX7_ask 16 = .ok (.ireturn, 1) := by decide +kernel
theorem dX7_ask_17 : decode cX7_ask 17 = .ok (.iload_n 3, 1) := by decide +kernel
theorem dX7_ask_18 : decode cX7_ask 18 = .ok (.bipush (-2), 2) := by decide +kernel
theorem dX7_ask_20 : decode cX7_ask 20 = .ok (.bipush 15, 2) := by decide +kernel
theorem dX7_ask_22 : decode cX7_ask 22 = .ok (.invokestatic 74, 3) := by decide +kernel
theorem dX7_ask_25 : decode cX7_ask 25 = .ok (.ifCond .ne 6, 3) := by decide +kernel
theorem dX7_ask_28 : decode cX7_ask 28 = .ok (.bipush (-2), 2) := by decide +kernel
theorem dX7_ask_30 : decode cX7_ask 30 = .ok (.ireturn, 1) := by decide +kernel
theorem dX7_ask_31 : decode cX7_ask 31 = .ok (.aload_n 0, 1) := by decide +kernel
theorem dX7_ask_32 : decode cX7_ask 32 = .ok (.iload_n 1, 1) := by decide +kernel
theorem dX7_ask_33 : decode cX7_ask 33 = .ok (.iload_n 2, 1) := by decide +kernel
theorem dX7_ask_34 : decode cX7_ask 34 = .ok (.bipush 100, 2) := by decide +kernel
theorem dX7_ask_36 : decode cX7_ask 36 = .ok (.invokevirtual 197, 3) := by decide +kernel
theorem dX7_ask_39 : decode cX7_ask 39 = .ok (.aload_n 0, 1) := by decide +kernel
theorem dX7_ask_40 : decode cX7_ask 40 = .ok (.getfield 49, 3) := by decide +kernel
theorem dX7_ask_43 : decode cX7_ask 43 = .ok (.aload_n 0, 1) := by decide +kernel
theorem dX7_ask_44 : decode cX7_ask 44 = .ok (.invokevirtual 171, 3) := by decide +kernel
theorem dX7_ask_47 : decode cX7_ask 47 = .ok (.iaload, 1) := by decide +kernel
theorem dX7_ask_48 : decode cX7_ask 48 = .ok (.istore 4, 2) := by decide +kernel
theorem dX7_ask_50 : decode cX7_ask 50 = .ok (.iload 4, 2) := by decide +kernel
theorem dX7_ask_52 : decode cX7_ask 52 = .ok (.ldc 190, 2) := by decide +kernel
theorem dX7_ask_54 : decode cX7_ask 54 = .ok (.if_icmp .lt 6, 3) := by decide +kernel
theorem dX7_ask_57 : decode cX7_ask 57 = .ok (.bipush (-9), 2) := by decide +kernel
theorem dX7_ask_59 : decode cX7_ask 59 = .ok (.ireturn, 1) := by decide +kernel
theorem dX7_ask_60 : decode cX7_ask 60 = .ok (.iload_n 3, 1) := by decide +kernel
theorem dX7_ask_61 : decode cX7_ask 61 = .ok (.bipush (-2), 2) := by decide +kernel
theorem dX7_ask_63 : decode cX7_ask 63 = .ok (.if_icmp .ne 11, 3) := by decide +kernel
theorem dX7_ask_66 : decode cX7_ask 66 = .ok (.iload 4, 2) := by decide +kernel
theorem dX7_ask_68 : decode cX7_ask 68 = .ok (.bipush 100, 2) := by decide +kernel
theorem dX7_ask_70 : decode cX7_ask 70 = .ok (.idiv, 1) := by decide +kernel
theorem dX7_ask_71 : decode cX7_ask 71 = .ok (.goto 23, 3) := by decide +kernel
theorem dX7_ask_74 : decode cX7_ask 74 = .ok (.iload_n 3, 1) := by decide +kernel
theorem dX7_ask_75 : decode cX7_ask 75 = .ok (.iconst (-1), 1) := by decide +kernel
theorem dX7_ask_76 : decode cX7_ask 76 = .ok (.if_icmp .ne 11, 3) := by decide +kernel
theorem dX7_ask_79 : decode cX7_ask 79 = .ok (.iload 4, 2) := by decide +kernel
theorem dX7_ask_81 : decode cX7_ask 81 = .ok (.bipush 100, 2) := by decide +kernel
theorem dX7_ask_83 : decode cX7_ask 83 = .ok (.irem, 1) := by decide +kernel
theorem dX7_ask_84 : decode cX7_ask 84 = .ok (.goto 10, 3) := by decide +kernel
theorem dX7_ask_87 : decode cX7_ask 87 = .ok (.aload_n 0, 1) := by decide +kernel
theorem dX7_ask_88 : decode cX7_ask 88 = .ok (.iload_n 3, 1) := by decide +kernel
theorem dX7_ask_89 : decode cX7_ask 89 = .ok (.bipush 100, 2) := by decide +kernel
theorem dX7_ask_91 : decode cX7_ask 91 = .ok (.invokevirtual 201, 3) := by decide +kernel
theorem dX7_ask_94 : decode cX7_ask 94 = .ok (.ireturn, 1) := by decide +kernel
theorem dX7_treaty_0 : decode cX7_treaty 0 = .ok (.iload_n 1, 1) := by decide +kernel
theorem dX7_treaty_1 : decode cX7_treaty 1 = .ok (.iconst (-1), 1) := by decide +kernel
theorem dX7_treaty_2 : decode cX7_treaty 2 = .ok (.bipush 15, 2) := by decide +kernel
theorem dX7_treaty_4 : decode cX7_treaty 4 = .ok (.invokestatic 74, 3) := by decide +kernel
theorem dX7_treaty_7 : decode cX7_treaty 7 = .ok (.ifCond .ne 6, 3) := by decide +kernel
theorem dX7_treaty_10 : decode cX7_treaty 10 = .ok (.bipush (-2), 2) := by decide +kernel
theorem dX7_treaty_12 : decode cX7_treaty 12 = .ok (.ireturn, 1) := by decide +kernel
theorem dX7_treaty_13 : decode cX7_treaty 13 = .ok (.aload_n 0, 1) := by decide +kernel
theorem dX7_treaty_14 : decode cX7_treaty 14 = .ok (.getfield 78, 3) := by decide +kernel
theorem dX7_treaty_17 : decode cX7_treaty 17 = .ok (.ifCond .ne 6, 3) := by decide +kernel
theorem dX7_treaty_20 : decode cX7_treaty 20 = .ok (.bipush (-3), 2) := by decide +kernel
theorem dX7_treaty_22 : decode cX7_treaty 22 = .ok (.ireturn, 1) := by decide +kernel
theorem dX7_treaty_23 : decode cX7_treaty 23 = .ok (.aload_n 0, 1) := by decide +kernel
theorem dX7_treaty_24 : decode cX7_treaty 24 = .ok (.bipush (-9), 2) := by decide +kernel
theorem dX7_treaty_26 : decode cX7_treaty 26 = .ok (.bipush (-9), 2) := by decide +kernel
theorem dX7_treaty_28 : decode cX7_treaty 28 = .ok (.iconst 0, 1) := by decide +kernel
theorem dX7_treaty_29 : decode cX7_treaty 29 = .ok (.invokevirtual 197, 3) := by decide +kernel
theorem dX7_treaty_32 : decode cX7_treaty 32 = .ok (.aload_n 0, 1) := by decide +kernel
theorem dX7_treaty_33 : decode cX7_treaty 33 = .ok (.getfield 49, 3) := by decide +kernel
theorem dX7_treaty_36 : decode cX7_treaty 36 = .ok (.aload_n 0, 1) := by decide +kernel
theorem dX7_treaty_37 : decode cX7_treaty 37 = .ok (.invokevirtual 171, 3) := by decide +kernel
theorem dX7_treaty_40 : decode cX7_treaty 40 = .ok (.iaload, 1) := by decide +kernel
theorem dX7_treaty_41 : decode cX7_treaty 41 = .ok (.istore_n 2, 1) := by decide +kernel
theorem dX7_treaty_42 : decode cX7_treaty 42 = .ok (.iload_n 2, 1) := by decide +kernel
theorem dX7_treaty_43 : decode cX7_treaty 43 = .ok (.ldc 190, 2) := by decide +kernel
theorem dX7_treaty_45 : decode cX7_treaty 45 = .ok (.if_icmp .lt 6, 3) := by decide +kernel
theorem dX7_treaty_48 : decode cX7_treaty 48 = .ok (.bipush (-9), 2) := by decide +kernel
theorem dX7_treaty_50 : decode cX7_treaty 50 = .ok (.ireturn, 1) := by decide +kernel
theorem dX7_treaty_51 : decode cX7_treaty 51 = .ok (.iload_n 1, 1) := by decide +kernel
theorem dX7_treaty_52 : decode cX7_treaty 52 = .ok (.iconst (-1), 1) := by decide +kernel
theorem dX7_treaty_53 : decode cX7_treaty 53 = .ok (.if_icmp .ne 7, 3) := by decide +kernel
theorem dX7_treaty_56 : decode cX7_treaty 56 = .ok (.iload_n 2, 1) := by decide +kernel
theorem dX7_treaty_57 : decode cX7_treaty 57 = .ok (.goto 9, 3) := by decide +kernel
theorem dX7_treaty_60 : decode cX7_treaty 60 = .ok (.aload_n 0, 1) := by decide +kernel
theorem dX7_treaty_61 : decode cX7_treaty 61 = .ok (.iload_n 1, 1) := by decide +kernel
theorem dX7_treaty_62 : decode cX7_treaty 62 = .ok (.iconst 0, 1) := by decide +kernel
theorem dX7_treaty_63 : decode cX7_treaty 63 = .ok (.invokevirtual 201, 3) := by decide +kernel
theorem dX7_treaty_66 : decode cX7_treaty 66 = .ok (.ireturn, 1) := by decide +kernel
theorem dX7_behindRow_0 : decode cX7_behindRow 0 = .ok (.iconst 1, 1) := by decide +kernel
theorem dX7_behindRow_1 : decode cX7_behindRow 1 = .ok (.istore_n 3, 1) := by decide +kernel
theorem dX7_behindRow_2 : decode cX7_behindRow 2 = .ok (.iconst 1, 1) := by decide +kernel
theorem dX7_behindRow_3 : decode cX7_behindRow 3 = .ok (.istore 4, 2) := by decide +kernel
theorem dX7_behindRow_5 : decode cX7_behindRow 5 = .ok (.iload 4, 2) := by decide +kernel
theorem dX7_behindRow_7 : decode cX7_behindRow 7 = .ok (.iload_n 2, 1) := by decide +kernel
theorem dX7_behindRow_8 : decode cX7_behindRow 8 = .ok (.if_icmp .ge 13, 3) := by decide +kernel
theorem dX7_behindRow_11 : decode cX7_behindRow 11 = .ok (.iload_n 3, 1) := by decide +kernel
theorem dX7_behindRow_12 : decode cX7_behindRow 12 = .ok (.iconst 4, 1) := by decide +kernel
theorem dX7_behindRow_13 : decode cX7_behindRow 13 = .ok (.imul, 1) := by decide +kernel
theorem dX7_behindRow_14 : decode cX7_behindRow 14 = .ok (.istore_n 3, 1) := by decide +kernel
theorem dX7_behindRow_15 : decode cX7_behindRow 15 = .ok (.iinc 4 1, 3) := by decide +kernel
theorem dX7_behindRow_18 : decode cX7_behindRow 18 = .ok (.goto (-13), 3) := by decide +kernel
theorem dX7_behindRow_21 : decode cX7_behindRow 21 = .ok (.aload_n 0, 1) := by decide +kernel
theorem dX7_behindRow_22 : decode cX7_behindRow 22 = .ok (.invokevirtual 171, 3) := by decide +kernel
theorem dX7_behindRow_25 : decode cX7_behindRow 25 = .ok (.istore 4, 2) := by decide +kernel
theorem dX7_behindRow_27 : decode cX7_behindRow 27 = .ok (.iconst 0, 1) := by decide +kernel
theorem dX7_behindRow_28 : decode cX7_behindRow 28 = .ok (.istore 5, 2) := by decide +kernel
theorem dX7_behindRow_30 : decode cX7_behindRow 30 = .ok (.iload 5, 2) := by decide +kernel
theorem dX7_behindRow_32 : decode cX7_behindRow 32 = .ok (.iload_n 2, 1) := by decide +kernel
theorem dX7_behindRow_33 : decode cX7_behindRow 33 = .ok (.if_icmp .ge 42, 3) := by decide +kernel
theorem dX7_behindRow_36 : decode cX7_behindRow 36 = .ok (.iload 4, 2) := by decide +kernel
theorem dX7_behindRow_38 : decode cX7_behindRow 38 = .ok (.bipush (-9), 2) := by decide +kernel
theorem dX7_behindRow_40 : decode cX7_behindRow 40 = .ok (.if_icmp .eq 35, 3) := by decide +kernel
theorem dX7_behindRow_43 : decode cX7_behindRow 43 = .ok (.aload_n 0, 1) := by decide +kernel
theorem dX7_behindRow_44 : decode cX7_behindRow 44 = .ok (.iload 4, 2) := by decide +kernel
theorem dX7_behindRow_46 : decode cX7_behindRow 46 = .ok (.iload_n 1, 1) := by decide +kernel
theorem dX7_behindRow_47 : decode cX7_behindRow 47 = .ok (.iload_n 3, 1) := by decide +kernel
theorem dX7_behindRow_48 : decode cX7_behindRow 48 = .ok (.idiv, 1) := by decide +kernel
theorem dX7_behindRow_49 : decode cX7_behindRow 49 = .ok (.iconst 4, 1) := by decide +kernel
theorem dX7_behindRow_50 : decode cX7_behindRow 50 = .ok (.irem, 1) := by decide +kernel
theorem dX7_behindRow_51 : decode cX7_behindRow 51 = .ok (.invokevirtual 175, 3) := by decide +kernel
theorem dX7_behindRow_54 : decode cX7_behindRow 54 = .ok (.istore 4, 2) := by decide +kernel
theorem dX7_behindRow_56 : decode cX7_behindRow 56 = .ok (.iload_n 3, 1) := by decide +kernel
theorem dX7_behindRow_57 : decode cX7_behindRow 57 = .ok (.iconst 1, 1) := by decide +kernel
theorem dX7_behindRow_58 : decode cX7_behindRow 58 = .ok (.if_icmp .le 9, 3) := by decide +kernel
theorem dX7_behindRow_61 : decode cX7_behindRow 61 = .ok (.iload_n 3, 1) := by decide +kernel
theorem dX7_behindRow_62 : decode cX7_behindRow 62 = .ok (.iconst 4, 1) := by decide +kernel
theorem dX7_behindRow_63 : decode cX7_behindRow 63 = .ok (.idiv, 1) := by decide +kernel
theorem dX7_behindRow_64 : decode cX7_behindRow 64 = .ok (.goto 4, 3) := by decide +kernel
theorem dX7_behindRow_67 : decode cX7_behindRow 67 = .ok (.iconst 1, 1) := by decide +kernel
theorem dX7_behindRow_68 : decode cX7_behindRow 68 = .ok (.istore_n 3, 1) := by decide +kernel
theorem dX7_behindRow_69 : decode cX7_behindRow 69 = .ok (.iinc 5 1, 3) := by decide +kernel
theorem dX7_behindRow_72 : decode cX7_behindRow 72 = .ok (.goto (-42), 3) := by decide +kernel
theorem dX7_behindRow_75 : decode cX7_behindRow 75 = .ok (.iload 4, 2) := by decide +kernel
theorem dX7_behindRow_77 : decode cX7_behindRow 77 = .ok (.ireturn, 1) := by decide +kernel
theorem dX7_findGame_0 : decode cX7_findGame 0 = .ok (.iconst 1, 1) := by decide +kernel
theorem dX7_findGame_1 : decode cX7_findGame 1 = .ok (.istore_n 3, 1) := by decide +kernel
theorem dX7_findGame_2 : decode cX7_findGame 2 = .ok (.iconst 0, 1) := by decide +kernel
theorem dX7_findGame_3 : decode cX7_findGame 3 = .ok (.istore 4, 2) := by decide +kernel
theorem dX7_findGame_5 : decode cX7_findGame 5 = .ok (.iload 4, 2) := by decide +kernel
theorem dX7_findGame_7 : decode cX7_findGame 7 = .ok (.iload_n 2, 1) := by decide +kernel
theorem dX7_findGame_8 : decode cX7_findGame 8 = .ok (.if_icmp .ge 13, 3) := by decide +kernel
theorem dX7_findGame_11 : decode cX7_findGame 11 = .ok (.iload_n 3, 1) := by decide +kernel
theorem dX7_findGame_12 : decode cX7_findGame 12 = .ok (.iconst 4, 1) := by decide +kernel
theorem dX7_findGame_13 : decode cX7_findGame 13 = .ok (.imul, 1) := by decide +kernel
theorem dX7_findGame_14 : decode cX7_findGame 14 = .ok (.istore_n 3, 1) := by decide +kernel
theorem dX7_findGame_15 : decode cX7_findGame 15 = .ok (.iinc 4 1, 3) := by decide +kernel
theorem dX7_findGame_18 : decode cX7_findGame 18 = .ok (.goto (-13), 3) := by decide +kernel
theorem dX7_findGame_21 : decode cX7_findGame 21 = .ok (.iconst 0, 1) := by decide +kernel
theorem dX7_findGame_22 : decode cX7_findGame 22 = .ok (.istore 4, 2) := by decide +kernel
theorem dX7_findGame_24 : decode cX7_findGame 24 = .ok (.iload 4, 2) := by decide +kernel
theorem dX7_findGame_26 : decode cX7_findGame 26 = .ok (.iload_n 3, 1) := by decide +kernel
theorem dX7_findGame_27 : decode cX7_findGame 27 = .ok (.if_icmp .ge 73, 3) := by decide +kernel
theorem dX7_findGame_30 : decode cX7_findGame 30 = .ok (.aload_n 0, 1) := by decide +kernel
theorem dX7_findGame_31 : decode cX7_findGame 31 = .ok (.iload 4, 2) := by decide +kernel
theorem dX7_findGame_33 : decode cX7_findGame 33 = .ok (.iload_n 2, 1) := by decide +kernel
theorem dX7_findGame_34 : decode cX7_findGame 34 = .ok (.invokevirtual 204, 3) := by decide +kernel
theorem dX7_findGame_37 : decode cX7_findGame 37 = .ok (.istore 5, 2) := by decide +kernel
theorem dX7_findGame_39 : decode cX7_findGame 39 = .ok (.aload_n 0, 1) := by decide +kernel
theorem dX7_findGame_40 : decode cX7_findGame 40 = .ok (.getfield 52, 3) := by decide +kernel
theorem dX7_findGame_43 : decode cX7_findGame 43 = .ok (.iload 4, 2) := by decide +kernel
theorem dX7_findGame_45 : decode cX7_findGame 45 = .ok (.iload 5, 2) := by decide +kernel
theorem dX7_findGame_47 : decode cX7_findGame 47 = .ok (.bipush (-9), 2) := by decide +kernel
theorem dX7_findGame_49 : decode cX7_findGame 49 = .ok (.if_icmp .ne 8, 3) := by decide +kernel
theorem dX7_findGame_52 : decode cX7_findGame 52 = .ok (.bipush (-9), 2) := by decide +kernel
theorem dX7_findGame_54 : decode cX7_findGame 54 = .ok (.goto 39, 3) := by decide +kernel
theorem dX7_findGame_57 : decode cX7_findGame 57 = .ok (.bipush 100, 2) := by decide +kernel
theorem dX7_findGame_59 : decode cX7_findGame 59 = .ok (.aload_n 0, 1) := by decide +kernel
theorem dX7_findGame_60 : decode cX7_findGame 60 = .ok (.iload_n 1, 1) := by decide +kernel
theorem dX7_findGame_61 : decode cX7_findGame 61 = .ok (.iload 5, 2) := by decide +kernel
theorem dX7_findGame_63 : decode cX7_findGame 63 = .ok (.bipush 8, 2) := by decide +kernel
theorem dX7_findGame_65 : decode cX7_findGame 65 = .ok (.idiv, 1) := by decide +kernel
theorem dX7_findGame_66 : decode cX7_findGame 66 = .ok (.iload 5, 2) := by decide +kernel
theorem dX7_findGame_68 : decode cX7_findGame 68 = .ok (.bipush 8, 2) := by decide +kernel
theorem dX7_findGame_70 : decode cX7_findGame 70 = .ok (.irem, 1) := by decide +kernel
theorem dX7_findGame_71 : decode cX7_findGame 71 = .ok (.invokevirtual 165, 3) := by decide +kernel
theorem dX7_findGame_74 : decode cX7_findGame 74 = .ok (.iadd, 1) := by decide +kernel
theorem dX7_findGame_75 : decode cX7_findGame 75 = .ok (.aload_n 0, 1) := by decide +kernel
theorem dX7_findGame_76 : decode cX7_findGame 76 = .ok (.iconst 1, 1) := by decide +kernel
theorem dX7_findGame_77 : decode cX7_findGame 77 = .ok (.iload_n 1, 1) := by decide +kernel
theorem dX7_findGame_78 : decode cX7_findGame 78 = .ok (.isub, 1) := by decide +kernel
theorem dX7_findGame_79 : decode cX7_findGame 79 = .ok (.iload 5, 2) := by decide +kernel
theorem dX7_findGame_81 : decode cX7_findGame 81 = .ok (.bipush 8, 2) := by decide +kernel
theorem dX7_findGame_83 : decode cX7_findGame 83 = .ok (.idiv, 1) := by decide +kernel
theorem dX7_findGame_84 : decode cX7_findGame 84 = .ok (.iload 5, 2) := by decide +kernel
theorem dX7_findGame_86 : decode cX7_findGame 86 = .ok (.bipush 8, 2) := by decide +kernel
theorem dX7_findGame_88 : decode cX7_findGame 88 = .ok (.irem, 1) := by decide +kernel
theorem dX7_findGame_89 : decode cX7_findGame 89 = .ok (.invokevirtual 165, 3) := by decide +kernel
theorem dX7_findGame_92 : decode cX7_findGame 92 = .ok (.isub, 1) := by decide +kernel
theorem dX7_findGame_93 : decode cX7_findGame 93 = .ok (.iastore, 1) := by decide +kernel
theorem dX7_findGame_94 : decode cX7_findGame 94 = .ok (.iinc 4 1, 3) := by decide +kernel
theorem dX7_findGame_97 : decode cX7_findGame 97 = .ok (.goto (-73), 3) := by decide +kernel
theorem dX7_findGame_100 : decode cX7_findGame 100 = .ok (.iload_n 2, 1) := by decide +kernel
theorem dX7_findGame_101 : decode cX7_findGame 101 = .ok (.iconst 1, 1) := by decide +kernel
theorem dX7_findGame_102 : decode cX7_findGame 102 = .ok (.isub, 1) := by decide +kernel
theorem dX7_findGame_103 : decode cX7_findGame 103 = .ok (.istore 4, 2) := by decide +kernel
theorem dX7_findGame_105 : decode cX7_findGame 105 = .ok (.iload 4, 2) := by decide +kernel
theorem dX7_findGame_107 : decode cX7_findGame 107 = .ok (.ifCond .lt 53, 3) := by decide +kernel
theorem dX7_findGame_110 : decode cX7_findGame 110 = .ok (.iload_n 3, 1) := by decide +kernel
theorem dX7_findGame_111 : decode cX7_findGame 111 = .ok (.iconst 4, 1) := by decide +kernel
theorem dX7_findGame_112 : decode cX7_findGame 112 = .ok (.idiv, 1) := by decide +kernel
theorem dX7_findGame_113 : decode cX7_findGame 113 = .ok (.istore_n 3, 1) := by decide +kernel
theorem dX7_findGame_114 : decode cX7_findGame 114 = .ok (.iconst 0, 1) := by decide +kernel
theorem dX7_findGame_115 : decode cX7_findGame 115 = .ok (.istore 5, 2) := by decide +kernel
theorem dX7_findGame_117 : decode cX7_findGame 117 = .ok (.iload 5, 2) := by decide +kernel
theorem dX7_findGame_119 : decode cX7_findGame 119 = .ok (.iload_n 3, 1) := by decide +kernel
theorem dX7_findGame_120 : decode cX7_findGame 120 = .ok (.if_icmp .ge 34, 3) := by decide +kernel
theorem dX7_findGame_123 : decode cX7_findGame 123 = .ok (.aload_n 0, 1) := by decide +kernel
theorem dX7_findGame_124 : decode cX7_findGame 124 = .ok (.getfield 52, 3) := by decide +kernel
theorem dX7_findGame_127 : decode cX7_findGame 127 = .ok (.iload 5, 2) := by decide +kernel
theorem dX7_findGame_129 : decode cX7_findGame 129 = .ok (.aload_n 0, 1) := by decide +kernel
theorem dX7_findGame_130 : decode cX7_findGame 130 = .ok (.iload 5, 2) := by decide +kernel
theorem dX7_findGame_132 : decode cX7_findGame 132 = .ok (.iload 4, 2) := by decide +kernel
theorem dX7_findGame_134 : decode cX7_findGame 134 = .ok (.iconst 2, 1) := by decide +kernel
theorem dX7_findGame_135 : decode cX7_findGame 135 = .ok (.irem, 1) := by decide +kernel
theorem dX7_findGame_136 : decode cX7_findGame 136 = .ok (.ifCond .ne 7, 3) := by decide +kernel
theorem dX7_findGame_139 : decode cX7_findGame 139 = .ok (.iconst 1, 1) := by decide +kernel
theorem dX7_findGame_140 : decode cX7_findGame 140 = .ok (.goto 4, 3) := by decide +kernel
theorem dX7_findGame_143 : decode cX7_findGame 143 = .ok (.iconst 0, 1) := by decide +kernel
theorem dX7_findGame_144 : decode cX7_findGame 144 = .ok (.invokevirtual 207, 3) := by decide +kernel
theorem dX7_findGame_147 : decode cX7_findGame 147 = .ok (.iastore, 1) := by decide +kernel
theorem dX7_findGame_148 : decode cX7_findGame 148 = .ok (.iinc 5 1, 3) := by decide +kernel
theorem dX7_findGame_151 : decode cX7_findGame 151 = .ok (.goto (-34), 3) := by decide +kernel
theorem dX7_findGame_154 : decode cX7_findGame 154 = .ok (.iinc 4 (-1), 3) := by decide +kernel
theorem dX7_findGame_157 : decode cX7_findGame 157 = .ok (.goto (-52), 3) := by decide +kernel
theorem dX7_findGame_160 : decode cX7_findGame 160 = .ok (.return_, 1) := by decide +kernel
theorem dX7_bestOf_0 : decode cX7_bestOf 0 = .ok (.bipush (-9), 2) := by decide +kernel
theorem dX7_bestOf_2 : decode cX7_bestOf 2 = .ok (.istore_n 3, 1) := by decide +kernel
theorem dX7_bestOf_3 : decode cX7_bestOf 3 = .ok (.iconst 0, 1) := by decide +kernel
theorem dX7_bestOf_4 : decode cX7_bestOf 4 = .ok (.istore 4, 2) := by decide +kernel
theorem dX7_bestOf_6 : decode cX7_bestOf 6 = .ok (.iload 4, 2) := by decide +kernel
theorem dX7_bestOf_8 : decode cX7_bestOf 8 = .ok (.iconst 4, 1) := by decide +kernel
theorem dX7_bestOf_9 : decode cX7_bestOf 9 = .ok (.if_icmp .ge 63, 3) := by decide +kernel
theorem dX7_bestOf_12 : decode cX7_bestOf 12 = .ok (.aload_n 0, 1) := by decide +kernel
theorem dX7_bestOf_13 : decode cX7_bestOf 13 = .ok (.getfield 52, 3) := by decide +kernel
theorem dX7_bestOf_16 : decode cX7_bestOf 16 = .ok (.iconst 4, 1) := by decide +kernel
theorem dX7_bestOf_17 : decode cX7_bestOf 17 = .ok (.iload_n 1, 1) := by decide +kernel
theorem dX7_bestOf_18 : decode cX7_bestOf 18 = .ok (.imul, 1) := by decide +kernel
theorem dX7_bestOf_19 : decode cX7_bestOf 19 = .ok (.iload 4, 2) := by decide +kernel
theorem dX7_bestOf_21 : decode cX7_bestOf 21 = .ok (.iadd, 1) := by decide +kernel
theorem dX7_bestOf_22 : decode cX7_bestOf 22 = .ok (.iaload, 1) := by decide +kernel
theorem dX7_bestOf_23 : decode cX7_bestOf 23 = .ok (.istore 5, 2) := by decide +kernel
theorem dX7_bestOf_25 : decode cX7_bestOf 25 = .ok (.iload 5, 2) := by decide +kernel
theorem dX7_bestOf_27 : decode cX7_bestOf 27 = .ok (.bipush (-9), 2) := by decide +kernel
theorem dX7_bestOf_29 : decode cX7_bestOf 29 = .ok (.if_icmp .eq 37, 3) := by decide +kernel
theorem dX7_bestOf_32 : decode cX7_bestOf 32 = .ok (.iload_n 3, 1) := by decide +kernel
theorem dX7_bestOf_33 : decode cX7_bestOf 33 = .ok (.bipush (-9), 2) := by decide +kernel
theorem dX7_bestOf_35 : decode cX7_bestOf 35 = .ok (.if_icmp .eq 22, 3) := by decide +kernel
theorem dX7_bestOf_38 : decode cX7_bestOf 38 = .ok (.iload_n 2, 1) := by decide +kernel
theorem dX7_bestOf_39 : decode cX7_bestOf 39 = .ok (.ifCond .eq 12, 3) := by decide +kernel
theorem dX7_bestOf_42 : decode cX7_bestOf 42 = .ok (.iload 5, 2) := by decide +kernel
theorem dX7_bestOf_44 : decode cX7_bestOf 44 = .ok (.iload_n 3, 1) := by decide +kernel
theorem dX7_bestOf_45 : decode cX7_bestOf 45 = .ok (.if_icmp .le 21, 3) := by decide +kernel
theorem dX7_bestOf_48 : decode cX7_bestOf 48 = .ok (.goto 9, 3) := by decide +kernel
theorem dX7_bestOf_51 : decode cX7_bestOf 51 = .ok (.iload 5, 2) := by decide +kernel
theorem dX7_bestOf_53 : decode cX7_bestOf 53 = .ok (.iload_n 3, 1) := by decide +kernel
theorem dX7_bestOf_54 : decode cX7_bestOf 54 = .ok (.if_icmp .ge 12, 3) := by decide +kernel
theorem dX7_bestOf_57 : decode cX7_bestOf 57 = .ok (.iload 5, 2) := by decide +kernel
theorem dX7_bestOf_59 : decode cX7_bestOf 59 = .ok (.istore_n 3, 1) := by decide +kernel
theorem dX7_bestOf_60 : decode cX7_bestOf 60 = .ok (.aload_n 0, 1) := by decide +kernel
theorem dX7_bestOf_61 : decode cX7_bestOf 61 = .ok (.iload 4, 2) := by decide +kernel
theorem dX7_bestOf_63 : decode cX7_bestOf 63 = .ok (.putfield 211, 3) := by decide +kernel
theorem dX7_bestOf_66 : decode cX7_bestOf 66 = .ok (.iinc 4 1, 3) := by decide +kernel
theorem dX7_bestOf_69 : decode cX7_bestOf 69 = .ok (.goto (-63), 3) := by decide +kernel
theorem dX7_bestOf_72 : decode cX7_bestOf 72 = .ok (.iload_n 3, 1) := by decide +kernel
theorem dX7_bestOf_73 : decode cX7_bestOf 73 = .ok (.ireturn, 1) := by decide +kernel
theorem dX7_game_0 : decode cX7_game 0 = .ok (.iload_n 1, 1) := by decide +kernel
theorem dX7_game_1 : decode cX7_game 1 = .ok (.invokestatic 162, 3) := by decide +kernel
theorem dX7_game_4 : decode cX7_game 4 = .ok (.ifCond .ne 5, 3) := by decide +kernel
theorem dX7_game_7 : decode cX7_game 7 = .ok (.iconst (-1), 1) := by decide +kernel
theorem dX7_game_8 : decode cX7_game 8 = .ok (.ireturn, 1) := by decide +kernel
theorem dX7_game_9 : decode cX7_game 9 = .ok (.iload_n 2, 1) := by decide +kernel
theorem dX7_game_10 : decode cX7_game 10 = .ok (.iconst 1, 1) := by decide +kernel
theorem dX7_game_11 : decode cX7_game 11 = .ok (.iconst 4, 1) := by decide +kernel
theorem dX7_game_12 : decode cX7_game 12 = .ok (.invokestatic 74, 3) := by decide +kernel
theorem dX7_game_15 : decode cX7_game 15 = .ok (.ifCond .eq 12, 3) := by decide +kernel
theorem dX7_game_18 : decode cX7_game 18 = .ok (.iload_n 3, 1) := by decide +kernel
theorem dX7_game_19 : decode cX7_game 19 = .ok (.iconst 0, 1) := by decide +kernel
theorem dX7_game_20 : decode cX7_game 20 = .ok (.iconst 1, 1) := by decide +kernel
theorem dX7_game_21 : decode cX7_game 21 = .ok (.invokestatic 74, 3) := by decide +kernel
theorem dX7_game_24 : decode cX7_game 24 = .ok (.ifCond .ne 6, 3) := by decide +kernel
theorem dX7_game_27 : decode cX7_game 27 = .ok (.bipush (-2), 2) := by decide +kernel
theorem dX7_game_29 : decode cX7_game 29 = .ok (.ireturn, 1) := by decide +kernel
theorem dX7_game_30 : decode cX7_game 30 = .ok (.aload_n 0, 1) := by decide +kernel
theorem dX7_game_31 : decode cX7_game 31 = .ok (.getfield 78, 3) := by decide +kernel
theorem dX7_game_34 : decode cX7_game 34 = .ok (.ifCond .ne 6, 3) := by decide +kernel
theorem dX7_game_37 : decode cX7_game 37 = .ok (.bipush (-3), 2) := by decide +kernel
theorem dX7_game_39 : decode cX7_game 39 = .ok (.ireturn, 1) := by decide +kernel
theorem dX7_game_40 : decode cX7_game 40 = .ok (.aload_n 0, 1) := by decide +kernel
theorem dX7_game_41 : decode cX7_game 41 = .ok (.iload_n 1, 1) := by decide +kernel
theorem dX7_game_42 : decode cX7_game 42 = .ok (.iload_n 2, 1) := by decide +kernel
theorem dX7_game_43 : decode cX7_game 43 = .ok (.invokevirtual 214, 3) := by decide +kernel
theorem dX7_game_46 : decode cX7_game 46 = .ok (.iload_n 3, 1) := by decide +kernel
theorem dX7_game_47 : decode cX7_game 47 = .ok (.ifCond .ne 12, 3) := by decide +kernel
theorem dX7_game_50 : decode cX7_game 50 = .ok (.aload_n 0, 1) := by decide +kernel
theorem dX7_game_51 : decode cX7_game 51 = .ok (.getfield 52, 3) := by decide +kernel
theorem dX7_game_54 : decode cX7_game 54 = .ok (.iconst 0, 1) := by decide +kernel
theorem dX7_game_55 : decode cX7_game 55 = .ok (.iaload, 1) := by decide +kernel
theorem dX7_game_56 : decode cX7_game 56 = .ok (.goto 7, 3) := by decide +kernel
theorem dX7_game_59 : decode cX7_game 59 = .ok (.aload_n 0, 1) := by decide +kernel
theorem dX7_game_60 : decode cX7_game 60 = .ok (.getfield 211, 3) := by decide +kernel
theorem dX7_game_63 : decode cX7_game 63 = .ok (.ireturn, 1) := by decide +kernel
theorem dX7_size_0 : decode cX7_size 0 = .ok (.iconst 0, 1) := by decide +kernel
theorem dX7_size_1 : decode cX7_size 1 = .ok (.istore_n 1, 1) := by decide +kernel
theorem dX7_size_2 : decode cX7_size 2 = .ok (.iload_n 0, 1) := by decide +kernel
theorem dX7_size_3 : decode cX7_size 3 = .ok (.istore_n 2, 1) := by decide +kernel
theorem dX7_size_4 : decode cX7_size 4 = .ok (.iload_n 2, 1) := by decide +kernel
theorem dX7_size_5 : decode cX7_size 5 = .ok (.ifCond .le 16, 3) := by decide +kernel
theorem dX7_size_8 : decode cX7_size 8 = .ok (.iload_n 1, 1) := by decide +kernel
theorem dX7_size_9 : decode cX7_size 9 = .ok (.iload_n 2, 1) := by decide +kernel
theorem dX7_size_10 : decode cX7_size 10 = .ok (.iconst 1, 1) := by decide +kernel
theorem dX7_size_11 : decode cX7_size 11 = .ok (.iand, 1) := by decide +kernel
theorem dX7_size_12 : decode cX7_size 12 = .ok (.iadd, 1) := by decide +kernel
theorem dX7_size_13 : decode cX7_size 13 = .ok (.istore_n 1, 1) := by decide +kernel
theorem dX7_size_14 : decode cX7_size 14 = .ok (.iload_n 2, 1) := by decide +kernel
theorem dX7_size_15 : decode cX7_size 15 = .ok (.iconst 1, 1) := by decide +kernel
theorem dX7_size_16 : decode cX7_size 16 = .ok (.ishr, 1) := by decide +kernel
theorem dX7_size_17 : decode cX7_size 17 = .ok (.istore_n 2, 1) := by decide +kernel
theorem dX7_size_18 : decode cX7_size 18 = .ok (.goto (-14), 3) := by decide +kernel
theorem dX7_size_21 : decode cX7_size 21 = .ok (.iload_n 1, 1) := by decide +kernel
theorem dX7_size_22 : decode cX7_size 22 = .ok (.ireturn, 1) := by decide +kernel
theorem dX7_wetBy_0 : decode cX7_wetBy 0 = .ok (.iconst 0, 1) := by decide +kernel
theorem dX7_wetBy_1 : decode cX7_wetBy 1 = .ok (.istore_n 2, 1) := by decide +kernel
theorem dX7_wetBy_2 : decode cX7_wetBy 2 = .ok (.iconst 0, 1) := by decide +kernel
theorem dX7_wetBy_3 : decode cX7_wetBy 3 = .ok (.istore_n 3, 1) := by decide +kernel
theorem dX7_wetBy_4 : decode cX7_wetBy 4 = .ok (.iload_n 3, 1) := by decide +kernel
theorem dX7_wetBy_5 : decode cX7_wetBy 5 = .ok (.aload_n 0, 1) := by decide +kernel
theorem dX7_wetBy_6 : decode cX7_wetBy 6 = .ok (.getfield 78, 3) := by decide +kernel
theorem dX7_wetBy_9 : decode cX7_wetBy 9 = .ok (.if_icmp .ge 61, 3) := by decide +kernel
theorem dX7_wetBy_12 : decode cX7_wetBy 12 = .ok (.iload_n 3, 1) := by decide +kernel
theorem dX7_wetBy_13 : decode cX7_wetBy 13 = .ok (.iload_n 1, 1) := by decide +kernel
theorem dX7_wetBy_14 : decode cX7_wetBy 14 = .ok (.isub, 1) := by decide +kernel
theorem dX7_wetBy_15 : decode cX7_wetBy 15 = .ok (.aload_n 0, 1) := by decide +kernel
theorem dX7_wetBy_16 : decode cX7_wetBy 16 = .ok (.getfield 78, 3) := by decide +kernel
theorem dX7_wetBy_19 : decode cX7_wetBy 19 = .ok (.iadd, 1) := by decide +kernel
theorem dX7_wetBy_20 : decode cX7_wetBy 20 = .ok (.aload_n 0, 1) := by decide +kernel
theorem dX7_wetBy_21 : decode cX7_wetBy 21 = .ok (.getfield 78, 3) := by decide +kernel
theorem dX7_wetBy_24 : decode cX7_wetBy 24 = .ok (.irem, 1) := by decide +kernel
theorem dX7_wetBy_25 : decode cX7_wetBy 25 = .ok (.istore 4, 2) := by decide +kernel
theorem dX7_wetBy_27 : decode cX7_wetBy 27 = .ok (.iload_n 2, 1) := by decide +kernel
theorem dX7_wetBy_28 : decode cX7_wetBy 28 = .ok (.iload 4, 2) := by decide +kernel
theorem dX7_wetBy_30 : decode cX7_wetBy 30 = .ok (.aload_n 0, 1) := by decide +kernel
theorem dX7_wetBy_31 : decode cX7_wetBy 31 = .ok (.getfield 25, 3) := by decide +kernel
theorem dX7_wetBy_34 : decode cX7_wetBy 34 = .ok (.iload_n 1, 1) := by decide +kernel
theorem dX7_wetBy_35 : decode cX7_wetBy 35 = .ok (.iaload, 1) := by decide +kernel
theorem dX7_wetBy_36 : decode cX7_wetBy 36 = .ok (.if_icmp .le 19, 3) := by decide +kernel
theorem dX7_wetBy_39 : decode cX7_wetBy 39 = .ok (.aload_n 0, 1) := by decide +kernel
theorem dX7_wetBy_40 : decode cX7_wetBy 40 = .ok (.getfield 78, 3) := by decide +kernel
theorem dX7_wetBy_43 : decode cX7_wetBy 43 = .ok (.iload 4, 2) := by decide +kernel
theorem dX7_wetBy_45 : decode cX7_wetBy 45 = .ok (.isub, 1) := by decide +kernel
theorem dX7_wetBy_46 : decode cX7_wetBy 46 = .ok (.aload_n 0, 1) := by decide +kernel
theorem dX7_wetBy_47 : decode cX7_wetBy 47 = .ok (.getfield 25, 3) := by decide +kernel
theorem dX7_wetBy_50 : decode cX7_wetBy 50 = .ok (.iload_n 1, 1) := by decide +kernel
theorem dX7_wetBy_51 : decode cX7_wetBy 51 = .ok (.iaload, 1) := by decide +kernel
theorem dX7_wetBy_52 : decode cX7_wetBy 52 = .ok (.if_icmp .gt 9, 3) := by decide +kernel
theorem dX7_wetBy_55 : decode cX7_wetBy 55 = .ok (.iconst 1, 1) := by decide +kernel
theorem dX7_wetBy_56 : decode cX7_wetBy 56 = .ok (.iload_n 3, 1) := by decide +kernel
theorem dX7_wetBy_57 : decode cX7_wetBy 57 = .ok (.ishl, 1) := by decide +kernel
theorem dX7_wetBy_58 : decode cX7_wetBy 58 = .ok (.goto 4, 3) := by decide +kernel
theorem dX7_wetBy_61 : decode cX7_wetBy 61 = .ok (.iconst 0, 1) := by decide +kernel
theorem dX7_wetBy_62 : decode cX7_wetBy 62 = .ok (.ior, 1) := by decide +kernel
theorem dX7_wetBy_63 : decode cX7_wetBy 63 = .ok (.istore_n 2, 1) := by decide +kernel
theorem dX7_wetBy_64 : decode cX7_wetBy 64 = .ok (.iinc 3 1, 3) := by decide +kernel
theorem dX7_wetBy_67 : decode cX7_wetBy 67 = .ok (.goto (-63), 3) := by decide +kernel
theorem dX7_wetBy_70 : decode cX7_wetBy 70 = .ok (.iload_n 2, 1) := by decide +kernel
theorem dX7_wetBy_71 : decode cX7_wetBy 71 = .ok (.ireturn, 1) := by decide +kernel
theorem dX7_spilt_0 : decode cX7_spilt 0 = .ok (.aload_n 0, 1) := by decide +kernel
theorem dX7_spilt_1 : decode cX7_spilt 1 = .ok (.getfield 78, 3) := by decide +kernel
theorem dX7_spilt_4 : decode cX7_spilt 4 = .ok (.ifCond .ne 6, 3) := by decide +kernel
theorem dX7_spilt_7 : decode cX7_spilt 7 = .ok (.bipush (-3), 2) := by decide +kernel
theorem dX7_spilt_9 : decode cX7_spilt 9 = .ok (.ireturn, 1) := by decide +kernel
theorem dX7_spilt_10 : decode cX7_spilt 10 = .ok (.iload_n 1, 1) := by decide +kernel
theorem dX7_spilt_11 : decode cX7_spilt 11 = .ok (.iconst 0, 1) := by decide +kernel
theorem dX7_spilt_12 : decode cX7_spilt 12 = .ok (.iconst 1, 1) := by decide +kernel
theorem dX7_spilt_13 : decode cX7_spilt 13 = .ok (.aload_n 0, 1) := by decide +kernel
theorem dX7_spilt_14 : decode cX7_spilt 14 = .ok (.getfield 78, 3) := by decide +kernel
theorem dX7_spilt_17 : decode cX7_spilt 17 = .ok (.ishl, 1) := by decide +kernel
theorem dX7_spilt_18 : decode cX7_spilt 18 = .ok (.iconst 1, 1) := by decide +kernel
theorem dX7_spilt_19 : decode cX7_spilt 19 = .ok (.isub, 1) := by decide +kernel
theorem dX7_spilt_20 : decode cX7_spilt 20 = .ok (.invokestatic 74, 3) := by decide +kernel
theorem dX7_spilt_23 : decode cX7_spilt 23 = .ok (.ifCond .ne 6, 3) := by decide +kernel
theorem dX7_spilt_26 : decode cX7_spilt 26 = .ok (.bipush (-2), 2) := by decide +kernel
theorem dX7_spilt_28 : decode cX7_spilt 28 = .ok (.ireturn, 1) := by decide +kernel
theorem dX7_spilt_29 : decode cX7_spilt 29 = .ok (.bipush (-9), 2) := by decide +kernel
theorem dX7_spilt_31 : decode cX7_spilt 31 = .ok (.istore_n 2, 1) := by decide +kernel
theorem dX7_spilt_32 : decode cX7_spilt 32 = .ok (.iconst 0, 1) := by decide +kernel
theorem dX7_spilt_33 : decode cX7_spilt 33 = .ok (.istore_n 3, 1) := by decide +kernel
theorem dX7_spilt_34 : decode cX7_spilt 34 = .ok (.iload_n 3, 1) := by decide +kernel
theorem dX7_spilt_35 : decode cX7_spilt 35 = .ok (.iconst 1, 1) := by decide +kernel
theorem dX7_spilt_36 : decode cX7_spilt 36 = .ok (.aload_n 0, 1) := by decide +kernel
theorem dX7_spilt_37 : decode cX7_spilt 37 = .ok (.getfield 78, 3) := by decide +kernel
theorem dX7_spilt_40 : decode cX7_spilt 40 = .ok (.ishl, 1) := by decide +kernel
theorem dX7_spilt_41 : decode cX7_spilt 41 = .ok (.if_icmp .ge 84, 3) := by decide +kernel
theorem dX7_spilt_44 : decode cX7_spilt 44 = .ok (.iconst 0, 1) := by decide +kernel
theorem dX7_spilt_45 : decode cX7_spilt 45 = .ok (.istore 4, 2) := by decide +kernel
theorem dX7_spilt_47 : decode cX7_spilt 47 = .ok (.iconst 0, 1) := by decide +kernel
theorem dX7_spilt_48 : decode cX7_spilt 48 = .ok (.istore 5, 2) := by decide +kernel
theorem dX7_spilt_50 : decode cX7_spilt 50 = .ok (.iload 5, 2) := by decide +kernel
theorem dX7_spilt_52 : decode cX7_spilt 52 = .ok (.aload_n 0, 1) := by decide +kernel
theorem dX7_spilt_53 : decode cX7_spilt 53 = .ok (.getfield 78, 3) := by decide +kernel
theorem dX7_spilt_56 : decode cX7_spilt 56 = .ok (.if_icmp .ge 34, 3) := by decide +kernel
theorem dX7_spilt_59 : decode cX7_spilt 59 = .ok (.iload 4, 2) := by decide +kernel
theorem dX7_spilt_61 : decode cX7_spilt 61 = .ok (.iload_n 3, 1) := by decide +kernel
theorem dX7_spilt_62 : decode cX7_spilt 62 = .ok (.iload 5, 2) := by decide +kernel
theorem dX7_spilt_64 : decode cX7_spilt 64 = .ok (.ishr, 1) := by decide +kernel
theorem dX7_spilt_65 : decode cX7_spilt 65 = .ok (.iconst 1, 1) := by decide +kernel
theorem dX7_spilt_66 : decode cX7_spilt 66 = .ok (.iand, 1) := by decide +kernel
theorem dX7_spilt_67 : decode cX7_spilt 67 = .ok (.iconst 1, 1) := by decide +kernel
theorem dX7_spilt_68 : decode cX7_spilt 68 = .ok (.if_icmp .ne 12, 3) := by decide +kernel
theorem dX7_spilt_71 : decode cX7_spilt 71 = .ok (.aload_n 0, 1) := by decide +kernel
theorem dX7_spilt_72 : decode cX7_spilt 72 = .ok (.iload 5, 2) := by decide +kernel
theorem dX7_spilt_74 : decode cX7_spilt 74 = .ok (.invokevirtual 218, 3) := by decide +kernel
theorem dX7_spilt_77 : decode cX7_spilt 77 = .ok (.goto 4, 3) := by decide +kernel
theorem dX7_spilt_80 : decode cX7_spilt 80 = .ok (.iconst 0, 1) := by decide +kernel
theorem dX7_spilt_81 : decode cX7_spilt 81 = .ok (.ior, 1) := by decide +kernel
theorem dX7_spilt_82 : decode cX7_spilt 82 = .ok (.istore 4, 2) := by decide +kernel
theorem dX7_spilt_84 : decode cX7_spilt 84 = .ok (.iinc 5 1, 3) := by decide +kernel
theorem dX7_spilt_87 : decode cX7_spilt 87 = .ok (.goto (-37), 3) := by decide +kernel
theorem dX7_spilt_90 : decode cX7_spilt 90 = .ok (.iload 4, 2) := by decide +kernel
theorem dX7_spilt_92 : decode cX7_spilt 92 = .ok (.iload_n 1, 1) := by decide +kernel
theorem dX7_spilt_93 : decode cX7_spilt 93 = .ok (.if_icmp .ne 24, 3) := by decide +kernel
theorem dX7_spilt_96 : decode cX7_spilt 96 = .ok (.iload_n 2, 1) := by decide +kernel
theorem dX7_spilt_97 : decode cX7_spilt 97 = .ok (.bipush (-9), 2) := by decide +kernel
theorem dX7_spilt_99 : decode cX7_spilt 99 = .ok (.if_icmp .eq 14, 3) := by decide +kernel
theorem dX7_spilt_102 : decode cX7_spilt 102 = .ok (.iload_n 3, 1) := by decide +kernel
theorem dX7_spilt_103 : decode cX7_spilt 103 = .ok (.invokestatic 221, 3) := by decide +kernel
theorem dX7_spilt_106 : decode cX7_spilt 106 = .ok (.iload_n 2, 1) := by decide +kernel
theorem dX7_spilt_107 : decode cX7_spilt 107 = .ok (.invokestatic 221, 3) := by decide +kernel
theorem dX7_spilt_110 : decode cX7_spilt 110 = .ok (.if_icmp .ge 7, 3) := by decide +kernel
theorem dX7_spilt_113 : decode cX7_spilt 113 = .ok (.iload_n 3, 1) := by decide +kernel
theorem dX7_spilt_114 : decode cX7_spilt 114 = .ok (.goto 4, 3) := by decide +kernel
theorem dX7_spilt_117 : decode cX7_spilt 117 = .ok (.iload_n 2, 1) := by decide +kernel
theorem dX7_spilt_118 : decode cX7_spilt 118 = .ok (.istore_n 2, 1) := by decide +kernel
theorem dX7_spilt_119 : decode cX7_spilt 119 = .ok (.iinc 3 1, 3) := by decide +kernel
theorem dX7_spilt_122 : decode cX7_spilt 122 = .ok (.goto (-88), 3) := by decide +kernel
theorem dX7_spilt_125 : decode cX7_spilt 125 = .ok (.iload_n 2, 1) := by decide +kernel
theorem dX7_spilt_126 : decode cX7_spilt 126 = .ok (.ireturn, 1) := by decide +kernel
theorem dX7_passAbout_0 : decode cX7_passAbout 0 = .ok (.iconst 0, 1) := by decide +kernel
theorem dX7_passAbout_1 : decode cX7_passAbout 1 = .ok (.istore_n 2, 1) := by decide +kernel
theorem dX7_passAbout_2 : decode cX7_passAbout 2 = .ok (.iload_n 2, 1) := by decide +kernel
theorem dX7_passAbout_3 : decode cX7_passAbout 3 = .ok (.aload_n 0, 1) := by decide +kernel
theorem dX7_passAbout_4 : decode cX7_passAbout 4 = .ok (.getfield 78, 3) := by decide +kernel
theorem dX7_passAbout_7 : decode cX7_passAbout 7 = .ok (.if_icmp .ge 16, 3) := by decide +kernel
theorem dX7_passAbout_10 : decode cX7_passAbout 10 = .ok (.aload_n 0, 1) := by decide +kernel
theorem dX7_passAbout_11 : decode cX7_passAbout 11 = .ok (.getfield 59, 3) := by decide +kernel
theorem dX7_passAbout_14 : decode cX7_passAbout 14 = .ok (.iload_n 2, 1) := by decide +kernel
theorem dX7_passAbout_15 : decode cX7_passAbout 15 = .ok (.lconst 0, 1) := by decide +kernel
theorem dX7_passAbout_16 : decode cX7_passAbout 16 = .ok (.lastore, 1) := by decide +kernel
theorem dX7_passAbout_17 : decode cX7_passAbout 17 = .ok (.iinc 2 1, 3) := by decide +kernel
theorem dX7_passAbout_20 : decode cX7_passAbout 20 = .ok (.goto (-18), 3) := by decide +kernel
theorem dX7_passAbout_23 : decode cX7_passAbout 23 = .ok (.iconst 0, 1) := by decide +kernel
theorem dX7_passAbout_24 : decode cX7_passAbout 24 = .ok (.istore_n 2, 1) := by decide +kernel
theorem dX7_passAbout_25 : decode cX7_passAbout 25 = .ok (.iload_n 2, 1) := by decide +kernel
theorem dX7_passAbout_26 : decode cX7_passAbout 26 = .ok (.iconst 2, 1) := by decide +kernel
theorem dX7_passAbout_27 : decode cX7_passAbout 27 = .ok (.aload_n 0, 1) := by decide +kernel
theorem dX7_passAbout_28 : decode cX7_passAbout 28 = .ok (.getfield 78, 3) := by decide +kernel
theorem dX7_passAbout_31 : decode cX7_passAbout 31 = .ok (.imul, 1) := by decide +kernel
theorem dX7_passAbout_32 : decode cX7_passAbout 32 = .ok (.if_icmp .ge 71, 3) := by decide +kernel
theorem dX7_passAbout_35 : decode cX7_passAbout 35 = .ok (.aload_n 0, 1) := by decide +kernel
theorem dX7_passAbout_36 : decode cX7_passAbout 36 = .ok (.iload_n 2, 1) := by decide +kernel
theorem dX7_passAbout_37 : decode cX7_passAbout 37 = .ok (.iconst 2, 1) := by decide +kernel
theorem dX7_passAbout_38 : decode cX7_passAbout 38 = .ok (.idiv, 1) := by decide +kernel
theorem dX7_passAbout_39 : decode cX7_passAbout 39 = .ok (.iload_n 2, 1) := by decide +kernel
theorem dX7_passAbout_40 : decode cX7_passAbout 40 = .ok (.iconst 2, 1) := by decide +kernel
theorem dX7_passAbout_41 : decode cX7_passAbout 41 = .ok (.irem, 1) := by decide +kernel
theorem dX7_passAbout_42 : decode cX7_passAbout 42 = .ok (.invokevirtual 168, 3) := by decide +kernel
theorem dX7_passAbout_45 : decode cX7_passAbout 45 = .ok (.istore_n 3, 1) := by decide +kernel
theorem dX7_passAbout_46 : decode cX7_passAbout 46 = .ok (.iload_n 3, 1) := by decide +kernel
theorem dX7_passAbout_47 : decode cX7_passAbout 47 = .ok (.aload_n 0, 1) := by decide +kernel
theorem dX7_passAbout_48 : decode cX7_passAbout 48 = .ok (.getfield 126, 3) := by decide +kernel
theorem dX7_passAbout_51 : decode cX7_passAbout 51 = .ok (.if_icmp .eq 23, 3) := by decide +kernel
theorem dX7_passAbout_54 : decode cX7_passAbout 54 = .ok (.aload_n 0, 1) := by decide +kernel
theorem dX7_passAbout_55 : decode cX7_passAbout 55 = .ok (.getfield 59, 3) := by decide +kernel
theorem dX7_passAbout_58 : decode cX7_passAbout 58 = .ok (.iload_n 3, 1) := by decide +kernel
theorem dX7_passAbout_59 : decode cX7_passAbout 59 = .ok (.dup2, 1) := by decide +kernel
theorem dX7_passAbout_60 : decode cX7_passAbout 60 = .ok (.laload, 1) := by decide +kernel
theorem dX7_passAbout_61 : decode cX7_passAbout 61 = .ok (.aload_n 0, 1) := by decide +kernel
theorem dX7_passAbout_62 : decode cX7_passAbout 62 = .ok (.getfield 55, 3) := by decide +kernel
theorem dX7_passAbout_65 : decode cX7_passAbout 65 = .ok (.iload_n 2, 1) := by decide +kernel
theorem dX7_passAbout_66 : decode cX7_passAbout 66 = .ok (.iconst 2, 1) := by decide +kernel
theorem dX7_passAbout_67 : decode cX7_passAbout 67 = .ok (.idiv, 1) := by decide +kernel
theorem dX7_passAbout_68 : decode cX7_passAbout 68 = .ok (.laload, 1) := by decide +kernel
theorem dX7_passAbout_69 : decode cX7_passAbout 69 = .ok (.ladd, 1) := by decide +kernel
theorem dX7_passAbout_70 : decode cX7_passAbout 70 = .ok (.lastore, 1) := by decide +kernel
theorem dX7_passAbout_71 : decode cX7_passAbout 71 = .ok (.goto 26, 3) := by decide +kernel
theorem dX7_passAbout_74 : decode cX7_passAbout 74 = .ok (.iload_n 1, 1) := by decide +kernel
theorem dX7_passAbout_75 : decode cX7_passAbout 75 = .ok (.ifCond .eq 22, 3) := by decide +kernel
theorem dX7_passAbout_78 : decode cX7_passAbout 78 = .ok (.aload_n 0, 1) := by decide +kernel
theorem dX7_passAbout_79 : decode cX7_passAbout 79 = .ok (.getfield 59, 3) := by decide +kernel
theorem dX7_passAbout_82 : decode cX7_passAbout 82 = .ok (.iload_n 2, 1) := by decide +kernel
theorem dX7_passAbout_83 : decode cX7_passAbout 83 = .ok (.iconst 2, 1) := by decide +kernel
theorem dX7_passAbout_84 : decode cX7_passAbout 84 = .ok (.idiv, 1) := by decide +kernel
theorem dX7_passAbout_85 : decode cX7_passAbout 85 = .ok (.dup2, 1) := by decide +kernel
theorem dX7_passAbout_86 : decode cX7_passAbout 86 = .ok (.laload, 1) := by decide +kernel
theorem dX7_passAbout_87 : decode cX7_passAbout 87 = .ok (.aload_n 0, 1) := by decide +kernel
theorem dX7_passAbout_88 : decode cX7_passAbout 88 = .ok (.getfield 55, 3) := by decide +kernel
theorem dX7_passAbout_91 : decode cX7_passAbout 91 = .ok (.iload_n 2, 1) := by decide +kernel
theorem dX7_passAbout_92 : decode cX7_passAbout 92 = .ok (.iconst 2, 1) := by decide +kernel
theorem dX7_passAbout_93 : decode cX7_passAbout 93 = .ok (.idiv, 1) := by decide +kernel
theorem dX7_passAbout_94 : decode cX7_passAbout 94 = .ok (.laload, 1) := by decide +kernel
theorem dX7_passAbout_95 : decode cX7_passAbout 95 = .ok (.ladd, 1) := by decide +kernel
theorem dX7_passAbout_96 : decode cX7_passAbout 96 = .ok (.lastore, 1) := by decide +kernel
theorem dX7_passAbout_97 : decode cX7_passAbout 97 = .ok (.iinc 2 1, 3) := by decide +kernel
theorem dX7_passAbout_100 : decode cX7_passAbout 100 = .ok (.goto (-75), 3) := by decide +kernel
theorem dX7_passAbout_103 : decode cX7_passAbout 103 = .ok (.iconst 0, 1) := by decide +kernel
theorem dX7_passAbout_104 : decode cX7_passAbout 104 = .ok (.istore_n 2, 1) := by decide +kernel
theorem dX7_passAbout_105 : decode cX7_passAbout 105 = .ok (.iload_n 2, 1) := by decide +kernel
theorem dX7_passAbout_106 : decode cX7_passAbout 106 = .ok (.aload_n 0, 1) := by decide +kernel
theorem dX7_passAbout_107 : decode cX7_passAbout 107 = .ok (.getfield 78, 3) := by decide +kernel
theorem dX7_passAbout_110 : decode cX7_passAbout 110 = .ok (.if_icmp .ge 21, 3) := by decide +kernel
theorem dX7_passAbout_113 : decode cX7_passAbout 113 = .ok (.aload_n 0, 1) := by decide +kernel
theorem dX7_passAbout_114 : decode cX7_passAbout 114 = .ok (.getfield 55, 3) := by decide +kernel
theorem dX7_passAbout_117 : decode cX7_passAbout 117 = .ok (.iload_n 2, 1) := by decide +kernel
theorem dX7_passAbout_118 : decode cX7_passAbout 118 = .ok (.aload_n 0, 1) := by decide +kernel
theorem dX7_passAbout_119 : decode cX7_passAbout 119 = .ok (.getfield 59, 3) := by decide +kernel
theorem dX7_passAbout_122 : decode cX7_passAbout 122 = .ok (.iload_n 2, 1) := by decide +kernel
theorem dX7_passAbout_123 : decode cX7_passAbout 123 = .ok (.laload, 1) := by decide +kernel
theorem dX7_passAbout_124 : decode cX7_passAbout 124 = .ok (.lastore, 1) := by decide +kernel
theorem dX7_passAbout_125 : decode cX7_passAbout 125 = .ok (.iinc 2 1, 3) := by decide +kernel
theorem dX7_passAbout_128 : decode cX7_passAbout 128 = .ok (.goto (-23), 3) := by decide +kernel
theorem dX7_passAbout_131 : decode cX7_passAbout 131 = .ok (.return_, 1) := by decide +kernel
theorem dX7_beginAbout_0 : decode cX7_beginAbout 0 = .ok (.iconst 0, 1) := by decide +kernel
theorem dX7_beginAbout_1 : decode cX7_beginAbout 1 = .ok (.istore_n 1, 1) := by decide +kernel
theorem dX7_beginAbout_2 : decode cX7_beginAbout 2 = .ok (.iload_n 1, 1) := by decide +kernel
theorem dX7_beginAbout_3 : decode cX7_beginAbout 3 = .ok (.aload_n 0, 1) := by decide +kernel
theorem dX7_beginAbout_4 : decode cX7_beginAbout 4 = .ok (.getfield 78, 3) := by decide +kernel
theorem dX7_beginAbout_7 : decode cX7_beginAbout 7 = .ok (.if_icmp .ge 28, 3) := by decide +kernel
theorem dX7_beginAbout_10 : decode cX7_beginAbout 10 = .ok (.aload_n 0, 1) := by decide +kernel
theorem dX7_beginAbout_11 : decode cX7_beginAbout 11 = .ok (.getfield 55, 3) := by decide +kernel
theorem dX7_beginAbout_14 : decode cX7_beginAbout 14 = .ok (.iload_n 1, 1) := by decide +kernel
theorem dX7_beginAbout_15 : decode cX7_beginAbout 15 = .ok (.iload_n 1, 1) := by decide +kernel
theorem dX7_beginAbout_16 : decode cX7_beginAbout 16 = .ok (.aload_n 0, 1) := by decide +kernel
theorem dX7_beginAbout_17 : decode cX7_beginAbout 17 = .ok (.getfield 120, 3) := by decide +kernel
theorem dX7_beginAbout_20 : decode cX7_beginAbout 20 = .ok (.if_icmp .ne 7, 3) := by decide +kernel
theorem dX7_beginAbout_23 : decode cX7_beginAbout 23 = .ok (.lconst 1, 1) := by decide +kernel
theorem dX7_beginAbout_24 : decode cX7_beginAbout 24 = .ok (.goto 4, 3) := by decide +kernel
theorem dX7_beginAbout_27 : decode cX7_beginAbout 27 = .ok (.lconst 0, 1) := by decide +kernel
theorem dX7_beginAbout_28 : decode cX7_beginAbout 28 = .ok (.lastore, 1) := by decide +kernel
theorem dX7_beginAbout_29 : decode cX7_beginAbout 29 = .ok (.iinc 1 1, 3) := by decide +kernel
theorem dX7_beginAbout_32 : decode cX7_beginAbout 32 = .ok (.goto (-30), 3) := by decide +kernel
theorem dX7_beginAbout_35 : decode cX7_beginAbout 35 = .ok (.return_, 1) := by decide +kernel
theorem dX7_home_0 : decode cX7_home 0 = .ok (.iload_n 1, 1) := by decide +kernel
theorem dX7_home_1 : decode cX7_home 1 = .ok (.iconst 0, 1) := by decide +kernel
theorem dX7_home_2 : decode cX7_home 2 = .ok (.bipush 20, 2) := by decide +kernel
theorem dX7_home_4 : decode cX7_home 4 = .ok (.invokestatic 74, 3) := by decide +kernel
theorem dX7_home_7 : decode cX7_home 7 = .ok (.ifCond .eq 10, 3) := by decide +kernel
theorem dX7_home_10 : decode cX7_home 10 = .ok (.aload_n 0, 1) := by decide +kernel
theorem dX7_home_11 : decode cX7_home 11 = .ok (.getfield 78, 3) := by decide +kernel
theorem dX7_home_14 : decode cX7_home 14 = .ok (.ifCond .ne 7, 3) := by decide +kernel
theorem dX7_home_17 : decode cX7_home 17 = .ok (.ldc2_w 72, 3) := by decide +kernel
theorem dX7_home_20 : decode cX7_home 20 = .ok (.lreturn, 1) := by decide +kernel
theorem dX7_home_21 : decode cX7_home 21 = .ok (.aload_n 0, 1) := by decide +kernel
theorem dX7_home_22 : decode cX7_home 22 = .ok (.invokevirtual 224, 3) := by decide +kernel
theorem dX7_home_25 : decode cX7_home 25 = .ok (.iconst 0, 1) := by decide +kernel
theorem dX7_home_26 : decode cX7_home 26 = .ok (.istore_n 2, 1) := by decide +kernel
theorem dX7_home_27 : decode cX7_home 27 = .ok (.iload_n 2, 1) := by decide +kernel
theorem dX7_home_28 : decode cX7_home 28 = .ok (.iload_n 1, 1) := by decide +kernel
theorem dX7_home_29 : decode cX7_home 29 = .ok (.if_icmp .ge 14, 3) := by decide +kernel
theorem dX7_home_32 : decode cX7_home 32 = .ok (.aload_n 0, 1) := by decide +kernel
theorem dX7_home_33 : decode cX7_home 33 = .ok (.iconst 0, 1) := by decide +kernel
theorem dX7_home_34 : decode cX7_home 34 = .ok (.invokevirtual 227, 3) := by decide +kernel
theorem dX7_home_37 : decode cX7_home 37 = .ok (.iinc 2 1, 3) := by decide +kernel
theorem dX7_home_40 : decode cX7_home 40 = .ok (.goto (-13), 3) := by decide +kernel
theorem dX7_home_43 : decode cX7_home 43 = .ok (.aload_n 0, 1) := by decide +kernel
theorem dX7_home_44 : decode cX7_home 44 = .ok (.getfield 55, 3) := by decide +kernel
theorem dX7_home_47 : decode cX7_home 47 = .ok (.aload_n 0, 1) := by decide +kernel
theorem dX7_home_48 : decode cX7_home 48 = .ok (.getfield 120, 3) := by decide +kernel
theorem dX7_home_51 : decode cX7_home 51 = .ok (.laload, 1) := by decide +kernel
theorem dX7_home_52 : decode cX7_home 52 = .ok (.lreturn, 1) := by decide +kernel
theorem dX7_reading_0 : decode cX7_reading 0 = .ok (.aload_n 0, 1) := by decide +kernel
theorem dX7_reading_1 : decode cX7_reading 1 = .ok (.iload_n 1, 1) := by decide +kernel
theorem dX7_reading_2 : decode cX7_reading 2 = .ok (.invokevirtual 153, 3) := by decide +kernel
theorem dX7_reading_5 : decode cX7_reading 5 = .ok (.ifCond .ne 5, 3) := by decide +kernel
theorem dX7_reading_8 : decode cX7_reading 8 = .ok (.iconst (-1), 1) := by decide +kernel
theorem dX7_reading_9 : decode cX7_reading 9 = .ok (.ireturn, 1) := by decide +kernel
theorem dX7_reading_10 : decode cX7_reading 10 = .ok (.iload_n 2, 1) := by decide +kernel
theorem dX7_reading_11 : decode cX7_reading 11 = .ok (.iconst 0, 1) := by decide +kernel
theorem dX7_reading_12 : decode cX7_reading 12 = .ok (.bipush 19, 2) := by decide +kernel
theorem dX7_reading_14 : decode cX7_reading 14 = .ok (.invokestatic 74, 3) := by decide +kernel
theorem dX7_reading_17 : decode cX7_reading 17 = .ok (.ifCond .ne 6, 3) := by decide +kernel
theorem dX7_reading_20 : decode cX7_reading 20 = .ok (.bipush (-2), 2) := by decide +kernel
theorem dX7_reading_22 : decode cX7_reading 22 = .ok (.ireturn, 1) := by decide +kernel
theorem dX7_reading_23 : decode cX7_reading 23 = .ok (.aload_n 0, 1) := by decide +kernel
theorem dX7_reading_24 : decode cX7_reading 24 = .ok (.getfield 132, 3) := by decide +kernel
theorem dX7_reading_27 : decode cX7_reading 27 = .ok (.bipush 8, 2) := by decide +kernel
theorem dX7_reading_29 : decode cX7_reading 29 = .ok (.if_icmp .ne 6, 3) := by decide +kernel
theorem dX7_reading_32 : decode cX7_reading 32 = .ok (.bipush (-4), 2) := by decide +kernel
theorem dX7_reading_34 : decode cX7_reading 34 = .ok (.ireturn, 1) := by decide +kernel
theorem dX7_reading_35 : decode cX7_reading 35 = .ok (.aload_n 0, 1) := by decide +kernel
theorem dX7_reading_36 : decode cX7_reading 36 = .ok (.getfield 62, 3) := by decide +kernel
theorem dX7_reading_39 : decode cX7_reading 39 = .ok (.aload_n 0, 1) := by decide +kernel
theorem dX7_reading_40 : decode cX7_reading 40 = .ok (.getfield 132, 3) := by decide +kernel
theorem dX7_reading_43 : decode cX7_reading 43 = .ok (.iload_n 1, 1) := by decide +kernel
theorem dX7_reading_44 : decode cX7_reading 44 = .ok (.iastore, 1) := by decide +kernel
theorem dX7_reading_45 : decode cX7_reading 45 = .ok (.aload_n 0, 1) := by decide +kernel
theorem dX7_reading_46 : decode cX7_reading 46 = .ok (.getfield 65, 3) := by decide +kernel
theorem dX7_reading_49 : decode cX7_reading 49 = .ok (.aload_n 0, 1) := by decide +kernel
theorem dX7_reading_50 : decode cX7_reading 50 = .ok (.getfield 132, 3) := by decide +kernel
theorem dX7_reading_53 : decode cX7_reading 53 = .ok (.iload_n 2, 1) := by decide +kernel
theorem dX7_reading_54 : decode cX7_reading 54 = .ok (.iastore, 1) := by decide +kernel
theorem dX7_reading_55 : decode cX7_reading 55 = .ok (.aload_n 0, 1) := by decide +kernel
theorem dX7_reading_56 : decode cX7_reading 56 = .ok (.dup, 1) := by decide +kernel
theorem dX7_reading_57 : decode cX7_reading 57 = .ok (.getfield 132, 3) := by decide +kernel
theorem dX7_reading_60 : decode cX7_reading 60 = .ok (.iconst 1, 1) := by decide +kernel
theorem dX7_reading_61 : decode cX7_reading 61 = .ok (.iadd, 1) := by decide +kernel
theorem dX7_reading_62 : decode cX7_reading 62 = .ok (.putfield 132, 3) := by decide +kernel
theorem dX7_reading_65 : decode cX7_reading 65 = .ok (.aload_n 0, 1) := by decide +kernel
theorem dX7_reading_66 : decode cX7_reading 66 = .ok (.getfield 132, 3) := by decide +kernel
theorem dX7_reading_69 : decode cX7_reading 69 = .ok (.iconst 1, 1) := by decide +kernel
theorem dX7_reading_70 : decode cX7_reading 70 = .ok (.isub, 1) := by decide +kernel
theorem dX7_reading_71 : decode cX7_reading 71 = .ok (.ireturn, 1) := by decide +kernel
theorem dX7_back_0 : decode cX7_back 0 = .ok (.iload_n 1, 1) := by decide +kernel
theorem dX7_back_1 : decode cX7_back 1 = .ok (.iconst 0, 1) := by decide +kernel
theorem dX7_back_2 : decode cX7_back 2 = .ok (.aload_n 0, 1) := by decide +kernel
theorem dX7_back_3 : decode cX7_back 3 = .ok (.getfield 132, 3) := by decide +kernel
theorem dX7_back_6 : decode cX7_back 6 = .ok (.invokestatic 74, 3) := by decide +kernel
theorem dX7_back_9 : decode cX7_back 9 = .ok (.ifCond .ne 6, 3) := by decide +kernel
theorem dX7_back_12 : decode cX7_back 12 = .ok (.bipush (-2), 2) := by decide +kernel
theorem dX7_back_14 : decode cX7_back 14 = .ok (.ireturn, 1) := by decide +kernel
theorem dX7_back_15 : decode cX7_back 15 = .ok (.aload_n 0, 1) := by decide +kernel
theorem dX7_back_16 : decode cX7_back 16 = .ok (.dup, 1) := by decide +kernel
theorem dX7_back_17 : decode cX7_back 17 = .ok (.getfield 132, 3) := by decide +kernel
theorem dX7_back_20 : decode cX7_back 20 = .ok (.iload_n 1, 1) := by decide +kernel
theorem dX7_back_21 : decode cX7_back 21 = .ok (.isub, 1) := by decide +kernel
theorem dX7_back_22 : decode cX7_back 22 = .ok (.putfield 132, 3) := by decide +kernel
theorem dX7_back_25 : decode cX7_back 25 = .ok (.aload_n 0, 1) := by decide +kernel
theorem dX7_back_26 : decode cX7_back 26 = .ok (.getfield 132, 3) := by decide +kernel
theorem dX7_back_29 : decode cX7_back 29 = .ok (.ireturn, 1) := by decide +kernel
theorem dX7_areSo_0 : decode cX7_areSo 0 = .ok (.iconst 0, 1) := by decide +kernel
theorem dX7_areSo_1 : decode cX7_areSo 1 = .ok (.istore_n 1, 1) := by decide +kernel
theorem dX7_areSo_2 : decode cX7_areSo 2 = .ok (.iload_n 1, 1) := by decide +kernel
theorem dX7_areSo_3 : decode cX7_areSo 3 = .ok (.aload_n 0, 1) := by decide +kernel
theorem dX7_areSo_4 : decode cX7_areSo 4 = .ok (.getfield 132, 3) := by decide +kernel
theorem dX7_areSo_7 : decode cX7_areSo 7 = .ok (.if_icmp .ge 30, 3) := by decide +kernel
theorem dX7_areSo_10 : decode cX7_areSo 10 = .ok (.aload_n 0, 1) := by decide +kernel
theorem dX7_areSo_11 : decode cX7_areSo 11 = .ok (.aload_n 0, 1) := by decide +kernel
theorem dX7_areSo_12 : decode cX7_areSo 12 = .ok (.getfield 62, 3) := by decide +kernel
theorem dX7_areSo_15 : decode cX7_areSo 15 = .ok (.iload_n 1, 1) := by decide +kernel
theorem dX7_areSo_16 : decode cX7_areSo 16 = .ok (.iaload, 1) := by decide +kernel
theorem dX7_areSo_17 : decode cX7_areSo 17 = .ok (.invokevirtual 156, 3) := by decide +kernel
theorem dX7_areSo_20 : decode cX7_areSo 20 = .ok (.aload_n 0, 1) := by decide +kernel
theorem dX7_areSo_21 : decode cX7_areSo 21 = .ok (.getfield 65, 3) := by decide +kernel
theorem dX7_areSo_24 : decode cX7_areSo 24 = .ok (.iload_n 1, 1) := by decide +kernel
theorem dX7_areSo_25 : decode cX7_areSo 25 = .ok (.iaload, 1) := by decide +kernel
theorem dX7_areSo_26 : decode cX7_areSo 26 = .ok (.if_icmp .eq 5, 3) := by decide +kernel
theorem dX7_areSo_29 : decode cX7_areSo 29 = .ok (.iconst 0, 1) := by decide +kernel
theorem dX7_areSo_30 : decode cX7_areSo 30 = .ok (.ireturn, 1) := by decide +kernel
theorem dX7_areSo_31 : decode cX7_areSo 31 = .ok (.iinc 1 1, 3) := by decide +kernel
theorem dX7_areSo_34 : decode cX7_areSo 34 = .ok (.goto (-32), 3) := by decide +kernel
theorem dX7_areSo_37 : decode cX7_areSo 37 = .ok (.iconst 1, 1) := by decide +kernel
theorem dX7_areSo_38 : decode cX7_areSo 38 = .ok (.ireturn, 1) := by decide +kernel
theorem dX7_mouths_0 : decode cX7_mouths 0 = .ok (.aload_n 0, 1) := by decide +kernel
theorem dX7_mouths_1 : decode cX7_mouths 1 = .ok (.iload_n 1, 1) := by decide +kernel
theorem dX7_mouths_2 : decode cX7_mouths 2 = .ok (.invokevirtual 153, 3) := by decide +kernel
theorem dX7_mouths_5 : decode cX7_mouths 5 = .ok (.ifCond .ne 5, 3) := by decide +kernel
theorem dX7_mouths_8 : decode cX7_mouths 8 = .ok (.iconst (-1), 1) := by decide +kernel
theorem dX7_mouths_9 : decode cX7_mouths 9 = .ok (.ireturn, 1) := by decide +kernel
theorem dX7_mouths_10 : decode cX7_mouths 10 = .ok (.aload_n 0, 1) := by decide +kernel
theorem dX7_mouths_11 : decode cX7_mouths 11 = .ok (.getfield 22, 3) := by decide +kernel
theorem dX7_mouths_14 : decode cX7_mouths 14 = .ok (.iload_n 1, 1) := by decide +kernel
theorem dX7_mouths_15 : decode cX7_mouths 15 = .ok (.iaload, 1) := by decide +kernel
theorem dX7_mouths_16 : decode cX7_mouths 16 = .ok (.istore_n 2, 1) := by decide +kernel
theorem dX7_mouths_17 : decode cX7_mouths 17 = .ok (.iconst 0, 1) := by decide +kernel
theorem dX7_mouths_18 : decode cX7_mouths 18 = .ok (.istore_n 3, 1) := by decide +kernel
theorem dX7_mouths_19 : decode cX7_mouths 19 = .ok (.iconst 0, 1) := by decide +kernel
theorem dX7_mouths_20 : decode cX7_mouths 20 = .ok (.istore 4, 2) := by decide +kernel
theorem dX7_mouths_22 : decode cX7_mouths 22 = .ok (.iload 4, 2) := by decide +kernel
theorem dX7_mouths_24 : decode cX7_mouths 24 = .ok (.bipush 9, 2) := by decide +kernel
theorem dX7_mouths_26 : decode cX7_mouths 26 = .ok (.if_icmp .gt 35, 3) := by decide +kernel
theorem dX7_mouths_29 : decode cX7_mouths 29 = .ok (.aload_n 0, 1) := by decide +kernel
theorem dX7_mouths_30 : decode cX7_mouths 30 = .ok (.getfield 22, 3) := by decide +kernel
theorem dX7_mouths_33 : decode cX7_mouths 33 = .ok (.iload_n 1, 1) := by decide +kernel
theorem dX7_mouths_34 : decode cX7_mouths 34 = .ok (.iload 4, 2) := by decide +kernel
theorem dX7_mouths_36 : decode cX7_mouths 36 = .ok (.iastore, 1) := by decide +kernel
theorem dX7_mouths_37 : decode cX7_mouths 37 = .ok (.iload_n 3, 1) := by decide +kernel
theorem dX7_mouths_38 : decode cX7_mouths 38 = .ok (.aload_n 0, 1) := by decide +kernel
theorem dX7_mouths_39 : decode cX7_mouths 39 = .ok (.invokevirtual 231, 3) := by decide +kernel
theorem dX7_mouths_42 : decode cX7_mouths 42 = .ok (.ifCond .eq 10, 3) := by decide +kernel
theorem dX7_mouths_45 : decode cX7_mouths 45 = .ok (.iconst 1, 1) := by decide +kernel
theorem dX7_mouths_46 : decode cX7_mouths 46 = .ok (.iload 4, 2) := by decide +kernel
theorem dX7_mouths_48 : decode cX7_mouths 48 = .ok (.ishl, 1) := by decide +kernel
theorem dX7_mouths_49 : decode cX7_mouths 49 = .ok (.goto 4, 3) := by decide +kernel
theorem dX7_mouths_52 : decode cX7_mouths 52 = .ok (.iconst 0, 1) := by decide +kernel
theorem dX7_mouths_53 : decode cX7_mouths 53 = .ok (.ior, 1) := by decide +kernel
theorem dX7_mouths_54 : decode cX7_mouths 54 = .ok (.istore_n 3, 1) := by decide +kernel
theorem dX7_mouths_55 : decode cX7_mouths 55 = .ok (.iinc 4 1, 3) := by decide +kernel
theorem dX7_mouths_58 : decode cX7_mouths 58 = .ok (.goto (-36), 3) := by decide +kernel
theorem dX7_mouths_61 : decode cX7_mouths 61 = .ok (.aload_n 0, 1) := by decide +kernel
theorem dX7_mouths_62 : decode cX7_mouths 62 = .ok (.getfield 22, 3) := by decide +kernel
theorem dX7_mouths_65 : decode cX7_mouths 65 = .ok (.iload_n 1, 1) := by decide +kernel
theorem dX7_mouths_66 : decode cX7_mouths 66 = .ok (.iload_n 2, 1) := by decide +kernel
theorem dX7_mouths_67 : decode cX7_mouths 67 = .ok (.iastore, 1) := by decide +kernel
theorem dX7_mouths_68 : decode cX7_mouths 68 = .ok (.iload_n 3, 1) := by decide +kernel
theorem dX7_mouths_69 : decode cX7_mouths 69 = .ok (.ireturn, 1) := by decide +kernel
theorem dX7_kinds_0 : decode cX7_kinds 0 = .ok (.aload_n 0, 1) := by decide +kernel
theorem dX7_kinds_1 : decode cX7_kinds 1 = .ok (.iload_n 1, 1) := by decide +kernel
theorem dX7_kinds_2 : decode cX7_kinds 2 = .ok (.invokevirtual 153, 3) := by decide +kernel
theorem dX7_kinds_5 : decode cX7_kinds 5 = .ok (.ifCond .ne 5, 3) := by decide +kernel
theorem dX7_kinds_8 : decode cX7_kinds 8 = .ok (.iconst (-1), 1) := by decide +kernel
theorem dX7_kinds_9 : decode cX7_kinds 9 = .ok (.ireturn, 1) := by decide +kernel
theorem dX7_kinds_10 : decode cX7_kinds 10 = .ok (.aload_n 0, 1) := by decide +kernel
theorem dX7_kinds_11 : decode cX7_kinds 11 = .ok (.getfield 19, 3) := by decide +kernel
theorem dX7_kinds_14 : decode cX7_kinds 14 = .ok (.iload_n 1, 1) := by decide +kernel
theorem dX7_kinds_15 : decode cX7_kinds 15 = .ok (.iaload, 1) := by decide +kernel
theorem dX7_kinds_16 : decode cX7_kinds 16 = .ok (.istore_n 2, 1) := by decide +kernel
theorem dX7_kinds_17 : decode cX7_kinds 17 = .ok (.iconst 0, 1) := by decide +kernel
theorem dX7_kinds_18 : decode cX7_kinds 18 = .ok (.istore_n 3, 1) := by decide +kernel
theorem dX7_kinds_19 : decode cX7_kinds 19 = .ok (.iconst 0, 1) := by decide +kernel
theorem dX7_kinds_20 : decode cX7_kinds 20 = .ok (.istore 4, 2) := by decide +kernel
theorem dX7_kinds_22 : decode cX7_kinds 22 = .ok (.iload 4, 2) := by decide +kernel
theorem dX7_kinds_24 : decode cX7_kinds 24 = .ok (.iconst 3, 1) := by decide +kernel
theorem dX7_kinds_25 : decode cX7_kinds 25 = .ok (.if_icmp .ge 35, 3) := by decide +kernel
theorem dX7_kinds_28 : decode cX7_kinds 28 = .ok (.aload_n 0, 1) := by decide +kernel
theorem dX7_kinds_29 : decode cX7_kinds 29 = .ok (.getfield 19, 3) := by decide +kernel
theorem dX7_kinds_32 : decode cX7_kinds 32 = .ok (.iload_n 1, 1) := by decide +kernel
theorem dX7_kinds_33 : decode cX7_kinds 33 = .ok (.iload 4, 2) := by decide +kernel
theorem dX7_kinds_35 : decode cX7_kinds 35 = .ok (.iastore, 1) := by decide +kernel
theorem dX7_kinds_36 : decode cX7_kinds 36 = .ok (.iload_n 3, 1) := by decide +kernel
theorem dX7_kinds_37 : decode cX7_kinds 37 = .ok (.aload_n 0, 1) := by decide +kernel
theorem dX7_kinds_38 : decode cX7_kinds 38 = .ok (.invokevirtual 231, 3) := by decide +kernel
theorem dX7_kinds_41 : decode cX7_kinds 41 = .ok (.ifCond .eq 10, 3) := by decide +kernel
theorem dX7_kinds_44 : decode cX7_kinds 44 = .ok (.iconst 1, 1) := by decide +kernel
theorem dX7_kinds_45 : decode cX7_kinds 45 = .ok (.iload 4, 2) := by decide +kernel
theorem dX7_kinds_47 : decode cX7_kinds 47 = .ok (.ishl, 1) := by decide +kernel
theorem dX7_kinds_48 : decode cX7_kinds 48 = .ok (.goto 4, 3) := by decide +kernel
theorem dX7_kinds_51 : decode cX7_kinds 51 = .ok (.iconst 0, 1) := by decide +kernel
theorem dX7_kinds_52 : decode cX7_kinds 52 = .ok (.ior, 1) := by decide +kernel
theorem dX7_kinds_53 : decode cX7_kinds 53 = .ok (.istore_n 3, 1) := by decide +kernel
theorem dX7_kinds_54 : decode cX7_kinds 54 = .ok (.iinc 4 1, 3) := by decide +kernel
theorem dX7_kinds_57 : decode cX7_kinds 57 = .ok (.goto (-35), 3) := by decide +kernel
theorem dX7_kinds_60 : decode cX7_kinds 60 = .ok (.aload_n 0, 1) := by decide +kernel
theorem dX7_kinds_61 : decode cX7_kinds 61 = .ok (.getfield 19, 3) := by decide +kernel
theorem dX7_kinds_64 : decode cX7_kinds 64 = .ok (.iload_n 1, 1) := by decide +kernel
theorem dX7_kinds_65 : decode cX7_kinds 65 = .ok (.iload_n 2, 1) := by decide +kernel
theorem dX7_kinds_66 : decode cX7_kinds 66 = .ok (.iastore, 1) := by decide +kernel
theorem dX7_kinds_67 : decode cX7_kinds 67 = .ok (.iload_n 3, 1) := by decide +kernel
theorem dX7_kinds_68 : decode cX7_kinds 68 = .ok (.ireturn, 1) := by decide +kernel
theorem dX7_soups_0 : decode cX7_soups 0 = .ok (.aload_n 0, 1) := by decide +kernel
theorem dX7_soups_1 : decode cX7_soups 1 = .ok (.getfield 78, 3) := by decide +kernel
theorem dX7_soups_4 : decode cX7_soups 4 = .ok (.ifCond .ne 6, 3) := by decide +kernel
theorem dX7_soups_7 : decode cX7_soups 7 = .ok (.bipush (-3), 2) := by decide +kernel
theorem dX7_soups_9 : decode cX7_soups 9 = .ok (.ireturn, 1) := by decide +kernel
theorem dX7_soups_10 : decode cX7_soups 10 = .ok (.aload_n 0, 1) := by decide +kernel
theorem dX7_soups_11 : decode cX7_soups 11 = .ok (.getfield 111, 3) := by decide +kernel
theorem dX7_soups_14 : decode cX7_soups 14 = .ok (.istore_n 1, 1) := by decide +kernel
theorem dX7_soups_15 : decode cX7_soups 15 = .ok (.iconst 0, 1) := by decide +kernel
theorem dX7_soups_16 : decode cX7_soups 16 = .ok (.istore_n 2, 1) := by decide +kernel
theorem dX7_soups_17 : decode cX7_soups 17 = .ok (.iconst 0, 1) := by decide +kernel
theorem dX7_soups_18 : decode cX7_soups 18 = .ok (.istore_n 3, 1) := by decide +kernel
theorem dX7_soups_19 : decode cX7_soups 19 = .ok (.iload_n 3, 1) := by decide +kernel
theorem dX7_soups_20 : decode cX7_soups 20 = .ok (.iconst 3, 1) := by decide +kernel
theorem dX7_soups_21 : decode cX7_soups 21 = .ok (.if_icmp .gt 31, 3) := by decide +kernel
theorem dX7_soups_24 : decode cX7_soups 24 = .ok (.aload_n 0, 1) := by decide +kernel
theorem dX7_soups_25 : decode cX7_soups 25 = .ok (.iload_n 3, 1) := by decide +kernel
theorem dX7_soups_26 : decode cX7_soups 26 = .ok (.putfield 111, 3) := by decide +kernel
theorem dX7_soups_29 : decode cX7_soups 29 = .ok (.iload_n 2, 1) := by decide +kernel
theorem dX7_soups_30 : decode cX7_soups 30 = .ok (.aload_n 0, 1) := by decide +kernel
theorem dX7_soups_31 : decode cX7_soups 31 = .ok (.invokevirtual 231, 3) := by decide +kernel
theorem dX7_soups_34 : decode cX7_soups 34 = .ok (.ifCond .eq 9, 3) := by decide +kernel
theorem dX7_soups_37 : decode cX7_soups 37 = .ok (.iconst 1, 1) := by decide +kernel
theorem dX7_soups_38 : decode cX7_soups 38 = .ok (.iload_n 3, 1) := by decide +kernel
theorem dX7_soups_39 : decode cX7_soups 39 = .ok (.ishl, 1) := by decide +kernel
theorem dX7_soups_40 : decode cX7_soups 40 = .ok (.goto 4, 3) := by decide +kernel
theorem dX7_soups_43 : decode cX7_soups 43 = .ok (.iconst 0, 1) := by decide +kernel
theorem dX7_soups_44 : decode cX7_soups 44 = .ok (.ior, 1) := by decide +kernel
theorem dX7_soups_45 : decode cX7_soups 45 = .ok (.istore_n 2, 1) := by decide +kernel
theorem dX7_soups_46 : decode cX7_soups 46 = .ok (.iinc 3 1, 3) := by decide +kernel
theorem dX7_soups_49 : decode cX7_soups 49 = .ok (.goto (-30), 3) := by decide +kernel
theorem dX7_soups_52 : decode cX7_soups 52 = .ok (.aload_n 0, 1) := by decide +kernel
theorem dX7_soups_53 : decode cX7_soups 53 = .ok (.iload_n 1, 1) := by decide +kernel
theorem dX7_soups_54 : decode cX7_soups 54 = .ok (.putfield 111, 3) := by decide +kernel
theorem dX7_soups_57 : decode cX7_soups 57 = .ok (.iload_n 2, 1) := by decide +kernel
theorem dX7_soups_58 : decode cX7_soups 58 = .ok (.ireturn, 1) := by decide +kernel
theorem dX7_inLeastTerms_0 : decode cX7_inLeastTerms 0 = .ok (.lload_n 0, 1) := by decide +kernel
theorem dX7_inLeastTerms_1 : decode cX7_inLeastTerms 1 = .ok (.lstore 5, 2) := by decide +kernel
theorem dX7_inLeastTerms_3 : decode cX7_inLeastTerms 3 = .ok (.lload_n 2, 1) := by decide +kernel
theorem dX7_inLeastTerms_4 : decode cX7_inLeastTerms 4 = .ok (.lstore 7, 2) := by decide +kernel
theorem dX7_inLeastTerms_6 : decode cX7_inLeastTerms 6 = .ok (.lload 7, 2) := by decide +kernel
theorem dX7_inLeastTerms_8 : decode cX7_inLeastTerms 8 = .ok (.lconst 0, 1) := by decide +kernel
theorem dX7_inLeastTerms_9 : decode cX7_inLeastTerms 9 = .ok (.lcmp, 1) := by decide +kernel
theorem dX7_inLeastTerms_10 : decode cX7_inLeastTerms 10 = .ok (.ifCond .eq 21, 3) := by decide +kernel
theorem dX7_inLeastTerms_13 : decode cX7_inLeastTerms 13 = .ok (.lload 5, 2) := by decide +kernel
theorem dX7_inLeastTerms_15 : decode cX7_inLeastTerms 15 = .ok (.lload 7, 2) := by decide +kernel
theorem dX7_inLeastTerms_17 : decode cX7_inLeastTerms 17 = .ok (.lrem, 1) := by decide +kernel
theorem dX7_inLeastTerms_18 : decode cX7_inLeastTerms 18 = .ok (.lstore 9, 2) := by decide +kernel
theorem dX7_inLeastTerms_20 : decode cX7_inLeastTerms 20 = .ok (.lload 7, 2) := by decide +kernel
theorem dX7_inLeastTerms_22 : decode cX7_inLeastTerms 22 = .ok (.lstore 5, 2) := by decide +kernel
theorem dX7_inLeastTerms_24 : decode cX7_inLeastTerms 24 = .ok (.lload 9, 2) := by decide +kernel
theorem dX7_inLeastTerms_26 : decode cX7_inLeastTerms 26 = .ok (.lstore 7, 2) := by decide +kernel
theorem dX7_inLeastTerms_28 : decode cX7_inLeastTerms 28 = .ok (.goto (-22), 3) := by decide +kernel
theorem dX7_inLeastTerms_31 : decode cX7_inLeastTerms 31 = .ok (.iload 4, 2) := by decide +kernel
theorem dX7_inLeastTerms_33 : decode cX7_inLeastTerms 33 = .ok (.ifCond .ne 10, 3) := by decide +kernel
theorem dX7_inLeastTerms_36 : decode cX7_inLeastTerms 36 = .ok (.lload_n 0, 1) := by decide +kernel
theorem dX7_inLeastTerms_37 : decode cX7_inLeastTerms 37 = .ok (.lload 5, 2) := by decide +kernel
theorem dX7_inLeastTerms_39 : decode cX7_inLeastTerms 39 = .ok (.ldiv, 1) := by decide +kernel
theorem dX7_inLeastTerms_40 : decode cX7_inLeastTerms 40 = .ok (.goto 7, 3) := by decide +kernel
theorem dX7_inLeastTerms_43 : decode cX7_inLeastTerms 43 = .ok (.lload_n 2, 1) := by decide +kernel
theorem dX7_inLeastTerms_44 : decode cX7_inLeastTerms 44 = .ok (.lload 5, 2) := by decide +kernel
theorem dX7_inLeastTerms_46 : decode cX7_inLeastTerms 46 = .ok (.ldiv, 1) := by decide +kernel
theorem dX7_inLeastTerms_47 : decode cX7_inLeastTerms 47 = .ok (.lreturn, 1) := by decide +kernel
theorem dX7_odds_0 : decode cX7_odds 0 = .ok (.aload_n 0, 1) := by decide +kernel
theorem dX7_odds_1 : decode cX7_odds 1 = .ok (.iload_n 1, 1) := by decide +kernel
theorem dX7_odds_2 : decode cX7_odds 2 = .ok (.invokevirtual 159, 3) := by decide +kernel
theorem dX7_odds_5 : decode cX7_odds 5 = .ok (.ifCond .eq 30, 3) := by decide +kernel
theorem dX7_odds_8 : decode cX7_odds 8 = .ok (.iload_n 2, 1) := by decide +kernel
theorem dX7_odds_9 : decode cX7_odds 9 = .ok (.invokestatic 162, 3) := by decide +kernel
theorem dX7_odds_12 : decode cX7_odds 12 = .ok (.ifCond .eq 23, 3) := by decide +kernel
theorem dX7_odds_15 : decode cX7_odds 15 = .ok (.iload_n 3, 1) := by decide +kernel
theorem dX7_odds_16 : decode cX7_odds 16 = .ok (.iconst 0, 1) := by decide +kernel
theorem dX7_odds_17 : decode cX7_odds 17 = .ok (.bipush 8, 2) := by decide +kernel
theorem dX7_odds_19 : decode cX7_odds 19 = .ok (.invokestatic 74, 3) := by decide +kernel
theorem dX7_odds_22 : decode cX7_odds 22 = .ok (.ifCond .eq 13, 3) := by decide +kernel
theorem dX7_odds_25 : decode cX7_odds 25 = .ok (.iload 4, 2) := by decide +kernel
theorem dX7_odds_27 : decode cX7_odds 27 = .ok (.iconst 0, 1) := by decide +kernel
theorem dX7_odds_28 : decode cX7_odds 28 = .ok (.iconst 1, 1) := by decide +kernel
theorem dX7_odds_29 : decode cX7_odds 29 = .ok (.invokestatic 74, 3) := by decide +kernel
theorem dX7_odds_32 : decode cX7_odds 32 = .ok (.ifCond .ne 7, 3) := by decide +kernel
theorem dX7_odds_35 : decode cX7_odds 35 = .ok (.ldc2_w 72, 3) := by decide +kernel
theorem dX7_odds_38 : decode cX7_odds 38 = .ok (.lreturn, 1) := by decide +kernel
theorem dX7_odds_39 : decode cX7_odds 39 = .ok (.aload_n 0, 1) := by decide +kernel
theorem dX7_odds_40 : decode cX7_odds 40 = .ok (.invokevirtual 224, 3) := by decide +kernel
theorem dX7_odds_43 : decode cX7_odds 43 = .ok (.iconst 0, 1) := by decide +kernel
theorem dX7_odds_44 : decode cX7_odds 44 = .ok (.istore 5, 2) := by decide +kernel
theorem dX7_odds_46 : decode cX7_odds 46 = .ok (.iload 5, 2) := by decide +kernel
theorem dX7_odds_48 : decode cX7_odds 48 = .ok (.iload_n 3, 1) := by decide +kernel
theorem dX7_odds_49 : decode cX7_odds 49 = .ok (.if_icmp .ge 14, 3) := by decide +kernel
theorem dX7_odds_52 : decode cX7_odds 52 = .ok (.aload_n 0, 1) := by decide +kernel
theorem dX7_odds_53 : decode cX7_odds 53 = .ok (.iconst 1, 1) := by decide +kernel
theorem dX7_odds_54 : decode cX7_odds 54 = .ok (.invokevirtual 227, 3) := by decide +kernel
theorem dX7_odds_57 : decode cX7_odds 57 = .ok (.iinc 5 1, 3) := by decide +kernel
theorem dX7_odds_60 : decode cX7_odds 60 = .ok (.goto (-14), 3) := by decide +kernel
theorem dX7_odds_63 : decode cX7_odds 63 = .ok (.lconst 0, 1) := by decide +kernel
theorem dX7_odds_64 : decode cX7_odds 64 = .ok (.lstore 5, 2) := by decide +kernel
theorem dX7_odds_66 : decode cX7_odds 66 = .ok (.iconst 0, 1) := by decide +kernel
theorem dX7_odds_67 : decode cX7_odds 67 = .ok (.istore 7, 2) := by decide +kernel
theorem dX7_odds_69 : decode cX7_odds 69 = .ok (.iload 7, 2) := by decide +kernel
theorem dX7_odds_71 : decode cX7_odds 71 = .ok (.aload_n 0, 1) := by decide +kernel
theorem dX7_odds_72 : decode cX7_odds 72 = .ok (.getfield 78, 3) := by decide +kernel
theorem dX7_odds_75 : decode cX7_odds 75 = .ok (.if_icmp .ge 54, 3) := by decide +kernel
theorem dX7_odds_78 : decode cX7_odds 78 = .ok (.lload 5, 2) := by decide +kernel
theorem dX7_odds_80 : decode cX7_odds 80 = .ok (.iload 7, 2) := by decide +kernel
theorem dX7_odds_82 : decode cX7_odds 82 = .ok (.aload_n 0, 1) := by decide +kernel
theorem dX7_odds_83 : decode cX7_odds 83 = .ok (.getfield 126, 3) := by decide +kernel
theorem dX7_odds_86 : decode cX7_odds 86 = .ok (.if_icmp .eq 33, 3) := by decide +kernel
theorem dX7_odds_89 : decode cX7_odds 89 = .ok (.aload_n 0, 1) := by decide +kernel
theorem dX7_odds_90 : decode cX7_odds 90 = .ok (.aload_n 0, 1) := by decide +kernel
theorem dX7_odds_91 : decode cX7_odds 91 = .ok (.getfield 28, 3) := by decide +kernel
theorem dX7_odds_94 : decode cX7_odds 94 = .ok (.iload_n 1, 1) := by decide +kernel
theorem dX7_odds_95 : decode cX7_odds 95 = .ok (.iaload, 1) := by decide +kernel
theorem dX7_odds_96 : decode cX7_odds 96 = .ok (.iload 7, 2) := by decide +kernel
theorem dX7_odds_98 : decode cX7_odds 98 = .ok (.aload_n 0, 1) := by decide +kernel
theorem dX7_odds_99 : decode cX7_odds 99 = .ok (.getfield 126, 3) := by decide +kernel
theorem dX7_odds_102 : decode cX7_odds 102 = .ok (.invokevirtual 149, 3) := by decide +kernel
theorem dX7_odds_105 : decode cX7_odds 105 = .ok (.iload_n 2, 1) := by decide +kernel
theorem dX7_odds_106 : decode cX7_odds 106 = .ok (.if_icmp .ne 13, 3) := by decide +kernel
theorem dX7_odds_109 : decode cX7_odds 109 = .ok (.aload_n 0, 1) := by decide +kernel
theorem dX7_odds_110 : decode cX7_odds 110 = .ok (.getfield 55, 3) := by decide +kernel
theorem dX7_odds_113 : decode cX7_odds 113 = .ok (.iload 7, 2) := by decide +kernel
theorem dX7_odds_115 : decode cX7_odds 115 = .ok (.laload, 1) := by decide +kernel
theorem dX7_odds_116 : decode cX7_odds 116 = .ok (.goto 4, 3) := by decide +kernel
theorem dX7_odds_119 : decode cX7_odds 119 = .ok (.lconst 0, 1) := by decide +kernel
theorem dX7_odds_120 : decode cX7_odds 120 = .ok (.ladd, 1) := by decide +kernel
theorem dX7_odds_121 : decode cX7_odds 121 = .ok (.lstore 5, 2) := by decide +kernel
theorem dX7_odds_123 : decode cX7_odds 123 = .ok (.iinc 7 1, 3) := by decide +kernel
theorem dX7_odds_126 : decode cX7_odds 126 = .ok (.goto (-57), 3) := by decide +kernel
theorem dX7_odds_129 : decode cX7_odds 129 = .ok (.lload 5, 2) := by decide +kernel
theorem dX7_odds_131 : decode cX7_odds 131 = .ok (.lconst 1, 1) := by decide +kernel
theorem dX7_odds_132 : decode cX7_odds 132 = .ok (.iload_n 3, 1) := by decide +kernel
theorem dX7_odds_133 : decode cX7_odds 133 = .ok (.lshl, 1) := by decide +kernel
theorem dX7_odds_134 : decode cX7_odds 134 = .ok (.iload 4, 2) := by decide +kernel
theorem dX7_odds_136 : decode cX7_odds 136 = .ok (.invokestatic 235, 3) := by decide +kernel
theorem dX7_odds_139 : decode cX7_odds 139 = .ok (.lreturn, 1) := by decide +kernel
theorem dX7_sheet_0 : decode cX7_sheet 0 = .ok (.aload_n 0, 1) := by decide +kernel
theorem dX7_sheet_1 : decode cX7_sheet 1 = .ok (.iconst 0, 1) := by decide +kernel
theorem dX7_sheet_2 : decode cX7_sheet 2 = .ok (.putfield 68, 3) := by decide +kernel
theorem dX7_sheet_5 : decode cX7_sheet 5 = .ok (.iload_n 1, 1) := by decide +kernel
theorem dX7_sheet_6 : decode cX7_sheet 6 = .ok (.invokestatic 87, 3) := by decide +kernel
theorem dX7_sheet_9 : decode cX7_sheet 9 = .ok (.ifCond .ne 5, 3) := by decide +kernel
theorem dX7_sheet_12 : decode cX7_sheet 12 = .ok (.iconst (-1), 1) := by decide +kernel
theorem dX7_sheet_13 : decode cX7_sheet 13 = .ok (.ireturn, 1) := by decide +kernel
theorem dX7_sheet_14 : decode cX7_sheet 14 = .ok (.iload_n 2, 1) := by decide +kernel
theorem dX7_sheet_15 : decode cX7_sheet 15 = .ok (.invokestatic 91, 3) := by decide +kernel
theorem dX7_sheet_18 : decode cX7_sheet 18 = .ok (.ifCond .eq 9, 3) := by decide +kernel
theorem dX7_sheet_21 : decode cX7_sheet 21 = .ok (.iload_n 3, 1) := by decide +kernel
theorem dX7_sheet_22 : decode cX7_sheet 22 = .ok (.bipush 60, 2) := by decide +kernel
theorem dX7_sheet_24 : decode cX7_sheet 24 = .ok (.if_icmp .le 6, 3) := by decide +kernel
theorem dX7_sheet_27 : decode cX7_sheet 27 = .ok (.bipush (-2), 2) := by decide +kernel
theorem dX7_sheet_29 : decode cX7_sheet 29 = .ok (.ireturn, 1) := by decide +kernel
theorem dX7_sheet_30 : decode cX7_sheet 30 = .ok (.iload_n 3, 1) := by decide +kernel
theorem dX7_sheet_31 : decode cX7_sheet 31 = .ok (.ifCond .ge 9, 3) := by decide +kernel
theorem dX7_sheet_34 : decode cX7_sheet 34 = .ok (.aload_n 0, 1) := by decide +kernel
theorem dX7_sheet_35 : decode cX7_sheet 35 = .ok (.iconst 4, 1) := by decide +kernel
theorem dX7_sheet_36 : decode cX7_sheet 36 = .ok (.invokevirtual 98, 3) := by decide +kernel
theorem dX7_sheet_39 : decode cX7_sheet 39 = .ok (.ireturn, 1) := by decide +kernel
theorem dX7_sheet_40 : decode cX7_sheet 40 = .ok (.aload_n 0, 1) := by decide +kernel
theorem dX7_sheet_41 : decode cX7_sheet 41 = .ok (.getfield 9, 3) := by decide +kernel
theorem dX7_sheet_44 : decode cX7_sheet 44 = .ok (.iload_n 1, 1) := by decide +kernel
theorem dX7_sheet_45 : decode cX7_sheet 45 = .ok (.iload_n 2, 1) := by decide +kernel
theorem dX7_sheet_46 : decode cX7_sheet 46 = .ok (.iastore, 1) := by decide +kernel
theorem dX7_sheet_47 : decode cX7_sheet 47 = .ok (.aload_n 0, 1) := by decide +kernel
theorem dX7_sheet_48 : decode cX7_sheet 48 = .ok (.getfield 13, 3) := by decide +kernel
theorem dX7_sheet_51 : decode cX7_sheet 51 = .ok (.iload_n 1, 1) := by decide +kernel
theorem dX7_sheet_52 : decode cX7_sheet 52 = .ok (.iload_n 3, 1) := by decide +kernel
theorem dX7_sheet_53 : decode cX7_sheet 53 = .ok (.iastore, 1) := by decide +kernel
theorem dX7_sheet_54 : decode cX7_sheet 54 = .ok (.iconst 0, 1) := by decide +kernel
theorem dX7_sheet_55 : decode cX7_sheet 55 = .ok (.istore 4, 2) := by decide +kernel
theorem dX7_sheet_57 : decode cX7_sheet 57 = .ok (.iload 4, 2) := by decide +kernel
theorem dX7_sheet_59 : decode cX7_sheet 59 = .ok (.bipush 60, 2) := by decide +kernel
theorem dX7_sheet_61 : decode cX7_sheet 61 = .ok (.if_icmp .ge 22, 3) := by decide +kernel
theorem dX7_sheet_64 : decode cX7_sheet 64 = .ok (.aload_n 0, 1) := by decide +kernel
theorem dX7_sheet_65 : decode cX7_sheet 65 = .ok (.getfield 16, 3) := by decide +kernel
theorem dX7_sheet_68 : decode cX7_sheet 68 = .ok (.bipush 60, 2) := by decide +kernel
theorem dX7_sheet_70 : decode cX7_sheet 70 = .ok (.iload_n 1, 1) := by decide +kernel
theorem dX7_sheet_71 : decode cX7_sheet 71 = .ok (.imul, 1) := by decide +kernel
theorem dX7_sheet_72 : decode cX7_sheet 72 = .ok (.iload 4, 2) := by decide +kernel
theorem dX7_sheet_74 : decode cX7_sheet 74 = .ok (.iadd, 1) := by decide +kernel
theorem dX7_sheet_75 : decode cX7_sheet 75 = .ok (.iconst 0, 1) := by decide +kernel
theorem dX7_sheet_76 : decode cX7_sheet 76 = .ok (.iastore, 1) := by decide +kernel
theorem dX7_sheet_77 : decode cX7_sheet 77 = .ok (.iinc 4 1, 3) := by decide +kernel
theorem dX7_sheet_80 : decode cX7_sheet 80 = .ok (.goto (-23), 3) := by decide +kernel
theorem dX7_sheet_83 : decode cX7_sheet 83 = .ok (.iconst 1, 1) := by decide +kernel
theorem dX7_sheet_84 : decode cX7_sheet 84 = .ok (.ireturn, 1) := by decide +kernel
theorem dX7_lose_0 : decode cX7_lose 0 = .ok (.iload_n 1, 1) := by decide +kernel
theorem dX7_lose_1 : decode cX7_lose 1 = .ok (.invokestatic 87, 3) := by decide +kernel
theorem dX7_lose_4 : decode cX7_lose 4 = .ok (.ifCond .ne 5, 3) := by decide +kernel
theorem dX7_lose_7 : decode cX7_lose 7 = .ok (.iconst (-1), 1) := by decide +kernel
theorem dX7_lose_8 : decode cX7_lose 8 = .ok (.ireturn, 1) := by decide +kernel
theorem dX7_lose_9 : decode cX7_lose 9 = .ok (.aload_n 0, 1) := by decide +kernel
theorem dX7_lose_10 : decode cX7_lose 10 = .ok (.getfield 9, 3) := by decide +kernel
theorem dX7_lose_13 : decode cX7_lose 13 = .ok (.iload_n 1, 1) := by decide +kernel
theorem dX7_lose_14 : decode cX7_lose 14 = .ok (.iaload, 1) := by decide +kernel
theorem dX7_lose_15 : decode cX7_lose 15 = .ok (.bipush (-9), 2) := by decide +kernel
theorem dX7_lose_17 : decode cX7_lose 17 = .ok (.if_icmp .ne 7, 3) := by decide +kernel
theorem dX7_lose_20 : decode cX7_lose 20 = .ok (.iconst 0, 1) := by decide +kernel
theorem dX7_lose_21 : decode cX7_lose 21 = .ok (.goto 4, 3) := by decide +kernel
theorem dX7_lose_24 : decode cX7_lose 24 = .ok (.iconst 1, 1) := by decide +kernel
theorem dX7_lose_25 : decode cX7_lose 25 = .ok (.istore_n 2, 1) := by decide +kernel
theorem dX7_lose_26 : decode cX7_lose 26 = .ok (.aload_n 0, 1) := by decide +kernel
theorem dX7_lose_27 : decode cX7_lose 27 = .ok (.getfield 9, 3) := by decide +kernel
theorem dX7_lose_30 : decode cX7_lose 30 = .ok (.iload_n 1, 1) := by decide +kernel
theorem dX7_lose_31 : decode cX7_lose 31 = .ok (.bipush (-9), 2) := by decide +kernel
theorem dX7_lose_33 : decode cX7_lose 33 = .ok (.iastore, 1) := by decide +kernel
theorem dX7_lose_34 : decode cX7_lose 34 = .ok (.iload_n 2, 1) := by decide +kernel
theorem dX7_lose_35 : decode cX7_lose 35 = .ok (.ireturn, 1) := by decide +kernel
theorem dX7_put_0 : decode cX7_put 0 = .ok (.aload_n 0, 1) := by decide +kernel
theorem dX7_put_1 : decode cX7_put 1 = .ok (.iconst 0, 1) := by decide +kernel
theorem dX7_put_2 : decode cX7_put 2 = .ok (.putfield 68, 3) := by decide +kernel
theorem dX7_put_5 : decode cX7_put 5 = .ok (.iload_n 1, 1) := by decide +kernel
theorem dX7_put_6 : decode cX7_put 6 = .ok (.invokestatic 87, 3) := by decide +kernel
theorem dX7_put_9 : decode cX7_put 9 = .ok (.ifCond .ne 5, 3) := by decide +kernel
theorem dX7_put_12 : decode cX7_put 12 = .ok (.iconst (-1), 1) := by decide +kernel
theorem dX7_put_13 : decode cX7_put 13 = .ok (.ireturn, 1) := by decide +kernel
theorem dX7_put_14 : decode cX7_put 14 = .ok (.aload_n 0, 1) := by decide +kernel
theorem dX7_put_15 : decode cX7_put 15 = .ok (.getfield 9, 3) := by decide +kernel
theorem dX7_put_18 : decode cX7_put 18 = .ok (.iload_n 1, 1) := by decide +kernel
theorem dX7_put_19 : decode cX7_put 19 = .ok (.iaload, 1) := by decide +kernel
theorem dX7_put_20 : decode cX7_put 20 = .ok (.bipush (-9), 2) := by decide +kernel
theorem dX7_put_22 : decode cX7_put 22 = .ok (.if_icmp .ne 9, 3) := by decide +kernel
theorem dX7_put_25 : decode cX7_put 25 = .ok (.aload_n 0, 1) := by decide +kernel
theorem dX7_put_26 : decode cX7_put 26 = .ok (.iconst 1, 1) := by decide +kernel
theorem dX7_put_27 : decode cX7_put 27 = .ok (.invokevirtual 98, 3) := by decide +kernel
theorem dX7_put_30 : decode cX7_put 30 = .ok (.ireturn, 1) := by decide +kernel
theorem dX7_put_31 : decode cX7_put 31 = .ok (.iload_n 2, 1) := by decide +kernel
theorem dX7_put_32 : decode cX7_put 32 = .ok (.iconst 0, 1) := by decide +kernel
theorem dX7_put_33 : decode cX7_put 33 = .ok (.aload_n 0, 1) := by decide +kernel
theorem dX7_put_34 : decode cX7_put 34 = .ok (.getfield 13, 3) := by decide +kernel
theorem dX7_put_37 : decode cX7_put 37 = .ok (.iload_n 1, 1) := by decide +kernel
theorem dX7_put_38 : decode cX7_put 38 = .ok (.iaload, 1) := by decide +kernel
theorem dX7_put_39 : decode cX7_put 39 = .ok (.iconst 1, 1) := by decide +kernel
theorem dX7_put_40 : decode cX7_put 40 = .ok (.isub, 1) := by decide +kernel
theorem dX7_put_41 : decode cX7_put 41 = .ok (.invokestatic 74, 3) := by decide +kernel
theorem dX7_put_44 : decode cX7_put 44 = .ok (.ifCond .ne 9, 3) := by decide +kernel
theorem dX7_put_47 : decode cX7_put 47 = .ok (.aload_n 0, 1) := by decide +kernel
theorem dX7_put_48 : decode cX7_put 48 = .ok (.iconst 3, 1) := by decide +kernel
theorem dX7_put_49 : decode cX7_put 49 = .ok (.invokevirtual 98, 3) := by decide +kernel
theorem dX7_put_52 : decode cX7_put 52 = .ok (.ireturn, 1) := by decide +kernel
theorem dX7_put_53 : decode cX7_put 53 = .ok (.aload_n 0, 1) := by decide +kernel
theorem dX7_put_54 : decode cX7_put 54 = .ok (.getfield 16, 3) := by decide +kernel
theorem dX7_put_57 : decode cX7_put 57 = .ok (.bipush 60, 2) := by decide +kernel
theorem dX7_put_59 : decode cX7_put 59 = .ok (.iload_n 1, 1) := by decide +kernel
theorem dX7_put_60 : decode cX7_put 60 = .ok (.imul, 1) := by decide +kernel
theorem dX7_put_61 : decode cX7_put 61 = .ok (.iload_n 2, 1) := by decide +kernel
theorem dX7_put_62 : decode cX7_put 62 = .ok (.iadd, 1) := by decide +kernel
theorem dX7_put_63 : decode cX7_put 63 = .ok (.aload_n 0, 1) := by decide +kernel
theorem dX7_put_64 : decode cX7_put 64 = .ok (.getfield 9, 3) := by decide +kernel
theorem dX7_put_67 : decode cX7_put 67 = .ok (.iload_n 1, 1) := by decide +kernel
theorem dX7_put_68 : decode cX7_put 68 = .ok (.iaload, 1) := by decide +kernel
theorem dX7_put_69 : decode cX7_put 69 = .ok (.ifCond .ne 8, 3) := by decide +kernel
theorem dX7_put_72 : decode cX7_put 72 = .ok (.iload_n 3, 1) := by decide +kernel
theorem dX7_put_73 : decode cX7_put 73 = .ok (.i2b, 1) := by decide +kernel
theorem dX7_put_74 : decode cX7_put 74 = .ok (.goto 19, 3) := by decide +kernel
theorem dX7_put_77 : decode cX7_put 77 = .ok (.aload_n 0, 1) := by decide +kernel
theorem dX7_put_78 : decode cX7_put 78 = .ok (.getfield 9, 3) := by decide +kernel
theorem dX7_put_81 : decode cX7_put 81 = .ok (.iload_n 1, 1) := by decide +kernel
theorem dX7_put_82 : decode cX7_put 82 = .ok (.iaload, 1) := by decide +kernel
theorem dX7_put_83 : decode cX7_put 83 = .ok (.iconst 1, 1) := by decide +kernel
theorem dX7_put_84 : decode cX7_put 84 = .ok (.if_icmp .ne 8, 3) := by decide +kernel
theorem dX7_put_87 : decode cX7_put 87 = .ok (.iload_n 3, 1) := by decide +kernel
theorem dX7_put_88 : decode cX7_put 88 = .ok (.i2s, 1) := by decide +kernel
theorem dX7_put_89 : decode cX7_put 89 = .ok (.goto 4, 3) := by decide +kernel
theorem dX7_put_92 : decode cX7_put 92 = .ok (.iload_n 3, 1) := by decide +kernel
theorem dX7_put_93 : decode cX7_put 93 = .ok (.iastore, 1) := by decide +kernel
theorem dX7_put_94 : decode cX7_put 94 = .ok (.iconst 1, 1) := by decide +kernel
theorem dX7_put_95 : decode cX7_put 95 = .ok (.ireturn, 1) := by decide +kernel
theorem dX7_cell_0 : decode cX7_cell 0 = .ok (.aload_n 0, 1) := by decide +kernel
theorem dX7_cell_1 : decode cX7_cell 1 = .ok (.iconst 0, 1) := by decide +kernel
theorem dX7_cell_2 : decode cX7_cell 2 = .ok (.putfield 68, 3) := by decide +kernel
theorem dX7_cell_5 : decode cX7_cell 5 = .ok (.iload_n 1, 1) := by decide +kernel
theorem dX7_cell_6 : decode cX7_cell 6 = .ok (.invokestatic 87, 3) := by decide +kernel
theorem dX7_cell_9 : decode cX7_cell 9 = .ok (.ifCond .eq 10, 3) := by decide +kernel
theorem dX7_cell_12 : decode cX7_cell 12 = .ok (.iload_n 3, 1) := by decide +kernel
theorem dX7_cell_13 : decode cX7_cell 13 = .ok (.invokestatic 91, 3) := by decide +kernel
theorem dX7_cell_16 : decode cX7_cell 16 = .ok (.ifCond .ne 7, 3) := by decide +kernel
theorem dX7_cell_19 : decode cX7_cell 19 = .ok (.ldc2_w 72, 3) := by decide +kernel
theorem dX7_cell_22 : decode cX7_cell 22 = .ok (.lreturn, 1) := by decide +kernel
theorem dX7_cell_23 : decode cX7_cell 23 = .ok (.aload_n 0, 1) := by decide +kernel
theorem dX7_cell_24 : decode cX7_cell 24 = .ok (.getfield 9, 3) := by decide +kernel
theorem dX7_cell_27 : decode cX7_cell 27 = .ok (.iload_n 1, 1) := by decide +kernel
theorem dX7_cell_28 : decode cX7_cell 28 = .ok (.iaload, 1) := by decide +kernel
theorem dX7_cell_29 : decode cX7_cell 29 = .ok (.bipush (-9), 2) := by decide +kernel
theorem dX7_cell_31 : decode cX7_cell 31 = .ok (.if_icmp .eq 19, 3) := by decide +kernel
theorem dX7_cell_34 : decode cX7_cell 34 = .ok (.aload_n 0, 1) := by decide +kernel
theorem dX7_cell_35 : decode cX7_cell 35 = .ok (.getfield 9, 3) := by decide +kernel
theorem dX7_cell_38 : decode cX7_cell 38 = .ok (.iload_n 1, 1) := by decide +kernel
theorem dX7_cell_39 : decode cX7_cell 39 = .ok (.iaload, 1) := by decide +kernel
theorem dX7_cell_40 : decode cX7_cell 40 = .ok (.iload_n 3, 1) := by decide +kernel
theorem dX7_cell_41 : decode cX7_cell 41 = .ok (.if_icmp .eq 9, 3) := by decide +kernel
theorem dX7_cell_44 : decode cX7_cell 44 = .ok (.aload_n 0, 1) := by decide +kernel
theorem dX7_cell_45 : decode cX7_cell 45 = .ok (.iconst 2, 1) := by decide +kernel
theorem dX7_cell_46 : decode cX7_cell 46 = .ok (.invokevirtual 239, 3) := by decide +kernel
theorem dX7_cell_49 : decode cX7_cell 49 = .ok (.lreturn, 1) := by decide +kernel
theorem dX7_cell_50 : decode cX7_cell 50 = .ok (.aload_n 0, 1) := by decide +kernel
theorem dX7_cell_51 : decode cX7_cell 51 = .ok (.getfield 9, 3) := by decide +kernel
theorem dX7_cell_54 : decode cX7_cell 54 = .ok (.iload_n 1, 1) := by decide +kernel
theorem dX7_cell_55 : decode cX7_cell 55 = .ok (.iaload, 1) := by decide +kernel
theorem dX7_cell_56 : decode cX7_cell 56 = .ok (.bipush (-9), 2) := by decide +kernel
theorem dX7_cell_58 : decode cX7_cell 58 = .ok (.if_icmp .ne 9, 3) := by decide +kernel
theorem dX7_cell_61 : decode cX7_cell 61 = .ok (.aload_n 0, 1) := by decide +kernel
theorem dX7_cell_62 : decode cX7_cell 62 = .ok (.iconst 1, 1) := by decide +kernel
theorem dX7_cell_63 : decode cX7_cell 63 = .ok (.invokevirtual 239, 3) := by decide +kernel
theorem dX7_cell_66 : decode cX7_cell 66 = .ok (.lreturn, 1) := by decide +kernel
theorem dX7_cell_67 : decode cX7_cell 67 = .ok (.iload_n 2, 1) := by decide +kernel
theorem dX7_cell_68 : decode cX7_cell 68 = .ok (.iconst 0, 1) := by decide +kernel
theorem dX7_cell_69 : decode cX7_cell 69 = .ok (.aload_n 0, 1) := by decide +kernel
theorem dX7_cell_70 : decode cX7_cell 70 = .ok (.getfield 13, 3) := by decide +kernel
theorem dX7_cell_73 : decode cX7_cell 73 = .ok (.iload_n 1, 1) := by decide +kernel
theorem dX7_cell_74 : decode cX7_cell 74 = .ok (.iaload, 1) := by decide +kernel
theorem dX7_cell_75 : decode cX7_cell 75 = .ok (.iconst 1, 1) := by decide +kernel
theorem dX7_cell_76 : decode cX7_cell 76 = .ok (.isub, 1) := by decide +kernel
theorem dX7_cell_77 : decode cX7_cell 77 = .ok (.invokestatic 74, 3) := by decide +kernel
theorem dX7_cell_80 : decode cX7_cell 80 = .ok (.ifCond .ne 9, 3) := by decide +kernel
theorem dX7_cell_83 : decode cX7_cell 83 = .ok (.aload_n 0, 1) := by decide +kernel
theorem dX7_cell_84 : decode cX7_cell 84 = .ok (.iconst 3, 1) := by decide +kernel
theorem dX7_cell_85 : decode cX7_cell 85 = .ok (.invokevirtual 239, 3) := by decide +kernel
theorem dX7_cell_88 : decode cX7_cell 88 = .ok (.lreturn, 1) := by decide +kernel
theorem dX7_cell_89 : decode cX7_cell 89 = .ok (.aload_n 0, 1) := by decide +kernel
theorem dX7_cell_90 : decode cX7_cell 90 = .ok (.getfield 16, 3) := by decide +kernel
theorem dX7_cell_93 : decode cX7_cell 93 = .ok (.bipush 60, 2) := by decide +kernel
theorem dX7_cell_95 : decode cX7_cell 95 = .ok (.iload_n 1, 1) := by decide +kernel
theorem dX7_cell_96 : decode cX7_cell 96 = .ok (.imul, 1) := by decide +kernel
theorem dX7_cell_97 : decode cX7_cell 97 = .ok (.iload_n 2, 1) := by decide +kernel
theorem dX7_cell_98 : decode cX7_cell 98 = .ok (.iadd, 1) := by decide +kernel
theorem dX7_cell_99 : decode cX7_cell 99 = .ok (.iaload, 1) := by decide +kernel
theorem dX7_cell_100 : decode cX7_cell 100 = .ok (.i2l, 1) := by decide +kernel
theorem dX7_cell_101 : decode cX7_cell 101 = .ok (.lreturn, 1) := by decide +kernel
theorem dX7_copy_0 : decode cX7_copy 0 = .ok (.aload_n 0, 1) := by decide +kernel
theorem dX7_copy_1 : decode cX7_copy 1 = .ok (.iconst 0, 1) := by decide +kernel
theorem dX7_copy_2 : decode cX7_copy 2 = .ok (.putfield 68, 3) := by decide +kernel
theorem dX7_copy_5 : decode cX7_copy 5 = .ok (.iload_n 1, 1) := by decide +kernel
theorem dX7_copy_6 : decode cX7_copy 6 = .ok (.invokestatic 87, 3) := by decide +kernel
theorem dX7_copy_9 : decode cX7_copy 9 = .ok (.ifCond .eq 10, 3) := by decide +kernel
theorem dX7_copy_12 : decode cX7_copy 12 = .ok (.iload_n 3, 1) := by decide +kernel
theorem dX7_copy_13 : decode cX7_copy 13 = .ok (.invokestatic 87, 3) := by decide +kernel
theorem dX7_copy_16 : decode cX7_copy 16 = .ok (.ifCond .ne 5, 3) := by decide +kernel
theorem dX7_copy_19 : decode cX7_copy 19 = .ok (.iconst (-1), 1) := by decide +kernel
theorem dX7_copy_20 : decode cX7_copy 20 = .ok (.ireturn, 1) := by decide +kernel
theorem dX7_copy_21 : decode cX7_copy 21 = .ok (.aload_n 0, 1) := by decide +kernel
theorem dX7_copy_22 : decode cX7_copy 22 = .ok (.getfield 9, 3) := by decide +kernel
theorem dX7_copy_25 : decode cX7_copy 25 = .ok (.iload_n 1, 1) := by decide +kernel
theorem dX7_copy_26 : decode cX7_copy 26 = .ok (.iaload, 1) := by decide +kernel
theorem dX7_copy_27 : decode cX7_copy 27 = .ok (.bipush (-9), 2) := by decide +kernel
theorem dX7_copy_29 : decode cX7_copy 29 = .ok (.if_icmp .eq 14, 3) := by decide +kernel
theorem dX7_copy_32 : decode cX7_copy 32 = .ok (.aload_n 0, 1) := by decide +kernel
theorem dX7_copy_33 : decode cX7_copy 33 = .ok (.getfield 9, 3) := by decide +kernel
theorem dX7_copy_36 : decode cX7_copy 36 = .ok (.iload_n 3, 1) := by decide +kernel
theorem dX7_copy_37 : decode cX7_copy 37 = .ok (.iaload, 1) := by decide +kernel
theorem dX7_copy_38 : decode cX7_copy 38 = .ok (.bipush (-9), 2) := by decide +kernel
theorem dX7_copy_40 : decode cX7_copy 40 = .ok (.if_icmp .ne 9, 3) := by decide +kernel
theorem dX7_copy_43 : decode cX7_copy 43 = .ok (.aload_n 0, 1) := by decide +kernel
theorem dX7_copy_44 : decode cX7_copy 44 = .ok (.iconst 1, 1) := by decide +kernel
theorem dX7_copy_45 : decode cX7_copy 45 = .ok (.invokevirtual 98, 3) := by decide +kernel
theorem dX7_copy_48 : decode cX7_copy 48 = .ok (.ireturn, 1) := by decide +kernel
theorem dX7_copy_49 : decode cX7_copy 49 = .ok (.aload_n 0, 1) := by decide +kernel
theorem dX7_copy_50 : decode cX7_copy 50 = .ok (.getfield 9, 3) := by decide +kernel
theorem dX7_copy_53 : decode cX7_copy 53 = .ok (.iload_n 1, 1) := by decide +kernel
theorem dX7_copy_54 : decode cX7_copy 54 = .ok (.iaload, 1) := by decide +kernel
theorem dX7_copy_55 : decode cX7_copy 55 = .ok (.aload_n 0, 1) := by decide +kernel
theorem dX7_copy_56 : decode cX7_copy 56 = .ok (.getfield 9, 3) := by decide +kernel
theorem dX7_copy_59 : decode cX7_copy 59 = .ok (.iload_n 3, 1) := by decide +kernel
theorem dX7_copy_60 : decode cX7_copy 60 = .ok (.iaload, 1) := by decide +kernel
theorem dX7_copy_61 : decode cX7_copy 61 = .ok (.if_icmp .eq 9, 3) := by decide +kernel
theorem dX7_copy_64 : decode cX7_copy 64 = .ok (.aload_n 0, 1) := by decide +kernel
theorem dX7_copy_65 : decode cX7_copy 65 = .ok (.iconst 2, 1) := by decide +kernel
theorem dX7_copy_66 : decode cX7_copy 66 = .ok (.invokevirtual 98, 3) := by decide +kernel
theorem dX7_copy_69 : decode cX7_copy 69 = .ok (.ireturn, 1) := by decide +kernel
theorem dX7_copy_70 : decode cX7_copy 70 = .ok (.iload_n 2, 1) := by decide +kernel
theorem dX7_copy_71 : decode cX7_copy 71 = .ok (.ifCond .lt 38, 3) := by decide +kernel
theorem dX7_copy_74 : decode cX7_copy 74 = .ok (.iload 4, 2) := by decide +kernel
theorem dX7_copy_76 : decode cX7_copy 76 = .ok (.ifCond .lt 33, 3) := by decide +kernel
theorem dX7_copy_79 : decode cX7_copy 79 = .ok (.iload 5, 2) := by decide +kernel
theorem dX7_copy_81 : decode cX7_copy 81 = .ok (.ifCond .lt 28, 3) := by decide +kernel
theorem dX7_copy_84 : decode cX7_copy 84 = .ok (.iload_n 2, 1) := by decide +kernel
theorem dX7_copy_85 : decode cX7_copy 85 = .ok (.aload_n 0, 1) := by decide +kernel
theorem dX7_copy_86 : decode cX7_copy 86 = .ok (.getfield 13, 3) := by decide +kernel
theorem dX7_copy_89 : decode cX7_copy 89 = .ok (.iload_n 1, 1) := by decide +kernel
theorem dX7_copy_90 : decode cX7_copy 90 = .ok (.iaload, 1) := by decide +kernel
theorem dX7_copy_91 : decode cX7_copy 91 = .ok (.if_icmp .gt 18, 3) := by decide +kernel
theorem dX7_copy_94 : decode cX7_copy 94 = .ok (.iload 4, 2) := by decide +kernel
theorem dX7_copy_96 : decode cX7_copy 96 = .ok (.aload_n 0, 1) := by decide +kernel
theorem dX7_copy_97 : decode cX7_copy 97 = .ok (.getfield 13, 3) := by decide +kernel
theorem dX7_copy_100 : decode cX7_copy 100 = .ok (.iload_n 3, 1) := by decide +kernel
theorem dX7_copy_101 : decode cX7_copy 101 = .ok (.iaload, 1) := by decide +kernel
theorem dX7_copy_102 : decode cX7_copy 102 = .ok (.if_icmp .gt 7, 3) := by decide +kernel
theorem dX7_copy_105 : decode cX7_copy 105 = .ok (.iconst 1, 1) := by decide +kernel
theorem dX7_copy_106 : decode cX7_copy 106 = .ok (.goto 4, 3) := by decide +kernel
theorem dX7_copy_109 : decode cX7_copy 109 = .ok (.iconst 0, 1) := by decide +kernel
theorem dX7_copy_110 : decode cX7_copy 110 = .ok (.istore 6, 2) := by decide +kernel
theorem dX7_copy_112 : decode cX7_copy 112 = .ok (.iload 6, 2) := by decide +kernel
theorem dX7_copy_114 : decode cX7_copy 114 = .ok (.ifCond .eq 30, 3) := by decide +kernel
theorem dX7_copy_117 : decode cX7_copy 117 = .ok (.iload 5, 2) := by decide +kernel
theorem dX7_copy_119 : decode cX7_copy 119 = .ok (.aload_n 0, 1) := by decide +kernel
theorem dX7_copy_120 : decode cX7_copy 120 = .ok (.getfield 13, 3) := by decide +kernel
theorem dX7_copy_123 : decode cX7_copy 123 = .ok (.iload_n 1, 1) := by decide +kernel
theorem dX7_copy_124 : decode cX7_copy 124 = .ok (.iaload, 1) := by decide +kernel
theorem dX7_copy_125 : decode cX7_copy 125 = .ok (.iload_n 2, 1) := by decide +kernel
theorem dX7_copy_126 : decode cX7_copy 126 = .ok (.isub, 1) := by decide +kernel
theorem dX7_copy_127 : decode cX7_copy 127 = .ok (.if_icmp .gt 17, 3) := by decide +kernel
theorem dX7_copy_130 : decode cX7_copy 130 = .ok (.iload 5, 2) := by decide +kernel
theorem dX7_copy_132 : decode cX7_copy 132 = .ok (.aload_n 0, 1) := by decide +kernel
theorem dX7_copy_133 : decode cX7_copy 133 = .ok (.getfield 13, 3) := by decide +kernel
theorem dX7_copy_136 : decode cX7_copy 136 = .ok (.iload_n 3, 1) := by decide +kernel
theorem dX7_copy_137 : decode cX7_copy 137 = .ok (.iaload, 1) := by decide +kernel
theorem dX7_copy_138 : decode cX7_copy 138 = .ok (.iload 4, 2) := by decide +kernel
theorem dX7_copy_140 : decode cX7_copy 140 = .ok (.isub, 1) := by decide +kernel
theorem dX7_copy_141 : decode cX7_copy 141 = .ok (.if_icmp .le 9, 3) := by decide +kernel
theorem dX7_copy_144 : decode cX7_copy 144 = .ok (.aload_n 0, 1) := by decide +kernel
theorem dX7_copy_145 : decode cX7_copy 145 = .ok (.iconst 3, 1) := by decide +kernel
theorem dX7_copy_146 : decode cX7_copy 146 = .ok (.invokevirtual 98, 3) := by decide +kernel
theorem dX7_copy_149 : decode cX7_copy 149 = .ok (.ireturn, 1) := by decide +kernel
theorem dX7_copy_150 : decode cX7_copy 150 = .ok (.iload_n 2, 1) := by decide +kernel
theorem dX7_copy_151 : decode cX7_copy 151 = .ok (.iload 4, 2) := by decide +kernel
theorem dX7_copy_153 : decode cX7_copy 153 = .ok (.if_icmp .ge 7, 3) := by decide +kernel
theorem dX7_copy_156 : decode cX7_copy 156 = .ok (.iconst 1, 1) := by decide +kernel
theorem dX7_copy_157 : decode cX7_copy 157 = .ok (.goto 4, 3) := by decide +kernel
theorem dX7_copy_160 : decode cX7_copy 160 = .ok (.iconst 0, 1) := by decide +kernel
theorem dX7_copy_161 : decode cX7_copy 161 = .ok (.istore 7, 2) := by decide +kernel
theorem dX7_copy_163 : decode cX7_copy 163 = .ok (.iconst 0, 1) := by decide +kernel
theorem dX7_copy_164 : decode cX7_copy 164 = .ok (.istore 8, 2) := by decide +kernel
theorem dX7_copy_166 : decode cX7_copy 166 = .ok (.iload 8, 2) := by decide +kernel
theorem dX7_copy_168 : decode cX7_copy 168 = .ok (.iload 5, 2) := by decide +kernel
theorem dX7_copy_170 : decode cX7_copy 170 = .ok (.if_icmp .ge 57, 3) := by decide +kernel
theorem dX7_copy_173 : decode cX7_copy 173 = .ok (.iload 7, 2) := by decide +kernel
theorem dX7_copy_175 : decode cX7_copy 175 = .ok (.ifCond .eq 13, 3) := by decide +kernel
theorem dX7_copy_178 : decode cX7_copy 178 = .ok (.iload 5, 2) := by decide +kernel
theorem dX7_copy_180 : decode cX7_copy 180 = .ok (.iconst 1, 1) := by decide +kernel
theorem dX7_copy_181 : decode cX7_copy 181 = .ok (.isub, 1) := by decide +kernel
theorem dX7_copy_182 : decode cX7_copy 182 = .ok (.iload 8, 2) := by decide +kernel
theorem dX7_copy_184 : decode cX7_copy 184 = .ok (.isub, 1) := by decide +kernel
theorem dX7_copy_185 : decode cX7_copy 185 = .ok (.goto 5, 3) := by decide +kernel
theorem dX7_copy_188 : decode cX7_copy 188 = .ok (.iload 8, 2) := by decide +kernel
theorem dX7_copy_190 : decode cX7_copy 190 = .ok (.istore 9, 2) := by decide +kernel
theorem dX7_copy_192 : decode cX7_copy 192 = .ok (.aload_n 0, 1) := by decide +kernel
theorem dX7_copy_193 : decode cX7_copy 193 = .ok (.getfield 16, 3) := by decide +kernel
theorem dX7_copy_196 : decode cX7_copy 196 = .ok (.bipush 60, 2) := by decide +kernel
theorem dX7_copy_198 : decode cX7_copy 198 = .ok (.iload_n 3, 1) := by decide +kernel
theorem dX7_copy_199 : decode cX7_copy 199 = .ok (.imul, 1) := by decide +kernel
theorem dX7_copy_200 : decode cX7_copy 200 = .ok (.iload 4, 2) := by decide +kernel
theorem dX7_copy_202 : decode cX7_copy 202 = .ok (.iadd, 1) := by decide +kernel
theorem dX7_copy_203 : decode cX7_copy 203 = .ok (.iload 9, 2) := by decide +kernel
theorem dX7_copy_205 : decode cX7_copy 205 = .ok (.iadd, 1) := by decide +kernel
theorem dX7_copy_206 : decode cX7_copy 206 = .ok (.aload_n 0, 1) := by decide +kernel
theorem dX7_copy_207 : decode cX7_copy 207 = .ok (.getfield 16, 3) := by decide +kernel
theorem dX7_copy_210 : decode cX7_copy 210 = .ok (.bipush 60, 2) := by decide +kernel
theorem dX7_copy_212 : decode cX7_copy 212 = .ok (.iload_n 1, 1) := by decide +kernel
theorem dX7_copy_213 : decode cX7_copy 213 = .ok (.imul, 1) := by decide +kernel
theorem dX7_copy_214 : decode cX7_copy 214 = .ok (.iload_n 2, 1) := by decide +kernel
theorem dX7_copy_215 : decode cX7_copy 215 = .ok (.iadd, 1) := by decide +kernel
theorem dX7_copy_216 : decode cX7_copy 216 = .ok (.iload 9, 2) := by decide +kernel
theorem dX7_copy_218 : decode cX7_copy 218 = .ok (.iadd, 1) := by decide +kernel
theorem dX7_copy_219 : decode cX7_copy 219 = .ok (.iaload, 1) := by decide +kernel
theorem dX7_copy_220 : decode cX7_copy 220 = .ok (.iastore, 1) := by decide +kernel
theorem dX7_copy_221 : decode cX7_copy 221 = .ok (.iinc 8 1, 3) := by decide +kernel
theorem dX7_copy_224 : decode cX7_copy 224 = .ok (.goto (-58), 3) := by decide +kernel
theorem dX7_copy_227 : decode cX7_copy 227 = .ok (.iload 5, 2) := by decide +kernel
theorem dX7_copy_229 : decode cX7_copy 229 = .ok (.ireturn, 1) := by decide +kernel
theorem dX7_begins_0 : decode cX7_begins 0 = .ok (.aload_n 0, 1) := by decide +kernel
theorem dX7_begins_1 : decode cX7_begins 1 = .ok (.bipush 31, 2) := by decide +kernel
theorem dX7_begins_3 : decode cX7_begins 3 = .ok (.aload_n 0, 1) := by decide +kernel
theorem dX7_begins_4 : decode cX7_begins 4 = .ok (.getfield 243, 3) := by decide +kernel
theorem dX7_begins_7 : decode cX7_begins 7 = .ok (.imul, 1) := by decide +kernel
theorem dX7_begins_8 : decode cX7_begins 8 = .ok (.iload_n 1, 1) := by decide +kernel
theorem dX7_begins_9 : decode cX7_begins 9 = .ok (.iadd, 1) := by decide +kernel
theorem dX7_begins_10 : decode cX7_begins 10 = .ok (.putfield 243, 3) := by decide +kernel
theorem dX7_begins_13 : decode cX7_begins 13 = .ok (.return_, 1) := by decide +kernel
theorem dX7_tell_0 : decode cX7_tell 0 = .ok (.aload_n 0, 1) := by decide +kernel
theorem dX7_tell_1 : decode cX7_tell 1 = .ok (.iload_n 1, 1) := by decide +kernel
theorem dX7_tell_2 : decode cX7_tell 2 = .ok (.invokevirtual 153, 3) := by decide +kernel
theorem dX7_tell_5 : decode cX7_tell 5 = .ok (.ifCond .ne 5, 3) := by decide +kernel
theorem dX7_tell_8 : decode cX7_tell 8 = .ok (.iconst (-1), 1) := by decide +kernel
theorem dX7_tell_9 : decode cX7_tell 9 = .ok (.ireturn, 1) := by decide +kernel
theorem dX7_tell_10 : decode cX7_tell 10 = .ok (.aload_n 0, 1) := by decide +kernel
theorem dX7_tell_11 : decode cX7_tell 11 = .ok (.getfield 22, 3) := by decide +kernel
theorem dX7_tell_14 : decode cX7_tell 14 = .ok (.iload_n 1, 1) := by decide +kernel
theorem dX7_tell_15 : decode cX7_tell 15 = .ok (.iaload, 1) := by decide +kernel
theorem dX7_tell_16 : decode cX7_tell 16 = .ok (.istore_n 2, 1) := by decide +kernel
theorem dX7_tell_17 : decode cX7_tell 17 = .ok (.aload_n 0, 1) := by decide +kernel
theorem dX7_tell_18 : decode cX7_tell 18 = .ok (.getfield 19, 3) := by decide +kernel
theorem dX7_tell_21 : decode cX7_tell 21 = .ok (.iload_n 1, 1) := by decide +kernel
theorem dX7_tell_22 : decode cX7_tell 22 = .ok (.iaload, 1) := by decide +kernel
theorem dX7_tell_23 : decode cX7_tell 23 = .ok (.lookupswitch 67 #[(1, 25), (2, 40)], 25) := by decide +kernel
theorem dX7_tell_48 : decode cX7_tell 48 = .ok (.aload_n 0, 1) := by decide +kernel
theorem dX7_tell_49 : decode cX7_tell 49 = .ok (.iconst 2, 1) := by decide +kernel
theorem dX7_tell_50 : decode cX7_tell 50 = .ok (.invokevirtual 246, 3) := by decide +kernel
theorem dX7_tell_53 : decode cX7_tell 53 = .ok (.aload_n 0, 1) := by decide +kernel
theorem dX7_tell_54 : decode cX7_tell 54 = .ok (.iconst 1, 1) := by decide +kernel
theorem dX7_tell_55 : decode cX7_tell 55 = .ok (.invokevirtual 246, 3) := by decide +kernel
theorem dX7_tell_58 : decode cX7_tell 58 = .ok (.iload_n 2, 1) := by decide +kernel
theorem dX7_tell_59 : decode cX7_tell 59 = .ok (.bipush 100, 2) := by decide +kernel
theorem dX7_tell_61 : decode cX7_tell 61 = .ok (.iadd, 1) := by decide +kernel
theorem dX7_tell_62 : decode cX7_tell 62 = .ok (.ireturn, 1) := by decide +kernel
theorem dX7_tell_63 : decode cX7_tell 63 = .ok (.aload_n 0, 1) := by decide +kernel
theorem dX7_tell_64 : decode cX7_tell 64 = .ok (.iconst 3, 1) := by decide +kernel
theorem dX7_tell_65 : decode cX7_tell 65 = .ok (.invokevirtual 246, 3) := by decide +kernel
theorem dX7_tell_68 : decode cX7_tell 68 = .ok (.aload_n 0, 1) := by decide +kernel
theorem dX7_tell_69 : decode cX7_tell 69 = .ok (.iconst 2, 1) := by decide +kernel
theorem dX7_tell_70 : decode cX7_tell 70 = .ok (.invokevirtual 246, 3) := by decide +kernel
theorem dX7_tell_73 : decode cX7_tell 73 = .ok (.aload_n 0, 1) := by decide +kernel
theorem dX7_tell_74 : decode cX7_tell 74 = .ok (.iconst 1, 1) := by decide +kernel
theorem dX7_tell_75 : decode cX7_tell 75 = .ok (.invokevirtual 246, 3) := by decide +kernel
theorem dX7_tell_78 : decode cX7_tell 78 = .ok (.aload_n 0, 1) := by decide +kernel
theorem dX7_tell_79 : decode cX7_tell 79 = .ok (.iconst 1, 1) := by decide +kernel
theorem dX7_tell_80 : decode cX7_tell 80 = .ok (.invokevirtual 246, 3) := by decide +kernel
theorem dX7_tell_83 : decode cX7_tell 83 = .ok (.iconst 2, 1) := by decide +kernel
theorem dX7_tell_84 : decode cX7_tell 84 = .ok (.iload_n 2, 1) := by decide +kernel
theorem dX7_tell_85 : decode cX7_tell 85 = .ok (.imul, 1) := by decide +kernel
theorem dX7_tell_86 : decode cX7_tell 86 = .ok (.bipush 100, 2) := by decide +kernel
theorem dX7_tell_88 : decode cX7_tell 88 = .ok (.iadd, 1) := by decide +kernel
theorem dX7_tell_89 : decode cX7_tell 89 = .ok (.ireturn, 1) := by decide +kernel
theorem dX7_tell_90 : decode cX7_tell 90 = .ok (.aload_n 0, 1) := by decide +kernel
theorem dX7_tell_91 : decode cX7_tell 91 = .ok (.iconst 1, 1) := by decide +kernel
theorem dX7_tell_92 : decode cX7_tell 92 = .ok (.invokevirtual 246, 3) := by decide +kernel
theorem dX7_tell_95 : decode cX7_tell 95 = .ok (.iload_n 2, 1) := by decide +kernel
theorem dX7_tell_96 : decode cX7_tell 96 = .ok (.ireturn, 1) := by decide +kernel
theorem dX7_toast_0 : decode cX7_toast 0 = .ok (.aload_n 0, 1) := by decide +kernel
theorem dX7_toast_1 : decode cX7_toast 1 = .ok (.iload_n 1, 1) := by decide +kernel
theorem dX7_toast_2 : decode cX7_toast 2 = .ok (.invokevirtual 153, 3) := by decide +kernel
theorem dX7_toast_5 : decode cX7_toast 5 = .ok (.ifCond .ne 5, 3) := by decide +kernel
theorem dX7_toast_8 : decode cX7_toast 8 = .ok (.iconst (-1), 1) := by decide +kernel
theorem dX7_toast_9 : decode cX7_toast 9 = .ok (.ireturn, 1) := by decide +kernel
theorem dX7_toast_10 : decode cX7_toast 10 = .ok (.aload_n 0, 1) := by decide +kernel
theorem dX7_toast_11 : decode cX7_toast 11 = .ok (.aload_n 0, 1) := by decide +kernel
theorem dX7_toast_12 : decode cX7_toast 12 = .ok (.getfield 19, 3) := by decide +kernel
theorem dX7_toast_15 : decode cX7_toast 15 = .ok (.iload_n 1, 1) := by decide +kernel
theorem dX7_toast_16 : decode cX7_toast 16 = .ok (.iaload, 1) := by decide +kernel
theorem dX7_toast_17 : decode cX7_toast 17 = .ok (.iconst 2, 1) := by decide +kernel
theorem dX7_toast_18 : decode cX7_toast 18 = .ok (.if_icmp .ne 7, 3) := by decide +kernel
theorem dX7_toast_21 : decode cX7_toast 21 = .ok (.iconst 5, 1) := by decide +kernel
theorem dX7_toast_22 : decode cX7_toast 22 = .ok (.goto 4, 3) := by decide +kernel
theorem dX7_toast_25 : decode cX7_toast 25 = .ok (.iconst 4, 1) := by decide +kernel
theorem dX7_toast_26 : decode cX7_toast 26 = .ok (.invokevirtual 246, 3) := by decide +kernel
theorem dX7_toast_29 : decode cX7_toast 29 = .ok (.aload_n 0, 1) := by decide +kernel
theorem dX7_toast_30 : decode cX7_toast 30 = .ok (.getfield 19, 3) := by decide +kernel
theorem dX7_toast_33 : decode cX7_toast 33 = .ok (.iload_n 1, 1) := by decide +kernel
theorem dX7_toast_34 : decode cX7_toast 34 = .ok (.iaload, 1) := by decide +kernel
theorem dX7_toast_35 : decode cX7_toast 35 = .ok (.iconst 2, 1) := by decide +kernel
theorem dX7_toast_36 : decode cX7_toast 36 = .ok (.if_icmp .ne 8, 3) := by decide +kernel
theorem dX7_toast_39 : decode cX7_toast 39 = .ok (.bipush 20, 2) := by decide +kernel
theorem dX7_toast_41 : decode cX7_toast 41 = .ok (.goto 4, 3) := by decide +kernel
theorem dX7_toast_44 : decode cX7_toast 44 = .ok (.iload_n 1, 1) := by decide +kernel
theorem dX7_toast_45 : decode cX7_toast 45 = .ok (.ireturn, 1) := by decide +kernel
theorem dX7_as_0 : decode cX7_as 0 = .ok (.aload_n 0, 1) := by decide +kernel
theorem dX7_as_1 : decode cX7_as 1 = .ok (.iconst 0, 1) := by decide +kernel
theorem dX7_as_2 : decode cX7_as 2 = .ok (.putfield 68, 3) := by decide +kernel
theorem dX7_as_5 : decode cX7_as 5 = .ok (.aload_n 0, 1) := by decide +kernel
theorem dX7_as_6 : decode cX7_as 6 = .ok (.iload_n 1, 1) := by decide +kernel
theorem dX7_as_7 : decode cX7_as 7 = .ok (.invokevirtual 153, 3) := by decide +kernel
theorem dX7_as_10 : decode cX7_as 10 = .ok (.ifCond .ne 5, 3) := by decide +kernel
theorem dX7_as_13 : decode cX7_as 13 = .ok (.iconst (-1), 1) := by decide +kernel
theorem dX7_as_14 : decode cX7_as 14 = .ok (.ireturn, 1) := by decide +kernel
theorem dX7_as_15 : decode cX7_as 15 = .ok (.iload_n 2, 1) := by decide +kernel
theorem dX7_as_16 : decode cX7_as 16 = .ok (.iconst 0, 1) := by decide +kernel
theorem dX7_as_17 : decode cX7_as 17 = .ok (.iconst 2, 1) := by decide +kernel
theorem dX7_as_18 : decode cX7_as 18 = .ok (.invokestatic 74, 3) := by decide +kernel
theorem dX7_as_21 : decode cX7_as 21 = .ok (.ifCond .ne 6, 3) := by decide +kernel
theorem dX7_as_24 : decode cX7_as 24 = .ok (.bipush (-2), 2) := by decide +kernel
theorem dX7_as_26 : decode cX7_as 26 = .ok (.ireturn, 1) := by decide +kernel
theorem dX7_as_27 : decode cX7_as 27 = .ok (.aload_n 0, 1) := by decide +kernel
theorem dX7_as_28 : decode cX7_as 28 = .ok (.getfield 19, 3) := by decide +kernel
theorem dX7_as_31 : decode cX7_as 31 = .ok (.iload_n 1, 1) := by decide +kernel
theorem dX7_as_32 : decode cX7_as 32 = .ok (.iaload, 1) := by decide +kernel
theorem dX7_as_33 : decode cX7_as 33 = .ok (.iload_n 2, 1) := by decide +kernel
theorem dX7_as_34 : decode cX7_as 34 = .ok (.if_icmp .lt 7, 3) := by decide +kernel
theorem dX7_as_37 : decode cX7_as 37 = .ok (.iconst 1, 1) := by decide +kernel
theorem dX7_as_38 : decode cX7_as 38 = .ok (.goto 8, 3) := by decide +kernel
theorem dX7_as_41 : decode cX7_as 41 = .ok (.aload_n 0, 1) := by decide +kernel
theorem dX7_as_42 : decode cX7_as 42 = .ok (.iconst 2, 1) := by decide +kernel
theorem dX7_as_43 : decode cX7_as 43 = .ok (.invokevirtual 98, 3) := by decide +kernel
theorem dX7_as_46 : decode cX7_as 46 = .ok (.ireturn, 1) := by decide +kernel
theorem dX7_trace_0 : decode cX7_trace 0 = .ok (.aload_n 0, 1) := by decide +kernel
theorem dX7_trace_1 : decode cX7_trace 1 = .ok (.getfield 243, 3) := by decide +kernel
theorem dX7_trace_4 : decode cX7_trace 4 = .ok (.ireturn, 1) := by decide +kernel
theorem dX7_fault_0 : decode cX7_fault 0 = .ok (.aload_n 0, 1) := by decide +kernel
theorem dX7_fault_1 : decode cX7_fault 1 = .ok (.getfield 68, 3) := by decide +kernel
theorem dX7_fault_4 : decode cX7_fault 4 = .ok (.ireturn, 1) := by decide +kernel
theorem dX7_many_0 : decode cX7_many 0 = .ok (.iload_n 1, 1) := by decide +kernel
theorem dX7_many_1 : decode cX7_many 1 = .ok (.tableswitch 69 0 5 #[39, 44, 49, 54, 59, 64], 39) := by decide +kernel
theorem dX7_many_40 : decode cX7_many 40 = .ok (.aload_n 0, 1) := by decide +kernel
theorem dX7_many_41 : decode cX7_many 41 = .ok (.getfield 78, 3) := by decide +kernel
theorem dX7_many_44 : decode cX7_many 44 = .ok (.ireturn, 1) := by decide +kernel
theorem dX7_many_45 : decode cX7_many 45 = .ok (.aload_n 0, 1) := by decide +kernel
theorem dX7_many_46 : decode cX7_many 46 = .ok (.getfield 81, 3) := by decide +kernel
theorem dX7_many_49 : decode cX7_many 49 = .ok (.ireturn, 1) := by decide +kernel
theorem dX7_many_50 : decode cX7_many 50 = .ok (.aload_n 0, 1) := by decide +kernel
theorem dX7_many_51 : decode cX7_many 51 = .ok (.getfield 111, 3) := by decide +kernel
theorem dX7_many_54 : decode cX7_many 54 = .ok (.ireturn, 1) := by decide +kernel
theorem dX7_many_55 : decode cX7_many 55 = .ok (.aload_n 0, 1) := by decide +kernel
theorem dX7_many_56 : decode cX7_many 56 = .ok (.getfield 120, 3) := by decide +kernel
theorem dX7_many_59 : decode cX7_many 59 = .ok (.ireturn, 1) := by decide +kernel
theorem dX7_many_60 : decode cX7_many 60 = .ok (.aload_n 0, 1) := by decide +kernel
theorem dX7_many_61 : decode cX7_many 61 = .ok (.getfield 126, 3) := by decide +kernel
theorem dX7_many_64 : decode cX7_many 64 = .ok (.ireturn, 1) := by decide +kernel
theorem dX7_many_65 : decode cX7_many 65 = .ok (.aload_n 0, 1) := by decide +kernel
theorem dX7_many_66 : decode cX7_many 66 = .ok (.getfield 132, 3) := by decide +kernel
theorem dX7_many_69 : decode cX7_many 69 = .ok (.ireturn, 1) := by decide +kernel
theorem dX7_many_70 : decode cX7_many 70 = .ok (.bipush (-2), 2) := by decide +kernel
theorem dX7_many_72 : decode cX7_many 72 = .ok (.ireturn, 1) := by decide +kernel
