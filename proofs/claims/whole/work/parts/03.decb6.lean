theorem dX6_init_0 : decode cX6_init 0 = .ok (.aload_n 0, 1) := by decide +kernel
theorem dX6_init_1 : decode cX6_init 1 = .ok (.invokespecial 1, 3) := by decide +kernel
theorem dX6_init_4 : decode cX6_init 4 = .ok (.aload_n 0, 1) := by decide +kernel
theorem dX6_init_5 : decode cX6_init 5 = .ok (.new 7, 3) := by decide +kernel
theorem dX6_init_8 : decode cX6_init 8 = .ok (.dup, 1) := by decide +kernel
theorem dX6_init_9 : decode cX6_init 9 = .ok (.invokespecial 9, 3) := by decide +kernel
theorem dX6_init_12 : decode cX6_init 12 = .ok (.putfield 10, 3) := by decide +kernel
theorem dX6_init_15 : decode cX6_init 15 = .ok (.aload_n 0, 1) := by decide +kernel
theorem dX6_init_16 : decode cX6_init 16 = .ok (.new 7, 3) := by decide +kernel
theorem dX6_init_19 : decode cX6_init 19 = .ok (.dup, 1) := by decide +kernel
theorem dX6_init_20 : decode cX6_init 20 = .ok (.invokespecial 9, 3) := by decide +kernel
theorem dX6_init_23 : decode cX6_init 23 = .ok (.putfield 16, 3) := by decide +kernel
theorem dX6_init_26 : decode cX6_init 26 = .ok (.aload_n 0, 1) := by decide +kernel
theorem dX6_init_27 : decode cX6_init 27 = .ok (.iconst 2, 1) := by decide +kernel
theorem dX6_init_28 : decode cX6_init 28 = .ok (.anewarray 7, 3) := by decide +kernel
theorem dX6_init_31 : decode cX6_init 31 = .ok (.putfield 19, 3) := by decide +kernel
theorem dX6_init_34 : decode cX6_init 34 = .ok (.aload_n 0, 1) := by decide +kernel
theorem dX6_init_35 : decode cX6_init 35 = .ok (.iconst 2, 1) := by decide +kernel
theorem dX6_init_36 : decode cX6_init 36 = .ok (.newarray .boolean, 2) := by decide +kernel
theorem dX6_init_38 : decode cX6_init 38 = .ok (.putfield 23, 3) := by decide +kernel
theorem dX6_init_41 : decode cX6_init 41 = .ok (.aload_n 0, 1) := by decide +kernel
theorem dX6_init_42 : decode cX6_init 42 = .ok (.iconst 4, 1) := by decide +kernel
theorem dX6_init_43 : decode cX6_init 43 = .ok (.anewarray 7, 3) := by decide +kernel
theorem dX6_init_46 : decode cX6_init 46 = .ok (.putfield 27, 3) := by decide +kernel
theorem dX6_init_49 : decode cX6_init 49 = .ok (.aload_n 0, 1) := by decide +kernel
theorem dX6_init_50 : decode cX6_init 50 = .ok (.iconst 4, 1) := by decide +kernel
theorem dX6_init_51 : decode cX6_init 51 = .ok (.newarray .int, 2) := by decide +kernel
theorem dX6_init_53 : decode cX6_init 53 = .ok (.putfield 30, 3) := by decide +kernel
theorem dX6_init_56 : decode cX6_init 56 = .ok (.aload_n 0, 1) := by decide +kernel
theorem dX6_init_57 : decode cX6_init 57 = .ok (.new 34, 3) := by decide +kernel
theorem dX6_init_60 : decode cX6_init 60 = .ok (.dup, 1) := by decide +kernel
theorem dX6_init_61 : decode cX6_init 61 = .ok (.invokespecial 36, 3) := by decide +kernel
theorem dX6_init_64 : decode cX6_init 64 = .ok (.putfield 37, 3) := by decide +kernel
theorem dX6_init_67 : decode cX6_init 67 = .ok (.aload_n 0, 1) := by decide +kernel
theorem dX6_init_68 : decode cX6_init 68 = .ok (.new 41, 3) := by decide +kernel
theorem dX6_init_71 : decode cX6_init 71 = .ok (.dup, 1) := by decide +kernel
theorem dX6_init_72 : decode cX6_init 72 = .ok (.invokespecial 43, 3) := by decide +kernel
theorem dX6_init_75 : decode cX6_init 75 = .ok (.putfield 44, 3) := by decide +kernel
theorem dX6_init_78 : decode cX6_init 78 = .ok (.aload_n 0, 1) := by decide +kernel
theorem dX6_init_79 : decode cX6_init 79 = .ok (.new 48, 3) := by decide +kernel
theorem dX6_init_82 : decode cX6_init 82 = .ok (.dup, 1) := by decide +kernel
theorem dX6_init_83 : decode cX6_init 83 = .ok (.invokespecial 50, 3) := by decide +kernel
theorem dX6_init_86 : decode cX6_init 86 = .ok (.putfield 51, 3) := by decide +kernel
theorem dX6_init_89 : decode cX6_init 89 = .ok (.aload_n 0, 1) := by decide +kernel
theorem dX6_init_90 : decode cX6_init 90 = .ok (.new 55, 3) := by decide +kernel
theorem dX6_init_93 : decode cX6_init 93 = .ok (.dup, 1) := by decide +kernel
theorem dX6_init_94 : decode cX6_init 94 = .ok (.invokespecial 57, 3) := by decide +kernel
theorem dX6_init_97 : decode cX6_init 97 = .ok (.putfield 58, 3) := by decide +kernel
theorem dX6_init_100 : decode cX6_init 100 = .ok (.aload_n 0, 1) := by decide +kernel
theorem dX6_init_101 : decode cX6_init 101 = .ok (.iconst 4, 1) := by decide +kernel
theorem dX6_init_102 : decode cX6_init 102 = .ok (.anewarray 62, 3) := by decide +kernel
theorem dX6_init_105 : decode cX6_init 105 = .ok (.putfield 64, 3) := by decide +kernel
theorem dX6_init_108 : decode cX6_init 108 = .ok (.aload_n 0, 1) := by decide +kernel
theorem dX6_init_109 : decode cX6_init 109 = .ok (.iconst 0, 1) := by decide +kernel
theorem dX6_init_110 : decode cX6_init 110 = .ok (.putfield 68, 3) := by decide +kernel
theorem dX6_init_113 : decode cX6_init 113 = .ok (.iconst 0, 1) := by decide +kernel
theorem dX6_init_114 : decode cX6_init 114 = .ok (.istore_n 1, 1) := by decide +kernel
theorem dX6_init_115 : decode cX6_init 115 = .ok (.iload_n 1, 1) := by decide +kernel
theorem dX6_init_116 : decode cX6_init 116 = .ok (.iconst 2, 1) := by decide +kernel
theorem dX6_init_117 : decode cX6_init 117 = .ok (.if_icmp .ge 22, 3) := by decide +kernel
theorem dX6_init_120 : decode cX6_init 120 = .ok (.aload_n 0, 1) := by decide +kernel
theorem dX6_init_121 : decode cX6_init 121 = .ok (.getfield 19, 3) := by decide +kernel
theorem dX6_init_124 : decode cX6_init 124 = .ok (.iload_n 1, 1) := by decide +kernel
theorem dX6_init_125 : decode cX6_init 125 = .ok (.new 7, 3) := by decide +kernel
theorem dX6_init_128 : decode cX6_init 128 = .ok (.dup, 1) := by decide +kernel
theorem dX6_init_129 : decode cX6_init 129 = .ok (.invokespecial 9, 3) := by decide +kernel
theorem dX6_init_132 : decode cX6_init 132 = .ok (.aastore, 1) := by decide +kernel
theorem dX6_init_133 : decode cX6_init 133 = .ok (.iinc 1 1, 3) := by decide +kernel
theorem dX6_init_136 : decode cX6_init 136 = .ok (.goto (-21), 3) := by decide +kernel
theorem dX6_init_139 : decode cX6_init 139 = .ok (.iconst 0, 1) := by decide +kernel
theorem dX6_init_140 : decode cX6_init 140 = .ok (.istore_n 1, 1) := by decide +kernel
theorem dX6_init_141 : decode cX6_init 141 = .ok (.iload_n 1, 1) := by decide +kernel
theorem dX6_init_142 : decode cX6_init 142 = .ok (.iconst 4, 1) := by decide +kernel
theorem dX6_init_143 : decode cX6_init 143 = .ok (.if_icmp .ge 22, 3) := by decide +kernel
theorem dX6_init_146 : decode cX6_init 146 = .ok (.aload_n 0, 1) := by decide +kernel
theorem dX6_init_147 : decode cX6_init 147 = .ok (.getfield 27, 3) := by decide +kernel
theorem dX6_init_150 : decode cX6_init 150 = .ok (.iload_n 1, 1) := by decide +kernel
theorem dX6_init_151 : decode cX6_init 151 = .ok (.new 7, 3) := by decide +kernel
theorem dX6_init_154 : decode cX6_init 154 = .ok (.dup, 1) := by decide +kernel
theorem dX6_init_155 : decode cX6_init 155 = .ok (.invokespecial 9, 3) := by decide +kernel
theorem dX6_init_158 : decode cX6_init 158 = .ok (.aastore, 1) := by decide +kernel
theorem dX6_init_159 : decode cX6_init 159 = .ok (.iinc 1 1, 3) := by decide +kernel
theorem dX6_init_162 : decode cX6_init 162 = .ok (.goto (-21), 3) := by decide +kernel
theorem dX6_init_165 : decode cX6_init 165 = .ok (.iconst 0, 1) := by decide +kernel
theorem dX6_init_166 : decode cX6_init 166 = .ok (.istore_n 1, 1) := by decide +kernel
theorem dX6_init_167 : decode cX6_init 167 = .ok (.iload_n 1, 1) := by decide +kernel
theorem dX6_init_168 : decode cX6_init 168 = .ok (.iconst 4, 1) := by decide +kernel
theorem dX6_init_169 : decode cX6_init 169 = .ok (.if_icmp .ge 22, 3) := by decide +kernel
theorem dX6_init_172 : decode cX6_init 172 = .ok (.aload_n 0, 1) := by decide +kernel
theorem dX6_init_173 : decode cX6_init 173 = .ok (.getfield 64, 3) := by decide +kernel
theorem dX6_init_176 : decode cX6_init 176 = .ok (.iload_n 1, 1) := by decide +kernel
theorem dX6_init_177 : decode cX6_init 177 = .ok (.new 62, 3) := by decide +kernel
theorem dX6_init_180 : decode cX6_init 180 = .ok (.dup, 1) := by decide +kernel
theorem dX6_init_181 : decode cX6_init 181 = .ok (.invokespecial 72, 3) := by decide +kernel
theorem dX6_init_184 : decode cX6_init 184 = .ok (.aastore, 1) := by decide +kernel
theorem dX6_init_185 : decode cX6_init 185 = .ok (.iinc 1 1, 3) := by decide +kernel
theorem dX6_init_188 : decode cX6_init 188 = .ok (.goto (-21), 3) := by decide +kernel
theorem dX6_init_191 : decode cX6_init 191 = .ok (.return_, 1) := by decide +kernel
theorem dX6_feed_0 : decode cX6_feed 0 = .ok (.iload_n 1, 1) := by decide +kernel
theorem dX6_feed_1 : decode cX6_feed 1 = .ok (.iconst 0, 1) := by decide +kernel
theorem dX6_feed_2 : decode cX6_feed 2 = .ok (.bipush 127, 2) := by decide +kernel
theorem dX6_feed_4 : decode cX6_feed 4 = .ok (.invokestatic 73, 3) := by decide +kernel
theorem dX6_feed_7 : decode cX6_feed 7 = .ok (.ifCond .ne 5, 3) := by decide +kernel
theorem dX6_feed_10 : decode cX6_feed 10 = .ok (.iconst (-1), 1) := by decide +kernel
theorem dX6_feed_11 : decode cX6_feed 11 = .ok (.ireturn, 1) := by decide +kernel
theorem dX6_feed_12 : decode cX6_feed 12 = .ok (.aload_n 0, 1) := by decide +kernel
theorem dX6_feed_13 : decode cX6_feed 13 = .ok (.getfield 37, 3) := by decide +kernel
theorem dX6_feed_16 : decode cX6_feed 16 = .ok (.getfield 77, 3) := by decide +kernel
theorem dX6_feed_19 : decode cX6_feed 19 = .ok (.sipush 160, 3) := by decide +kernel
theorem dX6_feed_22 : decode cX6_feed 22 = .ok (.if_icmp .lt 6, 3) := by decide +kernel
theorem dX6_feed_25 : decode cX6_feed 25 = .ok (.bipush (-3), 2) := by decide +kernel
theorem dX6_feed_27 : decode cX6_feed 27 = .ok (.ireturn, 1) := by decide +kernel
theorem dX6_feed_28 : decode cX6_feed 28 = .ok (.aload_n 0, 1) := by decide +kernel
theorem dX6_feed_29 : decode cX6_feed 29 = .ok (.getfield 37, 3) := by decide +kernel
theorem dX6_feed_32 : decode cX6_feed 32 = .ok (.getfield 80, 3) := by decide +kernel
theorem dX6_feed_35 : decode cX6_feed 35 = .ok (.aload_n 0, 1) := by decide +kernel
theorem dX6_feed_36 : decode cX6_feed 36 = .ok (.getfield 37, 3) := by decide +kernel
theorem dX6_feed_39 : decode cX6_feed 39 = .ok (.getfield 77, 3) := by decide +kernel
theorem dX6_feed_42 : decode cX6_feed 42 = .ok (.iload_n 1, 1) := by decide +kernel
theorem dX6_feed_43 : decode cX6_feed 43 = .ok (.iastore, 1) := by decide +kernel
theorem dX6_feed_44 : decode cX6_feed 44 = .ok (.aload_n 0, 1) := by decide +kernel
theorem dX6_feed_45 : decode cX6_feed 45 = .ok (.getfield 37, 3) := by decide +kernel
theorem dX6_feed_48 : decode cX6_feed 48 = .ok (.dup, 1) := by decide +kernel
theorem dX6_feed_49 : decode cX6_feed 49 = .ok (.getfield 77, 3) := by decide +kernel
theorem dX6_feed_52 : decode cX6_feed 52 = .ok (.iconst 1, 1) := by decide +kernel
theorem dX6_feed_53 : decode cX6_feed 53 = .ok (.iadd, 1) := by decide +kernel
theorem dX6_feed_54 : decode cX6_feed 54 = .ok (.putfield 77, 3) := by decide +kernel
theorem dX6_feed_57 : decode cX6_feed 57 = .ok (.aload_n 0, 1) := by decide +kernel
theorem dX6_feed_58 : decode cX6_feed 58 = .ok (.getfield 37, 3) := by decide +kernel
theorem dX6_feed_61 : decode cX6_feed 61 = .ok (.getfield 77, 3) := by decide +kernel
theorem dX6_feed_64 : decode cX6_feed 64 = .ok (.ireturn, 1) := by decide +kernel
theorem dX6_end_0 : decode cX6_end 0 = .ok (.aload_n 0, 1) := by decide +kernel
theorem dX6_end_1 : decode cX6_end 1 = .ok (.getfield 37, 3) := by decide +kernel
theorem dX6_end_4 : decode cX6_end 4 = .ok (.getfield 77, 3) := by decide +kernel
theorem dX6_end_7 : decode cX6_end 7 = .ok (.istore_n 2, 1) := by decide +kernel
theorem dX6_end_8 : decode cX6_end 8 = .ok (.iload_n 1, 1) := by decide +kernel
theorem dX6_end_9 : decode cX6_end 9 = .ok (.iconst 0, 1) := by decide +kernel
theorem dX6_end_10 : decode cX6_end 10 = .ok (.iload_n 2, 1) := by decide +kernel
theorem dX6_end_11 : decode cX6_end 11 = .ok (.invokestatic 73, 3) := by decide +kernel
theorem dX6_end_14 : decode cX6_end 14 = .ok (.ifCond .ne 5, 3) := by decide +kernel
theorem dX6_end_17 : decode cX6_end 17 = .ok (.iconst (-1), 1) := by decide +kernel
theorem dX6_end_18 : decode cX6_end 18 = .ok (.ireturn, 1) := by decide +kernel
theorem dX6_end_19 : decode cX6_end 19 = .ok (.aload_n 0, 1) := by decide +kernel
theorem dX6_end_20 : decode cX6_end 20 = .ok (.getfield 37, 3) := by decide +kernel
theorem dX6_end_23 : decode cX6_end 23 = .ok (.iload_n 1, 1) := by decide +kernel
theorem dX6_end_24 : decode cX6_end 24 = .ok (.putfield 77, 3) := by decide +kernel
theorem dX6_end_27 : decode cX6_end 27 = .ok (.iload_n 2, 1) := by decide +kernel
theorem dX6_end_28 : decode cX6_end 28 = .ok (.ireturn, 1) := by decide +kernel
theorem dX6_text_0 : decode cX6_text 0 = .ok (.aload_n 0, 1) := by decide +kernel
theorem dX6_text_1 : decode cX6_text 1 = .ok (.getfield 37, 3) := by decide +kernel
theorem dX6_text_4 : decode cX6_text 4 = .ok (.invokevirtual 83, 3) := by decide +kernel
theorem dX6_text_7 : decode cX6_text 7 = .ok (.istore_n 1, 1) := by decide +kernel
theorem dX6_text_8 : decode cX6_text 8 = .ok (.aload_n 0, 1) := by decide +kernel
theorem dX6_text_9 : decode cX6_text 9 = .ok (.getfield 37, 3) := by decide +kernel
theorem dX6_text_12 : decode cX6_text 12 = .ok (.iconst 0, 1) := by decide +kernel
theorem dX6_text_13 : decode cX6_text 13 = .ok (.putfield 77, 3) := by decide +kernel
theorem dX6_text_16 : decode cX6_text 16 = .ok (.aload_n 0, 1) := by decide +kernel
theorem dX6_text_17 : decode cX6_text 17 = .ok (.getfield 37, 3) := by decide +kernel
theorem dX6_text_20 : decode cX6_text 20 = .ok (.getfield 87, 3) := by decide +kernel
theorem dX6_text_23 : decode cX6_text 23 = .ok (.ifCond .eq 14, 3) := by decide +kernel
theorem dX6_text_26 : decode cX6_text 26 = .ok (.bipush (-10), 2) := by decide +kernel
theorem dX6_text_28 : decode cX6_text 28 = .ok (.aload_n 0, 1) := by decide +kernel
theorem dX6_text_29 : decode cX6_text 29 = .ok (.getfield 37, 3) := by decide +kernel
theorem dX6_text_32 : decode cX6_text 32 = .ok (.getfield 90, 3) := by decide +kernel
theorem dX6_text_35 : decode cX6_text 35 = .ok (.isub, 1) := by decide +kernel
theorem dX6_text_36 : decode cX6_text 36 = .ok (.ireturn, 1) := by decide +kernel
theorem dX6_text_37 : decode cX6_text 37 = .ok (.aload_n 0, 1) := by decide +kernel
theorem dX6_text_38 : decode cX6_text 38 = .ok (.getfield 10, 3) := by decide +kernel
theorem dX6_text_41 : decode cX6_text 41 = .ok (.aload_n 0, 1) := by decide +kernel
theorem dX6_text_42 : decode cX6_text 42 = .ok (.getfield 37, 3) := by decide +kernel
theorem dX6_text_45 : decode cX6_text 45 = .ok (.getfield 93, 3) := by decide +kernel
theorem dX6_text_48 : decode cX6_text 48 = .ok (.invokevirtual 96, 3) := by decide +kernel
theorem dX6_text_51 : decode cX6_text 51 = .ok (.aload_n 0, 1) := by decide +kernel
theorem dX6_text_52 : decode cX6_text 52 = .ok (.getfield 44, 3) := by decide +kernel
theorem dX6_text_55 : decode cX6_text 55 = .ok (.iconst 0, 1) := by decide +kernel
theorem dX6_text_56 : decode cX6_text 56 = .ok (.putfield 100, 3) := by decide +kernel
theorem dX6_text_59 : decode cX6_text 59 = .ok (.iconst 0, 1) := by decide +kernel
theorem dX6_text_60 : decode cX6_text 60 = .ok (.istore_n 2, 1) := by decide +kernel
theorem dX6_text_61 : decode cX6_text 61 = .ok (.iload_n 2, 1) := by decide +kernel
theorem dX6_text_62 : decode cX6_text 62 = .ok (.iconst 2, 1) := by decide +kernel
theorem dX6_text_63 : decode cX6_text 63 = .ok (.if_icmp .ge 16, 3) := by decide +kernel
theorem dX6_text_66 : decode cX6_text 66 = .ok (.aload_n 0, 1) := by decide +kernel
theorem dX6_text_67 : decode cX6_text 67 = .ok (.getfield 23, 3) := by decide +kernel
theorem dX6_text_70 : decode cX6_text 70 = .ok (.iload_n 2, 1) := by decide +kernel
theorem dX6_text_71 : decode cX6_text 71 = .ok (.iconst 0, 1) := by decide +kernel
theorem dX6_text_72 : decode cX6_text 72 = .ok (.bastore, 1) := by decide +kernel
theorem dX6_text_73 : decode cX6_text 73 = .ok (.iinc 2 1, 3) := by decide +kernel
theorem dX6_text_76 : decode cX6_text 76 = .ok (.goto (-15), 3) := by decide +kernel
theorem dX6_text_79 : decode cX6_text 79 = .ok (.iload_n 1, 1) := by decide +kernel
theorem dX6_text_80 : decode cX6_text 80 = .ok (.ireturn, 1) := by decide +kernel
theorem dX6_fault_0 : decode cX6_fault 0 = .ok (.aload_n 0, 1) := by decide +kernel
theorem dX6_fault_1 : decode cX6_fault 1 = .ok (.getfield 37, 3) := by decide +kernel
theorem dX6_fault_4 : decode cX6_fault 4 = .ok (.getfield 87, 3) := by decide +kernel
theorem dX6_fault_7 : decode cX6_fault 7 = .ok (.ireturn, 1) := by decide +kernel
theorem dX6_rule_0 : decode cX6_rule 0 = .ok (.iload_n 1, 1) := by decide +kernel
theorem dX6_rule_1 : decode cX6_rule 1 = .ok (.tableswitch 87 0 5 #[39, 47, 55, 63, 71, 79], 39) := by decide +kernel
theorem dX6_rule_40 : decode cX6_rule 40 = .ok (.aload_n 0, 1) := by decide +kernel
theorem dX6_rule_41 : decode cX6_rule 41 = .ok (.getfield 10, 3) := by decide +kernel
theorem dX6_rule_44 : decode cX6_rule 44 = .ok (.getfield 103, 3) := by decide +kernel
theorem dX6_rule_47 : decode cX6_rule 47 = .ok (.ireturn, 1) := by decide +kernel
theorem dX6_rule_48 : decode cX6_rule 48 = .ok (.aload_n 0, 1) := by decide +kernel
theorem dX6_rule_49 : decode cX6_rule 49 = .ok (.getfield 10, 3) := by decide +kernel
theorem dX6_rule_52 : decode cX6_rule 52 = .ok (.getfield 106, 3) := by decide +kernel
theorem dX6_rule_55 : decode cX6_rule 55 = .ok (.ireturn, 1) := by decide +kernel
theorem dX6_rule_56 : decode cX6_rule 56 = .ok (.aload_n 0, 1) := by decide +kernel
theorem dX6_rule_57 : decode cX6_rule 57 = .ok (.getfield 10, 3) := by decide +kernel
theorem dX6_rule_60 : decode cX6_rule 60 = .ok (.getfield 109, 3) := by decide +kernel
theorem dX6_rule_63 : decode cX6_rule 63 = .ok (.ireturn, 1) := by decide +kernel
theorem dX6_rule_64 : decode cX6_rule 64 = .ok (.aload_n 0, 1) := by decide +kernel
theorem dX6_rule_65 : decode cX6_rule 65 = .ok (.getfield 10, 3) := by decide +kernel
theorem dX6_rule_68 : decode cX6_rule 68 = .ok (.getfield 112, 3) := by decide +kernel
theorem dX6_rule_71 : decode cX6_rule 71 = .ok (.ireturn, 1) := by decide +kernel
theorem dX6_rule_72 : decode cX6_rule 72 = .ok (.aload_n 0, 1) := by decide +kernel
theorem dX6_rule_73 : decode cX6_rule 73 = .ok (.getfield 10, 3) := by decide +kernel
theorem dX6_rule_76 : decode cX6_rule 76 = .ok (.invokevirtual 115, 3) := by decide +kernel
theorem dX6_rule_79 : decode cX6_rule 79 = .ok (.ireturn, 1) := by decide +kernel
theorem dX6_rule_80 : decode cX6_rule 80 = .ok (.aload_n 0, 1) := by decide +kernel
theorem dX6_rule_81 : decode cX6_rule 81 = .ok (.getfield 10, 3) := by decide +kernel
theorem dX6_rule_84 : decode cX6_rule 84 = .ok (.invokevirtual 118, 3) := by decide +kernel
theorem dX6_rule_87 : decode cX6_rule 87 = .ok (.ireturn, 1) := by decide +kernel
theorem dX6_rule_88 : decode cX6_rule 88 = .ok (.iconst (-1), 1) := by decide +kernel
theorem dX6_rule_89 : decode cX6_rule 89 = .ok (.ireturn, 1) := by decide +kernel
theorem dX6_colour_0 : decode cX6_colour 0 = .ok (.aload_n 0, 1) := by decide +kernel
theorem dX6_colour_1 : decode cX6_colour 1 = .ok (.getfield 10, 3) := by decide +kernel
theorem dX6_colour_4 : decode cX6_colour 4 = .ok (.iload_n 1, 1) := by decide +kernel
theorem dX6_colour_5 : decode cX6_colour 5 = .ok (.invokevirtual 121, 3) := by decide +kernel
theorem dX6_colour_8 : decode cX6_colour 8 = .ok (.ifCond .ne 5, 3) := by decide +kernel
theorem dX6_colour_11 : decode cX6_colour 11 = .ok (.iconst (-1), 1) := by decide +kernel
theorem dX6_colour_12 : decode cX6_colour 12 = .ok (.ireturn, 1) := by decide +kernel
theorem dX6_colour_13 : decode cX6_colour 13 = .ok (.iload_n 2, 1) := by decide +kernel
theorem dX6_colour_14 : decode cX6_colour 14 = .ok (.tableswitch 120 0 6 #[42, 52, 64, 78, 92, 102, 111], 42) := by decide +kernel
theorem dX6_colour_56 : decode cX6_colour 56 = .ok (.aload_n 0, 1) := by decide +kernel
theorem dX6_colour_57 : decode cX6_colour 57 = .ok (.getfield 10, 3) := by decide +kernel
theorem dX6_colour_60 : decode cX6_colour 60 = .ok (.getfield 125, 3) := by decide +kernel
theorem dX6_colour_63 : decode cX6_colour 63 = .ok (.iload_n 1, 1) := by decide +kernel
theorem dX6_colour_64 : decode cX6_colour 64 = .ok (.iaload, 1) := by decide +kernel
theorem dX6_colour_65 : decode cX6_colour 65 = .ok (.ireturn, 1) := by decide +kernel
theorem dX6_colour_66 : decode cX6_colour 66 = .ok (.aload_n 0, 1) := by decide +kernel
theorem dX6_colour_67 : decode cX6_colour 67 = .ok (.getfield 10, 3) := by decide +kernel
theorem dX6_colour_70 : decode cX6_colour 70 = .ok (.getfield 128, 3) := by decide +kernel
theorem dX6_colour_73 : decode cX6_colour 73 = .ok (.iconst 3, 1) := by decide +kernel
theorem dX6_colour_74 : decode cX6_colour 74 = .ok (.iload_n 1, 1) := by decide +kernel
theorem dX6_colour_75 : decode cX6_colour 75 = .ok (.imul, 1) := by decide +kernel
theorem dX6_colour_76 : decode cX6_colour 76 = .ok (.iaload, 1) := by decide +kernel
theorem dX6_colour_77 : decode cX6_colour 77 = .ok (.ireturn, 1) := by decide +kernel
theorem dX6_colour_78 : decode cX6_colour 78 = .ok (.aload_n 0, 1) := by decide +kernel
theorem dX6_colour_79 : decode cX6_colour 79 = .ok (.getfield 10, 3) := by decide +kernel
theorem dX6_colour_82 : decode cX6_colour 82 = .ok (.getfield 128, 3) := by decide +kernel
theorem dX6_colour_85 : decode cX6_colour 85 = .ok (.iconst 3, 1) := by decide +kernel
theorem dX6_colour_86 : decode cX6_colour 86 = .ok (.iload_n 1, 1) := by decide +kernel
theorem dX6_colour_87 : decode cX6_colour 87 = .ok (.imul, 1) := by decide +kernel
theorem dX6_colour_88 : decode cX6_colour 88 = .ok (.iconst 1, 1) := by decide +kernel
theorem dX6_colour_89 : decode cX6_colour 89 = .ok (.iadd, 1) := by decide +kernel
theorem dX6_colour_90 : decode cX6_colour 90 = .ok (.iaload, 1) := by decide +kernel
theorem dX6_colour_91 : decode cX6_colour 91 = .ok (.ireturn, 1) := by decide +kernel
theorem dX6_colour_92 : decode cX6_colour 92 = .ok (.aload_n 0, 1) := by decide +kernel
theorem dX6_colour_93 : decode cX6_colour 93 = .ok (.getfield 10, 3) := by decide +kernel
theorem dX6_colour_96 : decode cX6_colour 96 = .ok (.getfield 128, 3) := by decide +kernel
theorem dX6_colour_99 : decode cX6_colour 99 = .ok (.iconst 3, 1) := by decide +kernel
theorem dX6_colour_100 : decode cX6_colour 100 = .ok (.iload_n 1, 1) := by decide +kernel
theorem dX6_colour_101 : decode cX6_colour 101 = .ok (.imul, 1) := by decide +kernel
theorem dX6_colour_102 : decode cX6_colour 102 = .ok (.iconst 2, 1) := by decide +kernel
theorem dX6_colour_103 : decode cX6_colour 103 = .ok (.iadd, 1) := by decide +kernel
theorem dX6_colour_104 : decode cX6_colour 104 = .ok (.iaload, 1) := by decide +kernel
theorem dX6_colour_105 : decode cX6_colour 105 = .ok (.ireturn, 1) := by decide +kernel
theorem dX6_colour_106 : decode cX6_colour 106 = .ok (.aload_n 0, 1) := by decide +kernel
theorem dX6_colour_107 : decode cX6_colour 107 = .ok (.getfield 10, 3) := by decide +kernel
theorem dX6_colour_110 : decode cX6_colour 110 = .ok (.getfield 131, 3) := by decide +kernel
theorem dX6_colour_113 : decode cX6_colour 113 = .ok (.iload_n 1, 1) := by decide +kernel
theorem dX6_colour_114 : decode cX6_colour 114 = .ok (.iaload, 1) := by decide +kernel
theorem dX6_colour_115 : decode cX6_colour 115 = .ok (.ireturn, 1) := by decide +kernel
theorem dX6_colour_116 : decode cX6_colour 116 = .ok (.aload_n 0, 1) := by decide +kernel
theorem dX6_colour_117 : decode cX6_colour 117 = .ok (.getfield 10, 3) := by decide +kernel
theorem dX6_colour_120 : decode cX6_colour 120 = .ok (.iload_n 1, 1) := by decide +kernel
theorem dX6_colour_121 : decode cX6_colour 121 = .ok (.invokevirtual 134, 3) := by decide +kernel
theorem dX6_colour_124 : decode cX6_colour 124 = .ok (.ireturn, 1) := by decide +kernel
theorem dX6_colour_125 : decode cX6_colour 125 = .ok (.aload_n 0, 1) := by decide +kernel
theorem dX6_colour_126 : decode cX6_colour 126 = .ok (.getfield 10, 3) := by decide +kernel
theorem dX6_colour_129 : decode cX6_colour 129 = .ok (.iload_n 1, 1) := by decide +kernel
theorem dX6_colour_130 : decode cX6_colour 130 = .ok (.invokevirtual 138, 3) := by decide +kernel
theorem dX6_colour_133 : decode cX6_colour 133 = .ok (.ireturn, 1) := by decide +kernel
theorem dX6_colour_134 : decode cX6_colour 134 = .ok (.iconst (-1), 1) := by decide +kernel
theorem dX6_colour_135 : decode cX6_colour 135 = .ok (.ireturn, 1) := by decide +kernel
theorem dX6_one_0 : decode cX6_one 0 = .ok (.aload_n 0, 1) := by decide +kernel
theorem dX6_one_1 : decode cX6_one 1 = .ok (.getfield 10, 3) := by decide +kernel
theorem dX6_one_4 : decode cX6_one 4 = .ok (.iload_n 1, 1) := by decide +kernel
theorem dX6_one_5 : decode cX6_one 5 = .ok (.invokevirtual 141, 3) := by decide +kernel
theorem dX6_one_8 : decode cX6_one 8 = .ok (.ifCond .ne 5, 3) := by decide +kernel
theorem dX6_one_11 : decode cX6_one 11 = .ok (.iconst (-1), 1) := by decide +kernel
theorem dX6_one_12 : decode cX6_one 12 = .ok (.ireturn, 1) := by decide +kernel
theorem dX6_one_13 : decode cX6_one 13 = .ok (.iload_n 2, 1) := by decide +kernel
theorem dX6_one_14 : decode cX6_one 14 = .ok (.tableswitch 90 0 4 #[34, 44, 54, 63, 72], 34) := by decide +kernel
theorem dX6_one_48 : decode cX6_one 48 = .ok (.aload_n 0, 1) := by decide +kernel
theorem dX6_one_49 : decode cX6_one 49 = .ok (.getfield 10, 3) := by decide +kernel
theorem dX6_one_52 : decode cX6_one 52 = .ok (.getfield 144, 3) := by decide +kernel
theorem dX6_one_55 : decode cX6_one 55 = .ok (.iload_n 1, 1) := by decide +kernel
theorem dX6_one_56 : decode cX6_one 56 = .ok (.iaload, 1) := by decide +kernel
theorem dX6_one_57 : decode cX6_one 57 = .ok (.ireturn, 1) := by decide +kernel
theorem dX6_one_58 : decode cX6_one 58 = .ok (.aload_n 0, 1) := by decide +kernel
theorem dX6_one_59 : decode cX6_one 59 = .ok (.getfield 10, 3) := by decide +kernel
theorem dX6_one_62 : decode cX6_one 62 = .ok (.getfield 147, 3) := by decide +kernel
theorem dX6_one_65 : decode cX6_one 65 = .ok (.iload_n 1, 1) := by decide +kernel
theorem dX6_one_66 : decode cX6_one 66 = .ok (.iaload, 1) := by decide +kernel
theorem dX6_one_67 : decode cX6_one 67 = .ok (.ireturn, 1) := by decide +kernel
theorem dX6_one_68 : decode cX6_one 68 = .ok (.aload_n 0, 1) := by decide +kernel
theorem dX6_one_69 : decode cX6_one 69 = .ok (.getfield 10, 3) := by decide +kernel
theorem dX6_one_72 : decode cX6_one 72 = .ok (.iload_n 1, 1) := by decide +kernel
theorem dX6_one_73 : decode cX6_one 73 = .ok (.invokevirtual 150, 3) := by decide +kernel
theorem dX6_one_76 : decode cX6_one 76 = .ok (.ireturn, 1) := by decide +kernel
theorem dX6_one_77 : decode cX6_one 77 = .ok (.aload_n 0, 1) := by decide +kernel
theorem dX6_one_78 : decode cX6_one 78 = .ok (.getfield 10, 3) := by decide +kernel
theorem dX6_one_81 : decode cX6_one 81 = .ok (.iload_n 1, 1) := by decide +kernel
theorem dX6_one_82 : decode cX6_one 82 = .ok (.invokevirtual 153, 3) := by decide +kernel
theorem dX6_one_85 : decode cX6_one 85 = .ok (.ireturn, 1) := by decide +kernel
theorem dX6_one_86 : decode cX6_one 86 = .ok (.aload_n 0, 1) := by decide +kernel
theorem dX6_one_87 : decode cX6_one 87 = .ok (.getfield 10, 3) := by decide +kernel
theorem dX6_one_90 : decode cX6_one 90 = .ok (.aload_n 0, 1) := by decide +kernel
theorem dX6_one_91 : decode cX6_one 91 = .ok (.getfield 10, 3) := by decide +kernel
theorem dX6_one_94 : decode cX6_one 94 = .ok (.getfield 156, 3) := by decide +kernel
theorem dX6_one_97 : decode cX6_one 97 = .ok (.iload_n 1, 1) := by decide +kernel
theorem dX6_one_98 : decode cX6_one 98 = .ok (.iconst 5, 1) := by decide +kernel
theorem dX6_one_99 : decode cX6_one 99 = .ok (.imul, 1) := by decide +kernel
theorem dX6_one_100 : decode cX6_one 100 = .ok (.invokevirtual 159, 3) := by decide +kernel
theorem dX6_one_103 : decode cX6_one 103 = .ok (.ireturn, 1) := by decide +kernel
theorem dX6_one_104 : decode cX6_one 104 = .ok (.iconst (-1), 1) := by decide +kernel
theorem dX6_one_105 : decode cX6_one 105 = .ok (.ireturn, 1) := by decide +kernel
theorem dX6_holds_0 : decode cX6_holds 0 = .ok (.aload_n 0, 1) := by decide +kernel
theorem dX6_holds_1 : decode cX6_holds 1 = .ok (.getfield 10, 3) := by decide +kernel
theorem dX6_holds_4 : decode cX6_holds 4 = .ok (.iload_n 1, 1) := by decide +kernel
theorem dX6_holds_5 : decode cX6_holds 5 = .ok (.invokevirtual 141, 3) := by decide +kernel
theorem dX6_holds_8 : decode cX6_holds 8 = .ok (.ifCond .eq 14, 3) := by decide +kernel
theorem dX6_holds_11 : decode cX6_holds 11 = .ok (.aload_n 0, 1) := by decide +kernel
theorem dX6_holds_12 : decode cX6_holds 12 = .ok (.getfield 10, 3) := by decide +kernel
theorem dX6_holds_15 : decode cX6_holds 15 = .ok (.iload_n 2, 1) := by decide +kernel
theorem dX6_holds_16 : decode cX6_holds 16 = .ok (.invokevirtual 121, 3) := by decide +kernel
theorem dX6_holds_19 : decode cX6_holds 19 = .ok (.ifCond .ne 5, 3) := by decide +kernel
theorem dX6_holds_22 : decode cX6_holds 22 = .ok (.iconst (-1), 1) := by decide +kernel
theorem dX6_holds_23 : decode cX6_holds 23 = .ok (.ireturn, 1) := by decide +kernel
theorem dX6_holds_24 : decode cX6_holds 24 = .ok (.aload_n 0, 1) := by decide +kernel
theorem dX6_holds_25 : decode cX6_holds 25 = .ok (.getfield 10, 3) := by decide +kernel
theorem dX6_holds_28 : decode cX6_holds 28 = .ok (.getfield 156, 3) := by decide +kernel
theorem dX6_holds_31 : decode cX6_holds 31 = .ok (.iload_n 1, 1) := by decide +kernel
theorem dX6_holds_32 : decode cX6_holds 32 = .ok (.iconst 5, 1) := by decide +kernel
theorem dX6_holds_33 : decode cX6_holds 33 = .ok (.imul, 1) := by decide +kernel
theorem dX6_holds_34 : decode cX6_holds 34 = .ok (.iload_n 2, 1) := by decide +kernel
theorem dX6_holds_35 : decode cX6_holds 35 = .ok (.iadd, 1) := by decide +kernel
theorem dX6_holds_36 : decode cX6_holds 36 = .ok (.iaload, 1) := by decide +kernel
theorem dX6_holds_37 : decode cX6_holds 37 = .ok (.ireturn, 1) := by decide +kernel
theorem dX6_off_0 : decode cX6_off 0 = .ok (.aload_n 0, 1) := by decide +kernel
theorem dX6_off_1 : decode cX6_off 1 = .ok (.getfield 10, 3) := by decide +kernel
theorem dX6_off_4 : decode cX6_off 4 = .ok (.iload_n 1, 1) := by decide +kernel
theorem dX6_off_5 : decode cX6_off 5 = .ok (.invokevirtual 141, 3) := by decide +kernel
theorem dX6_off_8 : decode cX6_off 8 = .ok (.ifCond .eq 10, 3) := by decide +kernel
theorem dX6_off_11 : decode cX6_off 11 = .ok (.iload_n 2, 1) := by decide +kernel
theorem dX6_off_12 : decode cX6_off 12 = .ok (.invokestatic 163, 3) := by decide +kernel
theorem dX6_off_15 : decode cX6_off 15 = .ok (.ifCond .ne 5, 3) := by decide +kernel
theorem dX6_off_18 : decode cX6_off 18 = .ok (.iconst (-1), 1) := by decide +kernel
theorem dX6_off_19 : decode cX6_off 19 = .ok (.ireturn, 1) := by decide +kernel
theorem dX6_off_20 : decode cX6_off 20 = .ok (.aload_n 0, 1) := by decide +kernel
theorem dX6_off_21 : decode cX6_off 21 = .ok (.getfield 10, 3) := by decide +kernel
theorem dX6_off_24 : decode cX6_off 24 = .ok (.iload_n 1, 1) := by decide +kernel
theorem dX6_off_25 : decode cX6_off 25 = .ok (.invokevirtual 150, 3) := by decide +kernel
theorem dX6_off_28 : decode cX6_off 28 = .ok (.iload_n 2, 1) := by decide +kernel
theorem dX6_off_29 : decode cX6_off 29 = .ok (.invokestatic 166, 3) := by decide +kernel
theorem dX6_off_32 : decode cX6_off 32 = .ok (.ireturn, 1) := by decide +kernel
theorem dX6_alter_0 : decode cX6_alter 0 = .ok (.aload_n 0, 1) := by decide +kernel
theorem dX6_alter_1 : decode cX6_alter 1 = .ok (.getfield 10, 3) := by decide +kernel
theorem dX6_alter_4 : decode cX6_alter 4 = .ok (.iload_n 1, 1) := by decide +kernel
theorem dX6_alter_5 : decode cX6_alter 5 = .ok (.invokevirtual 121, 3) := by decide +kernel
theorem dX6_alter_8 : decode cX6_alter 8 = .ok (.ifCond .eq 24, 3) := by decide +kernel
theorem dX6_alter_11 : decode cX6_alter 11 = .ok (.iload_n 2, 1) := by decide +kernel
theorem dX6_alter_12 : decode cX6_alter 12 = .ok (.iconst 0, 1) := by decide +kernel
theorem dX6_alter_13 : decode cX6_alter 13 = .ok (.iconst 4, 1) := by decide +kernel
theorem dX6_alter_14 : decode cX6_alter 14 = .ok (.invokestatic 73, 3) := by decide +kernel
theorem dX6_alter_17 : decode cX6_alter 17 = .ok (.ifCond .eq 15, 3) := by decide +kernel
theorem dX6_alter_20 : decode cX6_alter 20 = .ok (.iload_n 3, 1) := by decide +kernel
theorem dX6_alter_21 : decode cX6_alter 21 = .ok (.iconst 0, 1) := by decide +kernel
theorem dX6_alter_22 : decode cX6_alter 22 = .ok (.iload_n 2, 1) := by decide +kernel
theorem dX6_alter_23 : decode cX6_alter 23 = .ok (.invokestatic 170, 3) := by decide +kernel
theorem dX6_alter_26 : decode cX6_alter 26 = .ok (.invokestatic 73, 3) := by decide +kernel
theorem dX6_alter_29 : decode cX6_alter 29 = .ok (.ifCond .ne 5, 3) := by decide +kernel
theorem dX6_alter_32 : decode cX6_alter 32 = .ok (.iconst (-1), 1) := by decide +kernel
theorem dX6_alter_33 : decode cX6_alter 33 = .ok (.ireturn, 1) := by decide +kernel
theorem dX6_alter_34 : decode cX6_alter 34 = .ok (.aload_n 0, 1) := by decide +kernel
theorem dX6_alter_35 : decode cX6_alter 35 = .ok (.iload_n 1, 1) := by decide +kernel
theorem dX6_alter_36 : decode cX6_alter 36 = .ok (.iload_n 2, 1) := by decide +kernel
theorem dX6_alter_37 : decode cX6_alter 37 = .ok (.invokevirtual 173, 3) := by decide +kernel
theorem dX6_alter_40 : decode cX6_alter 40 = .ok (.istore 4, 2) := by decide +kernel
theorem dX6_alter_42 : decode cX6_alter 42 = .ok (.iload_n 2, 1) := by decide +kernel
theorem dX6_alter_43 : decode cX6_alter 43 = .ok (.ifCond .ne 16, 3) := by decide +kernel
theorem dX6_alter_46 : decode cX6_alter 46 = .ok (.aload_n 0, 1) := by decide +kernel
theorem dX6_alter_47 : decode cX6_alter 47 = .ok (.getfield 10, 3) := by decide +kernel
theorem dX6_alter_50 : decode cX6_alter 50 = .ok (.getfield 125, 3) := by decide +kernel
theorem dX6_alter_53 : decode cX6_alter 53 = .ok (.iload_n 1, 1) := by decide +kernel
theorem dX6_alter_54 : decode cX6_alter 54 = .ok (.iload_n 3, 1) := by decide +kernel
theorem dX6_alter_55 : decode cX6_alter 55 = .ok (.iastore, 1) := by decide +kernel
theorem dX6_alter_56 : decode cX6_alter 56 = .ok (.goto 37, 3) := by decide +kernel
theorem dX6_alter_59 : decode cX6_alter 59 = .ok (.iload_n 2, 1) := by decide +kernel
theorem dX6_alter_60 : decode cX6_alter 60 = .ok (.iconst 4, 1) := by decide +kernel
theorem dX6_alter_61 : decode cX6_alter 61 = .ok (.if_icmp .ne 16, 3) := by decide +kernel
theorem dX6_alter_64 : decode cX6_alter 64 = .ok (.aload_n 0, 1) := by decide +kernel
theorem dX6_alter_65 : decode cX6_alter 65 = .ok (.getfield 10, 3) := by decide +kernel
theorem dX6_alter_68 : decode cX6_alter 68 = .ok (.getfield 131, 3) := by decide +kernel
theorem dX6_alter_71 : decode cX6_alter 71 = .ok (.iload_n 1, 1) := by decide +kernel
theorem dX6_alter_72 : decode cX6_alter 72 = .ok (.iload_n 3, 1) := by decide +kernel
theorem dX6_alter_73 : decode cX6_alter 73 = .ok (.iastore, 1) := by decide +kernel
theorem dX6_alter_74 : decode cX6_alter 74 = .ok (.goto 19, 3) := by decide +kernel
theorem dX6_alter_77 : decode cX6_alter 77 = .ok (.aload_n 0, 1) := by decide +kernel
theorem dX6_alter_78 : decode cX6_alter 78 = .ok (.getfield 10, 3) := by decide +kernel
theorem dX6_alter_81 : decode cX6_alter 81 = .ok (.getfield 128, 3) := by decide +kernel
theorem dX6_alter_84 : decode cX6_alter 84 = .ok (.iconst 3, 1) := by decide +kernel
theorem dX6_alter_85 : decode cX6_alter 85 = .ok (.iload_n 1, 1) := by decide +kernel
theorem dX6_alter_86 : decode cX6_alter 86 = .ok (.imul, 1) := by decide +kernel
theorem dX6_alter_87 : decode cX6_alter 87 = .ok (.iload_n 2, 1) := by decide +kernel
theorem dX6_alter_88 : decode cX6_alter 88 = .ok (.iadd, 1) := by decide +kernel
theorem dX6_alter_89 : decode cX6_alter 89 = .ok (.iconst 1, 1) := by decide +kernel
theorem dX6_alter_90 : decode cX6_alter 90 = .ok (.isub, 1) := by decide +kernel
theorem dX6_alter_91 : decode cX6_alter 91 = .ok (.iload_n 3, 1) := by decide +kernel
theorem dX6_alter_92 : decode cX6_alter 92 = .ok (.iastore, 1) := by decide +kernel
theorem dX6_alter_93 : decode cX6_alter 93 = .ok (.iload 4, 2) := by decide +kernel
theorem dX6_alter_95 : decode cX6_alter 95 = .ok (.ireturn, 1) := by decide +kernel
theorem dX6_pay_0 : decode cX6_pay 0 = .ok (.aload_n 0, 1) := by decide +kernel
theorem dX6_pay_1 : decode cX6_pay 1 = .ok (.getfield 10, 3) := by decide +kernel
theorem dX6_pay_4 : decode cX6_pay 4 = .ok (.iload_n 1, 1) := by decide +kernel
theorem dX6_pay_5 : decode cX6_pay 5 = .ok (.invokevirtual 141, 3) := by decide +kernel
theorem dX6_pay_8 : decode cX6_pay 8 = .ok (.ifCond .eq 32, 3) := by decide +kernel
theorem dX6_pay_11 : decode cX6_pay 11 = .ok (.iload_n 2, 1) := by decide +kernel
theorem dX6_pay_12 : decode cX6_pay 12 = .ok (.iconst 0, 1) := by decide +kernel
theorem dX6_pay_13 : decode cX6_pay 13 = .ok (.iconst 1, 1) := by decide +kernel
theorem dX6_pay_14 : decode cX6_pay 14 = .ok (.invokestatic 73, 3) := by decide +kernel
theorem dX6_pay_17 : decode cX6_pay 17 = .ok (.ifCond .eq 23, 3) := by decide +kernel
theorem dX6_pay_20 : decode cX6_pay 20 = .ok (.iload_n 3, 1) := by decide +kernel
theorem dX6_pay_21 : decode cX6_pay 21 = .ok (.iconst 0, 1) := by decide +kernel
theorem dX6_pay_22 : decode cX6_pay 22 = .ok (.iload_n 2, 1) := by decide +kernel
theorem dX6_pay_23 : decode cX6_pay 23 = .ok (.ifCond .ne 9, 3) := by decide +kernel
theorem dX6_pay_26 : decode cX6_pay 26 = .ok (.sipush 999, 3) := by decide +kernel
theorem dX6_pay_29 : decode cX6_pay 29 = .ok (.goto 5, 3) := by decide +kernel
theorem dX6_pay_32 : decode cX6_pay 32 = .ok (.bipush 99, 2) := by decide +kernel
theorem dX6_pay_34 : decode cX6_pay 34 = .ok (.invokestatic 73, 3) := by decide +kernel
theorem dX6_pay_37 : decode cX6_pay 37 = .ok (.ifCond .ne 5, 3) := by decide +kernel
theorem dX6_pay_40 : decode cX6_pay 40 = .ok (.iconst (-1), 1) := by decide +kernel
theorem dX6_pay_41 : decode cX6_pay 41 = .ok (.ireturn, 1) := by decide +kernel
theorem dX6_pay_42 : decode cX6_pay 42 = .ok (.aload_n 0, 1) := by decide +kernel
theorem dX6_pay_43 : decode cX6_pay 43 = .ok (.iload_n 1, 1) := by decide +kernel
theorem dX6_pay_44 : decode cX6_pay 44 = .ok (.iload_n 2, 1) := by decide +kernel
theorem dX6_pay_45 : decode cX6_pay 45 = .ok (.invokevirtual 176, 3) := by decide +kernel
theorem dX6_pay_48 : decode cX6_pay 48 = .ok (.istore 4, 2) := by decide +kernel
theorem dX6_pay_50 : decode cX6_pay 50 = .ok (.iload_n 2, 1) := by decide +kernel
theorem dX6_pay_51 : decode cX6_pay 51 = .ok (.ifCond .ne 16, 3) := by decide +kernel
theorem dX6_pay_54 : decode cX6_pay 54 = .ok (.aload_n 0, 1) := by decide +kernel
theorem dX6_pay_55 : decode cX6_pay 55 = .ok (.getfield 10, 3) := by decide +kernel
theorem dX6_pay_58 : decode cX6_pay 58 = .ok (.getfield 144, 3) := by decide +kernel
theorem dX6_pay_61 : decode cX6_pay 61 = .ok (.iload_n 1, 1) := by decide +kernel
theorem dX6_pay_62 : decode cX6_pay 62 = .ok (.iload_n 3, 1) := by decide +kernel
theorem dX6_pay_63 : decode cX6_pay 63 = .ok (.iastore, 1) := by decide +kernel
theorem dX6_pay_64 : decode cX6_pay 64 = .ok (.goto 13, 3) := by decide +kernel
theorem dX6_pay_67 : decode cX6_pay 67 = .ok (.aload_n 0, 1) := by decide +kernel
theorem dX6_pay_68 : decode cX6_pay 68 = .ok (.getfield 10, 3) := by decide +kernel
theorem dX6_pay_71 : decode cX6_pay 71 = .ok (.getfield 147, 3) := by decide +kernel
theorem dX6_pay_74 : decode cX6_pay 74 = .ok (.iload_n 1, 1) := by decide +kernel
theorem dX6_pay_75 : decode cX6_pay 75 = .ok (.iload_n 3, 1) := by decide +kernel
theorem dX6_pay_76 : decode cX6_pay 76 = .ok (.iastore, 1) := by decide +kernel
theorem dX6_pay_77 : decode cX6_pay 77 = .ok (.iload 4, 2) := by decide +kernel
theorem dX6_pay_79 : decode cX6_pay 79 = .ok (.ireturn, 1) := by decide +kernel
theorem dX6_lend_0 : decode cX6_lend 0 = .ok (.aload_n 0, 1) := by decide +kernel
theorem dX6_lend_1 : decode cX6_lend 1 = .ok (.getfield 10, 3) := by decide +kernel
theorem dX6_lend_4 : decode cX6_lend 4 = .ok (.iload_n 1, 1) := by decide +kernel
theorem dX6_lend_5 : decode cX6_lend 5 = .ok (.iload_n 2, 1) := by decide +kernel
theorem dX6_lend_6 : decode cX6_lend 6 = .ok (.iload_n 3, 1) := by decide +kernel
theorem dX6_lend_7 : decode cX6_lend 7 = .ok (.invokevirtual 179, 3) := by decide +kernel
theorem dX6_lend_10 : decode cX6_lend 10 = .ok (.ireturn, 1) := by decide +kernel
theorem dX6_bring_0 : decode cX6_bring 0 = .ok (.aload_n 0, 1) := by decide +kernel
theorem dX6_bring_1 : decode cX6_bring 1 = .ok (.getfield 10, 3) := by decide +kernel
theorem dX6_bring_4 : decode cX6_bring 4 = .ok (.iload_n 1, 1) := by decide +kernel
theorem dX6_bring_5 : decode cX6_bring 5 = .ok (.invokevirtual 141, 3) := by decide +kernel
theorem dX6_bring_8 : decode cX6_bring 8 = .ok (.ifCond .eq 24, 3) := by decide +kernel
theorem dX6_bring_11 : decode cX6_bring 11 = .ok (.aload_n 0, 1) := by decide +kernel
theorem dX6_bring_12 : decode cX6_bring 12 = .ok (.getfield 10, 3) := by decide +kernel
theorem dX6_bring_15 : decode cX6_bring 15 = .ok (.iload_n 2, 1) := by decide +kernel
theorem dX6_bring_16 : decode cX6_bring 16 = .ok (.invokevirtual 121, 3) := by decide +kernel
theorem dX6_bring_19 : decode cX6_bring 19 = .ok (.ifCond .eq 13, 3) := by decide +kernel
theorem dX6_bring_22 : decode cX6_bring 22 = .ok (.iload_n 3, 1) := by decide +kernel
theorem dX6_bring_23 : decode cX6_bring 23 = .ok (.iconst 1, 1) := by decide +kernel
theorem dX6_bring_24 : decode cX6_bring 24 = .ok (.bipush 99, 2) := by decide +kernel
theorem dX6_bring_26 : decode cX6_bring 26 = .ok (.invokestatic 73, 3) := by decide +kernel
theorem dX6_bring_29 : decode cX6_bring 29 = .ok (.ifCond .ne 5, 3) := by decide +kernel
theorem dX6_bring_32 : decode cX6_bring 32 = .ok (.iconst (-1), 1) := by decide +kernel
theorem dX6_bring_33 : decode cX6_bring 33 = .ok (.ireturn, 1) := by decide +kernel
theorem dX6_bring_34 : decode cX6_bring 34 = .ok (.aload_n 0, 1) := by decide +kernel
theorem dX6_bring_35 : decode cX6_bring 35 = .ok (.getfield 10, 3) := by decide +kernel
theorem dX6_bring_38 : decode cX6_bring 38 = .ok (.getfield 156, 3) := by decide +kernel
theorem dX6_bring_41 : decode cX6_bring 41 = .ok (.iload_n 1, 1) := by decide +kernel
theorem dX6_bring_42 : decode cX6_bring 42 = .ok (.iconst 5, 1) := by decide +kernel
theorem dX6_bring_43 : decode cX6_bring 43 = .ok (.imul, 1) := by decide +kernel
theorem dX6_bring_44 : decode cX6_bring 44 = .ok (.iload_n 2, 1) := by decide +kernel
theorem dX6_bring_45 : decode cX6_bring 45 = .ok (.iadd, 1) := by decide +kernel
theorem dX6_bring_46 : decode cX6_bring 46 = .ok (.iaload, 1) := by decide +kernel
theorem dX6_bring_47 : decode cX6_bring 47 = .ok (.iload_n 3, 1) := by decide +kernel
theorem dX6_bring_48 : decode cX6_bring 48 = .ok (.if_icmp .ge 6, 3) := by decide +kernel
theorem dX6_bring_51 : decode cX6_bring 51 = .ok (.bipush (-2), 2) := by decide +kernel
theorem dX6_bring_53 : decode cX6_bring 53 = .ok (.ireturn, 1) := by decide +kernel
theorem dX6_bring_54 : decode cX6_bring 54 = .ok (.aload_n 0, 1) := by decide +kernel
theorem dX6_bring_55 : decode cX6_bring 55 = .ok (.getfield 10, 3) := by decide +kernel
theorem dX6_bring_58 : decode cX6_bring 58 = .ok (.iload_n 1, 1) := by decide +kernel
theorem dX6_bring_59 : decode cX6_bring 59 = .ok (.iload_n 2, 1) := by decide +kernel
theorem dX6_bring_60 : decode cX6_bring 60 = .ok (.iload_n 3, 1) := by decide +kernel
theorem dX6_bring_61 : decode cX6_bring 61 = .ok (.invokevirtual 183, 3) := by decide +kernel
theorem dX6_bring_64 : decode cX6_bring 64 = .ok (.aload_n 0, 1) := by decide +kernel
theorem dX6_bring_65 : decode cX6_bring 65 = .ok (.getfield 10, 3) := by decide +kernel
theorem dX6_bring_68 : decode cX6_bring 68 = .ok (.getfield 156, 3) := by decide +kernel
theorem dX6_bring_71 : decode cX6_bring 71 = .ok (.iload_n 1, 1) := by decide +kernel
theorem dX6_bring_72 : decode cX6_bring 72 = .ok (.iconst 5, 1) := by decide +kernel
theorem dX6_bring_73 : decode cX6_bring 73 = .ok (.imul, 1) := by decide +kernel
theorem dX6_bring_74 : decode cX6_bring 74 = .ok (.iload_n 2, 1) := by decide +kernel
theorem dX6_bring_75 : decode cX6_bring 75 = .ok (.iadd, 1) := by decide +kernel
theorem dX6_bring_76 : decode cX6_bring 76 = .ok (.iaload, 1) := by decide +kernel
theorem dX6_bring_77 : decode cX6_bring 77 = .ok (.ireturn, 1) := by decide +kernel
theorem dX6_days_0 : decode cX6_days 0 = .ok (.iload_n 1, 1) := by decide +kernel
theorem dX6_days_1 : decode cX6_days 1 = .ok (.iconst 0, 1) := by decide +kernel
theorem dX6_days_2 : decode cX6_days 2 = .ok (.bipush 30, 2) := by decide +kernel
theorem dX6_days_4 : decode cX6_days 4 = .ok (.invokestatic 73, 3) := by decide +kernel
theorem dX6_days_7 : decode cX6_days 7 = .ok (.ifCond .ne 5, 3) := by decide +kernel
theorem dX6_days_10 : decode cX6_days 10 = .ok (.iconst (-1), 1) := by decide +kernel
theorem dX6_days_11 : decode cX6_days 11 = .ok (.ireturn, 1) := by decide +kernel
theorem dX6_days_12 : decode cX6_days 12 = .ok (.aload_n 0, 1) := by decide +kernel
theorem dX6_days_13 : decode cX6_days 13 = .ok (.getfield 10, 3) := by decide +kernel
theorem dX6_days_16 : decode cX6_days 16 = .ok (.getfield 109, 3) := by decide +kernel
theorem dX6_days_19 : decode cX6_days 19 = .ok (.iload_n 1, 1) := by decide +kernel
theorem dX6_days_20 : decode cX6_days 20 = .ok (.iadd, 1) := by decide +kernel
theorem dX6_days_21 : decode cX6_days 21 = .ok (.sipush 1000, 3) := by decide +kernel
theorem dX6_days_24 : decode cX6_days 24 = .ok (.if_icmp .lt 6, 3) := by decide +kernel
theorem dX6_days_27 : decode cX6_days 27 = .ok (.bipush (-3), 2) := by decide +kernel
theorem dX6_days_29 : decode cX6_days 29 = .ok (.ireturn, 1) := by decide +kernel
theorem dX6_days_30 : decode cX6_days 30 = .ok (.aload_n 0, 1) := by decide +kernel
theorem dX6_days_31 : decode cX6_days 31 = .ok (.getfield 10, 3) := by decide +kernel
theorem dX6_days_34 : decode cX6_days 34 = .ok (.getfield 112, 3) := by decide +kernel
theorem dX6_days_37 : decode cX6_days 37 = .ok (.istore_n 2, 1) := by decide +kernel
theorem dX6_days_38 : decode cX6_days 38 = .ok (.aload_n 0, 1) := by decide +kernel
theorem dX6_days_39 : decode cX6_days 39 = .ok (.getfield 10, 3) := by decide +kernel
theorem dX6_days_42 : decode cX6_days 42 = .ok (.iload_n 1, 1) := by decide +kernel
theorem dX6_days_43 : decode cX6_days 43 = .ok (.invokevirtual 187, 3) := by decide +kernel
theorem dX6_days_46 : decode cX6_days 46 = .ok (.aload_n 0, 1) := by decide +kernel
theorem dX6_days_47 : decode cX6_days 47 = .ok (.getfield 10, 3) := by decide +kernel
theorem dX6_days_50 : decode cX6_days 50 = .ok (.getfield 112, 3) := by decide +kernel
theorem dX6_days_53 : decode cX6_days 53 = .ok (.iload_n 2, 1) := by decide +kernel
theorem dX6_days_54 : decode cX6_days 54 = .ok (.isub, 1) := by decide +kernel
theorem dX6_days_55 : decode cX6_days 55 = .ok (.ireturn, 1) := by decide +kernel
theorem dX6_runs_0 : decode cX6_runs 0 = .ok (.iload_n 1, 1) := by decide +kernel
theorem dX6_runs_1 : decode cX6_runs 1 = .ok (.iconst 0, 1) := by decide +kernel
theorem dX6_runs_2 : decode cX6_runs 2 = .ok (.bipush 60, 2) := by decide +kernel
theorem dX6_runs_4 : decode cX6_runs 4 = .ok (.invokestatic 73, 3) := by decide +kernel
theorem dX6_runs_7 : decode cX6_runs 7 = .ok (.ifCond .eq 12, 3) := by decide +kernel
theorem dX6_runs_10 : decode cX6_runs 10 = .ok (.iload_n 2, 1) := by decide +kernel
theorem dX6_runs_11 : decode cX6_runs 11 = .ok (.iconst 0, 1) := by decide +kernel
theorem dX6_runs_12 : decode cX6_runs 12 = .ok (.iconst 3, 1) := by decide +kernel
theorem dX6_runs_13 : decode cX6_runs 13 = .ok (.invokestatic 73, 3) := by decide +kernel
theorem dX6_runs_16 : decode cX6_runs 16 = .ok (.ifCond .ne 5, 3) := by decide +kernel
theorem dX6_runs_19 : decode cX6_runs 19 = .ok (.iconst (-1), 1) := by decide +kernel
theorem dX6_runs_20 : decode cX6_runs 20 = .ok (.ireturn, 1) := by decide +kernel
theorem dX6_runs_21 : decode cX6_runs 21 = .ok (.aload_n 0, 1) := by decide +kernel
theorem dX6_runs_22 : decode cX6_runs 22 = .ok (.getfield 16, 3) := by decide +kernel
theorem dX6_runs_25 : decode cX6_runs 25 = .ok (.aload_n 0, 1) := by decide +kernel
theorem dX6_runs_26 : decode cX6_runs 26 = .ok (.getfield 10, 3) := by decide +kernel
theorem dX6_runs_29 : decode cX6_runs 29 = .ok (.invokevirtual 96, 3) := by decide +kernel
theorem dX6_runs_32 : decode cX6_runs 32 = .ok (.bipush (-4), 2) := by decide +kernel
theorem dX6_runs_34 : decode cX6_runs 34 = .ok (.istore_n 3, 1) := by decide +kernel
theorem dX6_runs_35 : decode cX6_runs 35 = .ok (.iconst 1, 1) := by decide +kernel
theorem dX6_runs_36 : decode cX6_runs 36 = .ok (.istore 4, 2) := by decide +kernel
theorem dX6_runs_38 : decode cX6_runs 38 = .ok (.iload 4, 2) := by decide +kernel
theorem dX6_runs_40 : decode cX6_runs 40 = .ok (.iload_n 1, 1) := by decide +kernel
theorem dX6_runs_41 : decode cX6_runs 41 = .ok (.if_icmp .gt 43, 3) := by decide +kernel
theorem dX6_runs_44 : decode cX6_runs 44 = .ok (.aload_n 0, 1) := by decide +kernel
theorem dX6_runs_45 : decode cX6_runs 45 = .ok (.getfield 16, 3) := by decide +kernel
theorem dX6_runs_48 : decode cX6_runs 48 = .ok (.iconst 1, 1) := by decide +kernel
theorem dX6_runs_49 : decode cX6_runs 49 = .ok (.invokevirtual 191, 3) := by decide +kernel
theorem dX6_runs_52 : decode cX6_runs 52 = .ok (.iload_n 3, 1) := by decide +kernel
theorem dX6_runs_53 : decode cX6_runs 53 = .ok (.bipush (-4), 2) := by decide +kernel
theorem dX6_runs_55 : decode cX6_runs 55 = .ok (.if_icmp .ne 23, 3) := by decide +kernel
theorem dX6_runs_58 : decode cX6_runs 58 = .ok (.aload_n 0, 1) := by decide +kernel
theorem dX6_runs_59 : decode cX6_runs 59 = .ok (.getfield 16, 3) := by decide +kernel
theorem dX6_runs_62 : decode cX6_runs 62 = .ok (.getfield 112, 3) := by decide +kernel
theorem dX6_runs_65 : decode cX6_runs 65 = .ok (.aload_n 0, 1) := by decide +kernel
theorem dX6_runs_66 : decode cX6_runs 66 = .ok (.getfield 10, 3) := by decide +kernel
theorem dX6_runs_69 : decode cX6_runs 69 = .ok (.getfield 112, 3) := by decide +kernel
theorem dX6_runs_72 : decode cX6_runs 72 = .ok (.if_icmp .le 6, 3) := by decide +kernel
theorem dX6_runs_75 : decode cX6_runs 75 = .ok (.iload 4, 2) := by decide +kernel
theorem dX6_runs_77 : decode cX6_runs 77 = .ok (.istore_n 3, 1) := by decide +kernel
theorem dX6_runs_78 : decode cX6_runs 78 = .ok (.iinc 4 1, 3) := by decide +kernel
theorem dX6_runs_81 : decode cX6_runs 81 = .ok (.goto (-43), 3) := by decide +kernel
theorem dX6_runs_84 : decode cX6_runs 84 = .ok (.iload_n 2, 1) := by decide +kernel
theorem dX6_runs_85 : decode cX6_runs 85 = .ok (.tableswitch 59 0 2 #[27, 35, 51], 27) := by decide +kernel
theorem dX6_runs_112 : decode cX6_runs 112 = .ok (.aload_n 0, 1) := by decide +kernel
theorem dX6_runs_113 : decode cX6_runs 113 = .ok (.getfield 16, 3) := by decide +kernel
theorem dX6_runs_116 : decode cX6_runs 116 = .ok (.invokevirtual 118, 3) := by decide +kernel
theorem dX6_runs_119 : decode cX6_runs 119 = .ok (.ireturn, 1) := by decide +kernel
theorem dX6_runs_120 : decode cX6_runs 120 = .ok (.aload_n 0, 1) := by decide +kernel
theorem dX6_runs_121 : decode cX6_runs 121 = .ok (.getfield 16, 3) := by decide +kernel
theorem dX6_runs_124 : decode cX6_runs 124 = .ok (.getfield 112, 3) := by decide +kernel
theorem dX6_runs_127 : decode cX6_runs 127 = .ok (.aload_n 0, 1) := by decide +kernel
theorem dX6_runs_128 : decode cX6_runs 128 = .ok (.getfield 10, 3) := by decide +kernel
theorem dX6_runs_131 : decode cX6_runs 131 = .ok (.getfield 112, 3) := by decide +kernel
theorem dX6_runs_134 : decode cX6_runs 134 = .ok (.isub, 1) := by decide +kernel
theorem dX6_runs_135 : decode cX6_runs 135 = .ok (.ireturn, 1) := by decide +kernel
theorem dX6_runs_136 : decode cX6_runs 136 = .ok (.aload_n 0, 1) := by decide +kernel
theorem dX6_runs_137 : decode cX6_runs 137 = .ok (.getfield 16, 3) := by decide +kernel
theorem dX6_runs_140 : decode cX6_runs 140 = .ok (.getfield 194, 3) := by decide +kernel
theorem dX6_runs_143 : decode cX6_runs 143 = .ok (.ireturn, 1) := by decide +kernel
theorem dX6_runs_144 : decode cX6_runs 144 = .ok (.iload_n 3, 1) := by decide +kernel
theorem dX6_runs_145 : decode cX6_runs 145 = .ok (.ireturn, 1) := by decide +kernel
theorem dX6_ahead_0 : decode cX6_ahead 0 = .ok (.aload_n 0, 1) := by decide +kernel
theorem dX6_ahead_1 : decode cX6_ahead 1 = .ok (.getfield 10, 3) := by decide +kernel
theorem dX6_ahead_4 : decode cX6_ahead 4 = .ok (.iload_n 1, 1) := by decide +kernel
theorem dX6_ahead_5 : decode cX6_ahead 5 = .ok (.invokevirtual 141, 3) := by decide +kernel
theorem dX6_ahead_8 : decode cX6_ahead 8 = .ok (.ifCond .eq 22, 3) := by decide +kernel
theorem dX6_ahead_11 : decode cX6_ahead 11 = .ok (.iload_n 2, 1) := by decide +kernel
theorem dX6_ahead_12 : decode cX6_ahead 12 = .ok (.iconst 0, 1) := by decide +kernel
theorem dX6_ahead_13 : decode cX6_ahead 13 = .ok (.bipush 60, 2) := by decide +kernel
theorem dX6_ahead_15 : decode cX6_ahead 15 = .ok (.invokestatic 73, 3) := by decide +kernel
theorem dX6_ahead_18 : decode cX6_ahead 18 = .ok (.ifCond .eq 12, 3) := by decide +kernel
theorem dX6_ahead_21 : decode cX6_ahead 21 = .ok (.iload_n 3, 1) := by decide +kernel
theorem dX6_ahead_22 : decode cX6_ahead 22 = .ok (.iconst 0, 1) := by decide +kernel
theorem dX6_ahead_23 : decode cX6_ahead 23 = .ok (.iconst 2, 1) := by decide +kernel
theorem dX6_ahead_24 : decode cX6_ahead 24 = .ok (.invokestatic 73, 3) := by decide +kernel
theorem dX6_ahead_27 : decode cX6_ahead 27 = .ok (.ifCond .ne 5, 3) := by decide +kernel
theorem dX6_ahead_30 : decode cX6_ahead 30 = .ok (.iconst (-1), 1) := by decide +kernel
theorem dX6_ahead_31 : decode cX6_ahead 31 = .ok (.ireturn, 1) := by decide +kernel
theorem dX6_ahead_32 : decode cX6_ahead 32 = .ok (.aload_n 0, 1) := by decide +kernel
theorem dX6_ahead_33 : decode cX6_ahead 33 = .ok (.getfield 16, 3) := by decide +kernel
theorem dX6_ahead_36 : decode cX6_ahead 36 = .ok (.aload_n 0, 1) := by decide +kernel
theorem dX6_ahead_37 : decode cX6_ahead 37 = .ok (.getfield 10, 3) := by decide +kernel
theorem dX6_ahead_40 : decode cX6_ahead 40 = .ok (.invokevirtual 96, 3) := by decide +kernel
theorem dX6_ahead_43 : decode cX6_ahead 43 = .ok (.aload_n 0, 1) := by decide +kernel
theorem dX6_ahead_44 : decode cX6_ahead 44 = .ok (.getfield 16, 3) := by decide +kernel
theorem dX6_ahead_47 : decode cX6_ahead 47 = .ok (.iload_n 1, 1) := by decide +kernel
theorem dX6_ahead_48 : decode cX6_ahead 48 = .ok (.iload_n 2, 1) := by decide +kernel
theorem dX6_ahead_49 : decode cX6_ahead 49 = .ok (.invokevirtual 197, 3) := by decide +kernel
theorem dX6_ahead_52 : decode cX6_ahead 52 = .ok (.iload_n 3, 1) := by decide +kernel
theorem dX6_ahead_53 : decode cX6_ahead 53 = .ok (.lookupswitch 46 #[(0, 27), (1, 36)], 27) := by decide +kernel
theorem dX6_ahead_80 : decode cX6_ahead 80 = .ok (.aload_n 0, 1) := by decide +kernel
theorem dX6_ahead_81 : decode cX6_ahead 81 = .ok (.getfield 16, 3) := by decide +kernel
theorem dX6_ahead_84 : decode cX6_ahead 84 = .ok (.iload_n 1, 1) := by decide +kernel
theorem dX6_ahead_85 : decode cX6_ahead 85 = .ok (.invokevirtual 150, 3) := by decide +kernel
theorem dX6_ahead_88 : decode cX6_ahead 88 = .ok (.ireturn, 1) := by decide +kernel
theorem dX6_ahead_89 : decode cX6_ahead 89 = .ok (.aload_n 0, 1) := by decide +kernel
theorem dX6_ahead_90 : decode cX6_ahead 90 = .ok (.getfield 16, 3) := by decide +kernel
theorem dX6_ahead_93 : decode cX6_ahead 93 = .ok (.getfield 144, 3) := by decide +kernel
theorem dX6_ahead_96 : decode cX6_ahead 96 = .ok (.iload_n 1, 1) := by decide +kernel
theorem dX6_ahead_97 : decode cX6_ahead 97 = .ok (.iaload, 1) := by decide +kernel
theorem dX6_ahead_98 : decode cX6_ahead 98 = .ok (.ireturn, 1) := by decide +kernel
theorem dX6_ahead_99 : decode cX6_ahead 99 = .ok (.aload_n 0, 1) := by decide +kernel
theorem dX6_ahead_100 : decode cX6_ahead 100 = .ok (.getfield 16, 3) := by decide +kernel
theorem dX6_ahead_103 : decode cX6_ahead 103 = .ok (.iload_n 1, 1) := by decide +kernel
theorem dX6_ahead_104 : decode cX6_ahead 104 = .ok (.invokevirtual 153, 3) := by decide +kernel
theorem dX6_ahead_107 : decode cX6_ahead 107 = .ok (.ireturn, 1) := by decide +kernel
theorem dX6_lasts_0 : decode cX6_lasts 0 = .ok (.aload_n 0, 1) := by decide +kernel
theorem dX6_lasts_1 : decode cX6_lasts 1 = .ok (.getfield 10, 3) := by decide +kernel
theorem dX6_lasts_4 : decode cX6_lasts 4 = .ok (.iload_n 1, 1) := by decide +kernel
theorem dX6_lasts_5 : decode cX6_lasts 5 = .ok (.invokevirtual 141, 3) := by decide +kernel
theorem dX6_lasts_8 : decode cX6_lasts 8 = .ok (.ifCond .ne 5, 3) := by decide +kernel
theorem dX6_lasts_11 : decode cX6_lasts 11 = .ok (.iconst (-1), 1) := by decide +kernel
theorem dX6_lasts_12 : decode cX6_lasts 12 = .ok (.ireturn, 1) := by decide +kernel
theorem dX6_lasts_13 : decode cX6_lasts 13 = .ok (.aload_n 0, 1) := by decide +kernel
theorem dX6_lasts_14 : decode cX6_lasts 14 = .ok (.getfield 16, 3) := by decide +kernel
theorem dX6_lasts_17 : decode cX6_lasts 17 = .ok (.aload_n 0, 1) := by decide +kernel
theorem dX6_lasts_18 : decode cX6_lasts 18 = .ok (.getfield 10, 3) := by decide +kernel
theorem dX6_lasts_21 : decode cX6_lasts 21 = .ok (.invokevirtual 96, 3) := by decide +kernel
theorem dX6_lasts_24 : decode cX6_lasts 24 = .ok (.iconst 0, 1) := by decide +kernel
theorem dX6_lasts_25 : decode cX6_lasts 25 = .ok (.istore_n 2, 1) := by decide +kernel
theorem dX6_lasts_26 : decode cX6_lasts 26 = .ok (.iload_n 2, 1) := by decide +kernel
theorem dX6_lasts_27 : decode cX6_lasts 27 = .ok (.bipush 60, 2) := by decide +kernel
theorem dX6_lasts_29 : decode cX6_lasts 29 = .ok (.if_icmp .gt 31, 3) := by decide +kernel
theorem dX6_lasts_32 : decode cX6_lasts 32 = .ok (.aload_n 0, 1) := by decide +kernel
theorem dX6_lasts_33 : decode cX6_lasts 33 = .ok (.getfield 16, 3) := by decide +kernel
theorem dX6_lasts_36 : decode cX6_lasts 36 = .ok (.iload_n 1, 1) := by decide +kernel
theorem dX6_lasts_37 : decode cX6_lasts 37 = .ok (.invokevirtual 153, 3) := by decide +kernel
theorem dX6_lasts_40 : decode cX6_lasts 40 = .ok (.ifCond .ne 5, 3) := by decide +kernel
theorem dX6_lasts_43 : decode cX6_lasts 43 = .ok (.iload_n 2, 1) := by decide +kernel
theorem dX6_lasts_44 : decode cX6_lasts 44 = .ok (.ireturn, 1) := by decide +kernel
theorem dX6_lasts_45 : decode cX6_lasts 45 = .ok (.aload_n 0, 1) := by decide +kernel
theorem dX6_lasts_46 : decode cX6_lasts 46 = .ok (.getfield 16, 3) := by decide +kernel
theorem dX6_lasts_49 : decode cX6_lasts 49 = .ok (.iload_n 1, 1) := by decide +kernel
theorem dX6_lasts_50 : decode cX6_lasts 50 = .ok (.iconst 1, 1) := by decide +kernel
theorem dX6_lasts_51 : decode cX6_lasts 51 = .ok (.invokevirtual 201, 3) := by decide +kernel
theorem dX6_lasts_54 : decode cX6_lasts 54 = .ok (.iinc 2 1, 3) := by decide +kernel
theorem dX6_lasts_57 : decode cX6_lasts 57 = .ok (.goto (-31), 3) := by decide +kernel
theorem dX6_lasts_60 : decode cX6_lasts 60 = .ok (.bipush (-4), 2) := by decide +kernel
theorem dX6_lasts_62 : decode cX6_lasts 62 = .ok (.ireturn, 1) := by decide +kernel
theorem dX6_mix_0 : decode cX6_mix 0 = .ok (.iload_n 1, 1) := by decide +kernel
theorem dX6_mix_1 : decode cX6_mix 1 = .ok (.invokestatic 163, 3) := by decide +kernel
theorem dX6_mix_4 : decode cX6_mix 4 = .ok (.ifCond .eq 28, 3) := by decide +kernel
theorem dX6_mix_7 : decode cX6_mix 7 = .ok (.iload_n 2, 1) := by decide +kernel
theorem dX6_mix_8 : decode cX6_mix 8 = .ok (.iconst 1, 1) := by decide +kernel
theorem dX6_mix_9 : decode cX6_mix 9 = .ok (.bipush 6, 2) := by decide +kernel
theorem dX6_mix_11 : decode cX6_mix 11 = .ok (.invokestatic 73, 3) := by decide +kernel
theorem dX6_mix_14 : decode cX6_mix 14 = .ok (.ifCond .eq 18, 3) := by decide +kernel
theorem dX6_mix_17 : decode cX6_mix 17 = .ok (.iload_n 3, 1) := by decide +kernel
theorem dX6_mix_18 : decode cX6_mix 18 = .ok (.iconst 0, 1) := by decide +kernel
theorem dX6_mix_19 : decode cX6_mix 19 = .ok (.aload_n 0, 1) := by decide +kernel
theorem dX6_mix_20 : decode cX6_mix 20 = .ok (.getfield 10, 3) := by decide +kernel
theorem dX6_mix_23 : decode cX6_mix 23 = .ok (.getfield 103, 3) := by decide +kernel
theorem dX6_mix_26 : decode cX6_mix 26 = .ok (.invokestatic 73, 3) := by decide +kernel
theorem dX6_mix_29 : decode cX6_mix 29 = .ok (.ifCond .ne 5, 3) := by decide +kernel
theorem dX6_mix_32 : decode cX6_mix 32 = .ok (.iconst (-1), 1) := by decide +kernel
theorem dX6_mix_33 : decode cX6_mix 33 = .ok (.ireturn, 1) := by decide +kernel
theorem dX6_mix_34 : decode cX6_mix 34 = .ok (.aload_n 0, 1) := by decide +kernel
theorem dX6_mix_35 : decode cX6_mix 35 = .ok (.getfield 51, 3) := by decide +kernel
theorem dX6_mix_38 : decode cX6_mix 38 = .ok (.aload_n 0, 1) := by decide +kernel
theorem dX6_mix_39 : decode cX6_mix 39 = .ok (.getfield 10, 3) := by decide +kernel
theorem dX6_mix_42 : decode cX6_mix 42 = .ok (.iload_n 1, 1) := by decide +kernel
theorem dX6_mix_43 : decode cX6_mix 43 = .ok (.iload_n 2, 1) := by decide +kernel
theorem dX6_mix_44 : decode cX6_mix 44 = .ok (.bipush 27, 2) := by decide +kernel
theorem dX6_mix_46 : decode cX6_mix 46 = .ok (.invokevirtual 204, 3) := by decide +kernel
theorem dX6_mix_49 : decode cX6_mix 49 = .ok (.aload_n 0, 1) := by decide +kernel
theorem dX6_mix_50 : decode cX6_mix 50 = .ok (.getfield 51, 3) := by decide +kernel
theorem dX6_mix_53 : decode cX6_mix 53 = .ok (.getfield 208, 3) := by decide +kernel
theorem dX6_mix_56 : decode cX6_mix 56 = .ok (.bipush 27, 2) := by decide +kernel
theorem dX6_mix_58 : decode cX6_mix 58 = .ok (.if_icmp .le 6, 3) := by decide +kernel
theorem dX6_mix_61 : decode cX6_mix 61 = .ok (.bipush (-4), 2) := by decide +kernel
theorem dX6_mix_63 : decode cX6_mix 63 = .ok (.ireturn, 1) := by decide +kernel
theorem dX6_mix_64 : decode cX6_mix 64 = .ok (.iload_n 3, 1) := by decide +kernel
theorem dX6_mix_65 : decode cX6_mix 65 = .ok (.ifCond .ne 13, 3) := by decide +kernel
theorem dX6_mix_68 : decode cX6_mix 68 = .ok (.aload_n 0, 1) := by decide +kernel
theorem dX6_mix_69 : decode cX6_mix 69 = .ok (.getfield 51, 3) := by decide +kernel
theorem dX6_mix_72 : decode cX6_mix 72 = .ok (.getfield 208, 3) := by decide +kernel
theorem dX6_mix_75 : decode cX6_mix 75 = .ok (.goto 14, 3) := by decide +kernel
theorem dX6_mix_78 : decode cX6_mix 78 = .ok (.aload_n 0, 1) := by decide +kernel
theorem dX6_mix_79 : decode cX6_mix 79 = .ok (.getfield 51, 3) := by decide +kernel
theorem dX6_mix_82 : decode cX6_mix 82 = .ok (.getfield 211, 3) := by decide +kernel
theorem dX6_mix_85 : decode cX6_mix 85 = .ok (.iload_n 3, 1) := by decide +kernel
theorem dX6_mix_86 : decode cX6_mix 86 = .ok (.iconst 1, 1) := by decide +kernel
theorem dX6_mix_87 : decode cX6_mix 87 = .ok (.isub, 1) := by decide +kernel
theorem dX6_mix_88 : decode cX6_mix 88 = .ok (.iaload, 1) := by decide +kernel
theorem dX6_mix_89 : decode cX6_mix 89 = .ok (.ireturn, 1) := by decide +kernel
theorem dX6_cheap_0 : decode cX6_cheap 0 = .ok (.iload_n 1, 1) := by decide +kernel
theorem dX6_cheap_1 : decode cX6_cheap 1 = .ok (.invokestatic 163, 3) := by decide +kernel
theorem dX6_cheap_4 : decode cX6_cheap 4 = .ok (.ifCond .eq 23, 3) := by decide +kernel
theorem dX6_cheap_7 : decode cX6_cheap 7 = .ok (.iload_n 2, 1) := by decide +kernel
theorem dX6_cheap_8 : decode cX6_cheap 8 = .ok (.iconst 0, 1) := by decide +kernel
theorem dX6_cheap_9 : decode cX6_cheap 9 = .ok (.bipush 27, 2) := by decide +kernel
theorem dX6_cheap_11 : decode cX6_cheap 11 = .ok (.invokestatic 73, 3) := by decide +kernel
theorem dX6_cheap_14 : decode cX6_cheap 14 = .ok (.ifCond .eq 13, 3) := by decide +kernel
theorem dX6_cheap_17 : decode cX6_cheap 17 = .ok (.iload_n 3, 1) := by decide +kernel
theorem dX6_cheap_18 : decode cX6_cheap 18 = .ok (.iconst 1, 1) := by decide +kernel
theorem dX6_cheap_19 : decode cX6_cheap 19 = .ok (.bipush 6, 2) := by decide +kernel
theorem dX6_cheap_21 : decode cX6_cheap 21 = .ok (.invokestatic 73, 3) := by decide +kernel
theorem dX6_cheap_24 : decode cX6_cheap 24 = .ok (.ifCond .ne 5, 3) := by decide +kernel
theorem dX6_cheap_27 : decode cX6_cheap 27 = .ok (.iconst (-1), 1) := by decide +kernel
theorem dX6_cheap_28 : decode cX6_cheap 28 = .ok (.ireturn, 1) := by decide +kernel
theorem dX6_cheap_29 : decode cX6_cheap 29 = .ok (.aload_n 0, 1) := by decide +kernel
theorem dX6_cheap_30 : decode cX6_cheap 30 = .ok (.getfield 51, 3) := by decide +kernel
theorem dX6_cheap_33 : decode cX6_cheap 33 = .ok (.aload_n 0, 1) := by decide +kernel
theorem dX6_cheap_34 : decode cX6_cheap 34 = .ok (.getfield 10, 3) := by decide +kernel
theorem dX6_cheap_37 : decode cX6_cheap 37 = .ok (.iload_n 1, 1) := by decide +kernel
theorem dX6_cheap_38 : decode cX6_cheap 38 = .ok (.iload_n 3, 1) := by decide +kernel
theorem dX6_cheap_39 : decode cX6_cheap 39 = .ok (.iload_n 2, 1) := by decide +kernel
theorem dX6_cheap_40 : decode cX6_cheap 40 = .ok (.invokevirtual 204, 3) := by decide +kernel
theorem dX6_cheap_43 : decode cX6_cheap 43 = .ok (.aload_n 0, 1) := by decide +kernel
theorem dX6_cheap_44 : decode cX6_cheap 44 = .ok (.getfield 51, 3) := by decide +kernel
theorem dX6_cheap_47 : decode cX6_cheap 47 = .ok (.getfield 214, 3) := by decide +kernel
theorem dX6_cheap_50 : decode cX6_cheap 50 = .ok (.ireturn, 1) := by decide +kernel
theorem dX6_more_0 : decode cX6_more 0 = .ok (.aload_n 0, 1) := by decide +kernel
theorem dX6_more_1 : decode cX6_more 1 = .ok (.getfield 10, 3) := by decide +kernel
theorem dX6_more_4 : decode cX6_more 4 = .ok (.iload_n 1, 1) := by decide +kernel
theorem dX6_more_5 : decode cX6_more 5 = .ok (.invokevirtual 141, 3) := by decide +kernel
theorem dX6_more_8 : decode cX6_more 8 = .ok (.ifCond .eq 14, 3) := by decide +kernel
theorem dX6_more_11 : decode cX6_more 11 = .ok (.aload_n 0, 1) := by decide +kernel
theorem dX6_more_12 : decode cX6_more 12 = .ok (.getfield 10, 3) := by decide +kernel
theorem dX6_more_15 : decode cX6_more 15 = .ok (.iload_n 2, 1) := by decide +kernel
theorem dX6_more_16 : decode cX6_more 16 = .ok (.invokevirtual 121, 3) := by decide +kernel
theorem dX6_more_19 : decode cX6_more 19 = .ok (.ifCond .ne 5, 3) := by decide +kernel
theorem dX6_more_22 : decode cX6_more 22 = .ok (.iconst (-1), 1) := by decide +kernel
theorem dX6_more_23 : decode cX6_more 23 = .ok (.ireturn, 1) := by decide +kernel
theorem dX6_more_24 : decode cX6_more 24 = .ok (.aload_n 0, 1) := by decide +kernel
theorem dX6_more_25 : decode cX6_more 25 = .ok (.iload_n 1, 1) := by decide +kernel
theorem dX6_more_26 : decode cX6_more 26 = .ok (.iload_n 2, 1) := by decide +kernel
theorem dX6_more_27 : decode cX6_more 27 = .ok (.iconst 0, 1) := by decide +kernel
theorem dX6_more_28 : decode cX6_more 28 = .ok (.invokevirtual 217, 3) := by decide +kernel
theorem dX6_more_31 : decode cX6_more 31 = .ok (.istore_n 3, 1) := by decide +kernel
theorem dX6_more_32 : decode cX6_more 32 = .ok (.aload_n 0, 1) := by decide +kernel
theorem dX6_more_33 : decode cX6_more 33 = .ok (.getfield 10, 3) := by decide +kernel
theorem dX6_more_36 : decode cX6_more 36 = .ok (.getfield 131, 3) := by decide +kernel
theorem dX6_more_39 : decode cX6_more 39 = .ok (.iload_n 2, 1) := by decide +kernel
theorem dX6_more_40 : decode cX6_more 40 = .ok (.iaload, 1) := by decide +kernel
theorem dX6_more_41 : decode cX6_more 41 = .ok (.bipush 99, 2) := by decide +kernel
theorem dX6_more_43 : decode cX6_more 43 = .ok (.aload_n 0, 1) := by decide +kernel
theorem dX6_more_44 : decode cX6_more 44 = .ok (.getfield 10, 3) := by decide +kernel
theorem dX6_more_47 : decode cX6_more 47 = .ok (.getfield 156, 3) := by decide +kernel
theorem dX6_more_50 : decode cX6_more 50 = .ok (.iload_n 1, 1) := by decide +kernel
theorem dX6_more_51 : decode cX6_more 51 = .ok (.iconst 5, 1) := by decide +kernel
theorem dX6_more_52 : decode cX6_more 52 = .ok (.imul, 1) := by decide +kernel
theorem dX6_more_53 : decode cX6_more 53 = .ok (.iload_n 2, 1) := by decide +kernel
theorem dX6_more_54 : decode cX6_more 54 = .ok (.iadd, 1) := by decide +kernel
theorem dX6_more_55 : decode cX6_more 55 = .ok (.iaload, 1) := by decide +kernel
theorem dX6_more_56 : decode cX6_more 56 = .ok (.isub, 1) := by decide +kernel
theorem dX6_more_57 : decode cX6_more 57 = .ok (.invokestatic 220, 3) := by decide +kernel
theorem dX6_more_60 : decode cX6_more 60 = .ok (.istore 4, 2) := by decide +kernel
theorem dX6_more_62 : decode cX6_more 62 = .ok (.iload 4, 2) := by decide +kernel
theorem dX6_more_64 : decode cX6_more 64 = .ok (.istore 5, 2) := by decide +kernel
theorem dX6_more_66 : decode cX6_more 66 = .ok (.iload 5, 2) := by decide +kernel
theorem dX6_more_68 : decode cX6_more 68 = .ok (.ifCond .le 24, 3) := by decide +kernel
theorem dX6_more_71 : decode cX6_more 71 = .ok (.aload_n 0, 1) := by decide +kernel
theorem dX6_more_72 : decode cX6_more 72 = .ok (.iload_n 1, 1) := by decide +kernel
theorem dX6_more_73 : decode cX6_more 73 = .ok (.iload_n 2, 1) := by decide +kernel
theorem dX6_more_74 : decode cX6_more 74 = .ok (.iload 5, 2) := by decide +kernel
theorem dX6_more_76 : decode cX6_more 76 = .ok (.invokevirtual 217, 3) := by decide +kernel
theorem dX6_more_79 : decode cX6_more 79 = .ok (.iload_n 3, 1) := by decide +kernel
theorem dX6_more_80 : decode cX6_more 80 = .ok (.if_icmp .gt 6, 3) := by decide +kernel
theorem dX6_more_83 : decode cX6_more 83 = .ok (.iload 5, 2) := by decide +kernel
theorem dX6_more_85 : decode cX6_more 85 = .ok (.ireturn, 1) := by decide +kernel
theorem dX6_more_86 : decode cX6_more 86 = .ok (.iinc 5 (-1), 3) := by decide +kernel
theorem dX6_more_89 : decode cX6_more 89 = .ok (.goto (-23), 3) := by decide +kernel
theorem dX6_more_92 : decode cX6_more 92 = .ok (.iconst 0, 1) := by decide +kernel
theorem dX6_more_93 : decode cX6_more 93 = .ok (.ireturn, 1) := by decide +kernel
theorem dX6_swap_0 : decode cX6_swap 0 = .ok (.iload_n 1, 1) := by decide +kernel
theorem dX6_swap_1 : decode cX6_swap 1 = .ok (.iconst 0, 1) := by decide +kernel
theorem dX6_swap_2 : decode cX6_swap 2 = .ok (.iconst 1, 1) := by decide +kernel
theorem dX6_swap_3 : decode cX6_swap 3 = .ok (.invokestatic 73, 3) := by decide +kernel
theorem dX6_swap_6 : decode cX6_swap 6 = .ok (.ifCond .ne 5, 3) := by decide +kernel
theorem dX6_swap_9 : decode cX6_swap 9 = .ok (.iconst (-1), 1) := by decide +kernel
theorem dX6_swap_10 : decode cX6_swap 10 = .ok (.ireturn, 1) := by decide +kernel
theorem dX6_swap_11 : decode cX6_swap 11 = .ok (.aload_n 0, 1) := by decide +kernel
theorem dX6_swap_12 : decode cX6_swap 12 = .ok (.iconst 0, 1) := by decide +kernel
theorem dX6_swap_13 : decode cX6_swap 13 = .ok (.iconst 0, 1) := by decide +kernel
theorem dX6_swap_14 : decode cX6_swap 14 = .ok (.invokevirtual 225, 3) := by decide +kernel
theorem dX6_swap_17 : decode cX6_swap 17 = .ok (.istore_n 2, 1) := by decide +kernel
theorem dX6_swap_18 : decode cX6_swap 18 = .ok (.bipush (-4), 2) := by decide +kernel
theorem dX6_swap_20 : decode cX6_swap 20 = .ok (.istore_n 3, 1) := by decide +kernel
theorem dX6_swap_21 : decode cX6_swap 21 = .ok (.iconst 0, 1) := by decide +kernel
theorem dX6_swap_22 : decode cX6_swap 22 = .ok (.istore 4, 2) := by decide +kernel
theorem dX6_swap_24 : decode cX6_swap 24 = .ok (.iload 4, 2) := by decide +kernel
theorem dX6_swap_26 : decode cX6_swap 26 = .ok (.aload_n 0, 1) := by decide +kernel
theorem dX6_swap_27 : decode cX6_swap 27 = .ok (.getfield 10, 3) := by decide +kernel
theorem dX6_swap_30 : decode cX6_swap 30 = .ok (.getfield 106, 3) := by decide +kernel
theorem dX6_swap_33 : decode cX6_swap 33 = .ok (.if_icmp .ge 61, 3) := by decide +kernel
theorem dX6_swap_36 : decode cX6_swap 36 = .ok (.iload 4, 2) := by decide +kernel
theorem dX6_swap_38 : decode cX6_swap 38 = .ok (.iconst 1, 1) := by decide +kernel
theorem dX6_swap_39 : decode cX6_swap 39 = .ok (.iadd, 1) := by decide +kernel
theorem dX6_swap_40 : decode cX6_swap 40 = .ok (.istore 5, 2) := by decide +kernel
theorem dX6_swap_42 : decode cX6_swap 42 = .ok (.iload 5, 2) := by decide +kernel
theorem dX6_swap_44 : decode cX6_swap 44 = .ok (.aload_n 0, 1) := by decide +kernel
theorem dX6_swap_45 : decode cX6_swap 45 = .ok (.getfield 10, 3) := by decide +kernel
theorem dX6_swap_48 : decode cX6_swap 48 = .ok (.getfield 106, 3) := by decide +kernel
theorem dX6_swap_51 : decode cX6_swap 51 = .ok (.if_icmp .ge 37, 3) := by decide +kernel
theorem dX6_swap_54 : decode cX6_swap 54 = .ok (.aload_n 0, 1) := by decide +kernel
theorem dX6_swap_55 : decode cX6_swap 55 = .ok (.iload 4, 2) := by decide +kernel
theorem dX6_swap_57 : decode cX6_swap 57 = .ok (.iload 5, 2) := by decide +kernel
theorem dX6_swap_59 : decode cX6_swap 59 = .ok (.invokevirtual 225, 3) := by decide +kernel
theorem dX6_swap_62 : decode cX6_swap 62 = .ok (.istore 6, 2) := by decide +kernel
theorem dX6_swap_64 : decode cX6_swap 64 = .ok (.iload 6, 2) := by decide +kernel
theorem dX6_swap_66 : decode cX6_swap 66 = .ok (.iload_n 2, 1) := by decide +kernel
theorem dX6_swap_67 : decode cX6_swap 67 = .ok (.if_icmp .ge 15, 3) := by decide +kernel
theorem dX6_swap_70 : decode cX6_swap 70 = .ok (.iload 6, 2) := by decide +kernel
theorem dX6_swap_72 : decode cX6_swap 72 = .ok (.istore_n 2, 1) := by decide +kernel
theorem dX6_swap_73 : decode cX6_swap 73 = .ok (.bipush 10, 2) := by decide +kernel
theorem dX6_swap_75 : decode cX6_swap 75 = .ok (.iload 4, 2) := by decide +kernel
theorem dX6_swap_77 : decode cX6_swap 77 = .ok (.imul, 1) := by decide +kernel
theorem dX6_swap_78 : decode cX6_swap 78 = .ok (.iload 5, 2) := by decide +kernel
theorem dX6_swap_80 : decode cX6_swap 80 = .ok (.iadd, 1) := by decide +kernel
theorem dX6_swap_81 : decode cX6_swap 81 = .ok (.istore_n 3, 1) := by decide +kernel
theorem dX6_swap_82 : decode cX6_swap 82 = .ok (.iinc 5 1, 3) := by decide +kernel
theorem dX6_swap_85 : decode cX6_swap 85 = .ok (.goto (-43), 3) := by decide +kernel
theorem dX6_swap_88 : decode cX6_swap 88 = .ok (.iinc 4 1, 3) := by decide +kernel
theorem dX6_swap_91 : decode cX6_swap 91 = .ok (.goto (-67), 3) := by decide +kernel
theorem dX6_swap_94 : decode cX6_swap 94 = .ok (.iload_n 3, 1) := by decide +kernel
theorem dX6_swap_95 : decode cX6_swap 95 = .ok (.bipush (-4), 2) := by decide +kernel
theorem dX6_swap_97 : decode cX6_swap 97 = .ok (.if_icmp .eq 7, 3) := by decide +kernel
theorem dX6_swap_100 : decode cX6_swap 100 = .ok (.iload_n 1, 1) := by decide +kernel
theorem dX6_swap_101 : decode cX6_swap 101 = .ok (.ifCond .ne 7, 3) := by decide +kernel
theorem dX6_swap_104 : decode cX6_swap 104 = .ok (.iload_n 3, 1) := by decide +kernel
theorem dX6_swap_105 : decode cX6_swap 105 = .ok (.goto 4, 3) := by decide +kernel
theorem dX6_swap_108 : decode cX6_swap 108 = .ok (.iload_n 2, 1) := by decide +kernel
theorem dX6_swap_109 : decode cX6_swap 109 = .ok (.ireturn, 1) := by decide +kernel
theorem dX6_shed_0 : decode cX6_shed 0 = .ok (.aload_n 0, 1) := by decide +kernel
theorem dX6_shed_1 : decode cX6_shed 1 = .ok (.getfield 10, 3) := by decide +kernel
theorem dX6_shed_4 : decode cX6_shed 4 = .ok (.iload_n 1, 1) := by decide +kernel
theorem dX6_shed_5 : decode cX6_shed 5 = .ok (.invokevirtual 141, 3) := by decide +kernel
theorem dX6_shed_8 : decode cX6_shed 8 = .ok (.ifCond .eq 12, 3) := by decide +kernel
theorem dX6_shed_11 : decode cX6_shed 11 = .ok (.iload_n 2, 1) := by decide +kernel
theorem dX6_shed_12 : decode cX6_shed 12 = .ok (.iconst 0, 1) := by decide +kernel
theorem dX6_shed_13 : decode cX6_shed 13 = .ok (.iconst 1, 1) := by decide +kernel
theorem dX6_shed_14 : decode cX6_shed 14 = .ok (.invokestatic 73, 3) := by decide +kernel
theorem dX6_shed_17 : decode cX6_shed 17 = .ok (.ifCond .ne 5, 3) := by decide +kernel
theorem dX6_shed_20 : decode cX6_shed 20 = .ok (.iconst (-1), 1) := by decide +kernel
theorem dX6_shed_21 : decode cX6_shed 21 = .ok (.ireturn, 1) := by decide +kernel
theorem dX6_shed_22 : decode cX6_shed 22 = .ok (.aload_n 0, 1) := by decide +kernel
theorem dX6_shed_23 : decode cX6_shed 23 = .ok (.getfield 16, 3) := by decide +kernel
theorem dX6_shed_26 : decode cX6_shed 26 = .ok (.aload_n 0, 1) := by decide +kernel
theorem dX6_shed_27 : decode cX6_shed 27 = .ok (.getfield 10, 3) := by decide +kernel
theorem dX6_shed_30 : decode cX6_shed 30 = .ok (.invokevirtual 96, 3) := by decide +kernel
theorem dX6_shed_33 : decode cX6_shed 33 = .ok (.aload_n 0, 1) := by decide +kernel
theorem dX6_shed_34 : decode cX6_shed 34 = .ok (.getfield 16, 3) := by decide +kernel
theorem dX6_shed_37 : decode cX6_shed 37 = .ok (.iload_n 1, 1) := by decide +kernel
theorem dX6_shed_38 : decode cX6_shed 38 = .ok (.bipush 20, 2) := by decide +kernel
theorem dX6_shed_40 : decode cX6_shed 40 = .ok (.invokevirtual 197, 3) := by decide +kernel
theorem dX6_shed_43 : decode cX6_shed 43 = .ok (.aload_n 0, 1) := by decide +kernel
theorem dX6_shed_44 : decode cX6_shed 44 = .ok (.getfield 16, 3) := by decide +kernel
theorem dX6_shed_47 : decode cX6_shed 47 = .ok (.iload_n 1, 1) := by decide +kernel
theorem dX6_shed_48 : decode cX6_shed 48 = .ok (.invokevirtual 153, 3) := by decide +kernel
theorem dX6_shed_51 : decode cX6_shed 51 = .ok (.istore_n 3, 1) := by decide +kernel
theorem dX6_shed_52 : decode cX6_shed 52 = .ok (.bipush (-4), 2) := by decide +kernel
theorem dX6_shed_54 : decode cX6_shed 54 = .ok (.istore 4, 2) := by decide +kernel
theorem dX6_shed_56 : decode cX6_shed 56 = .ok (.iconst 0, 1) := by decide +kernel
theorem dX6_shed_57 : decode cX6_shed 57 = .ok (.istore 5, 2) := by decide +kernel
theorem dX6_shed_59 : decode cX6_shed 59 = .ok (.iload 5, 2) := by decide +kernel
theorem dX6_shed_61 : decode cX6_shed 61 = .ok (.aload_n 0, 1) := by decide +kernel
theorem dX6_shed_62 : decode cX6_shed 62 = .ok (.getfield 10, 3) := by decide +kernel
theorem dX6_shed_65 : decode cX6_shed 65 = .ok (.getfield 103, 3) := by decide +kernel
theorem dX6_shed_68 : decode cX6_shed 68 = .ok (.if_icmp .ge 79, 3) := by decide +kernel
theorem dX6_shed_71 : decode cX6_shed 71 = .ok (.aload_n 0, 1) := by decide +kernel
theorem dX6_shed_72 : decode cX6_shed 72 = .ok (.getfield 16, 3) := by decide +kernel
theorem dX6_shed_75 : decode cX6_shed 75 = .ok (.aload_n 0, 1) := by decide +kernel
theorem dX6_shed_76 : decode cX6_shed 76 = .ok (.getfield 10, 3) := by decide +kernel
theorem dX6_shed_79 : decode cX6_shed 79 = .ok (.invokevirtual 96, 3) := by decide +kernel
theorem dX6_shed_82 : decode cX6_shed 82 = .ok (.aload_n 0, 1) := by decide +kernel
theorem dX6_shed_83 : decode cX6_shed 83 = .ok (.getfield 16, 3) := by decide +kernel
theorem dX6_shed_86 : decode cX6_shed 86 = .ok (.iload_n 1, 1) := by decide +kernel
theorem dX6_shed_87 : decode cX6_shed 87 = .ok (.iload 5, 2) := by decide +kernel
theorem dX6_shed_89 : decode cX6_shed 89 = .ok (.aload_n 0, 1) := by decide +kernel
theorem dX6_shed_90 : decode cX6_shed 90 = .ok (.getfield 10, 3) := by decide +kernel
theorem dX6_shed_93 : decode cX6_shed 93 = .ok (.getfield 156, 3) := by decide +kernel
theorem dX6_shed_96 : decode cX6_shed 96 = .ok (.iload_n 1, 1) := by decide +kernel
theorem dX6_shed_97 : decode cX6_shed 97 = .ok (.iconst 5, 1) := by decide +kernel
theorem dX6_shed_98 : decode cX6_shed 98 = .ok (.imul, 1) := by decide +kernel
theorem dX6_shed_99 : decode cX6_shed 99 = .ok (.iload 5, 2) := by decide +kernel
theorem dX6_shed_101 : decode cX6_shed 101 = .ok (.iadd, 1) := by decide +kernel
theorem dX6_shed_102 : decode cX6_shed 102 = .ok (.iaload, 1) := by decide +kernel
theorem dX6_shed_103 : decode cX6_shed 103 = .ok (.invokevirtual 183, 3) := by decide +kernel
theorem dX6_shed_106 : decode cX6_shed 106 = .ok (.aload_n 0, 1) := by decide +kernel
theorem dX6_shed_107 : decode cX6_shed 107 = .ok (.getfield 16, 3) := by decide +kernel
theorem dX6_shed_110 : decode cX6_shed 110 = .ok (.iload_n 1, 1) := by decide +kernel
theorem dX6_shed_111 : decode cX6_shed 111 = .ok (.bipush 20, 2) := by decide +kernel
theorem dX6_shed_113 : decode cX6_shed 113 = .ok (.invokevirtual 197, 3) := by decide +kernel
theorem dX6_shed_116 : decode cX6_shed 116 = .ok (.aload_n 0, 1) := by decide +kernel
theorem dX6_shed_117 : decode cX6_shed 117 = .ok (.getfield 16, 3) := by decide +kernel
theorem dX6_shed_120 : decode cX6_shed 120 = .ok (.iload_n 1, 1) := by decide +kernel
theorem dX6_shed_121 : decode cX6_shed 121 = .ok (.invokevirtual 153, 3) := by decide +kernel
theorem dX6_shed_124 : decode cX6_shed 124 = .ok (.iload_n 3, 1) := by decide +kernel
theorem dX6_shed_125 : decode cX6_shed 125 = .ok (.if_icmp .le 16, 3) := by decide +kernel
theorem dX6_shed_128 : decode cX6_shed 128 = .ok (.aload_n 0, 1) := by decide +kernel
theorem dX6_shed_129 : decode cX6_shed 129 = .ok (.getfield 16, 3) := by decide +kernel
theorem dX6_shed_132 : decode cX6_shed 132 = .ok (.iload_n 1, 1) := by decide +kernel
theorem dX6_shed_133 : decode cX6_shed 133 = .ok (.invokevirtual 153, 3) := by decide +kernel
theorem dX6_shed_136 : decode cX6_shed 136 = .ok (.istore_n 3, 1) := by decide +kernel
theorem dX6_shed_137 : decode cX6_shed 137 = .ok (.iload 5, 2) := by decide +kernel
theorem dX6_shed_139 : decode cX6_shed 139 = .ok (.istore 4, 2) := by decide +kernel
theorem dX6_shed_141 : decode cX6_shed 141 = .ok (.iinc 5 1, 3) := by decide +kernel
theorem dX6_shed_144 : decode cX6_shed 144 = .ok (.goto (-85), 3) := by decide +kernel
theorem dX6_shed_147 : decode cX6_shed 147 = .ok (.iload 4, 2) := by decide +kernel
theorem dX6_shed_149 : decode cX6_shed 149 = .ok (.bipush (-4), 2) := by decide +kernel
theorem dX6_shed_151 : decode cX6_shed 151 = .ok (.if_icmp .eq 7, 3) := by decide +kernel
theorem dX6_shed_154 : decode cX6_shed 154 = .ok (.iload_n 2, 1) := by decide +kernel
theorem dX6_shed_155 : decode cX6_shed 155 = .ok (.ifCond .ne 8, 3) := by decide +kernel
theorem dX6_shed_158 : decode cX6_shed 158 = .ok (.iload 4, 2) := by decide +kernel
theorem dX6_shed_160 : decode cX6_shed 160 = .ok (.goto 4, 3) := by decide +kernel
theorem dX6_shed_163 : decode cX6_shed 163 = .ok (.iload_n 3, 1) := by decide +kernel
theorem dX6_shed_164 : decode cX6_shed 164 = .ok (.ireturn, 1) := by decide +kernel
theorem dX6_need_0 : decode cX6_need 0 = .ok (.aload_n 0, 1) := by decide +kernel
theorem dX6_need_1 : decode cX6_need 1 = .ok (.getfield 10, 3) := by decide +kernel
theorem dX6_need_4 : decode cX6_need 4 = .ok (.iload_n 1, 1) := by decide +kernel
theorem dX6_need_5 : decode cX6_need 5 = .ok (.invokevirtual 141, 3) := by decide +kernel
theorem dX6_need_8 : decode cX6_need 8 = .ok (.ifCond .eq 13, 3) := by decide +kernel
theorem dX6_need_11 : decode cX6_need 11 = .ok (.iload_n 2, 1) := by decide +kernel
theorem dX6_need_12 : decode cX6_need 12 = .ok (.iconst 0, 1) := by decide +kernel
theorem dX6_need_13 : decode cX6_need 13 = .ok (.bipush 60, 2) := by decide +kernel
theorem dX6_need_15 : decode cX6_need 15 = .ok (.invokestatic 73, 3) := by decide +kernel
theorem dX6_need_18 : decode cX6_need 18 = .ok (.ifCond .ne 5, 3) := by decide +kernel
theorem dX6_need_21 : decode cX6_need 21 = .ok (.iconst (-1), 1) := by decide +kernel
theorem dX6_need_22 : decode cX6_need 22 = .ok (.ireturn, 1) := by decide +kernel
theorem dX6_need_23 : decode cX6_need 23 = .ok (.iconst 0, 1) := by decide +kernel
theorem dX6_need_24 : decode cX6_need 24 = .ok (.istore_n 3, 1) := by decide +kernel
theorem dX6_need_25 : decode cX6_need 25 = .ok (.iload_n 3, 1) := by decide +kernel
theorem dX6_need_26 : decode cX6_need 26 = .ok (.bipush 99, 2) := by decide +kernel
theorem dX6_need_28 : decode cX6_need 28 = .ok (.if_icmp .gt 21, 3) := by decide +kernel
theorem dX6_need_31 : decode cX6_need 31 = .ok (.aload_n 0, 1) := by decide +kernel
theorem dX6_need_32 : decode cX6_need 32 = .ok (.iload_n 1, 1) := by decide +kernel
theorem dX6_need_33 : decode cX6_need 33 = .ok (.iload_n 2, 1) := by decide +kernel
theorem dX6_need_34 : decode cX6_need 34 = .ok (.iload_n 3, 1) := by decide +kernel
theorem dX6_need_35 : decode cX6_need 35 = .ok (.invokevirtual 228, 3) := by decide +kernel
theorem dX6_need_38 : decode cX6_need 38 = .ok (.ifCond .eq 5, 3) := by decide +kernel
theorem dX6_need_41 : decode cX6_need 41 = .ok (.iload_n 3, 1) := by decide +kernel
theorem dX6_need_42 : decode cX6_need 42 = .ok (.ireturn, 1) := by decide +kernel
theorem dX6_need_43 : decode cX6_need 43 = .ok (.iinc 3 1, 3) := by decide +kernel
theorem dX6_need_46 : decode cX6_need 46 = .ok (.goto (-21), 3) := by decide +kernel
theorem dX6_need_49 : decode cX6_need 49 = .ok (.bipush (-4), 2) := by decide +kernel
theorem dX6_need_51 : decode cX6_need 51 = .ok (.ireturn, 1) := by decide +kernel
theorem dX6_kind_0 : decode cX6_kind 0 = .ok (.aload_n 0, 1) := by decide +kernel
theorem dX6_kind_1 : decode cX6_kind 1 = .ok (.getfield 10, 3) := by decide +kernel
theorem dX6_kind_4 : decode cX6_kind 4 = .ok (.iload_n 1, 1) := by decide +kernel
theorem dX6_kind_5 : decode cX6_kind 5 = .ok (.invokevirtual 121, 3) := by decide +kernel
theorem dX6_kind_8 : decode cX6_kind 8 = .ok (.ifCond .eq 22, 3) := by decide +kernel
theorem dX6_kind_11 : decode cX6_kind 11 = .ok (.iload_n 2, 1) := by decide +kernel
theorem dX6_kind_12 : decode cX6_kind 12 = .ok (.iconst 0, 1) := by decide +kernel
theorem dX6_kind_13 : decode cX6_kind 13 = .ok (.bipush 60, 2) := by decide +kernel
theorem dX6_kind_15 : decode cX6_kind 15 = .ok (.invokestatic 73, 3) := by decide +kernel
theorem dX6_kind_18 : decode cX6_kind 18 = .ok (.ifCond .eq 12, 3) := by decide +kernel
theorem dX6_kind_21 : decode cX6_kind 21 = .ok (.iload_n 3, 1) := by decide +kernel
theorem dX6_kind_22 : decode cX6_kind 22 = .ok (.iconst 0, 1) := by decide +kernel
theorem dX6_kind_23 : decode cX6_kind 23 = .ok (.iconst 1, 1) := by decide +kernel
theorem dX6_kind_24 : decode cX6_kind 24 = .ok (.invokestatic 73, 3) := by decide +kernel
theorem dX6_kind_27 : decode cX6_kind 27 = .ok (.ifCond .ne 5, 3) := by decide +kernel
theorem dX6_kind_30 : decode cX6_kind 30 = .ok (.iconst (-1), 1) := by decide +kernel
theorem dX6_kind_31 : decode cX6_kind 31 = .ok (.ireturn, 1) := by decide +kernel
theorem dX6_kind_32 : decode cX6_kind 32 = .ok (.iconst (-1), 1) := by decide +kernel
theorem dX6_kind_33 : decode cX6_kind 33 = .ok (.istore 4, 2) := by decide +kernel
theorem dX6_kind_35 : decode cX6_kind 35 = .ok (.iconst 0, 1) := by decide +kernel
theorem dX6_kind_36 : decode cX6_kind 36 = .ok (.istore 5, 2) := by decide +kernel
theorem dX6_kind_38 : decode cX6_kind 38 = .ok (.iconst 0, 1) := by decide +kernel
theorem dX6_kind_39 : decode cX6_kind 39 = .ok (.istore 6, 2) := by decide +kernel
theorem dX6_kind_41 : decode cX6_kind 41 = .ok (.iload 6, 2) := by decide +kernel
theorem dX6_kind_43 : decode cX6_kind 43 = .ok (.iconst 4, 1) := by decide +kernel
theorem dX6_kind_44 : decode cX6_kind 44 = .ok (.if_icmp .ge 63, 3) := by decide +kernel
theorem dX6_kind_47 : decode cX6_kind 47 = .ok (.aload_n 0, 1) := by decide +kernel
theorem dX6_kind_48 : decode cX6_kind 48 = .ok (.getfield 16, 3) := by decide +kernel
theorem dX6_kind_51 : decode cX6_kind 51 = .ok (.aload_n 0, 1) := by decide +kernel
theorem dX6_kind_52 : decode cX6_kind 52 = .ok (.getfield 10, 3) := by decide +kernel
theorem dX6_kind_55 : decode cX6_kind 55 = .ok (.invokevirtual 96, 3) := by decide +kernel
theorem dX6_kind_58 : decode cX6_kind 58 = .ok (.aload_n 0, 1) := by decide +kernel
theorem dX6_kind_59 : decode cX6_kind 59 = .ok (.getfield 16, 3) := by decide +kernel
theorem dX6_kind_62 : decode cX6_kind 62 = .ok (.getfield 125, 3) := by decide +kernel
theorem dX6_kind_65 : decode cX6_kind 65 = .ok (.iload_n 1, 1) := by decide +kernel
theorem dX6_kind_66 : decode cX6_kind 66 = .ok (.iload 6, 2) := by decide +kernel
theorem dX6_kind_68 : decode cX6_kind 68 = .ok (.iastore, 1) := by decide +kernel
theorem dX6_kind_69 : decode cX6_kind 69 = .ok (.aload_n 0, 1) := by decide +kernel
theorem dX6_kind_70 : decode cX6_kind 70 = .ok (.getfield 16, 3) := by decide +kernel
theorem dX6_kind_73 : decode cX6_kind 73 = .ok (.iload_n 2, 1) := by decide +kernel
theorem dX6_kind_74 : decode cX6_kind 74 = .ok (.invokevirtual 187, 3) := by decide +kernel
theorem dX6_kind_77 : decode cX6_kind 77 = .ok (.aload_n 0, 1) := by decide +kernel
theorem dX6_kind_78 : decode cX6_kind 78 = .ok (.getfield 16, 3) := by decide +kernel
theorem dX6_kind_81 : decode cX6_kind 81 = .ok (.invokevirtual 118, 3) := by decide +kernel
theorem dX6_kind_84 : decode cX6_kind 84 = .ok (.istore 7, 2) := by decide +kernel
theorem dX6_kind_86 : decode cX6_kind 86 = .ok (.iload 7, 2) := by decide +kernel
theorem dX6_kind_88 : decode cX6_kind 88 = .ok (.iload 4, 2) := by decide +kernel
theorem dX6_kind_90 : decode cX6_kind 90 = .ok (.if_icmp .le 11, 3) := by decide +kernel
theorem dX6_kind_93 : decode cX6_kind 93 = .ok (.iload 7, 2) := by decide +kernel
theorem dX6_kind_95 : decode cX6_kind 95 = .ok (.istore 4, 2) := by decide +kernel
theorem dX6_kind_97 : decode cX6_kind 97 = .ok (.iload 6, 2) := by decide +kernel
theorem dX6_kind_99 : decode cX6_kind 99 = .ok (.istore 5, 2) := by decide +kernel
theorem dX6_kind_101 : decode cX6_kind 101 = .ok (.iinc 6 1, 3) := by decide +kernel
theorem dX6_kind_104 : decode cX6_kind 104 = .ok (.goto (-63), 3) := by decide +kernel
theorem dX6_kind_107 : decode cX6_kind 107 = .ok (.iload_n 3, 1) := by decide +kernel
theorem dX6_kind_108 : decode cX6_kind 108 = .ok (.ifCond .ne 8, 3) := by decide +kernel
theorem dX6_kind_111 : decode cX6_kind 111 = .ok (.iload 5, 2) := by decide +kernel
theorem dX6_kind_113 : decode cX6_kind 113 = .ok (.goto 5, 3) := by decide +kernel
theorem dX6_kind_116 : decode cX6_kind 116 = .ok (.iload 4, 2) := by decide +kernel
theorem dX6_kind_118 : decode cX6_kind 118 = .ok (.ireturn, 1) := by decide +kernel
theorem dX6_luck_0 : decode cX6_luck 0 = .ok (.iload_n 1, 1) := by decide +kernel
theorem dX6_luck_1 : decode cX6_luck 1 = .ok (.iconst 0, 1) := by decide +kernel
theorem dX6_luck_2 : decode cX6_luck 2 = .ok (.bipush 10, 2) := by decide +kernel
theorem dX6_luck_4 : decode cX6_luck 4 = .ok (.invokestatic 73, 3) := by decide +kernel
theorem dX6_luck_7 : decode cX6_luck 7 = .ok (.ifCond .eq 42, 3) := by decide +kernel
theorem dX6_luck_10 : decode cX6_luck 10 = .ok (.aload_n 0, 1) := by decide +kernel
theorem dX6_luck_11 : decode cX6_luck 11 = .ok (.getfield 10, 3) := by decide +kernel
theorem dX6_luck_14 : decode cX6_luck 14 = .ok (.iload_n 2, 1) := by decide +kernel
theorem dX6_luck_15 : decode cX6_luck 15 = .ok (.invokevirtual 141, 3) := by decide +kernel
theorem dX6_luck_18 : decode cX6_luck 18 = .ok (.ifCond .eq 31, 3) := by decide +kernel
theorem dX6_luck_21 : decode cX6_luck 21 = .ok (.iload_n 3, 1) := by decide +kernel
theorem dX6_luck_22 : decode cX6_luck 22 = .ok (.iconst 0, 1) := by decide +kernel
theorem dX6_luck_23 : decode cX6_luck 23 = .ok (.bipush 8, 2) := by decide +kernel
theorem dX6_luck_25 : decode cX6_luck 25 = .ok (.invokestatic 73, 3) := by decide +kernel
theorem dX6_luck_28 : decode cX6_luck 28 = .ok (.ifCond .eq 21, 3) := by decide +kernel
theorem dX6_luck_31 : decode cX6_luck 31 = .ok (.iload 4, 2) := by decide +kernel
theorem dX6_luck_33 : decode cX6_luck 33 = .ok (.invokestatic 163, 3) := by decide +kernel
theorem dX6_luck_36 : decode cX6_luck 36 = .ok (.ifCond .eq 13, 3) := by decide +kernel
theorem dX6_luck_39 : decode cX6_luck 39 = .ok (.iload 5, 2) := by decide +kernel
theorem dX6_luck_41 : decode cX6_luck 41 = .ok (.iconst 0, 1) := by decide +kernel
theorem dX6_luck_42 : decode cX6_luck 42 = .ok (.iconst 1, 1) := by decide +kernel
theorem dX6_luck_43 : decode cX6_luck 43 = .ok (.invokestatic 73, 3) := by decide +kernel
theorem dX6_luck_46 : decode cX6_luck 46 = .ok (.ifCond .ne 7, 3) := by decide +kernel
theorem dX6_luck_49 : decode cX6_luck 49 = .ok (.ldc2_w 231, 3) := by decide +kernel
theorem dX6_luck_52 : decode cX6_luck 52 = .ok (.lreturn, 1) := by decide +kernel
theorem dX6_luck_53 : decode cX6_luck 53 = .ok (.aload_n 0, 1) := by decide +kernel
theorem dX6_luck_54 : decode cX6_luck 54 = .ok (.getfield 58, 3) := by decide +kernel
theorem dX6_luck_57 : decode cX6_luck 57 = .ok (.iload_n 2, 1) := by decide +kernel
theorem dX6_luck_58 : decode cX6_luck 58 = .ok (.putfield 233, 3) := by decide +kernel
theorem dX6_luck_61 : decode cX6_luck 61 = .ok (.aload_n 0, 1) := by decide +kernel
theorem dX6_luck_62 : decode cX6_luck 62 = .ok (.getfield 58, 3) := by decide +kernel
theorem dX6_luck_65 : decode cX6_luck 65 = .ok (.iload 4, 2) := by decide +kernel
theorem dX6_luck_67 : decode cX6_luck 67 = .ok (.putfield 236, 3) := by decide +kernel
theorem dX6_luck_70 : decode cX6_luck 70 = .ok (.aload_n 0, 1) := by decide +kernel
theorem dX6_luck_71 : decode cX6_luck 71 = .ok (.getfield 58, 3) := by decide +kernel
theorem dX6_luck_74 : decode cX6_luck 74 = .ok (.aload_n 0, 1) := by decide +kernel
theorem dX6_luck_75 : decode cX6_luck 75 = .ok (.getfield 10, 3) := by decide +kernel
theorem dX6_luck_78 : decode cX6_luck 78 = .ok (.iload_n 1, 1) := by decide +kernel
theorem dX6_luck_79 : decode cX6_luck 79 = .ok (.iload_n 3, 1) := by decide +kernel
theorem dX6_luck_80 : decode cX6_luck 80 = .ok (.iload 5, 2) := by decide +kernel
theorem dX6_luck_82 : decode cX6_luck 82 = .ok (.invokevirtual 239, 3) := by decide +kernel
theorem dX6_luck_85 : decode cX6_luck 85 = .ok (.lreturn, 1) := by decide +kernel
theorem dX6_mean_0 : decode cX6_mean 0 = .ok (.iload_n 1, 1) := by decide +kernel
theorem dX6_mean_1 : decode cX6_mean 1 = .ok (.iconst 0, 1) := by decide +kernel
theorem dX6_mean_2 : decode cX6_mean 2 = .ok (.bipush 10, 2) := by decide +kernel
theorem dX6_mean_4 : decode cX6_mean 4 = .ok (.invokestatic 73, 3) := by decide +kernel
theorem dX6_mean_7 : decode cX6_mean 7 = .ok (.ifCond .eq 22, 3) := by decide +kernel
theorem dX6_mean_10 : decode cX6_mean 10 = .ok (.iload_n 2, 1) := by decide +kernel
theorem dX6_mean_11 : decode cX6_mean 11 = .ok (.iconst 0, 1) := by decide +kernel
theorem dX6_mean_12 : decode cX6_mean 12 = .ok (.bipush 8, 2) := by decide +kernel
theorem dX6_mean_14 : decode cX6_mean 14 = .ok (.invokestatic 73, 3) := by decide +kernel
theorem dX6_mean_17 : decode cX6_mean 17 = .ok (.ifCond .eq 12, 3) := by decide +kernel
theorem dX6_mean_20 : decode cX6_mean 20 = .ok (.iload_n 3, 1) := by decide +kernel
theorem dX6_mean_21 : decode cX6_mean 21 = .ok (.iconst 0, 1) := by decide +kernel
theorem dX6_mean_22 : decode cX6_mean 22 = .ok (.iconst 1, 1) := by decide +kernel
theorem dX6_mean_23 : decode cX6_mean 23 = .ok (.invokestatic 73, 3) := by decide +kernel
theorem dX6_mean_26 : decode cX6_mean 26 = .ok (.ifCond .ne 7, 3) := by decide +kernel
theorem dX6_mean_29 : decode cX6_mean 29 = .ok (.ldc2_w 231, 3) := by decide +kernel
theorem dX6_mean_32 : decode cX6_mean 32 = .ok (.lreturn, 1) := by decide +kernel
theorem dX6_mean_33 : decode cX6_mean 33 = .ok (.aload_n 0, 1) := by decide +kernel
theorem dX6_mean_34 : decode cX6_mean 34 = .ok (.getfield 58, 3) := by decide +kernel
theorem dX6_mean_37 : decode cX6_mean 37 = .ok (.iconst (-1), 1) := by decide +kernel
theorem dX6_mean_38 : decode cX6_mean 38 = .ok (.putfield 233, 3) := by decide +kernel
theorem dX6_mean_41 : decode cX6_mean 41 = .ok (.aload_n 0, 1) := by decide +kernel
theorem dX6_mean_42 : decode cX6_mean 42 = .ok (.getfield 58, 3) := by decide +kernel
theorem dX6_mean_45 : decode cX6_mean 45 = .ok (.aload_n 0, 1) := by decide +kernel
theorem dX6_mean_46 : decode cX6_mean 46 = .ok (.getfield 10, 3) := by decide +kernel
theorem dX6_mean_49 : decode cX6_mean 49 = .ok (.iload_n 1, 1) := by decide +kernel
theorem dX6_mean_50 : decode cX6_mean 50 = .ok (.iload_n 2, 1) := by decide +kernel
theorem dX6_mean_51 : decode cX6_mean 51 = .ok (.iload_n 3, 1) := by decide +kernel
theorem dX6_mean_52 : decode cX6_mean 52 = .ok (.invokevirtual 239, 3) := by decide +kernel
theorem dX6_mean_55 : decode cX6_mean 55 = .ok (.lreturn, 1) := by decide +kernel
theorem dX6_see_0 : decode cX6_see 0 = .ok (.iload_n 1, 1) := by decide +kernel
theorem dX6_see_1 : decode cX6_see 1 = .ok (.iconst 0, 1) := by decide +kernel
theorem dX6_see_2 : decode cX6_see 2 = .ok (.bipush 20, 2) := by decide +kernel
theorem dX6_see_4 : decode cX6_see 4 = .ok (.invokestatic 73, 3) := by decide +kernel
theorem dX6_see_7 : decode cX6_see 7 = .ok (.ifCond .eq 21, 3) := by decide +kernel
theorem dX6_see_10 : decode cX6_see 10 = .ok (.aload_n 0, 1) := by decide +kernel
theorem dX6_see_11 : decode cX6_see 11 = .ok (.getfield 10, 3) := by decide +kernel
theorem dX6_see_14 : decode cX6_see 14 = .ok (.iload_n 2, 1) := by decide +kernel
theorem dX6_see_15 : decode cX6_see 15 = .ok (.invokevirtual 141, 3) := by decide +kernel
theorem dX6_see_18 : decode cX6_see 18 = .ok (.ifCond .eq 10, 3) := by decide +kernel
theorem dX6_see_21 : decode cX6_see 21 = .ok (.iload_n 3, 1) := by decide +kernel
theorem dX6_see_22 : decode cX6_see 22 = .ok (.invokestatic 163, 3) := by decide +kernel
theorem dX6_see_25 : decode cX6_see 25 = .ok (.ifCond .ne 5, 3) := by decide +kernel
theorem dX6_see_28 : decode cX6_see 28 = .ok (.iconst (-1), 1) := by decide +kernel
theorem dX6_see_29 : decode cX6_see 29 = .ok (.ireturn, 1) := by decide +kernel
theorem dX6_see_30 : decode cX6_see 30 = .ok (.aload_n 0, 1) := by decide +kernel
theorem dX6_see_31 : decode cX6_see 31 = .ok (.getfield 44, 3) := by decide +kernel
theorem dX6_see_34 : decode cX6_see 34 = .ok (.getfield 100, 3) := by decide +kernel
theorem dX6_see_37 : decode cX6_see 37 = .ok (.bipush 6, 2) := by decide +kernel
theorem dX6_see_39 : decode cX6_see 39 = .ok (.if_icmp .lt 6, 3) := by decide +kernel
theorem dX6_see_42 : decode cX6_see 42 = .ok (.bipush (-3), 2) := by decide +kernel
theorem dX6_see_44 : decode cX6_see 44 = .ok (.ireturn, 1) := by decide +kernel
theorem dX6_see_45 : decode cX6_see 45 = .ok (.aload_n 0, 1) := by decide +kernel
theorem dX6_see_46 : decode cX6_see 46 = .ok (.getfield 44, 3) := by decide +kernel
theorem dX6_see_49 : decode cX6_see 49 = .ok (.getfield 243, 3) := by decide +kernel
theorem dX6_see_52 : decode cX6_see 52 = .ok (.aload_n 0, 1) := by decide +kernel
theorem dX6_see_53 : decode cX6_see 53 = .ok (.getfield 44, 3) := by decide +kernel
theorem dX6_see_56 : decode cX6_see 56 = .ok (.getfield 100, 3) := by decide +kernel
theorem dX6_see_59 : decode cX6_see 59 = .ok (.iload_n 1, 1) := by decide +kernel
theorem dX6_see_60 : decode cX6_see 60 = .ok (.iastore, 1) := by decide +kernel
theorem dX6_see_61 : decode cX6_see 61 = .ok (.aload_n 0, 1) := by decide +kernel
theorem dX6_see_62 : decode cX6_see 62 = .ok (.getfield 44, 3) := by decide +kernel
theorem dX6_see_65 : decode cX6_see 65 = .ok (.getfield 246, 3) := by decide +kernel
theorem dX6_see_68 : decode cX6_see 68 = .ok (.aload_n 0, 1) := by decide +kernel
theorem dX6_see_69 : decode cX6_see 69 = .ok (.getfield 44, 3) := by decide +kernel
theorem dX6_see_72 : decode cX6_see 72 = .ok (.getfield 100, 3) := by decide +kernel
theorem dX6_see_75 : decode cX6_see 75 = .ok (.iload_n 2, 1) := by decide +kernel
theorem dX6_see_76 : decode cX6_see 76 = .ok (.iastore, 1) := by decide +kernel
theorem dX6_see_77 : decode cX6_see 77 = .ok (.aload_n 0, 1) := by decide +kernel
theorem dX6_see_78 : decode cX6_see 78 = .ok (.getfield 44, 3) := by decide +kernel
theorem dX6_see_81 : decode cX6_see 81 = .ok (.getfield 248, 3) := by decide +kernel
theorem dX6_see_84 : decode cX6_see 84 = .ok (.aload_n 0, 1) := by decide +kernel
theorem dX6_see_85 : decode cX6_see 85 = .ok (.getfield 44, 3) := by decide +kernel
theorem dX6_see_88 : decode cX6_see 88 = .ok (.getfield 100, 3) := by decide +kernel
theorem dX6_see_91 : decode cX6_see 91 = .ok (.iload_n 3, 1) := by decide +kernel
theorem dX6_see_92 : decode cX6_see 92 = .ok (.iastore, 1) := by decide +kernel
theorem dX6_see_93 : decode cX6_see 93 = .ok (.aload_n 0, 1) := by decide +kernel
theorem dX6_see_94 : decode cX6_see 94 = .ok (.getfield 44, 3) := by decide +kernel
theorem dX6_see_97 : decode cX6_see 97 = .ok (.dup, 1) := by decide +kernel
theorem dX6_see_98 : decode cX6_see 98 = .ok (.getfield 100, 3) := by decide +kernel
theorem dX6_see_101 : decode cX6_see 101 = .ok (.iconst 1, 1) := by decide +kernel
theorem dX6_see_102 : decode cX6_see 102 = .ok (.iadd, 1) := by decide +kernel
theorem dX6_see_103 : decode cX6_see 103 = .ok (.putfield 100, 3) := by decide +kernel
theorem dX6_see_106 : decode cX6_see 106 = .ok (.aload_n 0, 1) := by decide +kernel
theorem dX6_see_107 : decode cX6_see 107 = .ok (.getfield 44, 3) := by decide +kernel
theorem dX6_see_110 : decode cX6_see 110 = .ok (.getfield 100, 3) := by decide +kernel
theorem dX6_see_113 : decode cX6_see 113 = .ok (.ireturn, 1) := by decide +kernel
theorem dX6_forget_0 : decode cX6_forget 0 = .ok (.aload_n 0, 1) := by decide +kernel
theorem dX6_forget_1 : decode cX6_forget 1 = .ok (.getfield 44, 3) := by decide +kernel
theorem dX6_forget_4 : decode cX6_forget 4 = .ok (.getfield 100, 3) := by decide +kernel
theorem dX6_forget_7 : decode cX6_forget 7 = .ok (.istore_n 2, 1) := by decide +kernel
theorem dX6_forget_8 : decode cX6_forget 8 = .ok (.iload_n 1, 1) := by decide +kernel
theorem dX6_forget_9 : decode cX6_forget 9 = .ok (.iconst 0, 1) := by decide +kernel
theorem dX6_forget_10 : decode cX6_forget 10 = .ok (.iload_n 2, 1) := by decide +kernel
theorem dX6_forget_11 : decode cX6_forget 11 = .ok (.invokestatic 73, 3) := by decide +kernel
theorem dX6_forget_14 : decode cX6_forget 14 = .ok (.ifCond .ne 5, 3) := by decide +kernel
theorem dX6_forget_17 : decode cX6_forget 17 = .ok (.iconst (-1), 1) := by decide +kernel
theorem dX6_forget_18 : decode cX6_forget 18 = .ok (.ireturn, 1) := by decide +kernel
theorem dX6_forget_19 : decode cX6_forget 19 = .ok (.aload_n 0, 1) := by decide +kernel
theorem dX6_forget_20 : decode cX6_forget 20 = .ok (.getfield 44, 3) := by decide +kernel
theorem dX6_forget_23 : decode cX6_forget 23 = .ok (.iload_n 1, 1) := by decide +kernel
theorem dX6_forget_24 : decode cX6_forget 24 = .ok (.putfield 100, 3) := by decide +kernel
theorem dX6_forget_27 : decode cX6_forget 27 = .ok (.iload_n 2, 1) := by decide +kernel
theorem dX6_forget_28 : decode cX6_forget 28 = .ok (.ireturn, 1) := by decide +kernel
theorem dX6_kinds_0 : decode cX6_kinds 0 = .ok (.aload_n 0, 1) := by decide +kernel
theorem dX6_kinds_1 : decode cX6_kinds 1 = .ok (.getfield 10, 3) := by decide +kernel
theorem dX6_kinds_4 : decode cX6_kinds 4 = .ok (.iload_n 1, 1) := by decide +kernel
theorem dX6_kinds_5 : decode cX6_kinds 5 = .ok (.invokevirtual 121, 3) := by decide +kernel
theorem dX6_kinds_8 : decode cX6_kinds 8 = .ok (.ifCond .eq 11, 3) := by decide +kernel
theorem dX6_kinds_11 : decode cX6_kinds 11 = .ok (.aload_n 0, 1) := by decide +kernel
theorem dX6_kinds_12 : decode cX6_kinds 12 = .ok (.iload_n 1, 1) := by decide +kernel
theorem dX6_kinds_13 : decode cX6_kinds 13 = .ok (.invokevirtual 250, 3) := by decide +kernel
theorem dX6_kinds_16 : decode cX6_kinds 16 = .ok (.goto 4, 3) := by decide +kernel
theorem dX6_kinds_19 : decode cX6_kinds 19 = .ok (.iconst (-1), 1) := by decide +kernel
theorem dX6_kinds_20 : decode cX6_kinds 20 = .ok (.ireturn, 1) := by decide +kernel
theorem dX6_drops_0 : decode cX6_drops 0 = .ok (.aload_n 0, 1) := by decide +kernel
theorem dX6_drops_1 : decode cX6_drops 1 = .ok (.getfield 10, 3) := by decide +kernel
theorem dX6_drops_4 : decode cX6_drops 4 = .ok (.iload_n 1, 1) := by decide +kernel
theorem dX6_drops_5 : decode cX6_drops 5 = .ok (.invokevirtual 141, 3) := by decide +kernel
theorem dX6_drops_8 : decode cX6_drops 8 = .ok (.ifCond .eq 14, 3) := by decide +kernel
theorem dX6_drops_11 : decode cX6_drops 11 = .ok (.aload_n 0, 1) := by decide +kernel
theorem dX6_drops_12 : decode cX6_drops 12 = .ok (.getfield 10, 3) := by decide +kernel
theorem dX6_drops_15 : decode cX6_drops 15 = .ok (.iload_n 2, 1) := by decide +kernel
theorem dX6_drops_16 : decode cX6_drops 16 = .ok (.invokevirtual 121, 3) := by decide +kernel
theorem dX6_drops_19 : decode cX6_drops 19 = .ok (.ifCond .ne 5, 3) := by decide +kernel
theorem dX6_drops_22 : decode cX6_drops 22 = .ok (.iconst (-1), 1) := by decide +kernel
theorem dX6_drops_23 : decode cX6_drops 23 = .ok (.ireturn, 1) := by decide +kernel
theorem dX6_drops_24 : decode cX6_drops 24 = .ok (.iconst 0, 1) := by decide +kernel
theorem dX6_drops_25 : decode cX6_drops 25 = .ok (.istore_n 3, 1) := by decide +kernel
theorem dX6_drops_26 : decode cX6_drops 26 = .ok (.iconst 0, 1) := by decide +kernel
theorem dX6_drops_27 : decode cX6_drops 27 = .ok (.istore 4, 2) := by decide +kernel
theorem dX6_drops_29 : decode cX6_drops 29 = .ok (.iload 4, 2) := by decide +kernel
theorem dX6_drops_31 : decode cX6_drops 31 = .ok (.bipush 30, 2) := by decide +kernel
theorem dX6_drops_33 : decode cX6_drops 33 = .ok (.if_icmp .gt 56, 3) := by decide +kernel
theorem dX6_drops_36 : decode cX6_drops 36 = .ok (.aload_n 0, 1) := by decide +kernel
theorem dX6_drops_37 : decode cX6_drops 37 = .ok (.getfield 16, 3) := by decide +kernel
theorem dX6_drops_40 : decode cX6_drops 40 = .ok (.aload_n 0, 1) := by decide +kernel
theorem dX6_drops_41 : decode cX6_drops 41 = .ok (.getfield 10, 3) := by decide +kernel
theorem dX6_drops_44 : decode cX6_drops 44 = .ok (.invokevirtual 96, 3) := by decide +kernel
theorem dX6_drops_47 : decode cX6_drops 47 = .ok (.aload_n 0, 1) := by decide +kernel
theorem dX6_drops_48 : decode cX6_drops 48 = .ok (.getfield 16, 3) := by decide +kernel
theorem dX6_drops_51 : decode cX6_drops 51 = .ok (.getfield 156, 3) := by decide +kernel
theorem dX6_drops_54 : decode cX6_drops 54 = .ok (.iload_n 1, 1) := by decide +kernel
theorem dX6_drops_55 : decode cX6_drops 55 = .ok (.iconst 5, 1) := by decide +kernel
theorem dX6_drops_56 : decode cX6_drops 56 = .ok (.imul, 1) := by decide +kernel
theorem dX6_drops_57 : decode cX6_drops 57 = .ok (.iload_n 2, 1) := by decide +kernel
theorem dX6_drops_58 : decode cX6_drops 58 = .ok (.iadd, 1) := by decide +kernel
theorem dX6_drops_59 : decode cX6_drops 59 = .ok (.iload 4, 2) := by decide +kernel
theorem dX6_drops_61 : decode cX6_drops 61 = .ok (.iastore, 1) := by decide +kernel
theorem dX6_drops_62 : decode cX6_drops 62 = .ok (.aload_n 0, 1) := by decide +kernel
theorem dX6_drops_63 : decode cX6_drops 63 = .ok (.getfield 44, 3) := by decide +kernel
theorem dX6_drops_66 : decode cX6_drops 66 = .ok (.aload_n 0, 1) := by decide +kernel
theorem dX6_drops_67 : decode cX6_drops 67 = .ok (.getfield 16, 3) := by decide +kernel
theorem dX6_drops_70 : decode cX6_drops 70 = .ok (.invokevirtual 253, 3) := by decide +kernel
theorem dX6_drops_73 : decode cX6_drops 73 = .ok (.ifCond .eq 10, 3) := by decide +kernel
theorem dX6_drops_76 : decode cX6_drops 76 = .ok (.iload_n 3, 1) := by decide +kernel
theorem dX6_drops_77 : decode cX6_drops 77 = .ok (.iconst 1, 1) := by decide +kernel
theorem dX6_drops_78 : decode cX6_drops 78 = .ok (.iload 4, 2) := by decide +kernel
theorem dX6_drops_80 : decode cX6_drops 80 = .ok (.ishl, 1) := by decide +kernel
theorem dX6_drops_81 : decode cX6_drops 81 = .ok (.ior, 1) := by decide +kernel
theorem dX6_drops_82 : decode cX6_drops 82 = .ok (.istore_n 3, 1) := by decide +kernel
theorem dX6_drops_83 : decode cX6_drops 83 = .ok (.iinc 4 1, 3) := by decide +kernel
theorem dX6_drops_86 : decode cX6_drops 86 = .ok (.goto (-57), 3) := by decide +kernel
theorem dX6_drops_89 : decode cX6_drops 89 = .ok (.iload_n 3, 1) := by decide +kernel
theorem dX6_drops_90 : decode cX6_drops 90 = .ok (.ireturn, 1) := by decide +kernel
theorem dX6_ask_0 : decode cX6_ask 0 = .ok (.aload_n 0, 1) := by decide +kernel
theorem dX6_ask_1 : decode cX6_ask 1 = .ok (.getfield 10, 3) := by decide +kernel
theorem dX6_ask_4 : decode cX6_ask 4 = .ok (.iload_n 1, 1) := by decide +kernel
theorem dX6_ask_5 : decode cX6_ask 5 = .ok (.invokevirtual 121, 3) := by decide +kernel
theorem dX6_ask_8 : decode cX6_ask 8 = .ok (.ifCond .eq 12, 3) := by decide +kernel
theorem dX6_ask_11 : decode cX6_ask 11 = .ok (.iload_n 2, 1) := by decide +kernel
theorem dX6_ask_12 : decode cX6_ask 12 = .ok (.iconst 0, 1) := by decide +kernel
theorem dX6_ask_13 : decode cX6_ask 13 = .ok (.iconst 1, 1) := by decide +kernel
theorem dX6_ask_14 : decode cX6_ask 14 = .ok (.invokestatic 73, 3) := by decide +kernel
theorem dX6_ask_17 : decode cX6_ask 17 = .ok (.ifCond .ne 5, 3) := by decide +kernel
theorem dX6_ask_20 : decode cX6_ask 20 = .ok (.iconst (-1), 1) := by decide +kernel
theorem dX6_ask_21 : decode cX6_ask 21 = .ok (.ireturn, 1) := by decide +kernel
theorem dX6_ask_22 : decode cX6_ask 22 = .ok (.aload_n 0, 1) := by decide +kernel
theorem dX6_ask_23 : decode cX6_ask 23 = .ok (.iload_n 1, 1) := by decide +kernel
theorem dX6_ask_24 : decode cX6_ask 24 = .ok (.invokevirtual 250, 3) := by decide +kernel
theorem dX6_ask_27 : decode cX6_ask 27 = .ok (.istore_n 3, 1) := by decide +kernel
theorem dX6_ask_28 : decode cX6_ask 28 = .ok (.iload_n 3, 1) := by decide +kernel
theorem dX6_ask_29 : decode cX6_ask 29 = .ok (.invokestatic 257, 3) := by decide +kernel
theorem dX6_ask_32 : decode cX6_ask 32 = .ok (.istore 4, 2) := by decide +kernel
theorem dX6_ask_34 : decode cX6_ask 34 = .ok (.bipush (-4), 2) := by decide +kernel
theorem dX6_ask_36 : decode cX6_ask 36 = .ok (.istore 5, 2) := by decide +kernel
theorem dX6_ask_38 : decode cX6_ask 38 = .ok (.iconst 0, 1) := by decide +kernel
theorem dX6_ask_39 : decode cX6_ask 39 = .ok (.istore 6, 2) := by decide +kernel
theorem dX6_ask_41 : decode cX6_ask 41 = .ok (.iload 6, 2) := by decide +kernel
theorem dX6_ask_43 : decode cX6_ask 43 = .ok (.iconst 4, 1) := by decide +kernel
theorem dX6_ask_44 : decode cX6_ask 44 = .ok (.if_icmp .ge 37, 3) := by decide +kernel
theorem dX6_ask_47 : decode cX6_ask 47 = .ok (.aload_n 0, 1) := by decide +kernel
theorem dX6_ask_48 : decode cX6_ask 48 = .ok (.getfield 27, 3) := by decide +kernel
theorem dX6_ask_51 : decode cX6_ask 51 = .ok (.iload 6, 2) := by decide +kernel
theorem dX6_ask_53 : decode cX6_ask 53 = .ok (.aaload, 1) := by decide +kernel
theorem dX6_ask_54 : decode cX6_ask 54 = .ok (.aload_n 0, 1) := by decide +kernel
theorem dX6_ask_55 : decode cX6_ask 55 = .ok (.getfield 10, 3) := by decide +kernel
theorem dX6_ask_58 : decode cX6_ask 58 = .ok (.invokevirtual 96, 3) := by decide +kernel
theorem dX6_ask_61 : decode cX6_ask 61 = .ok (.aload_n 0, 1) := by decide +kernel
theorem dX6_ask_62 : decode cX6_ask 62 = .ok (.getfield 27, 3) := by decide +kernel
theorem dX6_ask_65 : decode cX6_ask 65 = .ok (.iload 6, 2) := by decide +kernel
theorem dX6_ask_67 : decode cX6_ask 67 = .ok (.aaload, 1) := by decide +kernel
theorem dX6_ask_68 : decode cX6_ask 68 = .ok (.getfield 125, 3) := by decide +kernel
theorem dX6_ask_71 : decode cX6_ask 71 = .ok (.iload_n 1, 1) := by decide +kernel
theorem dX6_ask_72 : decode cX6_ask 72 = .ok (.iload 6, 2) := by decide +kernel
theorem dX6_ask_74 : decode cX6_ask 74 = .ok (.iastore, 1) := by decide +kernel
theorem dX6_ask_75 : decode cX6_ask 75 = .ok (.iinc 6 1, 3) := by decide +kernel
theorem dX6_ask_78 : decode cX6_ask 78 = .ok (.goto (-37), 3) := by decide +kernel
theorem dX6_ask_81 : decode cX6_ask 81 = .ok (.iconst 0, 1) := by decide +kernel
theorem dX6_ask_82 : decode cX6_ask 82 = .ok (.istore 6, 2) := by decide +kernel
theorem dX6_ask_84 : decode cX6_ask 84 = .ok (.iload 6, 2) := by decide +kernel
theorem dX6_ask_86 : decode cX6_ask 86 = .ok (.bipush 20, 2) := by decide +kernel
theorem dX6_ask_88 : decode cX6_ask 88 = .ok (.if_icmp .gt 86, 3) := by decide +kernel
theorem dX6_ask_91 : decode cX6_ask 91 = .ok (.iconst 0, 1) := by decide +kernel
theorem dX6_ask_92 : decode cX6_ask 92 = .ok (.istore 7, 2) := by decide +kernel
theorem dX6_ask_94 : decode cX6_ask 94 = .ok (.iload 7, 2) := by decide +kernel
theorem dX6_ask_96 : decode cX6_ask 96 = .ok (.aload_n 0, 1) := by decide +kernel
theorem dX6_ask_97 : decode cX6_ask 97 = .ok (.getfield 10, 3) := by decide +kernel
theorem dX6_ask_100 : decode cX6_ask 100 = .ok (.getfield 106, 3) := by decide +kernel
theorem dX6_ask_103 : decode cX6_ask 103 = .ok (.if_icmp .ge 39, 3) := by decide +kernel
theorem dX6_ask_106 : decode cX6_ask 106 = .ok (.aload_n 0, 1) := by decide +kernel
theorem dX6_ask_107 : decode cX6_ask 107 = .ok (.iload_n 3, 1) := by decide +kernel
theorem dX6_ask_108 : decode cX6_ask 108 = .ok (.iload 7, 2) := by decide +kernel
theorem dX6_ask_110 : decode cX6_ask 110 = .ok (.invokevirtual 262, 3) := by decide +kernel
theorem dX6_ask_113 : decode cX6_ask 113 = .ok (.istore 8, 2) := by decide +kernel
theorem dX6_ask_115 : decode cX6_ask 115 = .ok (.iload 8, 2) := by decide +kernel
theorem dX6_ask_117 : decode cX6_ask 117 = .ok (.iload 4, 2) := by decide +kernel
theorem dX6_ask_119 : decode cX6_ask 119 = .ok (.if_icmp .ge 17, 3) := by decide +kernel
theorem dX6_ask_122 : decode cX6_ask 122 = .ok (.iload 8, 2) := by decide +kernel
theorem dX6_ask_124 : decode cX6_ask 124 = .ok (.istore 4, 2) := by decide +kernel
theorem dX6_ask_126 : decode cX6_ask 126 = .ok (.bipush 10, 2) := by decide +kernel
theorem dX6_ask_128 : decode cX6_ask 128 = .ok (.iload 6, 2) := by decide +kernel
theorem dX6_ask_130 : decode cX6_ask 130 = .ok (.imul, 1) := by decide +kernel
theorem dX6_ask_131 : decode cX6_ask 131 = .ok (.iload 7, 2) := by decide +kernel
theorem dX6_ask_133 : decode cX6_ask 133 = .ok (.iadd, 1) := by decide +kernel
theorem dX6_ask_134 : decode cX6_ask 134 = .ok (.istore 5, 2) := by decide +kernel
theorem dX6_ask_136 : decode cX6_ask 136 = .ok (.iinc 7 1, 3) := by decide +kernel
theorem dX6_ask_139 : decode cX6_ask 139 = .ok (.goto (-45), 3) := by decide +kernel
theorem dX6_ask_142 : decode cX6_ask 142 = .ok (.iconst 0, 1) := by decide +kernel
theorem dX6_ask_143 : decode cX6_ask 143 = .ok (.istore 7, 2) := by decide +kernel
theorem dX6_ask_145 : decode cX6_ask 145 = .ok (.iload 7, 2) := by decide +kernel
theorem dX6_ask_147 : decode cX6_ask 147 = .ok (.iconst 4, 1) := by decide +kernel
theorem dX6_ask_148 : decode cX6_ask 148 = .ok (.if_icmp .ge 20, 3) := by decide +kernel
theorem dX6_ask_151 : decode cX6_ask 151 = .ok (.aload_n 0, 1) := by decide +kernel
theorem dX6_ask_152 : decode cX6_ask 152 = .ok (.getfield 27, 3) := by decide +kernel
theorem dX6_ask_155 : decode cX6_ask 155 = .ok (.iload 7, 2) := by decide +kernel
theorem dX6_ask_157 : decode cX6_ask 157 = .ok (.aaload, 1) := by decide +kernel
theorem dX6_ask_158 : decode cX6_ask 158 = .ok (.iconst 1, 1) := by decide +kernel
theorem dX6_ask_159 : decode cX6_ask 159 = .ok (.invokevirtual 191, 3) := by decide +kernel
theorem dX6_ask_162 : decode cX6_ask 162 = .ok (.iinc 7 1, 3) := by decide +kernel
theorem dX6_ask_165 : decode cX6_ask 165 = .ok (.goto (-20), 3) := by decide +kernel
theorem dX6_ask_168 : decode cX6_ask 168 = .ok (.iinc 6 1, 3) := by decide +kernel
theorem dX6_ask_171 : decode cX6_ask 171 = .ok (.goto (-87), 3) := by decide +kernel
theorem dX6_ask_174 : decode cX6_ask 174 = .ok (.iload 5, 2) := by decide +kernel
theorem dX6_ask_176 : decode cX6_ask 176 = .ok (.bipush (-4), 2) := by decide +kernel
theorem dX6_ask_178 : decode cX6_ask 178 = .ok (.if_icmp .eq 7, 3) := by decide +kernel
theorem dX6_ask_181 : decode cX6_ask 181 = .ok (.iload_n 2, 1) := by decide +kernel
theorem dX6_ask_182 : decode cX6_ask 182 = .ok (.ifCond .ne 8, 3) := by decide +kernel
theorem dX6_ask_185 : decode cX6_ask 185 = .ok (.iload 5, 2) := by decide +kernel
theorem dX6_ask_187 : decode cX6_ask 187 = .ok (.goto 5, 3) := by decide +kernel
theorem dX6_ask_190 : decode cX6_ask 190 = .ok (.iload 4, 2) := by decide +kernel
theorem dX6_ask_192 : decode cX6_ask 192 = .ok (.ireturn, 1) := by decide +kernel
theorem dX6_drift_0 : decode cX6_drift 0 = .ok (.iload_n 2, 1) := by decide +kernel
theorem dX6_drift_1 : decode cX6_drift 1 = .ok (.iconst 1, 1) := by decide +kernel
theorem dX6_drift_2 : decode cX6_drift 2 = .ok (.bipush 60, 2) := by decide +kernel
theorem dX6_drift_4 : decode cX6_drift 4 = .ok (.invokestatic 73, 3) := by decide +kernel
theorem dX6_drift_7 : decode cX6_drift 7 = .ok (.ifCond .eq 12, 3) := by decide +kernel
theorem dX6_drift_10 : decode cX6_drift 10 = .ok (.iload_n 3, 1) := by decide +kernel
theorem dX6_drift_11 : decode cX6_drift 11 = .ok (.iconst 0, 1) := by decide +kernel
theorem dX6_drift_12 : decode cX6_drift 12 = .ok (.iconst 1, 1) := by decide +kernel
theorem dX6_drift_13 : decode cX6_drift 13 = .ok (.invokestatic 73, 3) := by decide +kernel
theorem dX6_drift_16 : decode cX6_drift 16 = .ok (.ifCond .ne 5, 3) := by decide +kernel
theorem dX6_drift_19 : decode cX6_drift 19 = .ok (.iconst (-1), 1) := by decide +kernel
theorem dX6_drift_20 : decode cX6_drift 20 = .ok (.ireturn, 1) := by decide +kernel
theorem dX6_drift_21 : decode cX6_drift 21 = .ok (.aload_n 0, 1) := by decide +kernel
theorem dX6_drift_22 : decode cX6_drift 22 = .ok (.getfield 10, 3) := by decide +kernel
theorem dX6_drift_25 : decode cX6_drift 25 = .ok (.getfield 103, 3) := by decide +kernel
theorem dX6_drift_28 : decode cX6_drift 28 = .ok (.ifCond .eq 13, 3) := by decide +kernel
theorem dX6_drift_31 : decode cX6_drift 31 = .ok (.aload_n 0, 1) := by decide +kernel
theorem dX6_drift_32 : decode cX6_drift 32 = .ok (.getfield 10, 3) := by decide +kernel
theorem dX6_drift_35 : decode cX6_drift 35 = .ok (.getfield 106, 3) := by decide +kernel
theorem dX6_drift_38 : decode cX6_drift 38 = .ok (.ifCond .ne 6, 3) := by decide +kernel
theorem dX6_drift_41 : decode cX6_drift 41 = .ok (.bipush (-2), 2) := by decide +kernel
theorem dX6_drift_43 : decode cX6_drift 43 = .ok (.ireturn, 1) := by decide +kernel
theorem dX6_drift_44 : decode cX6_drift 44 = .ok (.aload_n 0, 1) := by decide +kernel
theorem dX6_drift_45 : decode cX6_drift 45 = .ok (.getfield 16, 3) := by decide +kernel
theorem dX6_drift_48 : decode cX6_drift 48 = .ok (.aload_n 0, 1) := by decide +kernel
theorem dX6_drift_49 : decode cX6_drift 49 = .ok (.getfield 10, 3) := by decide +kernel
theorem dX6_drift_52 : decode cX6_drift 52 = .ok (.invokevirtual 96, 3) := by decide +kernel
theorem dX6_drift_55 : decode cX6_drift 55 = .ok (.iload_n 1, 1) := by decide +kernel
theorem dX6_drift_56 : decode cX6_drift 56 = .ok (.istore 4, 2) := by decide +kernel
theorem dX6_drift_58 : decode cX6_drift 58 = .ok (.iconst 0, 1) := by decide +kernel
theorem dX6_drift_59 : decode cX6_drift 59 = .ok (.istore 5, 2) := by decide +kernel
theorem dX6_drift_61 : decode cX6_drift 61 = .ok (.iload 5, 2) := by decide +kernel
theorem dX6_drift_63 : decode cX6_drift 63 = .ok (.iload_n 2, 1) := by decide +kernel
theorem dX6_drift_64 : decode cX6_drift 64 = .ok (.if_icmp .ge 81, 3) := by decide +kernel
theorem dX6_drift_67 : decode cX6_drift 67 = .ok (.iload 4, 2) := by decide +kernel
theorem dX6_drift_69 : decode cX6_drift 69 = .ok (.ldc_w 265, 3) := by decide +kernel
theorem dX6_drift_72 : decode cX6_drift 72 = .ok (.imul, 1) := by decide +kernel
theorem dX6_drift_73 : decode cX6_drift 73 = .ok (.sipush 12345, 3) := by decide +kernel
theorem dX6_drift_76 : decode cX6_drift 76 = .ok (.iadd, 1) := by decide +kernel
theorem dX6_drift_77 : decode cX6_drift 77 = .ok (.istore 4, 2) := by decide +kernel
theorem dX6_drift_79 : decode cX6_drift 79 = .ok (.iload 4, 2) := by decide +kernel
theorem dX6_drift_81 : decode cX6_drift 81 = .ok (.bipush 16, 2) := by decide +kernel
theorem dX6_drift_83 : decode cX6_drift 83 = .ok (.iushr, 1) := by decide +kernel
theorem dX6_drift_84 : decode cX6_drift 84 = .ok (.sipush 32767, 3) := by decide +kernel
theorem dX6_drift_87 : decode cX6_drift 87 = .ok (.iand, 1) := by decide +kernel
theorem dX6_drift_88 : decode cX6_drift 88 = .ok (.istore 6, 2) := by decide +kernel
theorem dX6_drift_90 : decode cX6_drift 90 = .ok (.aload_n 0, 1) := by decide +kernel
theorem dX6_drift_91 : decode cX6_drift 91 = .ok (.getfield 16, 3) := by decide +kernel
theorem dX6_drift_94 : decode cX6_drift 94 = .ok (.iload 6, 2) := by decide +kernel
theorem dX6_drift_96 : decode cX6_drift 96 = .ok (.aload_n 0, 1) := by decide +kernel
theorem dX6_drift_97 : decode cX6_drift 97 = .ok (.getfield 10, 3) := by decide +kernel
theorem dX6_drift_100 : decode cX6_drift 100 = .ok (.getfield 106, 3) := by decide +kernel
theorem dX6_drift_103 : decode cX6_drift 103 = .ok (.irem, 1) := by decide +kernel
theorem dX6_drift_104 : decode cX6_drift 104 = .ok (.iload 6, 2) := by decide +kernel
theorem dX6_drift_106 : decode cX6_drift 106 = .ok (.bipush 8, 2) := by decide +kernel
theorem dX6_drift_108 : decode cX6_drift 108 = .ok (.idiv, 1) := by decide +kernel
theorem dX6_drift_109 : decode cX6_drift 109 = .ok (.aload_n 0, 1) := by decide +kernel
theorem dX6_drift_110 : decode cX6_drift 110 = .ok (.getfield 10, 3) := by decide +kernel
theorem dX6_drift_113 : decode cX6_drift 113 = .ok (.getfield 103, 3) := by decide +kernel
theorem dX6_drift_116 : decode cX6_drift 116 = .ok (.irem, 1) := by decide +kernel
theorem dX6_drift_117 : decode cX6_drift 117 = .ok (.iconst 1, 1) := by decide +kernel
theorem dX6_drift_118 : decode cX6_drift 118 = .ok (.iload 6, 2) := by decide +kernel
theorem dX6_drift_120 : decode cX6_drift 120 = .ok (.bipush 64, 2) := by decide +kernel
theorem dX6_drift_122 : decode cX6_drift 122 = .ok (.idiv, 1) := by decide +kernel
theorem dX6_drift_123 : decode cX6_drift 123 = .ok (.bipush 9, 2) := by decide +kernel
theorem dX6_drift_125 : decode cX6_drift 125 = .ok (.irem, 1) := by decide +kernel
theorem dX6_drift_126 : decode cX6_drift 126 = .ok (.iadd, 1) := by decide +kernel
theorem dX6_drift_127 : decode cX6_drift 127 = .ok (.invokevirtual 179, 3) := by decide +kernel
theorem dX6_drift_130 : decode cX6_drift 130 = .ok (.pop, 1) := by decide +kernel
theorem dX6_drift_131 : decode cX6_drift 131 = .ok (.aload_n 0, 1) := by decide +kernel
theorem dX6_drift_132 : decode cX6_drift 132 = .ok (.getfield 16, 3) := by decide +kernel
theorem dX6_drift_135 : decode cX6_drift 135 = .ok (.iconst 1, 1) := by decide +kernel
theorem dX6_drift_136 : decode cX6_drift 136 = .ok (.invokevirtual 191, 3) := by decide +kernel
theorem dX6_drift_139 : decode cX6_drift 139 = .ok (.iinc 5 1, 3) := by decide +kernel
theorem dX6_drift_142 : decode cX6_drift 142 = .ok (.goto (-81), 3) := by decide +kernel
theorem dX6_drift_145 : decode cX6_drift 145 = .ok (.iload_n 3, 1) := by decide +kernel
theorem dX6_drift_146 : decode cX6_drift 146 = .ok (.ifCond .ne 13, 3) := by decide +kernel
theorem dX6_drift_149 : decode cX6_drift 149 = .ok (.aload_n 0, 1) := by decide +kernel
theorem dX6_drift_150 : decode cX6_drift 150 = .ok (.getfield 16, 3) := by decide +kernel
theorem dX6_drift_153 : decode cX6_drift 153 = .ok (.invokevirtual 118, 3) := by decide +kernel
theorem dX6_drift_156 : decode cX6_drift 156 = .ok (.goto 18, 3) := by decide +kernel
theorem dX6_drift_159 : decode cX6_drift 159 = .ok (.aload_n 0, 1) := by decide +kernel
theorem dX6_drift_160 : decode cX6_drift 160 = .ok (.getfield 16, 3) := by decide +kernel
theorem dX6_drift_163 : decode cX6_drift 163 = .ok (.getfield 112, 3) := by decide +kernel
theorem dX6_drift_166 : decode cX6_drift 166 = .ok (.aload_n 0, 1) := by decide +kernel
theorem dX6_drift_167 : decode cX6_drift 167 = .ok (.getfield 10, 3) := by decide +kernel
theorem dX6_drift_170 : decode cX6_drift 170 = .ok (.getfield 112, 3) := by decide +kernel
theorem dX6_drift_173 : decode cX6_drift 173 = .ok (.isub, 1) := by decide +kernel
theorem dX6_drift_174 : decode cX6_drift 174 = .ok (.ireturn, 1) := by decide +kernel
theorem dX6_keep_0 : decode cX6_keep 0 = .ok (.iload_n 1, 1) := by decide +kernel
theorem dX6_keep_1 : decode cX6_keep 1 = .ok (.iconst 0, 1) := by decide +kernel
theorem dX6_keep_2 : decode cX6_keep 2 = .ok (.iconst 1, 1) := by decide +kernel
theorem dX6_keep_3 : decode cX6_keep 3 = .ok (.invokestatic 73, 3) := by decide +kernel
theorem dX6_keep_6 : decode cX6_keep 6 = .ok (.ifCond .ne 5, 3) := by decide +kernel
theorem dX6_keep_9 : decode cX6_keep 9 = .ok (.iconst (-1), 1) := by decide +kernel
theorem dX6_keep_10 : decode cX6_keep 10 = .ok (.ireturn, 1) := by decide +kernel
theorem dX6_keep_11 : decode cX6_keep 11 = .ok (.aload_n 0, 1) := by decide +kernel
theorem dX6_keep_12 : decode cX6_keep 12 = .ok (.getfield 23, 3) := by decide +kernel
theorem dX6_keep_15 : decode cX6_keep 15 = .ok (.iload_n 1, 1) := by decide +kernel
theorem dX6_keep_16 : decode cX6_keep 16 = .ok (.baload, 1) := by decide +kernel
theorem dX6_keep_17 : decode cX6_keep 17 = .ok (.ifCond .eq 7, 3) := by decide +kernel
theorem dX6_keep_20 : decode cX6_keep 20 = .ok (.iconst 1, 1) := by decide +kernel
theorem dX6_keep_21 : decode cX6_keep 21 = .ok (.goto 4, 3) := by decide +kernel
theorem dX6_keep_24 : decode cX6_keep 24 = .ok (.iconst 0, 1) := by decide +kernel
theorem dX6_keep_25 : decode cX6_keep 25 = .ok (.istore_n 2, 1) := by decide +kernel
theorem dX6_keep_26 : decode cX6_keep 26 = .ok (.aload_n 0, 1) := by decide +kernel
theorem dX6_keep_27 : decode cX6_keep 27 = .ok (.getfield 19, 3) := by decide +kernel
theorem dX6_keep_30 : decode cX6_keep 30 = .ok (.iload_n 1, 1) := by decide +kernel
theorem dX6_keep_31 : decode cX6_keep 31 = .ok (.aaload, 1) := by decide +kernel
theorem dX6_keep_32 : decode cX6_keep 32 = .ok (.aload_n 0, 1) := by decide +kernel
theorem dX6_keep_33 : decode cX6_keep 33 = .ok (.getfield 10, 3) := by decide +kernel
theorem dX6_keep_36 : decode cX6_keep 36 = .ok (.invokevirtual 96, 3) := by decide +kernel
theorem dX6_keep_39 : decode cX6_keep 39 = .ok (.aload_n 0, 1) := by decide +kernel
theorem dX6_keep_40 : decode cX6_keep 40 = .ok (.getfield 23, 3) := by decide +kernel
theorem dX6_keep_43 : decode cX6_keep 43 = .ok (.iload_n 1, 1) := by decide +kernel
theorem dX6_keep_44 : decode cX6_keep 44 = .ok (.iconst 1, 1) := by decide +kernel
theorem dX6_keep_45 : decode cX6_keep 45 = .ok (.bastore, 1) := by decide +kernel
theorem dX6_keep_46 : decode cX6_keep 46 = .ok (.iload_n 2, 1) := by decide +kernel
theorem dX6_keep_47 : decode cX6_keep 47 = .ok (.ireturn, 1) := by decide +kernel
theorem dX6_back_0 : decode cX6_back 0 = .ok (.iload_n 1, 1) := by decide +kernel
theorem dX6_back_1 : decode cX6_back 1 = .ok (.iconst 0, 1) := by decide +kernel
theorem dX6_back_2 : decode cX6_back 2 = .ok (.iconst 1, 1) := by decide +kernel
theorem dX6_back_3 : decode cX6_back 3 = .ok (.invokestatic 73, 3) := by decide +kernel
theorem dX6_back_6 : decode cX6_back 6 = .ok (.ifCond .ne 5, 3) := by decide +kernel
theorem dX6_back_9 : decode cX6_back 9 = .ok (.iconst (-1), 1) := by decide +kernel
theorem dX6_back_10 : decode cX6_back 10 = .ok (.ireturn, 1) := by decide +kernel
theorem dX6_back_11 : decode cX6_back 11 = .ok (.aload_n 0, 1) := by decide +kernel
theorem dX6_back_12 : decode cX6_back 12 = .ok (.getfield 23, 3) := by decide +kernel
theorem dX6_back_15 : decode cX6_back 15 = .ok (.iload_n 1, 1) := by decide +kernel
theorem dX6_back_16 : decode cX6_back 16 = .ok (.baload, 1) := by decide +kernel
theorem dX6_back_17 : decode cX6_back 17 = .ok (.ifCond .ne 6, 3) := by decide +kernel
theorem dX6_back_20 : decode cX6_back 20 = .ok (.bipush (-2), 2) := by decide +kernel
theorem dX6_back_22 : decode cX6_back 22 = .ok (.ireturn, 1) := by decide +kernel
theorem dX6_back_23 : decode cX6_back 23 = .ok (.aload_n 0, 1) := by decide +kernel
theorem dX6_back_24 : decode cX6_back 24 = .ok (.getfield 10, 3) := by decide +kernel
theorem dX6_back_27 : decode cX6_back 27 = .ok (.aload_n 0, 1) := by decide +kernel
theorem dX6_back_28 : decode cX6_back 28 = .ok (.getfield 19, 3) := by decide +kernel
theorem dX6_back_31 : decode cX6_back 31 = .ok (.iload_n 1, 1) := by decide +kernel
theorem dX6_back_32 : decode cX6_back 32 = .ok (.aaload, 1) := by decide +kernel
theorem dX6_back_33 : decode cX6_back 33 = .ok (.invokevirtual 96, 3) := by decide +kernel
theorem dX6_back_36 : decode cX6_back 36 = .ok (.aload_n 0, 1) := by decide +kernel
theorem dX6_back_37 : decode cX6_back 37 = .ok (.getfield 10, 3) := by decide +kernel
theorem dX6_back_40 : decode cX6_back 40 = .ok (.getfield 109, 3) := by decide +kernel
theorem dX6_back_43 : decode cX6_back 43 = .ok (.ireturn, 1) := by decide +kernel
theorem dX6_sheet_0 : decode cX6_sheet 0 = .ok (.iload_n 1, 1) := by decide +kernel
theorem dX6_sheet_1 : decode cX6_sheet 1 = .ok (.iconst 0, 1) := by decide +kernel
theorem dX6_sheet_2 : decode cX6_sheet 2 = .ok (.iconst 3, 1) := by decide +kernel
theorem dX6_sheet_3 : decode cX6_sheet 3 = .ok (.invokestatic 73, 3) := by decide +kernel
theorem dX6_sheet_6 : decode cX6_sheet 6 = .ok (.ifCond .eq 18, 3) := by decide +kernel
theorem dX6_sheet_9 : decode cX6_sheet 9 = .ok (.iload_n 2, 1) := by decide +kernel
theorem dX6_sheet_10 : decode cX6_sheet 10 = .ok (.iconst 0, 1) := by decide +kernel
theorem dX6_sheet_11 : decode cX6_sheet 11 = .ok (.iconst 2, 1) := by decide +kernel
theorem dX6_sheet_12 : decode cX6_sheet 12 = .ok (.invokestatic 73, 3) := by decide +kernel
theorem dX6_sheet_15 : decode cX6_sheet 15 = .ok (.ifCond .eq 9, 3) := by decide +kernel
theorem dX6_sheet_18 : decode cX6_sheet 18 = .ok (.iload_n 3, 1) := by decide +kernel
theorem dX6_sheet_19 : decode cX6_sheet 19 = .ok (.bipush 40, 2) := by decide +kernel
theorem dX6_sheet_21 : decode cX6_sheet 21 = .ok (.if_icmp .le 5, 3) := by decide +kernel
theorem dX6_sheet_24 : decode cX6_sheet 24 = .ok (.iconst (-1), 1) := by decide +kernel
theorem dX6_sheet_25 : decode cX6_sheet 25 = .ok (.ireturn, 1) := by decide +kernel
theorem dX6_sheet_26 : decode cX6_sheet 26 = .ok (.iload_n 3, 1) := by decide +kernel
theorem dX6_sheet_27 : decode cX6_sheet 27 = .ok (.ifCond .ge 6, 3) := by decide +kernel
theorem dX6_sheet_30 : decode cX6_sheet 30 = .ok (.bipush (-14), 2) := by decide +kernel
theorem dX6_sheet_32 : decode cX6_sheet 32 = .ok (.ireturn, 1) := by decide +kernel
theorem dX6_sheet_33 : decode cX6_sheet 33 = .ok (.aload_n 0, 1) := by decide +kernel
theorem dX6_sheet_34 : decode cX6_sheet 34 = .ok (.getfield 64, 3) := by decide +kernel
theorem dX6_sheet_37 : decode cX6_sheet 37 = .ok (.iload_n 1, 1) := by decide +kernel
theorem dX6_sheet_38 : decode cX6_sheet 38 = .ok (.aaload, 1) := by decide +kernel
theorem dX6_sheet_39 : decode cX6_sheet 39 = .ok (.iload_n 2, 1) := by decide +kernel
theorem dX6_sheet_40 : decode cX6_sheet 40 = .ok (.iload_n 3, 1) := by decide +kernel
theorem dX6_sheet_41 : decode cX6_sheet 41 = .ok (.invokevirtual 266, 3) := by decide +kernel
theorem dX6_sheet_44 : decode cX6_sheet 44 = .ok (.iconst 1, 1) := by decide +kernel
theorem dX6_sheet_45 : decode cX6_sheet 45 = .ok (.ireturn, 1) := by decide +kernel
theorem dX6_lay_0 : decode cX6_lay 0 = .ok (.iload_n 1, 1) := by decide +kernel
theorem dX6_lay_1 : decode cX6_lay 1 = .ok (.iconst 0, 1) := by decide +kernel
theorem dX6_lay_2 : decode cX6_lay 2 = .ok (.iconst 3, 1) := by decide +kernel
theorem dX6_lay_3 : decode cX6_lay 3 = .ok (.invokestatic 73, 3) := by decide +kernel
theorem dX6_lay_6 : decode cX6_lay 6 = .ok (.ifCond .ne 5, 3) := by decide +kernel
theorem dX6_lay_9 : decode cX6_lay 9 = .ok (.iconst (-1), 1) := by decide +kernel
theorem dX6_lay_10 : decode cX6_lay 10 = .ok (.ireturn, 1) := by decide +kernel
theorem dX6_lay_11 : decode cX6_lay 11 = .ok (.aload_n 0, 1) := by decide +kernel
theorem dX6_lay_12 : decode cX6_lay 12 = .ok (.getfield 64, 3) := by decide +kernel
theorem dX6_lay_15 : decode cX6_lay 15 = .ok (.iload_n 1, 1) := by decide +kernel
theorem dX6_lay_16 : decode cX6_lay 16 = .ok (.aaload, 1) := by decide +kernel
theorem dX6_lay_17 : decode cX6_lay 17 = .ok (.astore 4, 2) := by decide +kernel
theorem dX6_lay_19 : decode cX6_lay 19 = .ok (.aload 4, 2) := by decide +kernel
theorem dX6_lay_21 : decode cX6_lay 21 = .ok (.getfield 269, 3) := by decide +kernel
theorem dX6_lay_24 : decode cX6_lay 24 = .ok (.ifCond .ge 6, 3) := by decide +kernel
theorem dX6_lay_27 : decode cX6_lay 27 = .ok (.bipush (-11), 2) := by decide +kernel
theorem dX6_lay_29 : decode cX6_lay 29 = .ok (.ireturn, 1) := by decide +kernel
theorem dX6_lay_30 : decode cX6_lay 30 = .ok (.iload_n 2, 1) := by decide +kernel
theorem dX6_lay_31 : decode cX6_lay 31 = .ok (.iconst 0, 1) := by decide +kernel
theorem dX6_lay_32 : decode cX6_lay 32 = .ok (.aload 4, 2) := by decide +kernel
theorem dX6_lay_34 : decode cX6_lay 34 = .ok (.getfield 269, 3) := by decide +kernel
theorem dX6_lay_37 : decode cX6_lay 37 = .ok (.iconst 1, 1) := by decide +kernel
theorem dX6_lay_38 : decode cX6_lay 38 = .ok (.isub, 1) := by decide +kernel
theorem dX6_lay_39 : decode cX6_lay 39 = .ok (.invokestatic 73, 3) := by decide +kernel
theorem dX6_lay_42 : decode cX6_lay 42 = .ok (.ifCond .ne 6, 3) := by decide +kernel
theorem dX6_lay_45 : decode cX6_lay 45 = .ok (.bipush (-12), 2) := by decide +kernel
theorem dX6_lay_47 : decode cX6_lay 47 = .ok (.ireturn, 1) := by decide +kernel
theorem dX6_lay_48 : decode cX6_lay 48 = .ok (.aload 4, 2) := by decide +kernel
theorem dX6_lay_50 : decode cX6_lay 50 = .ok (.getfield 270, 3) := by decide +kernel
theorem dX6_lay_53 : decode cX6_lay 53 = .ok (.iload_n 2, 1) := by decide +kernel
theorem dX6_lay_54 : decode cX6_lay 54 = .ok (.aload 4, 2) := by decide +kernel
theorem dX6_lay_56 : decode cX6_lay 56 = .ok (.iload_n 3, 1) := by decide +kernel
theorem dX6_lay_57 : decode cX6_lay 57 = .ok (.invokevirtual 273, 3) := by decide +kernel
theorem dX6_lay_60 : decode cX6_lay 60 = .ok (.iastore, 1) := by decide +kernel
theorem dX6_lay_61 : decode cX6_lay 61 = .ok (.iconst 1, 1) := by decide +kernel
theorem dX6_lay_62 : decode cX6_lay 62 = .ok (.ireturn, 1) := by decide +kernel
theorem dX6_read_0 : decode cX6_read 0 = .ok (.iload_n 1, 1) := by decide +kernel
theorem dX6_read_1 : decode cX6_read 1 = .ok (.iconst 0, 1) := by decide +kernel
theorem dX6_read_2 : decode cX6_read 2 = .ok (.iconst 3, 1) := by decide +kernel
theorem dX6_read_3 : decode cX6_read 3 = .ok (.invokestatic 73, 3) := by decide +kernel
theorem dX6_read_6 : decode cX6_read 6 = .ok (.ifCond .eq 23, 3) := by decide +kernel
theorem dX6_read_9 : decode cX6_read 9 = .ok (.iload_n 2, 1) := by decide +kernel
theorem dX6_read_10 : decode cX6_read 10 = .ok (.iconst 0, 1) := by decide +kernel
theorem dX6_read_11 : decode cX6_read 11 = .ok (.iconst 2, 1) := by decide +kernel
theorem dX6_read_12 : decode cX6_read 12 = .ok (.invokestatic 73, 3) := by decide +kernel
theorem dX6_read_15 : decode cX6_read 15 = .ok (.ifCond .eq 14, 3) := by decide +kernel
theorem dX6_read_18 : decode cX6_read 18 = .ok (.iload 4, 2) := by decide +kernel
theorem dX6_read_20 : decode cX6_read 20 = .ok (.iconst 0, 1) := by decide +kernel
theorem dX6_read_21 : decode cX6_read 21 = .ok (.bipush 13, 2) := by decide +kernel
theorem dX6_read_23 : decode cX6_read 23 = .ok (.invokestatic 73, 3) := by decide +kernel
theorem dX6_read_26 : decode cX6_read 26 = .ok (.ifCond .ne 5, 3) := by decide +kernel
theorem dX6_read_29 : decode cX6_read 29 = .ok (.iconst (-1), 1) := by decide +kernel
theorem dX6_read_30 : decode cX6_read 30 = .ok (.ireturn, 1) := by decide +kernel
theorem dX6_read_31 : decode cX6_read 31 = .ok (.aload_n 0, 1) := by decide +kernel
theorem dX6_read_32 : decode cX6_read 32 = .ok (.getfield 64, 3) := by decide +kernel
theorem dX6_read_35 : decode cX6_read 35 = .ok (.iload_n 1, 1) := by decide +kernel
theorem dX6_read_36 : decode cX6_read 36 = .ok (.aaload, 1) := by decide +kernel
theorem dX6_read_37 : decode cX6_read 37 = .ok (.astore 5, 2) := by decide +kernel
theorem dX6_read_39 : decode cX6_read 39 = .ok (.iload 4, 2) := by decide +kernel
theorem dX6_read_41 : decode cX6_read 41 = .ok (.ifCond .ne 7, 3) := by decide +kernel
theorem dX6_read_44 : decode cX6_read 44 = .ok (.iconst 0, 1) := by decide +kernel
theorem dX6_read_45 : decode cX6_read 45 = .ok (.goto 9, 3) := by decide +kernel
theorem dX6_read_48 : decode cX6_read 48 = .ok (.aload 5, 2) := by decide +kernel
theorem dX6_read_50 : decode cX6_read 50 = .ok (.iload_n 2, 1) := by decide +kernel
theorem dX6_read_51 : decode cX6_read 51 = .ok (.invokevirtual 276, 3) := by decide +kernel
theorem dX6_read_54 : decode cX6_read 54 = .ok (.istore 6, 2) := by decide +kernel
theorem dX6_read_56 : decode cX6_read 56 = .ok (.iconst 0, 1) := by decide +kernel
theorem dX6_read_57 : decode cX6_read 57 = .ok (.istore 7, 2) := by decide +kernel
theorem dX6_read_59 : decode cX6_read 59 = .ok (.aload_n 0, 1) := by decide +kernel
theorem dX6_read_60 : decode cX6_read 60 = .ok (.getfield 16, 3) := by decide +kernel
theorem dX6_read_63 : decode cX6_read 63 = .ok (.aload_n 0, 1) := by decide +kernel
theorem dX6_read_64 : decode cX6_read 64 = .ok (.getfield 10, 3) := by decide +kernel
theorem dX6_read_67 : decode cX6_read 67 = .ok (.invokevirtual 96, 3) := by decide +kernel
theorem dX6_read_70 : decode cX6_read 70 = .ok (.iconst 0, 1) := by decide +kernel
theorem dX6_read_71 : decode cX6_read 71 = .ok (.istore 8, 2) := by decide +kernel
theorem dX6_read_73 : decode cX6_read 73 = .ok (.iload 8, 2) := by decide +kernel
theorem dX6_read_75 : decode cX6_read 75 = .ok (.iload 4, 2) := by decide +kernel
theorem dX6_read_77 : decode cX6_read 77 = .ok (.if_icmp .ge 79, 3) := by decide +kernel
theorem dX6_read_80 : decode cX6_read 80 = .ok (.iload 6, 2) := by decide +kernel
theorem dX6_read_82 : decode cX6_read 82 = .ok (.ifCond .ne 74, 3) := by decide +kernel
theorem dX6_read_85 : decode cX6_read 85 = .ok (.iload_n 3, 1) := by decide +kernel
theorem dX6_read_86 : decode cX6_read 86 = .ok (.i2l, 1) := by decide +kernel
theorem dX6_read_87 : decode cX6_read 87 = .ok (.ldc2_w 279, 3) := by decide +kernel
theorem dX6_read_90 : decode cX6_read 90 = .ok (.iload 8, 2) := by decide +kernel
theorem dX6_read_92 : decode cX6_read 92 = .ok (.i2l, 1) := by decide +kernel
theorem dX6_read_93 : decode cX6_read 93 = .ok (.lmul, 1) := by decide +kernel
theorem dX6_read_94 : decode cX6_read 94 = .ok (.ladd, 1) := by decide +kernel
theorem dX6_read_95 : decode cX6_read 95 = .ok (.lstore 9, 2) := by decide +kernel
theorem dX6_read_97 : decode cX6_read 97 = .ok (.lload 9, 2) := by decide +kernel
theorem dX6_read_99 : decode cX6_read 99 = .ok (.lconst 0, 1) := by decide +kernel
theorem dX6_read_100 : decode cX6_read 100 = .ok (.lcmp, 1) := by decide +kernel
theorem dX6_read_101 : decode cX6_read 101 = .ok (.ifCond .lt 19, 3) := by decide +kernel
theorem dX6_read_104 : decode cX6_read 104 = .ok (.lload 9, 2) := by decide +kernel
theorem dX6_read_106 : decode cX6_read 106 = .ok (.ldc2_w 281, 3) := by decide +kernel
theorem dX6_read_109 : decode cX6_read 109 = .ok (.ladd, 1) := by decide +kernel
theorem dX6_read_110 : decode cX6_read 110 = .ok (.aload 5, 2) := by decide +kernel
theorem dX6_read_112 : decode cX6_read 112 = .ok (.getfield 269, 3) := by decide +kernel
theorem dX6_read_115 : decode cX6_read 115 = .ok (.i2l, 1) := by decide +kernel
theorem dX6_read_116 : decode cX6_read 116 = .ok (.lcmp, 1) := by decide +kernel
theorem dX6_read_117 : decode cX6_read 117 = .ok (.ifCond .lt 9, 3) := by decide +kernel
theorem dX6_read_120 : decode cX6_read 120 = .ok (.iconst 2, 1) := by decide +kernel
theorem dX6_read_121 : decode cX6_read 121 = .ok (.istore 6, 2) := by decide +kernel
theorem dX6_read_123 : decode cX6_read 123 = .ok (.goto 27, 3) := by decide +kernel
theorem dX6_read_126 : decode cX6_read 126 = .ok (.aload_n 0, 1) := by decide +kernel
theorem dX6_read_127 : decode cX6_read 127 = .ok (.aload 5, 2) := by decide +kernel
theorem dX6_read_129 : decode cX6_read 129 = .ok (.getfield 270, 3) := by decide +kernel
theorem dX6_read_132 : decode cX6_read 132 = .ok (.lload 9, 2) := by decide +kernel
theorem dX6_read_134 : decode cX6_read 134 = .ok (.l2i, 1) := by decide +kernel
theorem dX6_read_135 : decode cX6_read 135 = .ok (.invokevirtual 283, 3) := by decide +kernel
theorem dX6_read_138 : decode cX6_read 138 = .ok (.ifCond .ne 9, 3) := by decide +kernel
theorem dX6_read_141 : decode cX6_read 141 = .ok (.bipush (-20), 2) := by decide +kernel
theorem dX6_read_143 : decode cX6_read 143 = .ok (.iload 8, 2) := by decide +kernel
theorem dX6_read_145 : decode cX6_read 145 = .ok (.isub, 1) := by decide +kernel
theorem dX6_read_146 : decode cX6_read 146 = .ok (.ireturn, 1) := by decide +kernel
theorem dX6_read_147 : decode cX6_read 147 = .ok (.iinc 7 1, 3) := by decide +kernel
theorem dX6_read_150 : decode cX6_read 150 = .ok (.iinc 8 1, 3) := by decide +kernel
theorem dX6_read_153 : decode cX6_read 153 = .ok (.goto (-80), 3) := by decide +kernel
theorem dX6_read_156 : decode cX6_read 156 = .ok (.aload_n 0, 1) := by decide +kernel
theorem dX6_read_157 : decode cX6_read 157 = .ok (.getfield 10, 3) := by decide +kernel
theorem dX6_read_160 : decode cX6_read 160 = .ok (.aload_n 0, 1) := by decide +kernel
theorem dX6_read_161 : decode cX6_read 161 = .ok (.getfield 16, 3) := by decide +kernel
theorem dX6_read_164 : decode cX6_read 164 = .ok (.invokevirtual 96, 3) := by decide +kernel
theorem dX6_read_167 : decode cX6_read 167 = .ok (.aload_n 0, 1) := by decide +kernel
theorem dX6_read_168 : decode cX6_read 168 = .ok (.iload 6, 2) := by decide +kernel
theorem dX6_read_170 : decode cX6_read 170 = .ok (.putfield 68, 3) := by decide +kernel
theorem dX6_read_173 : decode cX6_read 173 = .ok (.iload 7, 2) := by decide +kernel
theorem dX6_read_175 : decode cX6_read 175 = .ok (.ireturn, 1) := by decide +kernel
theorem dX6_torn_0 : decode cX6_torn 0 = .ok (.aload_n 0, 1) := by decide +kernel
theorem dX6_torn_1 : decode cX6_torn 1 = .ok (.getfield 68, 3) := by decide +kernel
theorem dX6_torn_4 : decode cX6_torn 4 = .ok (.ireturn, 1) := by decide +kernel
theorem dX6_count_0 : decode cX6_count 0 = .ok (.iload_n 1, 1) := by decide +kernel
theorem dX6_count_1 : decode cX6_count 1 = .ok (.tableswitch 150 0 5 #[39, 47, 77, 85, 112, 131], 39) := by decide +kernel
theorem dX6_count_40 : decode cX6_count 40 = .ok (.aload_n 0, 1) := by decide +kernel
theorem dX6_count_41 : decode cX6_count 41 = .ok (.getfield 44, 3) := by decide +kernel
theorem dX6_count_44 : decode cX6_count 44 = .ok (.getfield 100, 3) := by decide +kernel
theorem dX6_count_47 : decode cX6_count 47 = .ok (.ireturn, 1) := by decide +kernel
theorem dX6_count_48 : decode cX6_count 48 = .ok (.aload_n 0, 1) := by decide +kernel
theorem dX6_count_49 : decode cX6_count 49 = .ok (.getfield 23, 3) := by decide +kernel
theorem dX6_count_52 : decode cX6_count 52 = .ok (.iconst 0, 1) := by decide +kernel
theorem dX6_count_53 : decode cX6_count 53 = .ok (.baload, 1) := by decide +kernel
theorem dX6_count_54 : decode cX6_count 54 = .ok (.ifCond .eq 7, 3) := by decide +kernel
theorem dX6_count_57 : decode cX6_count 57 = .ok (.iconst 1, 1) := by decide +kernel
theorem dX6_count_58 : decode cX6_count 58 = .ok (.goto 4, 3) := by decide +kernel
theorem dX6_count_61 : decode cX6_count 61 = .ok (.iconst 0, 1) := by decide +kernel
theorem dX6_count_62 : decode cX6_count 62 = .ok (.aload_n 0, 1) := by decide +kernel
theorem dX6_count_63 : decode cX6_count 63 = .ok (.getfield 23, 3) := by decide +kernel
theorem dX6_count_66 : decode cX6_count 66 = .ok (.iconst 1, 1) := by decide +kernel
theorem dX6_count_67 : decode cX6_count 67 = .ok (.baload, 1) := by decide +kernel
theorem dX6_count_68 : decode cX6_count 68 = .ok (.ifCond .eq 7, 3) := by decide +kernel
theorem dX6_count_71 : decode cX6_count 71 = .ok (.iconst 1, 1) := by decide +kernel
theorem dX6_count_72 : decode cX6_count 72 = .ok (.goto 4, 3) := by decide +kernel
theorem dX6_count_75 : decode cX6_count 75 = .ok (.iconst 0, 1) := by decide +kernel
theorem dX6_count_76 : decode cX6_count 76 = .ok (.iadd, 1) := by decide +kernel
theorem dX6_count_77 : decode cX6_count 77 = .ok (.ireturn, 1) := by decide +kernel
theorem dX6_count_78 : decode cX6_count 78 = .ok (.aload_n 0, 1) := by decide +kernel
theorem dX6_count_79 : decode cX6_count 79 = .ok (.getfield 37, 3) := by decide +kernel
theorem dX6_count_82 : decode cX6_count 82 = .ok (.getfield 77, 3) := by decide +kernel
theorem dX6_count_85 : decode cX6_count 85 = .ok (.ireturn, 1) := by decide +kernel
theorem dX6_count_86 : decode cX6_count 86 = .ok (.aload_n 0, 1) := by decide +kernel
theorem dX6_count_87 : decode cX6_count 87 = .ok (.getfield 64, 3) := by decide +kernel
theorem dX6_count_90 : decode cX6_count 90 = .ok (.iconst 0, 1) := by decide +kernel
theorem dX6_count_91 : decode cX6_count 91 = .ok (.aaload, 1) := by decide +kernel
theorem dX6_count_92 : decode cX6_count 92 = .ok (.getfield 269, 3) := by decide +kernel
theorem dX6_count_95 : decode cX6_count 95 = .ok (.ifCond .ge 8, 3) := by decide +kernel
theorem dX6_count_98 : decode cX6_count 98 = .ok (.bipush (-4), 2) := by decide +kernel
theorem dX6_count_100 : decode cX6_count 100 = .ok (.goto 12, 3) := by decide +kernel
theorem dX6_count_103 : decode cX6_count 103 = .ok (.aload_n 0, 1) := by decide +kernel
theorem dX6_count_104 : decode cX6_count 104 = .ok (.getfield 64, 3) := by decide +kernel
theorem dX6_count_107 : decode cX6_count 107 = .ok (.iconst 0, 1) := by decide +kernel
theorem dX6_count_108 : decode cX6_count 108 = .ok (.aaload, 1) := by decide +kernel
theorem dX6_count_109 : decode cX6_count 109 = .ok (.getfield 269, 3) := by decide +kernel
theorem dX6_count_112 : decode cX6_count 112 = .ok (.ireturn, 1) := by decide +kernel
theorem dX6_count_113 : decode cX6_count 113 = .ok (.aload_n 0, 1) := by decide +kernel
theorem dX6_count_114 : decode cX6_count 114 = .ok (.getfield 10, 3) := by decide +kernel
theorem dX6_count_117 : decode cX6_count 117 = .ok (.getfield 144, 3) := by decide +kernel
theorem dX6_count_120 : decode cX6_count 120 = .ok (.iconst 0, 1) := by decide +kernel
theorem dX6_count_121 : decode cX6_count 121 = .ok (.aload_n 0, 1) := by decide +kernel
theorem dX6_count_122 : decode cX6_count 122 = .ok (.getfield 10, 3) := by decide +kernel
theorem dX6_count_125 : decode cX6_count 125 = .ok (.getfield 106, 3) := by decide +kernel
theorem dX6_count_128 : decode cX6_count 128 = .ok (.invokestatic 287, 3) := by decide +kernel
theorem dX6_count_131 : decode cX6_count 131 = .ok (.ireturn, 1) := by decide +kernel
theorem dX6_count_132 : decode cX6_count 132 = .ok (.aload_n 0, 1) := by decide +kernel
theorem dX6_count_133 : decode cX6_count 133 = .ok (.getfield 10, 3) := by decide +kernel
theorem dX6_count_136 : decode cX6_count 136 = .ok (.getfield 147, 3) := by decide +kernel
theorem dX6_count_139 : decode cX6_count 139 = .ok (.iconst 0, 1) := by decide +kernel
theorem dX6_count_140 : decode cX6_count 140 = .ok (.aload_n 0, 1) := by decide +kernel
theorem dX6_count_141 : decode cX6_count 141 = .ok (.getfield 10, 3) := by decide +kernel
theorem dX6_count_144 : decode cX6_count 144 = .ok (.getfield 106, 3) := by decide +kernel
theorem dX6_count_147 : decode cX6_count 147 = .ok (.invokestatic 287, 3) := by decide +kernel
theorem dX6_count_150 : decode cX6_count 150 = .ok (.ireturn, 1) := by decide +kernel
theorem dX6_count_151 : decode cX6_count 151 = .ok (.iconst (-1), 1) := by decide +kernel
theorem dX6_count_152 : decode cX6_count 152 = .ok (.ireturn, 1) := by decide +kernel
theorem dX6_within_0 : decode cX6_within 0 = .ok (.iload_n 0, 1) := by decide +kernel
theorem dX6_within_1 : decode cX6_within 1 = .ok (.iload_n 1, 1) := by decide +kernel
theorem dX6_within_2 : decode cX6_within 2 = .ok (.if_icmp .lt 12, 3) := by decide +kernel
theorem dX6_within_5 : decode cX6_within 5 = .ok (.iload_n 0, 1) := by decide +kernel
theorem dX6_within_6 : decode cX6_within 6 = .ok (.iload_n 2, 1) := by decide +kernel
theorem dX6_within_7 : decode cX6_within 7 = .ok (.if_icmp .gt 7, 3) := by decide +kernel
theorem dX6_within_10 : decode cX6_within 10 = .ok (.iconst 1, 1) := by decide +kernel
theorem dX6_within_11 : decode cX6_within 11 = .ok (.goto 4, 3) := by decide +kernel
theorem dX6_within_14 : decode cX6_within 14 = .ok (.iconst 0, 1) := by decide +kernel
theorem dX6_within_15 : decode cX6_within 15 = .ok (.ireturn, 1) := by decide +kernel
theorem dX6_isHue_0 : decode cX6_isHue 0 = .ok (.iload_n 0, 1) := by decide +kernel
theorem dX6_isHue_1 : decode cX6_isHue 1 = .ok (.iconst 0, 1) := by decide +kernel
theorem dX6_isHue_2 : decode cX6_isHue 2 = .ok (.sipush 999, 3) := by decide +kernel
theorem dX6_isHue_5 : decode cX6_isHue 5 = .ok (.invokestatic 73, 3) := by decide +kernel
theorem dX6_isHue_8 : decode cX6_isHue 8 = .ok (.ireturn, 1) := by decide +kernel
theorem dX6_hasBit_0 : decode cX6_hasBit 0 = .ok (.iload_n 0, 1) := by decide +kernel
theorem dX6_hasBit_1 : decode cX6_hasBit 1 = .ok (.iconst 1, 1) := by decide +kernel
theorem dX6_hasBit_2 : decode cX6_hasBit 2 = .ok (.iload_n 1, 1) := by decide +kernel
theorem dX6_hasBit_3 : decode cX6_hasBit 3 = .ok (.ishl, 1) := by decide +kernel
theorem dX6_hasBit_4 : decode cX6_hasBit 4 = .ok (.iand, 1) := by decide +kernel
theorem dX6_hasBit_5 : decode cX6_hasBit 5 = .ok (.ifCond .eq 7, 3) := by decide +kernel
theorem dX6_hasBit_8 : decode cX6_hasBit 8 = .ok (.iconst 1, 1) := by decide +kernel
theorem dX6_hasBit_9 : decode cX6_hasBit 9 = .ok (.goto 4, 3) := by decide +kernel
theorem dX6_hasBit_12 : decode cX6_hasBit 12 = .ok (.iconst 0, 1) := by decide +kernel
theorem dX6_hasBit_13 : decode cX6_hasBit 13 = .ok (.ireturn, 1) := by decide +kernel
theorem dX6_offBetween_0 : decode cX6_offBetween 0 = .ok (.iload_n 0, 1) := by decide +kernel
theorem dX6_offBetween_1 : decode cX6_offBetween 1 = .ok (.bipush 100, 2) := by decide +kernel
theorem dX6_offBetween_3 : decode cX6_offBetween 3 = .ok (.idiv, 1) := by decide +kernel
theorem dX6_offBetween_4 : decode cX6_offBetween 4 = .ok (.iload_n 1, 1) := by decide +kernel
theorem dX6_offBetween_5 : decode cX6_offBetween 5 = .ok (.bipush 100, 2) := by decide +kernel
theorem dX6_offBetween_7 : decode cX6_offBetween 7 = .ok (.idiv, 1) := by decide +kernel
theorem dX6_offBetween_8 : decode cX6_offBetween 8 = .ok (.isub, 1) := by decide +kernel
theorem dX6_offBetween_9 : decode cX6_offBetween 9 = .ok (.invokestatic 291, 3) := by decide +kernel
theorem dX6_offBetween_12 : decode cX6_offBetween 12 = .ok (.iload_n 0, 1) := by decide +kernel
theorem dX6_offBetween_13 : decode cX6_offBetween 13 = .ok (.bipush 10, 2) := by decide +kernel
theorem dX6_offBetween_15 : decode cX6_offBetween 15 = .ok (.idiv, 1) := by decide +kernel
theorem dX6_offBetween_16 : decode cX6_offBetween 16 = .ok (.bipush 10, 2) := by decide +kernel
theorem dX6_offBetween_18 : decode cX6_offBetween 18 = .ok (.irem, 1) := by decide +kernel
theorem dX6_offBetween_19 : decode cX6_offBetween 19 = .ok (.iload_n 1, 1) := by decide +kernel
theorem dX6_offBetween_20 : decode cX6_offBetween 20 = .ok (.bipush 10, 2) := by decide +kernel
theorem dX6_offBetween_22 : decode cX6_offBetween 22 = .ok (.idiv, 1) := by decide +kernel
theorem dX6_offBetween_23 : decode cX6_offBetween 23 = .ok (.bipush 10, 2) := by decide +kernel
theorem dX6_offBetween_25 : decode cX6_offBetween 25 = .ok (.irem, 1) := by decide +kernel
theorem dX6_offBetween_26 : decode cX6_offBetween 26 = .ok (.isub, 1) := by decide +kernel
theorem dX6_offBetween_27 : decode cX6_offBetween 27 = .ok (.invokestatic 291, 3) := by decide +kernel
theorem dX6_offBetween_30 : decode cX6_offBetween 30 = .ok (.iadd, 1) := by decide +kernel
theorem dX6_offBetween_31 : decode cX6_offBetween 31 = .ok (.iload_n 0, 1) := by decide +kernel
theorem dX6_offBetween_32 : decode cX6_offBetween 32 = .ok (.bipush 10, 2) := by decide +kernel
theorem dX6_offBetween_34 : decode cX6_offBetween 34 = .ok (.irem, 1) := by decide +kernel
theorem dX6_offBetween_35 : decode cX6_offBetween 35 = .ok (.iload_n 1, 1) := by decide +kernel
theorem dX6_offBetween_36 : decode cX6_offBetween 36 = .ok (.bipush 10, 2) := by decide +kernel
theorem dX6_offBetween_38 : decode cX6_offBetween 38 = .ok (.irem, 1) := by decide +kernel
theorem dX6_offBetween_39 : decode cX6_offBetween 39 = .ok (.isub, 1) := by decide +kernel
theorem dX6_offBetween_40 : decode cX6_offBetween 40 = .ok (.invokestatic 291, 3) := by decide +kernel
theorem dX6_offBetween_43 : decode cX6_offBetween 43 = .ok (.iadd, 1) := by decide +kernel
theorem dX6_offBetween_44 : decode cX6_offBetween 44 = .ok (.ireturn, 1) := by decide +kernel
theorem dX6_sum_0 : decode cX6_sum 0 = .ok (.iconst 0, 1) := by decide +kernel
theorem dX6_sum_1 : decode cX6_sum 1 = .ok (.istore_n 3, 1) := by decide +kernel
theorem dX6_sum_2 : decode cX6_sum 2 = .ok (.iload_n 1, 1) := by decide +kernel
theorem dX6_sum_3 : decode cX6_sum 3 = .ok (.istore 4, 2) := by decide +kernel
theorem dX6_sum_5 : decode cX6_sum 5 = .ok (.iload 4, 2) := by decide +kernel
theorem dX6_sum_7 : decode cX6_sum 7 = .ok (.iload_n 1, 1) := by decide +kernel
theorem dX6_sum_8 : decode cX6_sum 8 = .ok (.iload_n 2, 1) := by decide +kernel
theorem dX6_sum_9 : decode cX6_sum 9 = .ok (.iadd, 1) := by decide +kernel
theorem dX6_sum_10 : decode cX6_sum 10 = .ok (.if_icmp .ge 23, 3) := by decide +kernel
theorem dX6_sum_13 : decode cX6_sum 13 = .ok (.iload 4, 2) := by decide +kernel
theorem dX6_sum_15 : decode cX6_sum 15 = .ok (.aload_n 0, 1) := by decide +kernel
theorem dX6_sum_16 : decode cX6_sum 16 = .ok (.arraylength, 1) := by decide +kernel
theorem dX6_sum_17 : decode cX6_sum 17 = .ok (.if_icmp .ge 16, 3) := by decide +kernel
theorem dX6_sum_20 : decode cX6_sum 20 = .ok (.iload_n 3, 1) := by decide +kernel
theorem dX6_sum_21 : decode cX6_sum 21 = .ok (.aload_n 0, 1) := by decide +kernel
theorem dX6_sum_22 : decode cX6_sum 22 = .ok (.iload 4, 2) := by decide +kernel
theorem dX6_sum_24 : decode cX6_sum 24 = .ok (.iaload, 1) := by decide +kernel
theorem dX6_sum_25 : decode cX6_sum 25 = .ok (.iadd, 1) := by decide +kernel
theorem dX6_sum_26 : decode cX6_sum 26 = .ok (.istore_n 3, 1) := by decide +kernel
theorem dX6_sum_27 : decode cX6_sum 27 = .ok (.iinc 4 1, 3) := by decide +kernel
theorem dX6_sum_30 : decode cX6_sum 30 = .ok (.goto (-25), 3) := by decide +kernel
theorem dX6_sum_33 : decode cX6_sum 33 = .ok (.iload_n 3, 1) := by decide +kernel
theorem dX6_sum_34 : decode cX6_sum 34 = .ok (.ireturn, 1) := by decide +kernel
theorem dX6_mostToAlter_0 : decode cX6_mostToAlter 0 = .ok (.iload_n 0, 1) := by decide +kernel
theorem dX6_mostToAlter_1 : decode cX6_mostToAlter 1 = .ok (.ifCond .ne 5, 3) := by decide +kernel
theorem dX6_mostToAlter_4 : decode cX6_mostToAlter 4 = .ok (.iconst 3, 1) := by decide +kernel
theorem dX6_mostToAlter_5 : decode cX6_mostToAlter 5 = .ok (.ireturn, 1) := by decide +kernel
theorem dX6_mostToAlter_6 : decode cX6_mostToAlter 6 = .ok (.iload_n 0, 1) := by decide +kernel
theorem dX6_mostToAlter_7 : decode cX6_mostToAlter 7 = .ok (.iconst 4, 1) := by decide +kernel
theorem dX6_mostToAlter_8 : decode cX6_mostToAlter 8 = .ok (.if_icmp .ne 8, 3) := by decide +kernel
theorem dX6_mostToAlter_11 : decode cX6_mostToAlter 11 = .ok (.bipush 99, 2) := by decide +kernel
theorem dX6_mostToAlter_13 : decode cX6_mostToAlter 13 = .ok (.goto 5, 3) := by decide +kernel
theorem dX6_mostToAlter_16 : decode cX6_mostToAlter 16 = .ok (.bipush 9, 2) := by decide +kernel
theorem dX6_mostToAlter_18 : decode cX6_mostToAlter 18 = .ok (.ireturn, 1) := by decide +kernel
theorem dX6_seizuresIfLent_0 : decode cX6_seizuresIfLent 0 = .ok (.aload_n 0, 1) := by decide +kernel
theorem dX6_seizuresIfLent_1 : decode cX6_seizuresIfLent 1 = .ok (.getfield 16, 3) := by decide +kernel
theorem dX6_seizuresIfLent_4 : decode cX6_seizuresIfLent 4 = .ok (.aload_n 0, 1) := by decide +kernel
theorem dX6_seizuresIfLent_5 : decode cX6_seizuresIfLent 5 = .ok (.getfield 10, 3) := by decide +kernel
theorem dX6_seizuresIfLent_8 : decode cX6_seizuresIfLent 8 = .ok (.invokevirtual 96, 3) := by decide +kernel
theorem dX6_seizuresIfLent_11 : decode cX6_seizuresIfLent 11 = .ok (.aload_n 0, 1) := by decide +kernel
theorem dX6_seizuresIfLent_12 : decode cX6_seizuresIfLent 12 = .ok (.getfield 16, 3) := by decide +kernel
theorem dX6_seizuresIfLent_15 : decode cX6_seizuresIfLent 15 = .ok (.getfield 156, 3) := by decide +kernel
theorem dX6_seizuresIfLent_18 : decode cX6_seizuresIfLent 18 = .ok (.iload_n 1, 1) := by decide +kernel
theorem dX6_seizuresIfLent_19 : decode cX6_seizuresIfLent 19 = .ok (.iconst 5, 1) := by decide +kernel
theorem dX6_seizuresIfLent_20 : decode cX6_seizuresIfLent 20 = .ok (.imul, 1) := by decide +kernel
theorem dX6_seizuresIfLent_21 : decode cX6_seizuresIfLent 21 = .ok (.iload_n 2, 1) := by decide +kernel
theorem dX6_seizuresIfLent_22 : decode cX6_seizuresIfLent 22 = .ok (.iadd, 1) := by decide +kernel
theorem dX6_seizuresIfLent_23 : decode cX6_seizuresIfLent 23 = .ok (.dup2, 1) := by decide +kernel
theorem dX6_seizuresIfLent_24 : decode cX6_seizuresIfLent 24 = .ok (.iaload, 1) := by decide +kernel
theorem dX6_seizuresIfLent_25 : decode cX6_seizuresIfLent 25 = .ok (.iload_n 3, 1) := by decide +kernel
theorem dX6_seizuresIfLent_26 : decode cX6_seizuresIfLent 26 = .ok (.iadd, 1) := by decide +kernel
theorem dX6_seizuresIfLent_27 : decode cX6_seizuresIfLent 27 = .ok (.iastore, 1) := by decide +kernel
theorem dX6_seizuresIfLent_28 : decode cX6_seizuresIfLent 28 = .ok (.aload_n 0, 1) := by decide +kernel
theorem dX6_seizuresIfLent_29 : decode cX6_seizuresIfLent 29 = .ok (.getfield 16, 3) := by decide +kernel
theorem dX6_seizuresIfLent_32 : decode cX6_seizuresIfLent 32 = .ok (.iload_n 1, 1) := by decide +kernel
theorem dX6_seizuresIfLent_33 : decode cX6_seizuresIfLent 33 = .ok (.bipush 10, 2) := by decide +kernel
theorem dX6_seizuresIfLent_35 : decode cX6_seizuresIfLent 35 = .ok (.invokevirtual 197, 3) := by decide +kernel
theorem dX6_seizuresIfLent_38 : decode cX6_seizuresIfLent 38 = .ok (.aload_n 0, 1) := by decide +kernel
theorem dX6_seizuresIfLent_39 : decode cX6_seizuresIfLent 39 = .ok (.getfield 16, 3) := by decide +kernel
theorem dX6_seizuresIfLent_42 : decode cX6_seizuresIfLent 42 = .ok (.getfield 112, 3) := by decide +kernel
theorem dX6_seizuresIfLent_45 : decode cX6_seizuresIfLent 45 = .ok (.aload_n 0, 1) := by decide +kernel
theorem dX6_seizuresIfLent_46 : decode cX6_seizuresIfLent 46 = .ok (.getfield 10, 3) := by decide +kernel
theorem dX6_seizuresIfLent_49 : decode cX6_seizuresIfLent 49 = .ok (.getfield 112, 3) := by decide +kernel
theorem dX6_seizuresIfLent_52 : decode cX6_seizuresIfLent 52 = .ok (.isub, 1) := by decide +kernel
theorem dX6_seizuresIfLent_53 : decode cX6_seizuresIfLent 53 = .ok (.ireturn, 1) := by decide +kernel
theorem dX6_seizuresIfExchanged_0 : decode cX6_seizuresIfExchanged 0 = .ok (.aload_n 0, 1) := by decide +kernel
theorem dX6_seizuresIfExchanged_1 : decode cX6_seizuresIfExchanged 1 = .ok (.getfield 16, 3) := by decide +kernel
theorem dX6_seizuresIfExchanged_4 : decode cX6_seizuresIfExchanged 4 = .ok (.aload_n 0, 1) := by decide +kernel
theorem dX6_seizuresIfExchanged_5 : decode cX6_seizuresIfExchanged 5 = .ok (.getfield 10, 3) := by decide +kernel
theorem dX6_seizuresIfExchanged_8 : decode cX6_seizuresIfExchanged 8 = .ok (.invokevirtual 96, 3) := by decide +kernel
theorem dX6_seizuresIfExchanged_11 : decode cX6_seizuresIfExchanged 11 = .ok (.iconst 0, 1) := by decide +kernel
theorem dX6_seizuresIfExchanged_12 : decode cX6_seizuresIfExchanged 12 = .ok (.istore_n 3, 1) := by decide +kernel
theorem dX6_seizuresIfExchanged_13 : decode cX6_seizuresIfExchanged 13 = .ok (.iload_n 3, 1) := by decide +kernel
theorem dX6_seizuresIfExchanged_14 : decode cX6_seizuresIfExchanged 14 = .ok (.iconst 5, 1) := by decide +kernel
theorem dX6_seizuresIfExchanged_15 : decode cX6_seizuresIfExchanged 15 = .ok (.if_icmp .ge 61, 3) := by decide +kernel
theorem dX6_seizuresIfExchanged_18 : decode cX6_seizuresIfExchanged 18 = .ok (.aload_n 0, 1) := by decide +kernel
theorem dX6_seizuresIfExchanged_19 : decode cX6_seizuresIfExchanged 19 = .ok (.getfield 16, 3) := by decide +kernel
theorem dX6_seizuresIfExchanged_22 : decode cX6_seizuresIfExchanged 22 = .ok (.getfield 156, 3) := by decide +kernel
theorem dX6_seizuresIfExchanged_25 : decode cX6_seizuresIfExchanged 25 = .ok (.iload_n 1, 1) := by decide +kernel
theorem dX6_seizuresIfExchanged_26 : decode cX6_seizuresIfExchanged 26 = .ok (.iconst 5, 1) := by decide +kernel
theorem dX6_seizuresIfExchanged_27 : decode cX6_seizuresIfExchanged 27 = .ok (.imul, 1) := by decide +kernel
theorem dX6_seizuresIfExchanged_28 : decode cX6_seizuresIfExchanged 28 = .ok (.iload_n 3, 1) := by decide +kernel
theorem dX6_seizuresIfExchanged_29 : decode cX6_seizuresIfExchanged 29 = .ok (.iadd, 1) := by decide +kernel
theorem dX6_seizuresIfExchanged_30 : decode cX6_seizuresIfExchanged 30 = .ok (.aload_n 0, 1) := by decide +kernel
theorem dX6_seizuresIfExchanged_31 : decode cX6_seizuresIfExchanged 31 = .ok (.getfield 10, 3) := by decide +kernel
theorem dX6_seizuresIfExchanged_34 : decode cX6_seizuresIfExchanged 34 = .ok (.getfield 156, 3) := by decide +kernel
theorem dX6_seizuresIfExchanged_37 : decode cX6_seizuresIfExchanged 37 = .ok (.iload_n 2, 1) := by decide +kernel
theorem dX6_seizuresIfExchanged_38 : decode cX6_seizuresIfExchanged 38 = .ok (.iconst 5, 1) := by decide +kernel
theorem dX6_seizuresIfExchanged_39 : decode cX6_seizuresIfExchanged 39 = .ok (.imul, 1) := by decide +kernel
theorem dX6_seizuresIfExchanged_40 : decode cX6_seizuresIfExchanged 40 = .ok (.iload_n 3, 1) := by decide +kernel
theorem dX6_seizuresIfExchanged_41 : decode cX6_seizuresIfExchanged 41 = .ok (.iadd, 1) := by decide +kernel
theorem dX6_seizuresIfExchanged_42 : decode cX6_seizuresIfExchanged 42 = .ok (.iaload, 1) := by decide +kernel
theorem dX6_seizuresIfExchanged_43 : decode cX6_seizuresIfExchanged 43 = .ok (.iastore, 1) := by decide +kernel
theorem dX6_seizuresIfExchanged_44 : decode cX6_seizuresIfExchanged 44 = .ok (.aload_n 0, 1) := by decide +kernel
theorem dX6_seizuresIfExchanged_45 : decode cX6_seizuresIfExchanged 45 = .ok (.getfield 16, 3) := by decide +kernel
theorem dX6_seizuresIfExchanged_48 : decode cX6_seizuresIfExchanged 48 = .ok (.getfield 156, 3) := by decide +kernel
theorem dX6_seizuresIfExchanged_51 : decode cX6_seizuresIfExchanged 51 = .ok (.iload_n 2, 1) := by decide +kernel
theorem dX6_seizuresIfExchanged_52 : decode cX6_seizuresIfExchanged 52 = .ok (.iconst 5, 1) := by decide +kernel
theorem dX6_seizuresIfExchanged_53 : decode cX6_seizuresIfExchanged 53 = .ok (.imul, 1) := by decide +kernel
theorem dX6_seizuresIfExchanged_54 : decode cX6_seizuresIfExchanged 54 = .ok (.iload_n 3, 1) := by decide +kernel
theorem dX6_seizuresIfExchanged_55 : decode cX6_seizuresIfExchanged 55 = .ok (.iadd, 1) := by decide +kernel
theorem dX6_seizuresIfExchanged_56 : decode cX6_seizuresIfExchanged 56 = .ok (.aload_n 0, 1) := by decide +kernel
theorem dX6_seizuresIfExchanged_57 : decode cX6_seizuresIfExchanged 57 = .ok (.getfield 10, 3) := by decide +kernel
theorem dX6_seizuresIfExchanged_60 : decode cX6_seizuresIfExchanged 60 = .ok (.getfield 156, 3) := by decide +kernel
theorem dX6_seizuresIfExchanged_63 : decode cX6_seizuresIfExchanged 63 = .ok (.iload_n 1, 1) := by decide +kernel
theorem dX6_seizuresIfExchanged_64 : decode cX6_seizuresIfExchanged 64 = .ok (.iconst 5, 1) := by decide +kernel
theorem dX6_seizuresIfExchanged_65 : decode cX6_seizuresIfExchanged 65 = .ok (.imul, 1) := by decide +kernel
theorem dX6_seizuresIfExchanged_66 : decode cX6_seizuresIfExchanged 66 = .ok (.iload_n 3, 1) := by decide +kernel
theorem dX6_seizuresIfExchanged_67 : decode cX6_seizuresIfExchanged 67 = .ok (.iadd, 1) := by decide +kernel
theorem dX6_seizuresIfExchanged_68 : decode cX6_seizuresIfExchanged 68 = .ok (.iaload, 1) := by decide +kernel
theorem dX6_seizuresIfExchanged_69 : decode cX6_seizuresIfExchanged 69 = .ok (.iastore, 1) := by decide +kernel
theorem dX6_seizuresIfExchanged_70 : decode cX6_seizuresIfExchanged 70 = .ok (.iinc 3 1, 3) := by decide +kernel
theorem dX6_seizuresIfExchanged_73 : decode cX6_seizuresIfExchanged 73 = .ok (.goto (-60), 3) := by decide +kernel
theorem dX6_seizuresIfExchanged_76 : decode cX6_seizuresIfExchanged 76 = .ok (.aload_n 0, 1) := by decide +kernel
theorem dX6_seizuresIfExchanged_77 : decode cX6_seizuresIfExchanged 77 = .ok (.getfield 16, 3) := by decide +kernel
theorem dX6_seizuresIfExchanged_80 : decode cX6_seizuresIfExchanged 80 = .ok (.bipush 20, 2) := by decide +kernel
theorem dX6_seizuresIfExchanged_82 : decode cX6_seizuresIfExchanged 82 = .ok (.invokevirtual 187, 3) := by decide +kernel
theorem dX6_seizuresIfExchanged_85 : decode cX6_seizuresIfExchanged 85 = .ok (.aload_n 0, 1) := by decide +kernel
theorem dX6_seizuresIfExchanged_86 : decode cX6_seizuresIfExchanged 86 = .ok (.getfield 16, 3) := by decide +kernel
theorem dX6_seizuresIfExchanged_89 : decode cX6_seizuresIfExchanged 89 = .ok (.getfield 112, 3) := by decide +kernel
theorem dX6_seizuresIfExchanged_92 : decode cX6_seizuresIfExchanged 92 = .ok (.aload_n 0, 1) := by decide +kernel
theorem dX6_seizuresIfExchanged_93 : decode cX6_seizuresIfExchanged 93 = .ok (.getfield 10, 3) := by decide +kernel
theorem dX6_seizuresIfExchanged_96 : decode cX6_seizuresIfExchanged 96 = .ok (.getfield 112, 3) := by decide +kernel
theorem dX6_seizuresIfExchanged_99 : decode cX6_seizuresIfExchanged 99 = .ok (.isub, 1) := by decide +kernel
theorem dX6_seizuresIfExchanged_100 : decode cX6_seizuresIfExchanged 100 = .ok (.ireturn, 1) := by decide +kernel
theorem dX6_keepsAll_0 : decode cX6_keepsAll 0 = .ok (.aload_n 0, 1) := by decide +kernel
theorem dX6_keepsAll_1 : decode cX6_keepsAll 1 = .ok (.getfield 16, 3) := by decide +kernel
theorem dX6_keepsAll_4 : decode cX6_keepsAll 4 = .ok (.aload_n 0, 1) := by decide +kernel
theorem dX6_keepsAll_5 : decode cX6_keepsAll 5 = .ok (.getfield 10, 3) := by decide +kernel
theorem dX6_keepsAll_8 : decode cX6_keepsAll 8 = .ok (.invokevirtual 96, 3) := by decide +kernel
theorem dX6_keepsAll_11 : decode cX6_keepsAll 11 = .ok (.aload_n 0, 1) := by decide +kernel
theorem dX6_keepsAll_12 : decode cX6_keepsAll 12 = .ok (.getfield 16, 3) := by decide +kernel
theorem dX6_keepsAll_15 : decode cX6_keepsAll 15 = .ok (.getfield 147, 3) := by decide +kernel
theorem dX6_keepsAll_18 : decode cX6_keepsAll 18 = .ok (.iload_n 1, 1) := by decide +kernel
theorem dX6_keepsAll_19 : decode cX6_keepsAll 19 = .ok (.iload_n 3, 1) := by decide +kernel
theorem dX6_keepsAll_20 : decode cX6_keepsAll 20 = .ok (.iastore, 1) := by decide +kernel
theorem dX6_keepsAll_21 : decode cX6_keepsAll 21 = .ok (.iconst 0, 1) := by decide +kernel
theorem dX6_keepsAll_22 : decode cX6_keepsAll 22 = .ok (.istore 4, 2) := by decide +kernel
theorem dX6_keepsAll_24 : decode cX6_keepsAll 24 = .ok (.iload 4, 2) := by decide +kernel
theorem dX6_keepsAll_26 : decode cX6_keepsAll 26 = .ok (.iload_n 2, 1) := by decide +kernel
theorem dX6_keepsAll_27 : decode cX6_keepsAll 27 = .ok (.if_icmp .ge 37, 3) := by decide +kernel
theorem dX6_keepsAll_30 : decode cX6_keepsAll 30 = .ok (.aload_n 0, 1) := by decide +kernel
theorem dX6_keepsAll_31 : decode cX6_keepsAll 31 = .ok (.getfield 16, 3) := by decide +kernel
theorem dX6_keepsAll_34 : decode cX6_keepsAll 34 = .ok (.iload_n 1, 1) := by decide +kernel
theorem dX6_keepsAll_35 : decode cX6_keepsAll 35 = .ok (.iconst 1, 1) := by decide +kernel
theorem dX6_keepsAll_36 : decode cX6_keepsAll 36 = .ok (.invokevirtual 201, 3) := by decide +kernel
theorem dX6_keepsAll_39 : decode cX6_keepsAll 39 = .ok (.aload_n 0, 1) := by decide +kernel
theorem dX6_keepsAll_40 : decode cX6_keepsAll 40 = .ok (.getfield 16, 3) := by decide +kernel
theorem dX6_keepsAll_43 : decode cX6_keepsAll 43 = .ok (.getfield 112, 3) := by decide +kernel
theorem dX6_keepsAll_46 : decode cX6_keepsAll 46 = .ok (.aload_n 0, 1) := by decide +kernel
theorem dX6_keepsAll_47 : decode cX6_keepsAll 47 = .ok (.getfield 10, 3) := by decide +kernel
theorem dX6_keepsAll_50 : decode cX6_keepsAll 50 = .ok (.getfield 112, 3) := by decide +kernel
theorem dX6_keepsAll_53 : decode cX6_keepsAll 53 = .ok (.if_icmp .le 5, 3) := by decide +kernel
theorem dX6_keepsAll_56 : decode cX6_keepsAll 56 = .ok (.iconst 0, 1) := by decide +kernel
theorem dX6_keepsAll_57 : decode cX6_keepsAll 57 = .ok (.ireturn, 1) := by decide +kernel
theorem dX6_keepsAll_58 : decode cX6_keepsAll 58 = .ok (.iinc 4 1, 3) := by decide +kernel
theorem dX6_keepsAll_61 : decode cX6_keepsAll 61 = .ok (.goto (-37), 3) := by decide +kernel
theorem dX6_keepsAll_64 : decode cX6_keepsAll 64 = .ok (.iconst 1, 1) := by decide +kernel
theorem dX6_keepsAll_65 : decode cX6_keepsAll 65 = .ok (.ireturn, 1) := by decide +kernel
theorem dX6_kindsLeft_0 : decode cX6_kindsLeft 0 = .ok (.iconst 0, 1) := by decide +kernel
theorem dX6_kindsLeft_1 : decode cX6_kindsLeft 1 = .ok (.istore_n 2, 1) := by decide +kernel
theorem dX6_kindsLeft_2 : decode cX6_kindsLeft 2 = .ok (.iconst 0, 1) := by decide +kernel
theorem dX6_kindsLeft_3 : decode cX6_kindsLeft 3 = .ok (.istore_n 3, 1) := by decide +kernel
theorem dX6_kindsLeft_4 : decode cX6_kindsLeft 4 = .ok (.iload_n 3, 1) := by decide +kernel
theorem dX6_kindsLeft_5 : decode cX6_kindsLeft 5 = .ok (.iconst 4, 1) := by decide +kernel
theorem dX6_kindsLeft_6 : decode cX6_kindsLeft 6 = .ok (.if_icmp .ge 50, 3) := by decide +kernel
theorem dX6_kindsLeft_9 : decode cX6_kindsLeft 9 = .ok (.aload_n 0, 1) := by decide +kernel
theorem dX6_kindsLeft_10 : decode cX6_kindsLeft 10 = .ok (.getfield 16, 3) := by decide +kernel
theorem dX6_kindsLeft_13 : decode cX6_kindsLeft 13 = .ok (.aload_n 0, 1) := by decide +kernel
theorem dX6_kindsLeft_14 : decode cX6_kindsLeft 14 = .ok (.getfield 10, 3) := by decide +kernel
theorem dX6_kindsLeft_17 : decode cX6_kindsLeft 17 = .ok (.invokevirtual 96, 3) := by decide +kernel
theorem dX6_kindsLeft_20 : decode cX6_kindsLeft 20 = .ok (.aload_n 0, 1) := by decide +kernel
theorem dX6_kindsLeft_21 : decode cX6_kindsLeft 21 = .ok (.getfield 16, 3) := by decide +kernel
theorem dX6_kindsLeft_24 : decode cX6_kindsLeft 24 = .ok (.getfield 125, 3) := by decide +kernel
theorem dX6_kindsLeft_27 : decode cX6_kindsLeft 27 = .ok (.iload_n 1, 1) := by decide +kernel
theorem dX6_kindsLeft_28 : decode cX6_kindsLeft 28 = .ok (.iload_n 3, 1) := by decide +kernel
theorem dX6_kindsLeft_29 : decode cX6_kindsLeft 29 = .ok (.iastore, 1) := by decide +kernel
theorem dX6_kindsLeft_30 : decode cX6_kindsLeft 30 = .ok (.aload_n 0, 1) := by decide +kernel
theorem dX6_kindsLeft_31 : decode cX6_kindsLeft 31 = .ok (.getfield 44, 3) := by decide +kernel
theorem dX6_kindsLeft_34 : decode cX6_kindsLeft 34 = .ok (.aload_n 0, 1) := by decide +kernel
theorem dX6_kindsLeft_35 : decode cX6_kindsLeft 35 = .ok (.getfield 16, 3) := by decide +kernel
theorem dX6_kindsLeft_38 : decode cX6_kindsLeft 38 = .ok (.invokevirtual 253, 3) := by decide +kernel
theorem dX6_kindsLeft_41 : decode cX6_kindsLeft 41 = .ok (.ifCond .eq 9, 3) := by decide +kernel
theorem dX6_kindsLeft_44 : decode cX6_kindsLeft 44 = .ok (.iload_n 2, 1) := by decide +kernel
theorem dX6_kindsLeft_45 : decode cX6_kindsLeft 45 = .ok (.iconst 1, 1) := by decide +kernel
theorem dX6_kindsLeft_46 : decode cX6_kindsLeft 46 = .ok (.iload_n 3, 1) := by decide +kernel
theorem dX6_kindsLeft_47 : decode cX6_kindsLeft 47 = .ok (.ishl, 1) := by decide +kernel
theorem dX6_kindsLeft_48 : decode cX6_kindsLeft 48 = .ok (.ior, 1) := by decide +kernel
theorem dX6_kindsLeft_49 : decode cX6_kindsLeft 49 = .ok (.istore_n 2, 1) := by decide +kernel
theorem dX6_kindsLeft_50 : decode cX6_kindsLeft 50 = .ok (.iinc 3 1, 3) := by decide +kernel
theorem dX6_kindsLeft_53 : decode cX6_kindsLeft 53 = .ok (.goto (-49), 3) := by decide +kernel
theorem dX6_kindsLeft_56 : decode cX6_kindsLeft 56 = .ok (.iload_n 2, 1) := by decide +kernel
theorem dX6_kindsLeft_57 : decode cX6_kindsLeft 57 = .ok (.ireturn, 1) := by decide +kernel
theorem dX6_worstLeft_0 : decode cX6_worstLeft 0 = .ok (.iconst 0, 1) := by decide +kernel
theorem dX6_worstLeft_1 : decode cX6_worstLeft 1 = .ok (.istore_n 3, 1) := by decide +kernel
theorem dX6_worstLeft_2 : decode cX6_worstLeft 2 = .ok (.iload_n 3, 1) := by decide +kernel
theorem dX6_worstLeft_3 : decode cX6_worstLeft 3 = .ok (.iconst 4, 1) := by decide +kernel
theorem dX6_worstLeft_4 : decode cX6_worstLeft 4 = .ok (.if_icmp .ge 25, 3) := by decide +kernel
theorem dX6_worstLeft_7 : decode cX6_worstLeft 7 = .ok (.aload_n 0, 1) := by decide +kernel
theorem dX6_worstLeft_8 : decode cX6_worstLeft 8 = .ok (.getfield 30, 3) := by decide +kernel
theorem dX6_worstLeft_11 : decode cX6_worstLeft 11 = .ok (.iload_n 3, 1) := by decide +kernel
theorem dX6_worstLeft_12 : decode cX6_worstLeft 12 = .ok (.aload_n 0, 1) := by decide +kernel
theorem dX6_worstLeft_13 : decode cX6_worstLeft 13 = .ok (.getfield 27, 3) := by decide +kernel
theorem dX6_worstLeft_16 : decode cX6_worstLeft 16 = .ok (.iload_n 3, 1) := by decide +kernel
theorem dX6_worstLeft_17 : decode cX6_worstLeft 17 = .ok (.aaload, 1) := by decide +kernel
theorem dX6_worstLeft_18 : decode cX6_worstLeft 18 = .ok (.iload_n 2, 1) := by decide +kernel
theorem dX6_worstLeft_19 : decode cX6_worstLeft 19 = .ok (.invokevirtual 150, 3) := by decide +kernel
theorem dX6_worstLeft_22 : decode cX6_worstLeft 22 = .ok (.iastore, 1) := by decide +kernel
theorem dX6_worstLeft_23 : decode cX6_worstLeft 23 = .ok (.iinc 3 1, 3) := by decide +kernel
theorem dX6_worstLeft_26 : decode cX6_worstLeft 26 = .ok (.goto (-24), 3) := by decide +kernel
theorem dX6_worstLeft_29 : decode cX6_worstLeft 29 = .ok (.iconst 0, 1) := by decide +kernel
theorem dX6_worstLeft_30 : decode cX6_worstLeft 30 = .ok (.istore_n 3, 1) := by decide +kernel
theorem dX6_worstLeft_31 : decode cX6_worstLeft 31 = .ok (.iconst 0, 1) := by decide +kernel
theorem dX6_worstLeft_32 : decode cX6_worstLeft 32 = .ok (.istore 4, 2) := by decide +kernel
theorem dX6_worstLeft_34 : decode cX6_worstLeft 34 = .ok (.iload 4, 2) := by decide +kernel
theorem dX6_worstLeft_36 : decode cX6_worstLeft 36 = .ok (.iconst 4, 1) := by decide +kernel
theorem dX6_worstLeft_37 : decode cX6_worstLeft 37 = .ok (.if_icmp .ge 72, 3) := by decide +kernel
theorem dX6_worstLeft_40 : decode cX6_worstLeft 40 = .ok (.iconst 0, 1) := by decide +kernel
theorem dX6_worstLeft_41 : decode cX6_worstLeft 41 = .ok (.istore 5, 2) := by decide +kernel
theorem dX6_worstLeft_43 : decode cX6_worstLeft 43 = .ok (.iconst 0, 1) := by decide +kernel
theorem dX6_worstLeft_44 : decode cX6_worstLeft 44 = .ok (.istore 6, 2) := by decide +kernel
theorem dX6_worstLeft_46 : decode cX6_worstLeft 46 = .ok (.iload 6, 2) := by decide +kernel
theorem dX6_worstLeft_48 : decode cX6_worstLeft 48 = .ok (.iconst 4, 1) := by decide +kernel
theorem dX6_worstLeft_49 : decode cX6_worstLeft 49 = .ok (.if_icmp .ge 47, 3) := by decide +kernel
theorem dX6_worstLeft_52 : decode cX6_worstLeft 52 = .ok (.iload_n 1, 1) := by decide +kernel
theorem dX6_worstLeft_53 : decode cX6_worstLeft 53 = .ok (.iload 4, 2) := by decide +kernel
theorem dX6_worstLeft_55 : decode cX6_worstLeft 55 = .ok (.invokestatic 294, 3) := by decide +kernel
theorem dX6_worstLeft_58 : decode cX6_worstLeft 58 = .ok (.ifCond .eq 32, 3) := by decide +kernel
theorem dX6_worstLeft_61 : decode cX6_worstLeft 61 = .ok (.iload_n 1, 1) := by decide +kernel
theorem dX6_worstLeft_62 : decode cX6_worstLeft 62 = .ok (.iload 6, 2) := by decide +kernel
theorem dX6_worstLeft_64 : decode cX6_worstLeft 64 = .ok (.invokestatic 294, 3) := by decide +kernel
theorem dX6_worstLeft_67 : decode cX6_worstLeft 67 = .ok (.ifCond .eq 23, 3) := by decide +kernel
theorem dX6_worstLeft_70 : decode cX6_worstLeft 70 = .ok (.aload_n 0, 1) := by decide +kernel
theorem dX6_worstLeft_71 : decode cX6_worstLeft 71 = .ok (.getfield 30, 3) := by decide +kernel
theorem dX6_worstLeft_74 : decode cX6_worstLeft 74 = .ok (.iload 6, 2) := by decide +kernel
theorem dX6_worstLeft_76 : decode cX6_worstLeft 76 = .ok (.iaload, 1) := by decide +kernel
theorem dX6_worstLeft_77 : decode cX6_worstLeft 77 = .ok (.aload_n 0, 1) := by decide +kernel
theorem dX6_worstLeft_78 : decode cX6_worstLeft 78 = .ok (.getfield 30, 3) := by decide +kernel
theorem dX6_worstLeft_81 : decode cX6_worstLeft 81 = .ok (.iload 4, 2) := by decide +kernel
theorem dX6_worstLeft_83 : decode cX6_worstLeft 83 = .ok (.iaload, 1) := by decide +kernel
theorem dX6_worstLeft_84 : decode cX6_worstLeft 84 = .ok (.if_icmp .ne 6, 3) := by decide +kernel
theorem dX6_worstLeft_87 : decode cX6_worstLeft 87 = .ok (.iinc 5 1, 3) := by decide +kernel
theorem dX6_worstLeft_90 : decode cX6_worstLeft 90 = .ok (.iinc 6 1, 3) := by decide +kernel
theorem dX6_worstLeft_93 : decode cX6_worstLeft 93 = .ok (.goto (-47), 3) := by decide +kernel
theorem dX6_worstLeft_96 : decode cX6_worstLeft 96 = .ok (.iload_n 3, 1) := by decide +kernel
theorem dX6_worstLeft_97 : decode cX6_worstLeft 97 = .ok (.iload 5, 2) := by decide +kernel
theorem dX6_worstLeft_99 : decode cX6_worstLeft 99 = .ok (.invokestatic 298, 3) := by decide +kernel
theorem dX6_worstLeft_102 : decode cX6_worstLeft 102 = .ok (.istore_n 3, 1) := by decide +kernel
theorem dX6_worstLeft_103 : decode cX6_worstLeft 103 = .ok (.iinc 4 1, 3) := by decide +kernel
theorem dX6_worstLeft_106 : decode cX6_worstLeft 106 = .ok (.goto (-72), 3) := by decide +kernel
theorem dX6_worstLeft_109 : decode cX6_worstLeft 109 = .ok (.iload_n 3, 1) := by decide +kernel
theorem dX6_worstLeft_110 : decode cX6_worstLeft 110 = .ok (.ireturn, 1) := by decide +kernel
theorem dX6_lendOnTrial_0 : decode cX6_lendOnTrial 0 = .ok (.iload_n 2, 1) := by decide +kernel
theorem dX6_lendOnTrial_1 : decode cX6_lendOnTrial 1 = .ok (.ifCond .lt 11, 3) := by decide +kernel
theorem dX6_lendOnTrial_4 : decode cX6_lendOnTrial 4 = .ok (.iload_n 2, 1) := by decide +kernel
theorem dX6_lendOnTrial_5 : decode cX6_lendOnTrial 5 = .ok (.aload_n 1, 1) := by decide +kernel
theorem dX6_lendOnTrial_6 : decode cX6_lendOnTrial 6 = .ok (.arraylength, 1) := by decide +kernel
theorem dX6_lendOnTrial_7 : decode cX6_lendOnTrial 7 = .ok (.iconst 3, 1) := by decide +kernel
theorem dX6_lendOnTrial_8 : decode cX6_lendOnTrial 8 = .ok (.isub, 1) := by decide +kernel
theorem dX6_lendOnTrial_9 : decode cX6_lendOnTrial 9 = .ok (.if_icmp .le 5, 3) := by decide +kernel
theorem dX6_lendOnTrial_12 : decode cX6_lendOnTrial 12 = .ok (.iconst 0, 1) := by decide +kernel
theorem dX6_lendOnTrial_13 : decode cX6_lendOnTrial 13 = .ok (.ireturn, 1) := by decide +kernel
theorem dX6_lendOnTrial_14 : decode cX6_lendOnTrial 14 = .ok (.aload_n 0, 1) := by decide +kernel
theorem dX6_lendOnTrial_15 : decode cX6_lendOnTrial 15 = .ok (.getfield 16, 3) := by decide +kernel
theorem dX6_lendOnTrial_18 : decode cX6_lendOnTrial 18 = .ok (.aload_n 1, 1) := by decide +kernel
theorem dX6_lendOnTrial_19 : decode cX6_lendOnTrial 19 = .ok (.iload_n 2, 1) := by decide +kernel
theorem dX6_lendOnTrial_20 : decode cX6_lendOnTrial 20 = .ok (.iaload, 1) := by decide +kernel
theorem dX6_lendOnTrial_21 : decode cX6_lendOnTrial 21 = .ok (.aload_n 1, 1) := by decide +kernel
theorem dX6_lendOnTrial_22 : decode cX6_lendOnTrial 22 = .ok (.iload_n 2, 1) := by decide +kernel
theorem dX6_lendOnTrial_23 : decode cX6_lendOnTrial 23 = .ok (.iconst 1, 1) := by decide +kernel
theorem dX6_lendOnTrial_24 : decode cX6_lendOnTrial 24 = .ok (.iadd, 1) := by decide +kernel
theorem dX6_lendOnTrial_25 : decode cX6_lendOnTrial 25 = .ok (.iaload, 1) := by decide +kernel
theorem dX6_lendOnTrial_26 : decode cX6_lendOnTrial 26 = .ok (.aload_n 1, 1) := by decide +kernel
theorem dX6_lendOnTrial_27 : decode cX6_lendOnTrial 27 = .ok (.iload_n 2, 1) := by decide +kernel
theorem dX6_lendOnTrial_28 : decode cX6_lendOnTrial 28 = .ok (.iconst 2, 1) := by decide +kernel
theorem dX6_lendOnTrial_29 : decode cX6_lendOnTrial 29 = .ok (.iadd, 1) := by decide +kernel
theorem dX6_lendOnTrial_30 : decode cX6_lendOnTrial 30 = .ok (.iaload, 1) := by decide +kernel
theorem dX6_lendOnTrial_31 : decode cX6_lendOnTrial 31 = .ok (.invokevirtual 179, 3) := by decide +kernel
theorem dX6_lendOnTrial_34 : decode cX6_lendOnTrial 34 = .ok (.ifCond .lt 7, 3) := by decide +kernel
theorem dX6_lendOnTrial_37 : decode cX6_lendOnTrial 37 = .ok (.iconst 1, 1) := by decide +kernel
theorem dX6_lendOnTrial_38 : decode cX6_lendOnTrial 38 = .ok (.goto 4, 3) := by decide +kernel
theorem dX6_lendOnTrial_41 : decode cX6_lendOnTrial 41 = .ok (.iconst 0, 1) := by decide +kernel
theorem dX6_lendOnTrial_42 : decode cX6_lendOnTrial 42 = .ok (.ireturn, 1) := by decide +kernel
