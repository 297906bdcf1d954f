theorem dX7_readLine_92 : decode cX7_readLine 92 = .ok (.iload_n 1, 1) := by decide +kernel
theorem dX7_readLine_93 : decode cX7_readLine 93 = .ok (.invokestatic 198, 3) := by decide +kernel
theorem dX7_readLine_96 : decode cX7_readLine 96 = .ok (.i2l, 1) := by decide +kernel
theorem dX7_readLine_97 : decode cX7_readLine 97 = .ok (.iload_n 1, 1) := by decide +kernel
theorem dX7_readLine_98 : decode cX7_readLine 98 = .ok (.invokestatic 201, 3) := by decide +kernel
theorem dX7_readLine_101 : decode cX7_readLine 101 = .ok (.i2l, 1) := by decide +kernel
theorem dX7_readLine_102 : decode cX7_readLine 102 = .ok (.invokestatic 102, 3) := by decide +kernel
theorem dX7_readLine_105 : decode cX7_readLine 105 = .ok (.iconst 3, 1) := by decide +kernel
theorem dX7_readLine_106 : decode cX7_readLine 106 = .ok (.invokevirtual 187, 3) := by decide +kernel
theorem dX7_readLine_109 : decode cX7_readLine 109 = .ok (.aload_n 0, 1) := by decide +kernel
theorem dX7_readLine_110 : decode cX7_readLine 110 = .ok (.getfield 184, 3) := by decide +kernel
theorem dX7_readLine_113 : decode cX7_readLine 113 = .ok (.istore_n 2, 1) := by decide +kernel
theorem dX7_readLine_114 : decode cX7_readLine 114 = .ok (.aload_n 0, 1) := by decide +kernel
theorem dX7_readLine_115 : decode cX7_readLine 115 = .ok (.invokevirtual 195, 3) := by decide +kernel
theorem dX7_readLine_118 : decode cX7_readLine 118 = .ok (.aload_n 0, 1) := by decide +kernel
theorem dX7_readLine_119 : decode cX7_readLine 119 = .ok (.getfield 154, 3) := by decide +kernel
theorem dX7_readLine_122 : decode cX7_readLine 122 = .ok (.ifCond .ne 21, 3) := by decide +kernel
theorem dX7_readLine_125 : decode cX7_readLine 125 = .ok (.aload_n 0, 1) := by decide +kernel
theorem dX7_readLine_126 : decode cX7_readLine 126 = .ok (.aload_n 0, 1) := by decide +kernel
theorem dX7_readLine_127 : decode cX7_readLine 127 = .ok (.getfield 173, 3) := by decide +kernel
theorem dX7_readLine_130 : decode cX7_readLine 130 = .ok (.iconst 3, 1) := by decide +kernel
theorem dX7_readLine_131 : decode cX7_readLine 131 = .ok (.if_icmp .ne 7, 3) := by decide +kernel
theorem dX7_readLine_134 : decode cX7_readLine 134 = .ok (.iconst 1, 1) := by decide +kernel
theorem dX7_readLine_135 : decode cX7_readLine 135 = .ok (.goto 4, 3) := by decide +kernel
theorem dX7_readLine_138 : decode cX7_readLine 138 = .ok (.iconst 0, 1) := by decide +kernel
theorem dX7_readLine_139 : decode cX7_readLine 139 = .ok (.iconst 2, 1) := by decide +kernel
theorem dX7_readLine_140 : decode cX7_readLine 140 = .ok (.invokevirtual 187, 3) := by decide +kernel
theorem dX7_readLine_143 : decode cX7_readLine 143 = .ok (.aload_n 0, 1) := by decide +kernel
theorem dX7_readLine_144 : decode cX7_readLine 144 = .ok (.getfield 154, 3) := by decide +kernel
theorem dX7_readLine_147 : decode cX7_readLine 147 = .ok (.ifCond .ne 17, 3) := by decide +kernel
theorem dX7_readLine_150 : decode cX7_readLine 150 = .ok (.aload_n 0, 1) := by decide +kernel
theorem dX7_readLine_151 : decode cX7_readLine 151 = .ok (.getfield 47, 3) := by decide +kernel
theorem dX7_readLine_154 : decode cX7_readLine 154 = .ok (.iload_n 1, 1) := by decide +kernel
theorem dX7_readLine_155 : decode cX7_readLine 155 = .ok (.iconst 1, 1) := by decide +kernel
theorem dX7_readLine_156 : decode cX7_readLine 156 = .ok (.bastore, 1) := by decide +kernel
theorem dX7_readLine_157 : decode cX7_readLine 157 = .ok (.aload_n 0, 1) := by decide +kernel
theorem dX7_readLine_158 : decode cX7_readLine 158 = .ok (.getfield 44, 3) := by decide +kernel
theorem dX7_readLine_161 : decode cX7_readLine 161 = .ok (.iload_n 1, 1) := by decide +kernel
theorem dX7_readLine_162 : decode cX7_readLine 162 = .ok (.iload_n 2, 1) := by decide +kernel
theorem dX7_readLine_163 : decode cX7_readLine 163 = .ok (.iastore, 1) := by decide +kernel
theorem dX7_readLine_164 : decode cX7_readLine 164 = .ok (.aload_n 0, 1) := by decide +kernel
theorem dX7_readLine_165 : decode cX7_readLine 165 = .ok (.invokevirtual 195, 3) := by decide +kernel
theorem dX7_readLine_168 : decode cX7_readLine 168 = .ok (.return_, 1) := by decide +kernel
theorem dX7_rules_0 : decode cX7_rules 0 = .ok (.iconst 0, 1) := by decide +kernel
theorem dX7_rules_1 : decode cX7_rules 1 = .ok (.istore_n 1, 1) := by decide +kernel
theorem dX7_rules_2 : decode cX7_rules 2 = .ok (.aload_n 0, 1) := by decide +kernel
theorem dX7_rules_3 : decode cX7_rules 3 = .ok (.iconst 0, 1) := by decide +kernel
theorem dX7_rules_4 : decode cX7_rules 4 = .ok (.putfield 154, 3) := by decide +kernel
theorem dX7_rules_7 : decode cX7_rules 7 = .ok (.aload_n 0, 1) := by decide +kernel
theorem dX7_rules_8 : decode cX7_rules 8 = .ok (.iconst 0, 1) := by decide +kernel
theorem dX7_rules_9 : decode cX7_rules 9 = .ok (.putfield 163, 3) := by decide +kernel
theorem dX7_rules_12 : decode cX7_rules 12 = .ok (.aload_n 0, 1) := by decide +kernel
theorem dX7_rules_13 : decode cX7_rules 13 = .ok (.invokevirtual 92, 3) := by decide +kernel
theorem dX7_rules_16 : decode cX7_rules 16 = .ok (.aload_n 0, 1) := by decide +kernel
theorem dX7_rules_17 : decode cX7_rules 17 = .ok (.invokevirtual 195, 3) := by decide +kernel
theorem dX7_rules_20 : decode cX7_rules 20 = .ok (.aload_n 0, 1) := by decide +kernel
theorem dX7_rules_21 : decode cX7_rules 21 = .ok (.getfield 154, 3) := by decide +kernel
theorem dX7_rules_24 : decode cX7_rules 24 = .ok (.ifCond .ne 20, 3) := by decide +kernel
theorem dX7_rules_27 : decode cX7_rules 27 = .ok (.aload_n 0, 1) := by decide +kernel
theorem dX7_rules_28 : decode cX7_rules 28 = .ok (.getfield 173, 3) := by decide +kernel
theorem dX7_rules_31 : decode cX7_rules 31 = .ok (.ifCond .eq 13, 3) := by decide +kernel
theorem dX7_rules_34 : decode cX7_rules 34 = .ok (.aload_n 0, 1) := by decide +kernel
theorem dX7_rules_35 : decode cX7_rules 35 = .ok (.invokevirtual 204, 3) := by decide +kernel
theorem dX7_rules_38 : decode cX7_rules 38 = .ok (.iinc 1 1, 3) := by decide +kernel
theorem dX7_rules_41 : decode cX7_rules 41 = .ok (.goto (-21), 3) := by decide +kernel
theorem dX7_rules_44 : decode cX7_rules 44 = .ok (.aload_n 0, 1) := by decide +kernel
theorem dX7_rules_45 : decode cX7_rules 45 = .ok (.iconst 0, 1) := by decide +kernel
theorem dX7_rules_46 : decode cX7_rules 46 = .ok (.putfield 149, 3) := by decide +kernel
theorem dX7_rules_49 : decode cX7_rules 49 = .ok (.aload_n 0, 1) := by decide +kernel
theorem dX7_rules_50 : decode cX7_rules 50 = .ok (.getfield 154, 3) := by decide +kernel
theorem dX7_rules_53 : decode cX7_rules 53 = .ok (.ifCond .le 11, 3) := by decide +kernel
theorem dX7_rules_56 : decode cX7_rules 56 = .ok (.bipush (-10), 2) := by decide +kernel
theorem dX7_rules_58 : decode cX7_rules 58 = .ok (.aload_n 0, 1) := by decide +kernel
theorem dX7_rules_59 : decode cX7_rules 59 = .ok (.getfield 160, 3) := by decide +kernel
theorem dX7_rules_62 : decode cX7_rules 62 = .ok (.isub, 1) := by decide +kernel
theorem dX7_rules_63 : decode cX7_rules 63 = .ok (.ireturn, 1) := by decide +kernel
theorem dX7_rules_64 : decode cX7_rules 64 = .ok (.aload_n 0, 1) := by decide +kernel
theorem dX7_rules_65 : decode cX7_rules 65 = .ok (.invokevirtual 95, 3) := by decide +kernel
theorem dX7_rules_68 : decode cX7_rules 68 = .ok (.iload_n 1, 1) := by decide +kernel
theorem dX7_rules_69 : decode cX7_rules 69 = .ok (.ireturn, 1) := by decide +kernel
theorem dX7_fault_0 : decode cX7_fault 0 = .ok (.aload_n 0, 1) := by decide +kernel
theorem dX7_fault_1 : decode cX7_fault 1 = .ok (.getfield 154, 3) := by decide +kernel
theorem dX7_fault_4 : decode cX7_fault 4 = .ok (.ireturn, 1) := by decide +kernel
theorem dX7_rule_0 : decode cX7_rule 0 = .ok (.iload_n 1, 1) := by decide +kernel
theorem dX7_rule_1 : decode cX7_rule 1 = .ok (.i2l, 1) := by decide +kernel
theorem dX7_rule_2 : decode cX7_rule 2 = .ok (.lconst 0, 1) := by decide +kernel
theorem dX7_rule_3 : decode cX7_rule 3 = .ok (.ldc2_w 207, 3) := by decide +kernel
theorem dX7_rule_6 : decode cX7_rule 6 = .ok (.invokestatic 102, 3) := by decide +kernel
theorem dX7_rule_9 : decode cX7_rule 9 = .ok (.ifCond .eq 12, 3) := by decide +kernel
theorem dX7_rule_12 : decode cX7_rule 12 = .ok (.aload_n 0, 1) := by decide +kernel
theorem dX7_rule_13 : decode cX7_rule 13 = .ok (.getfield 41, 3) := by decide +kernel
theorem dX7_rule_16 : decode cX7_rule 16 = .ok (.iload_n 1, 1) := by decide +kernel
theorem dX7_rule_17 : decode cX7_rule 17 = .ok (.iaload, 1) := by decide +kernel
theorem dX7_rule_18 : decode cX7_rule 18 = .ok (.goto 4, 3) := by decide +kernel
theorem dX7_rule_21 : decode cX7_rule 21 = .ok (.iconst (-1), 1) := by decide +kernel
theorem dX7_rule_22 : decode cX7_rule 22 = .ok (.ireturn, 1) := by decide +kernel
theorem dX7_begins_0 : decode cX7_begins 0 = .ok (.iconst 0, 1) := by decide +kernel
theorem dX7_begins_1 : decode cX7_begins 1 = .ok (.istore_n 1, 1) := by decide +kernel
theorem dX7_begins_2 : decode cX7_begins 2 = .ok (.iload_n 1, 1) := by decide +kernel
theorem dX7_begins_3 : decode cX7_begins 3 = .ok (.sipush 196, 3) := by decide +kernel
theorem dX7_begins_6 : decode cX7_begins 6 = .ok (.if_icmp .ge 16, 3) := by decide +kernel
theorem dX7_begins_9 : decode cX7_begins 9 = .ok (.aload_n 0, 1) := by decide +kernel
theorem dX7_begins_10 : decode cX7_begins 10 = .ok (.getfield 53, 3) := by decide +kernel
theorem dX7_begins_13 : decode cX7_begins 13 = .ok (.iload_n 1, 1) := by decide +kernel
theorem dX7_begins_14 : decode cX7_begins 14 = .ok (.iconst 0, 1) := by decide +kernel
theorem dX7_begins_15 : decode cX7_begins 15 = .ok (.iastore, 1) := by decide +kernel
theorem dX7_begins_16 : decode cX7_begins 16 = .ok (.iinc 1 1, 3) := by decide +kernel
theorem dX7_begins_19 : decode cX7_begins 19 = .ok (.goto (-17), 3) := by decide +kernel
theorem dX7_begins_22 : decode cX7_begins 22 = .ok (.iconst 0, 1) := by decide +kernel
theorem dX7_begins_23 : decode cX7_begins 23 = .ok (.istore_n 1, 1) := by decide +kernel
theorem dX7_begins_24 : decode cX7_begins 24 = .ok (.iload_n 1, 1) := by decide +kernel
theorem dX7_begins_25 : decode cX7_begins 25 = .ok (.aload_n 0, 1) := by decide +kernel
theorem dX7_begins_26 : decode cX7_begins 26 = .ok (.getfield 98, 3) := by decide +kernel
theorem dX7_begins_29 : decode cX7_begins 29 = .ok (.if_icmp .ge 24, 3) := by decide +kernel
theorem dX7_begins_32 : decode cX7_begins 32 = .ok (.aload_n 0, 1) := by decide +kernel
theorem dX7_begins_33 : decode cX7_begins 33 = .ok (.getfield 53, 3) := by decide +kernel
theorem dX7_begins_36 : decode cX7_begins 36 = .ok (.sipush 168, 3) := by decide +kernel
theorem dX7_begins_39 : decode cX7_begins 39 = .ok (.iload_n 1, 1) := by decide +kernel
theorem dX7_begins_40 : decode cX7_begins 40 = .ok (.iadd, 1) := by decide +kernel
theorem dX7_begins_41 : decode cX7_begins 41 = .ok (.aload_n 0, 1) := by decide +kernel
theorem dX7_begins_42 : decode cX7_begins 42 = .ok (.iload_n 1, 1) := by decide +kernel
theorem dX7_begins_43 : decode cX7_begins 43 = .ok (.invokevirtual 141, 3) := by decide +kernel
theorem dX7_begins_46 : decode cX7_begins 46 = .ok (.iastore, 1) := by decide +kernel
theorem dX7_begins_47 : decode cX7_begins 47 = .ok (.iinc 1 1, 3) := by decide +kernel
theorem dX7_begins_50 : decode cX7_begins 50 = .ok (.goto (-26), 3) := by decide +kernel
theorem dX7_begins_53 : decode cX7_begins 53 = .ok (.iconst 0, 1) := by decide +kernel
theorem dX7_begins_54 : decode cX7_begins 54 = .ok (.istore_n 1, 1) := by decide +kernel
theorem dX7_begins_55 : decode cX7_begins 55 = .ok (.iload_n 1, 1) := by decide +kernel
theorem dX7_begins_56 : decode cX7_begins 56 = .ok (.aload_n 0, 1) := by decide +kernel
theorem dX7_begins_57 : decode cX7_begins 57 = .ok (.getfield 121, 3) := by decide +kernel
theorem dX7_begins_60 : decode cX7_begins 60 = .ok (.if_icmp .ge 65, 3) := by decide +kernel
theorem dX7_begins_63 : decode cX7_begins 63 = .ok (.aload_n 0, 1) := by decide +kernel
theorem dX7_begins_64 : decode cX7_begins 64 = .ok (.iload_n 1, 1) := by decide +kernel
theorem dX7_begins_65 : decode cX7_begins 65 = .ok (.invokevirtual 136, 3) := by decide +kernel
theorem dX7_begins_68 : decode cX7_begins 68 = .ok (.istore_n 2, 1) := by decide +kernel
theorem dX7_begins_69 : decode cX7_begins 69 = .ok (.aload_n 0, 1) := by decide +kernel
theorem dX7_begins_70 : decode cX7_begins 70 = .ok (.getfield 53, 3) := by decide +kernel
theorem dX7_begins_73 : decode cX7_begins 73 = .ok (.bipush 14, 2) := by decide +kernel
theorem dX7_begins_75 : decode cX7_begins 75 = .ok (.aload_n 0, 1) := by decide +kernel
theorem dX7_begins_76 : decode cX7_begins 76 = .ok (.getfield 26, 3) := by decide +kernel
theorem dX7_begins_79 : decode cX7_begins 79 = .ok (.iload_n 1, 1) := by decide +kernel
theorem dX7_begins_80 : decode cX7_begins 80 = .ok (.iaload, 1) := by decide +kernel
theorem dX7_begins_81 : decode cX7_begins 81 = .ok (.imul, 1) := by decide +kernel
theorem dX7_begins_82 : decode cX7_begins 82 = .ok (.aload_n 0, 1) := by decide +kernel
theorem dX7_begins_83 : decode cX7_begins 83 = .ok (.getfield 29, 3) := by decide +kernel
theorem dX7_begins_86 : decode cX7_begins 86 = .ok (.iload_n 1, 1) := by decide +kernel
theorem dX7_begins_87 : decode cX7_begins 87 = .ok (.iaload, 1) := by decide +kernel
theorem dX7_begins_88 : decode cX7_begins 88 = .ok (.iadd, 1) := by decide +kernel
theorem dX7_begins_89 : decode cX7_begins 89 = .ok (.dup2, 1) := by decide +kernel
theorem dX7_begins_90 : decode cX7_begins 90 = .ok (.iaload, 1) := by decide +kernel
theorem dX7_begins_91 : decode cX7_begins 91 = .ok (.iload_n 2, 1) := by decide +kernel
theorem dX7_begins_92 : decode cX7_begins 92 = .ok (.iadd, 1) := by decide +kernel
theorem dX7_begins_93 : decode cX7_begins 93 = .ok (.iastore, 1) := by decide +kernel
theorem dX7_begins_94 : decode cX7_begins 94 = .ok (.aload_n 0, 1) := by decide +kernel
theorem dX7_begins_95 : decode cX7_begins 95 = .ok (.getfield 53, 3) := by decide +kernel
theorem dX7_begins_98 : decode cX7_begins 98 = .ok (.bipush 14, 2) := by decide +kernel
theorem dX7_begins_100 : decode cX7_begins 100 = .ok (.aload_n 0, 1) := by decide +kernel
theorem dX7_begins_101 : decode cX7_begins 101 = .ok (.getfield 29, 3) := by decide +kernel
theorem dX7_begins_104 : decode cX7_begins 104 = .ok (.iload_n 1, 1) := by decide +kernel
theorem dX7_begins_105 : decode cX7_begins 105 = .ok (.iaload, 1) := by decide +kernel
theorem dX7_begins_106 : decode cX7_begins 106 = .ok (.imul, 1) := by decide +kernel
theorem dX7_begins_107 : decode cX7_begins 107 = .ok (.aload_n 0, 1) := by decide +kernel
theorem dX7_begins_108 : decode cX7_begins 108 = .ok (.getfield 26, 3) := by decide +kernel
theorem dX7_begins_111 : decode cX7_begins 111 = .ok (.iload_n 1, 1) := by decide +kernel
theorem dX7_begins_112 : decode cX7_begins 112 = .ok (.iaload, 1) := by decide +kernel
theorem dX7_begins_113 : decode cX7_begins 113 = .ok (.iadd, 1) := by decide +kernel
theorem dX7_begins_114 : decode cX7_begins 114 = .ok (.dup2, 1) := by decide +kernel
theorem dX7_begins_115 : decode cX7_begins 115 = .ok (.iaload, 1) := by decide +kernel
theorem dX7_begins_116 : decode cX7_begins 116 = .ok (.iload_n 2, 1) := by decide +kernel
theorem dX7_begins_117 : decode cX7_begins 117 = .ok (.iadd, 1) := by decide +kernel
theorem dX7_begins_118 : decode cX7_begins 118 = .ok (.iastore, 1) := by decide +kernel
theorem dX7_begins_119 : decode cX7_begins 119 = .ok (.iinc 1 1, 3) := by decide +kernel
theorem dX7_begins_122 : decode cX7_begins 122 = .ok (.goto (-67), 3) := by decide +kernel
theorem dX7_begins_125 : decode cX7_begins 125 = .ok (.return_, 1) := by decide +kernel
theorem dX7_reaches_0 : decode cX7_reaches 0 = .ok (.iconst 0, 1) := by decide +kernel
theorem dX7_reaches_1 : decode cX7_reaches 1 = .ok (.istore_n 1, 1) := by decide +kernel
theorem dX7_reaches_2 : decode cX7_reaches 2 = .ok (.iload_n 1, 1) := by decide +kernel
theorem dX7_reaches_3 : decode cX7_reaches 3 = .ok (.bipush 14, 2) := by decide +kernel
theorem dX7_reaches_5 : decode cX7_reaches 5 = .ok (.if_icmp .ge 17, 3) := by decide +kernel
theorem dX7_reaches_8 : decode cX7_reaches 8 = .ok (.aload_n 0, 1) := by decide +kernel
theorem dX7_reaches_9 : decode cX7_reaches 9 = .ok (.getfield 56, 3) := by decide +kernel
theorem dX7_reaches_12 : decode cX7_reaches 12 = .ok (.iload_n 1, 1) := by decide +kernel
theorem dX7_reaches_13 : decode cX7_reaches 13 = .ok (.bipush (-4), 2) := by decide +kernel
theorem dX7_reaches_15 : decode cX7_reaches 15 = .ok (.iastore, 1) := by decide +kernel
theorem dX7_reaches_16 : decode cX7_reaches 16 = .ok (.iinc 1 1, 3) := by decide +kernel
theorem dX7_reaches_19 : decode cX7_reaches 19 = .ok (.goto (-17), 3) := by decide +kernel
theorem dX7_reaches_22 : decode cX7_reaches 22 = .ok (.aload_n 0, 1) := by decide +kernel
theorem dX7_reaches_23 : decode cX7_reaches 23 = .ok (.getfield 56, 3) := by decide +kernel
theorem dX7_reaches_26 : decode cX7_reaches 26 = .ok (.bipush 12, 2) := by decide +kernel
theorem dX7_reaches_28 : decode cX7_reaches 28 = .ok (.bipush 12, 2) := by decide +kernel
theorem dX7_reaches_30 : decode cX7_reaches 30 = .ok (.iastore, 1) := by decide +kernel
theorem dX7_reaches_31 : decode cX7_reaches 31 = .ok (.aload_n 0, 1) := by decide +kernel
theorem dX7_reaches_32 : decode cX7_reaches 32 = .ok (.getfield 59, 3) := by decide +kernel
theorem dX7_reaches_35 : decode cX7_reaches 35 = .ok (.iconst 0, 1) := by decide +kernel
theorem dX7_reaches_36 : decode cX7_reaches 36 = .ok (.bipush 12, 2) := by decide +kernel
theorem dX7_reaches_38 : decode cX7_reaches 38 = .ok (.iastore, 1) := by decide +kernel
theorem dX7_reaches_39 : decode cX7_reaches 39 = .ok (.iconst 1, 1) := by decide +kernel
theorem dX7_reaches_40 : decode cX7_reaches 40 = .ok (.istore_n 1, 1) := by decide +kernel
theorem dX7_reaches_41 : decode cX7_reaches 41 = .ok (.iconst 0, 1) := by decide +kernel
theorem dX7_reaches_42 : decode cX7_reaches 42 = .ok (.istore_n 2, 1) := by decide +kernel
theorem dX7_reaches_43 : decode cX7_reaches 43 = .ok (.iload_n 2, 1) := by decide +kernel
theorem dX7_reaches_44 : decode cX7_reaches 44 = .ok (.iload_n 1, 1) := by decide +kernel
theorem dX7_reaches_45 : decode cX7_reaches 45 = .ok (.if_icmp .ge 75, 3) := by decide +kernel
theorem dX7_reaches_48 : decode cX7_reaches 48 = .ok (.iconst 0, 1) := by decide +kernel
theorem dX7_reaches_49 : decode cX7_reaches 49 = .ok (.istore_n 3, 1) := by decide +kernel
theorem dX7_reaches_50 : decode cX7_reaches 50 = .ok (.iload_n 3, 1) := by decide +kernel
theorem dX7_reaches_51 : decode cX7_reaches 51 = .ok (.bipush 14, 2) := by decide +kernel
theorem dX7_reaches_53 : decode cX7_reaches 53 = .ok (.if_icmp .ge 61, 3) := by decide +kernel
theorem dX7_reaches_56 : decode cX7_reaches 56 = .ok (.aload_n 0, 1) := by decide +kernel
theorem dX7_reaches_57 : decode cX7_reaches 57 = .ok (.getfield 56, 3) := by decide +kernel
theorem dX7_reaches_60 : decode cX7_reaches 60 = .ok (.iload_n 3, 1) := by decide +kernel
theorem dX7_reaches_61 : decode cX7_reaches 61 = .ok (.iaload, 1) := by decide +kernel
theorem dX7_reaches_62 : decode cX7_reaches 62 = .ok (.bipush (-4), 2) := by decide +kernel
theorem dX7_reaches_64 : decode cX7_reaches 64 = .ok (.if_icmp .ne 44, 3) := by decide +kernel
theorem dX7_reaches_67 : decode cX7_reaches 67 = .ok (.aload_n 0, 1) := by decide +kernel
theorem dX7_reaches_68 : decode cX7_reaches 68 = .ok (.getfield 53, 3) := by decide +kernel
theorem dX7_reaches_71 : decode cX7_reaches 71 = .ok (.bipush 14, 2) := by decide +kernel
theorem dX7_reaches_73 : decode cX7_reaches 73 = .ok (.aload_n 0, 1) := by decide +kernel
theorem dX7_reaches_74 : decode cX7_reaches 74 = .ok (.getfield 59, 3) := by decide +kernel
theorem dX7_reaches_77 : decode cX7_reaches 77 = .ok (.iload_n 2, 1) := by decide +kernel
theorem dX7_reaches_78 : decode cX7_reaches 78 = .ok (.iaload, 1) := by decide +kernel
theorem dX7_reaches_79 : decode cX7_reaches 79 = .ok (.imul, 1) := by decide +kernel
theorem dX7_reaches_80 : decode cX7_reaches 80 = .ok (.iload_n 3, 1) := by decide +kernel
theorem dX7_reaches_81 : decode cX7_reaches 81 = .ok (.iadd, 1) := by decide +kernel
theorem dX7_reaches_82 : decode cX7_reaches 82 = .ok (.iaload, 1) := by decide +kernel
theorem dX7_reaches_83 : decode cX7_reaches 83 = .ok (.ifCond .le 25, 3) := by decide +kernel
theorem dX7_reaches_86 : decode cX7_reaches 86 = .ok (.aload_n 0, 1) := by decide +kernel
theorem dX7_reaches_87 : decode cX7_reaches 87 = .ok (.getfield 56, 3) := by decide +kernel
theorem dX7_reaches_90 : decode cX7_reaches 90 = .ok (.iload_n 3, 1) := by decide +kernel
theorem dX7_reaches_91 : decode cX7_reaches 91 = .ok (.aload_n 0, 1) := by decide +kernel
theorem dX7_reaches_92 : decode cX7_reaches 92 = .ok (.getfield 59, 3) := by decide +kernel
theorem dX7_reaches_95 : decode cX7_reaches 95 = .ok (.iload_n 2, 1) := by decide +kernel
theorem dX7_reaches_96 : decode cX7_reaches 96 = .ok (.iaload, 1) := by decide +kernel
theorem dX7_reaches_97 : decode cX7_reaches 97 = .ok (.iastore, 1) := by decide +kernel
theorem dX7_reaches_98 : decode cX7_reaches 98 = .ok (.aload_n 0, 1) := by decide +kernel
theorem dX7_reaches_99 : decode cX7_reaches 99 = .ok (.getfield 59, 3) := by decide +kernel
theorem dX7_reaches_102 : decode cX7_reaches 102 = .ok (.iload_n 1, 1) := by decide +kernel
theorem dX7_reaches_103 : decode cX7_reaches 103 = .ok (.iload_n 3, 1) := by decide +kernel
theorem dX7_reaches_104 : decode cX7_reaches 104 = .ok (.iastore, 1) := by decide +kernel
theorem dX7_reaches_105 : decode cX7_reaches 105 = .ok (.iinc 1 1, 3) := by decide +kernel
theorem dX7_reaches_108 : decode cX7_reaches 108 = .ok (.iinc 3 1, 3) := by decide +kernel
theorem dX7_reaches_111 : decode cX7_reaches 111 = .ok (.goto (-61), 3) := by decide +kernel
theorem dX7_reaches_114 : decode cX7_reaches 114 = .ok (.iinc 2 1, 3) := by decide +kernel
theorem dX7_reaches_117 : decode cX7_reaches 117 = .ok (.goto (-74), 3) := by decide +kernel
theorem dX7_reaches_120 : decode cX7_reaches 120 = .ok (.aload_n 0, 1) := by decide +kernel
theorem dX7_reaches_121 : decode cX7_reaches 121 = .ok (.getfield 56, 3) := by decide +kernel
theorem dX7_reaches_124 : decode cX7_reaches 124 = .ok (.bipush 13, 2) := by decide +kernel
theorem dX7_reaches_126 : decode cX7_reaches 126 = .ok (.iaload, 1) := by decide +kernel
theorem dX7_reaches_127 : decode cX7_reaches 127 = .ok (.bipush (-4), 2) := by decide +kernel
theorem dX7_reaches_129 : decode cX7_reaches 129 = .ok (.if_icmp .eq 7, 3) := by decide +kernel
theorem dX7_reaches_132 : decode cX7_reaches 132 = .ok (.iconst 1, 1) := by decide +kernel
theorem dX7_reaches_133 : decode cX7_reaches 133 = .ok (.goto 4, 3) := by decide +kernel
theorem dX7_reaches_136 : decode cX7_reaches 136 = .ok (.iconst 0, 1) := by decide +kernel
theorem dX7_reaches_137 : decode cX7_reaches 137 = .ok (.ireturn, 1) := by decide +kernel
theorem dX7_flows_0 : decode cX7_flows 0 = .ok (.iconst 0, 1) := by decide +kernel
theorem dX7_flows_1 : decode cX7_flows 1 = .ok (.istore_n 1, 1) := by decide +kernel
theorem dX7_flows_2 : decode cX7_flows 2 = .ok (.aload_n 0, 1) := by decide +kernel
theorem dX7_flows_3 : decode cX7_flows 3 = .ok (.invokevirtual 209, 3) := by decide +kernel
theorem dX7_flows_6 : decode cX7_flows 6 = .ok (.ifCond .eq 122, 3) := by decide +kernel
theorem dX7_flows_9 : decode cX7_flows 9 = .ok (.ldc 213, 2) := by decide +kernel
theorem dX7_flows_11 : decode cX7_flows 11 = .ok (.istore_n 2, 1) := by decide +kernel
theorem dX7_flows_12 : decode cX7_flows 12 = .ok (.bipush 13, 2) := by decide +kernel
theorem dX7_flows_14 : decode cX7_flows 14 = .ok (.istore_n 3, 1) := by decide +kernel
theorem dX7_flows_15 : decode cX7_flows 15 = .ok (.iload_n 3, 1) := by decide +kernel
theorem dX7_flows_16 : decode cX7_flows 16 = .ok (.bipush 12, 2) := by decide +kernel
theorem dX7_flows_18 : decode cX7_flows 18 = .ok (.if_icmp .eq 44, 3) := by decide +kernel
theorem dX7_flows_21 : decode cX7_flows 21 = .ok (.aload_n 0, 1) := by decide +kernel
theorem dX7_flows_22 : decode cX7_flows 22 = .ok (.getfield 53, 3) := by decide +kernel
theorem dX7_flows_25 : decode cX7_flows 25 = .ok (.bipush 14, 2) := by decide +kernel
theorem dX7_flows_27 : decode cX7_flows 27 = .ok (.aload_n 0, 1) := by decide +kernel
theorem dX7_flows_28 : decode cX7_flows 28 = .ok (.getfield 56, 3) := by decide +kernel
theorem dX7_flows_31 : decode cX7_flows 31 = .ok (.iload_n 3, 1) := by decide +kernel
theorem dX7_flows_32 : decode cX7_flows 32 = .ok (.iaload, 1) := by decide +kernel
theorem dX7_flows_33 : decode cX7_flows 33 = .ok (.imul, 1) := by decide +kernel
theorem dX7_flows_34 : decode cX7_flows 34 = .ok (.iload_n 3, 1) := by decide +kernel
theorem dX7_flows_35 : decode cX7_flows 35 = .ok (.iadd, 1) := by decide +kernel
theorem dX7_flows_36 : decode cX7_flows 36 = .ok (.iaload, 1) := by decide +kernel
theorem dX7_flows_37 : decode cX7_flows 37 = .ok (.istore 4, 2) := by decide +kernel
theorem dX7_flows_39 : decode cX7_flows 39 = .ok (.iload 4, 2) := by decide +kernel
theorem dX7_flows_41 : decode cX7_flows 41 = .ok (.iload_n 2, 1) := by decide +kernel
theorem dX7_flows_42 : decode cX7_flows 42 = .ok (.if_icmp .ge 8, 3) := by decide +kernel
theorem dX7_flows_45 : decode cX7_flows 45 = .ok (.iload 4, 2) := by decide +kernel
theorem dX7_flows_47 : decode cX7_flows 47 = .ok (.goto 4, 3) := by decide +kernel
theorem dX7_flows_50 : decode cX7_flows 50 = .ok (.iload_n 2, 1) := by decide +kernel
theorem dX7_flows_51 : decode cX7_flows 51 = .ok (.istore_n 2, 1) := by decide +kernel
theorem dX7_flows_52 : decode cX7_flows 52 = .ok (.aload_n 0, 1) := by decide +kernel
theorem dX7_flows_53 : decode cX7_flows 53 = .ok (.getfield 56, 3) := by decide +kernel
theorem dX7_flows_56 : decode cX7_flows 56 = .ok (.iload_n 3, 1) := by decide +kernel
theorem dX7_flows_57 : decode cX7_flows 57 = .ok (.iaload, 1) := by decide +kernel
theorem dX7_flows_58 : decode cX7_flows 58 = .ok (.istore_n 3, 1) := by decide +kernel
theorem dX7_flows_59 : decode cX7_flows 59 = .ok (.goto (-44), 3) := by decide +kernel
theorem dX7_flows_62 : decode cX7_flows 62 = .ok (.bipush 13, 2) := by decide +kernel
theorem dX7_flows_64 : decode cX7_flows 64 = .ok (.istore_n 3, 1) := by decide +kernel
theorem dX7_flows_65 : decode cX7_flows 65 = .ok (.iload_n 3, 1) := by decide +kernel
theorem dX7_flows_66 : decode cX7_flows 66 = .ok (.bipush 12, 2) := by decide +kernel
theorem dX7_flows_68 : decode cX7_flows 68 = .ok (.if_icmp .eq 53, 3) := by decide +kernel
theorem dX7_flows_71 : decode cX7_flows 71 = .ok (.aload_n 0, 1) := by decide +kernel
theorem dX7_flows_72 : decode cX7_flows 72 = .ok (.getfield 53, 3) := by decide +kernel
theorem dX7_flows_75 : decode cX7_flows 75 = .ok (.bipush 14, 2) := by decide +kernel
theorem dX7_flows_77 : decode cX7_flows 77 = .ok (.aload_n 0, 1) := by decide +kernel
theorem dX7_flows_78 : decode cX7_flows 78 = .ok (.getfield 56, 3) := by decide +kernel
theorem dX7_flows_81 : decode cX7_flows 81 = .ok (.iload_n 3, 1) := by decide +kernel
theorem dX7_flows_82 : decode cX7_flows 82 = .ok (.iaload, 1) := by decide +kernel
theorem dX7_flows_83 : decode cX7_flows 83 = .ok (.imul, 1) := by decide +kernel
theorem dX7_flows_84 : decode cX7_flows 84 = .ok (.iload_n 3, 1) := by decide +kernel
theorem dX7_flows_85 : decode cX7_flows 85 = .ok (.iadd, 1) := by decide +kernel
theorem dX7_flows_86 : decode cX7_flows 86 = .ok (.dup2, 1) := by decide +kernel
theorem dX7_flows_87 : decode cX7_flows 87 = .ok (.iaload, 1) := by decide +kernel
theorem dX7_flows_88 : decode cX7_flows 88 = .ok (.iload_n 2, 1) := by decide +kernel
theorem dX7_flows_89 : decode cX7_flows 89 = .ok (.isub, 1) := by decide +kernel
theorem dX7_flows_90 : decode cX7_flows 90 = .ok (.iastore, 1) := by decide +kernel
theorem dX7_flows_91 : decode cX7_flows 91 = .ok (.aload_n 0, 1) := by decide +kernel
theorem dX7_flows_92 : decode cX7_flows 92 = .ok (.getfield 53, 3) := by decide +kernel
theorem dX7_flows_95 : decode cX7_flows 95 = .ok (.bipush 14, 2) := by decide +kernel
theorem dX7_flows_97 : decode cX7_flows 97 = .ok (.iload_n 3, 1) := by decide +kernel
theorem dX7_flows_98 : decode cX7_flows 98 = .ok (.imul, 1) := by decide +kernel
theorem dX7_flows_99 : decode cX7_flows 99 = .ok (.aload_n 0, 1) := by decide +kernel
theorem dX7_flows_100 : decode cX7_flows 100 = .ok (.getfield 56, 3) := by decide +kernel
theorem dX7_flows_103 : decode cX7_flows 103 = .ok (.iload_n 3, 1) := by decide +kernel
theorem dX7_flows_104 : decode cX7_flows 104 = .ok (.iaload, 1) := by decide +kernel
theorem dX7_flows_105 : decode cX7_flows 105 = .ok (.iadd, 1) := by decide +kernel
theorem dX7_flows_106 : decode cX7_flows 106 = .ok (.dup2, 1) := by decide +kernel
theorem dX7_flows_107 : decode cX7_flows 107 = .ok (.iaload, 1) := by decide +kernel
theorem dX7_flows_108 : decode cX7_flows 108 = .ok (.iload_n 2, 1) := by decide +kernel
theorem dX7_flows_109 : decode cX7_flows 109 = .ok (.iadd, 1) := by decide +kernel
theorem dX7_flows_110 : decode cX7_flows 110 = .ok (.iastore, 1) := by decide +kernel
theorem dX7_flows_111 : decode cX7_flows 111 = .ok (.aload_n 0, 1) := by decide +kernel
theorem dX7_flows_112 : decode cX7_flows 112 = .ok (.getfield 56, 3) := by decide +kernel
theorem dX7_flows_115 : decode cX7_flows 115 = .ok (.iload_n 3, 1) := by decide +kernel
theorem dX7_flows_116 : decode cX7_flows 116 = .ok (.iaload, 1) := by decide +kernel
theorem dX7_flows_117 : decode cX7_flows 117 = .ok (.istore_n 3, 1) := by decide +kernel
theorem dX7_flows_118 : decode cX7_flows 118 = .ok (.goto (-53), 3) := by decide +kernel
theorem dX7_flows_121 : decode cX7_flows 121 = .ok (.iload_n 1, 1) := by decide +kernel
theorem dX7_flows_122 : decode cX7_flows 122 = .ok (.iload_n 2, 1) := by decide +kernel
theorem dX7_flows_123 : decode cX7_flows 123 = .ok (.iadd, 1) := by decide +kernel
theorem dX7_flows_124 : decode cX7_flows 124 = .ok (.istore_n 1, 1) := by decide +kernel
theorem dX7_flows_125 : decode cX7_flows 125 = .ok (.goto (-123), 3) := by decide +kernel
theorem dX7_flows_128 : decode cX7_flows 128 = .ok (.iload_n 1, 1) := by decide +kernel
theorem dX7_flows_129 : decode cX7_flows 129 = .ok (.ireturn, 1) := by decide +kernel
theorem dX7_trustOf_0 : decode cX7_trustOf 0 = .ok (.aload_n 0, 1) := by decide +kernel
theorem dX7_trustOf_1 : decode cX7_trustOf 1 = .ok (.invokevirtual 214, 3) := by decide +kernel
theorem dX7_trustOf_4 : decode cX7_trustOf 4 = .ok (.iconst 0, 1) := by decide +kernel
theorem dX7_trustOf_5 : decode cX7_trustOf 5 = .ok (.istore_n 2, 1) := by decide +kernel
theorem dX7_trustOf_6 : decode cX7_trustOf 6 = .ok (.iload_n 2, 1) := by decide +kernel
theorem dX7_trustOf_7 : decode cX7_trustOf 7 = .ok (.aload_n 0, 1) := by decide +kernel
theorem dX7_trustOf_8 : decode cX7_trustOf 8 = .ok (.getfield 98, 3) := by decide +kernel
theorem dX7_trustOf_11 : decode cX7_trustOf 11 = .ok (.if_icmp .ge 36, 3) := by decide +kernel
theorem dX7_trustOf_14 : decode cX7_trustOf 14 = .ok (.aload_n 0, 1) := by decide +kernel
theorem dX7_trustOf_15 : decode cX7_trustOf 15 = .ok (.getfield 53, 3) := by decide +kernel
theorem dX7_trustOf_18 : decode cX7_trustOf 18 = .ok (.bipush 14, 2) := by decide +kernel
theorem dX7_trustOf_20 : decode cX7_trustOf 20 = .ok (.iload_n 2, 1) := by decide +kernel
theorem dX7_trustOf_21 : decode cX7_trustOf 21 = .ok (.imul, 1) := by decide +kernel
theorem dX7_trustOf_22 : decode cX7_trustOf 22 = .ok (.bipush 13, 2) := by decide +kernel
theorem dX7_trustOf_24 : decode cX7_trustOf 24 = .ok (.iadd, 1) := by decide +kernel
theorem dX7_trustOf_25 : decode cX7_trustOf 25 = .ok (.iload_n 1, 1) := by decide +kernel
theorem dX7_trustOf_26 : decode cX7_trustOf 26 = .ok (.iload_n 2, 1) := by decide +kernel
theorem dX7_trustOf_27 : decode cX7_trustOf 27 = .ok (.ishr, 1) := by decide +kernel
theorem dX7_trustOf_28 : decode cX7_trustOf 28 = .ok (.iconst 1, 1) := by decide +kernel
theorem dX7_trustOf_29 : decode cX7_trustOf 29 = .ok (.iand, 1) := by decide +kernel
theorem dX7_trustOf_30 : decode cX7_trustOf 30 = .ok (.iconst 1, 1) := by decide +kernel
theorem dX7_trustOf_31 : decode cX7_trustOf 31 = .ok (.if_icmp .ne 8, 3) := by decide +kernel
theorem dX7_trustOf_34 : decode cX7_trustOf 34 = .ok (.ldc 213, 2) := by decide +kernel
theorem dX7_trustOf_36 : decode cX7_trustOf 36 = .ok (.goto 4, 3) := by decide +kernel
theorem dX7_trustOf_39 : decode cX7_trustOf 39 = .ok (.iconst 0, 1) := by decide +kernel
theorem dX7_trustOf_40 : decode cX7_trustOf 40 = .ok (.iastore, 1) := by decide +kernel
theorem dX7_trustOf_41 : decode cX7_trustOf 41 = .ok (.iinc 2 1, 3) := by decide +kernel
theorem dX7_trustOf_44 : decode cX7_trustOf 44 = .ok (.goto (-38), 3) := by decide +kernel
theorem dX7_trustOf_47 : decode cX7_trustOf 47 = .ok (.aload_n 0, 1) := by decide +kernel
theorem dX7_trustOf_48 : decode cX7_trustOf 48 = .ok (.invokevirtual 217, 3) := by decide +kernel
theorem dX7_trustOf_51 : decode cX7_trustOf 51 = .ok (.ireturn, 1) := by decide +kernel
theorem dX7_areNames_0 : decode cX7_areNames 0 = .ok (.iload_n 1, 1) := by decide +kernel
theorem dX7_areNames_1 : decode cX7_areNames 1 = .ok (.i2l, 1) := by decide +kernel
theorem dX7_areNames_2 : decode cX7_areNames 2 = .ok (.lconst 0, 1) := by decide +kernel
theorem dX7_areNames_3 : decode cX7_areNames 3 = .ok (.iconst 1, 1) := by decide +kernel
theorem dX7_areNames_4 : decode cX7_areNames 4 = .ok (.aload_n 0, 1) := by decide +kernel
theorem dX7_areNames_5 : decode cX7_areNames 5 = .ok (.getfield 98, 3) := by decide +kernel
theorem dX7_areNames_8 : decode cX7_areNames 8 = .ok (.ishl, 1) := by decide +kernel
theorem dX7_areNames_9 : decode cX7_areNames 9 = .ok (.iconst 1, 1) := by decide +kernel
theorem dX7_areNames_10 : decode cX7_areNames 10 = .ok (.isub, 1) := by decide +kernel
theorem dX7_areNames_11 : decode cX7_areNames 11 = .ok (.i2l, 1) := by decide +kernel
theorem dX7_areNames_12 : decode cX7_areNames 12 = .ok (.invokestatic 102, 3) := by decide +kernel
theorem dX7_areNames_15 : decode cX7_areNames 15 = .ok (.ireturn, 1) := by decide +kernel
theorem dX7_trust_0 : decode cX7_trust 0 = .ok (.aload_n 0, 1) := by decide +kernel
theorem dX7_trust_1 : decode cX7_trust 1 = .ok (.iload_n 1, 1) := by decide +kernel
theorem dX7_trust_2 : decode cX7_trust 2 = .ok (.invokevirtual 111, 3) := by decide +kernel
theorem dX7_trust_5 : decode cX7_trust 5 = .ok (.ifCond .eq 13, 3) := by decide +kernel
theorem dX7_trust_8 : decode cX7_trust 8 = .ok (.aload_n 0, 1) := by decide +kernel
theorem dX7_trust_9 : decode cX7_trust 9 = .ok (.iconst 1, 1) := by decide +kernel
theorem dX7_trust_10 : decode cX7_trust 10 = .ok (.iload_n 1, 1) := by decide +kernel
theorem dX7_trust_11 : decode cX7_trust 11 = .ok (.ishl, 1) := by decide +kernel
theorem dX7_trust_12 : decode cX7_trust 12 = .ok (.invokevirtual 220, 3) := by decide +kernel
theorem dX7_trust_15 : decode cX7_trust 15 = .ok (.goto 4, 3) := by decide +kernel
theorem dX7_trust_18 : decode cX7_trust 18 = .ok (.iconst (-1), 1) := by decide +kernel
theorem dX7_trust_19 : decode cX7_trust 19 = .ok (.ireturn, 1) := by decide +kernel
theorem dX7_heap_0 : decode cX7_heap 0 = .ok (.aload_n 0, 1) := by decide +kernel
theorem dX7_heap_1 : decode cX7_heap 1 = .ok (.iload_n 1, 1) := by decide +kernel
theorem dX7_heap_2 : decode cX7_heap 2 = .ok (.invokevirtual 223, 3) := by decide +kernel
theorem dX7_heap_5 : decode cX7_heap 5 = .ok (.ifCond .eq 11, 3) := by decide +kernel
theorem dX7_heap_8 : decode cX7_heap 8 = .ok (.aload_n 0, 1) := by decide +kernel
theorem dX7_heap_9 : decode cX7_heap 9 = .ok (.iload_n 1, 1) := by decide +kernel
theorem dX7_heap_10 : decode cX7_heap 10 = .ok (.invokevirtual 220, 3) := by decide +kernel
theorem dX7_heap_13 : decode cX7_heap 13 = .ok (.goto 4, 3) := by decide +kernel
theorem dX7_heap_16 : decode cX7_heap 16 = .ok (.iconst (-1), 1) := by decide +kernel
theorem dX7_heap_17 : decode cX7_heap 17 = .ok (.ireturn, 1) := by decide +kernel
theorem dX7_cut_0 : decode cX7_cut 0 = .ok (.aload_n 0, 1) := by decide +kernel
theorem dX7_cut_1 : decode cX7_cut 1 = .ok (.iload_n 1, 1) := by decide +kernel
theorem dX7_cut_2 : decode cX7_cut 2 = .ok (.invokevirtual 223, 3) := by decide +kernel
theorem dX7_cut_5 : decode cX7_cut 5 = .ok (.ifCond .eq 19, 3) := by decide +kernel
theorem dX7_cut_8 : decode cX7_cut 8 = .ok (.iload_n 1, 1) := by decide +kernel
theorem dX7_cut_9 : decode cX7_cut 9 = .ok (.ifCond .eq 15, 3) := by decide +kernel
theorem dX7_cut_12 : decode cX7_cut 12 = .ok (.iload_n 2, 1) := by decide +kernel
theorem dX7_cut_13 : decode cX7_cut 13 = .ok (.i2l, 1) := by decide +kernel
theorem dX7_cut_14 : decode cX7_cut 14 = .ok (.lconst 0, 1) := by decide +kernel
theorem dX7_cut_15 : decode cX7_cut 15 = .ok (.ldc2_w 226, 3) := by decide +kernel
theorem dX7_cut_18 : decode cX7_cut 18 = .ok (.invokestatic 102, 3) := by decide +kernel
theorem dX7_cut_21 : decode cX7_cut 21 = .ok (.ifCond .ne 5, 3) := by decide +kernel
theorem dX7_cut_24 : decode cX7_cut 24 = .ok (.iconst (-1), 1) := by decide +kernel
theorem dX7_cut_25 : decode cX7_cut 25 = .ok (.ireturn, 1) := by decide +kernel
theorem dX7_cut_26 : decode cX7_cut 26 = .ok (.aload_n 0, 1) := by decide +kernel
theorem dX7_cut_27 : decode cX7_cut 27 = .ok (.iload_n 1, 1) := by decide +kernel
theorem dX7_cut_28 : decode cX7_cut 28 = .ok (.invokevirtual 220, 3) := by decide +kernel
theorem dX7_cut_31 : decode cX7_cut 31 = .ok (.pop, 1) := by decide +kernel
theorem dX7_cut_32 : decode cX7_cut 32 = .ok (.iconst 0, 1) := by decide +kernel
theorem dX7_cut_33 : decode cX7_cut 33 = .ok (.istore_n 3, 1) := by decide +kernel
theorem dX7_cut_34 : decode cX7_cut 34 = .ok (.iconst 0, 1) := by decide +kernel
theorem dX7_cut_35 : decode cX7_cut 35 = .ok (.istore 4, 2) := by decide +kernel
theorem dX7_cut_37 : decode cX7_cut 37 = .ok (.iconst 0, 1) := by decide +kernel
theorem dX7_cut_38 : decode cX7_cut 38 = .ok (.istore 5, 2) := by decide +kernel
theorem dX7_cut_40 : decode cX7_cut 40 = .ok (.iload 5, 2) := by decide +kernel
theorem dX7_cut_42 : decode cX7_cut 42 = .ok (.aload_n 0, 1) := by decide +kernel
theorem dX7_cut_43 : decode cX7_cut 43 = .ok (.getfield 98, 3) := by decide +kernel
theorem dX7_cut_46 : decode cX7_cut 46 = .ok (.if_icmp .ge 59, 3) := by decide +kernel
theorem dX7_cut_49 : decode cX7_cut 49 = .ok (.iload_n 3, 1) := by decide +kernel
theorem dX7_cut_50 : decode cX7_cut 50 = .ok (.aload_n 0, 1) := by decide +kernel
theorem dX7_cut_51 : decode cX7_cut 51 = .ok (.getfield 56, 3) := by decide +kernel
theorem dX7_cut_54 : decode cX7_cut 54 = .ok (.iload 5, 2) := by decide +kernel
theorem dX7_cut_56 : decode cX7_cut 56 = .ok (.iaload, 1) := by decide +kernel
theorem dX7_cut_57 : decode cX7_cut 57 = .ok (.bipush (-4), 2) := by decide +kernel
theorem dX7_cut_59 : decode cX7_cut 59 = .ok (.if_icmp .eq 10, 3) := by decide +kernel
theorem dX7_cut_62 : decode cX7_cut 62 = .ok (.iconst 1, 1) := by decide +kernel
theorem dX7_cut_63 : decode cX7_cut 63 = .ok (.iload 5, 2) := by decide +kernel
theorem dX7_cut_65 : decode cX7_cut 65 = .ok (.ishl, 1) := by decide +kernel
theorem dX7_cut_66 : decode cX7_cut 66 = .ok (.goto 4, 3) := by decide +kernel
theorem dX7_cut_69 : decode cX7_cut 69 = .ok (.iconst 0, 1) := by decide +kernel
theorem dX7_cut_70 : decode cX7_cut 70 = .ok (.ior, 1) := by decide +kernel
theorem dX7_cut_71 : decode cX7_cut 71 = .ok (.istore_n 3, 1) := by decide +kernel
theorem dX7_cut_72 : decode cX7_cut 72 = .ok (.iload 4, 2) := by decide +kernel
theorem dX7_cut_74 : decode cX7_cut 74 = .ok (.aload_n 0, 1) := by decide +kernel
theorem dX7_cut_75 : decode cX7_cut 75 = .ok (.getfield 56, 3) := by decide +kernel
theorem dX7_cut_78 : decode cX7_cut 78 = .ok (.iload 5, 2) := by decide +kernel
theorem dX7_cut_80 : decode cX7_cut 80 = .ok (.iaload, 1) := by decide +kernel
theorem dX7_cut_81 : decode cX7_cut 81 = .ok (.bipush (-4), 2) := by decide +kernel
theorem dX7_cut_83 : decode cX7_cut 83 = .ok (.if_icmp .eq 7, 3) := by decide +kernel
theorem dX7_cut_86 : decode cX7_cut 86 = .ok (.iconst 0, 1) := by decide +kernel
theorem dX7_cut_87 : decode cX7_cut 87 = .ok (.goto 9, 3) := by decide +kernel
theorem dX7_cut_90 : decode cX7_cut 90 = .ok (.aload_n 0, 1) := by decide +kernel
theorem dX7_cut_91 : decode cX7_cut 91 = .ok (.iload 5, 2) := by decide +kernel
theorem dX7_cut_93 : decode cX7_cut 93 = .ok (.invokevirtual 141, 3) := by decide +kernel
theorem dX7_cut_96 : decode cX7_cut 96 = .ok (.iadd, 1) := by decide +kernel
theorem dX7_cut_97 : decode cX7_cut 97 = .ok (.istore 4, 2) := by decide +kernel
theorem dX7_cut_99 : decode cX7_cut 99 = .ok (.iinc 5 1, 3) := by decide +kernel
theorem dX7_cut_102 : decode cX7_cut 102 = .ok (.goto (-62), 3) := by decide +kernel
theorem dX7_cut_105 : decode cX7_cut 105 = .ok (.iconst 0, 1) := by decide +kernel
theorem dX7_cut_106 : decode cX7_cut 106 = .ok (.istore 5, 2) := by decide +kernel
theorem dX7_cut_108 : decode cX7_cut 108 = .ok (.iconst 0, 1) := by decide +kernel
theorem dX7_cut_109 : decode cX7_cut 109 = .ok (.istore 6, 2) := by decide +kernel
theorem dX7_cut_111 : decode cX7_cut 111 = .ok (.iload 6, 2) := by decide +kernel
theorem dX7_cut_113 : decode cX7_cut 113 = .ok (.aload_n 0, 1) := by decide +kernel
theorem dX7_cut_114 : decode cX7_cut 114 = .ok (.getfield 121, 3) := by decide +kernel
theorem dX7_cut_117 : decode cX7_cut 117 = .ok (.if_icmp .ge 68, 3) := by decide +kernel
theorem dX7_cut_120 : decode cX7_cut 120 = .ok (.iload_n 3, 1) := by decide +kernel
theorem dX7_cut_121 : decode cX7_cut 121 = .ok (.aload_n 0, 1) := by decide +kernel
theorem dX7_cut_122 : decode cX7_cut 122 = .ok (.getfield 26, 3) := by decide +kernel
theorem dX7_cut_125 : decode cX7_cut 125 = .ok (.iload 6, 2) := by decide +kernel
theorem dX7_cut_127 : decode cX7_cut 127 = .ok (.iaload, 1) := by decide +kernel
theorem dX7_cut_128 : decode cX7_cut 128 = .ok (.ishr, 1) := by decide +kernel
theorem dX7_cut_129 : decode cX7_cut 129 = .ok (.iconst 1, 1) := by decide +kernel
theorem dX7_cut_130 : decode cX7_cut 130 = .ok (.iand, 1) := by decide +kernel
theorem dX7_cut_131 : decode cX7_cut 131 = .ok (.iload_n 3, 1) := by decide +kernel
theorem dX7_cut_132 : decode cX7_cut 132 = .ok (.aload_n 0, 1) := by decide +kernel
theorem dX7_cut_133 : decode cX7_cut 133 = .ok (.getfield 29, 3) := by decide +kernel
theorem dX7_cut_136 : decode cX7_cut 136 = .ok (.iload 6, 2) := by decide +kernel
theorem dX7_cut_138 : decode cX7_cut 138 = .ok (.iaload, 1) := by decide +kernel
theorem dX7_cut_139 : decode cX7_cut 139 = .ok (.ishr, 1) := by decide +kernel
theorem dX7_cut_140 : decode cX7_cut 140 = .ok (.iconst 1, 1) := by decide +kernel
theorem dX7_cut_141 : decode cX7_cut 141 = .ok (.iand, 1) := by decide +kernel
theorem dX7_cut_142 : decode cX7_cut 142 = .ok (.if_icmp .eq 7, 3) := by decide +kernel
theorem dX7_cut_145 : decode cX7_cut 145 = .ok (.iconst 1, 1) := by decide +kernel
theorem dX7_cut_146 : decode cX7_cut 146 = .ok (.goto 4, 3) := by decide +kernel
theorem dX7_cut_149 : decode cX7_cut 149 = .ok (.iconst 0, 1) := by decide +kernel
theorem dX7_cut_150 : decode cX7_cut 150 = .ok (.istore 7, 2) := by decide +kernel
theorem dX7_cut_152 : decode cX7_cut 152 = .ok (.iload 5, 2) := by decide +kernel
theorem dX7_cut_154 : decode cX7_cut 154 = .ok (.iload 7, 2) := by decide +kernel
theorem dX7_cut_156 : decode cX7_cut 156 = .ok (.ifCond .eq 19, 3) := by decide +kernel
theorem dX7_cut_159 : decode cX7_cut 159 = .ok (.aload_n 0, 1) := by decide +kernel
theorem dX7_cut_160 : decode cX7_cut 160 = .ok (.iload 6, 2) := by decide +kernel
theorem dX7_cut_162 : decode cX7_cut 162 = .ok (.invokevirtual 136, 3) := by decide +kernel
theorem dX7_cut_165 : decode cX7_cut 165 = .ok (.ifCond .le 10, 3) := by decide +kernel
theorem dX7_cut_168 : decode cX7_cut 168 = .ok (.iconst 1, 1) := by decide +kernel
theorem dX7_cut_169 : decode cX7_cut 169 = .ok (.iload 6, 2) := by decide +kernel
theorem dX7_cut_171 : decode cX7_cut 171 = .ok (.ishl, 1) := by decide +kernel
theorem dX7_cut_172 : decode cX7_cut 172 = .ok (.goto 4, 3) := by decide +kernel
theorem dX7_cut_175 : decode cX7_cut 175 = .ok (.iconst 0, 1) := by decide +kernel
theorem dX7_cut_176 : decode cX7_cut 176 = .ok (.ior, 1) := by decide +kernel
theorem dX7_cut_177 : decode cX7_cut 177 = .ok (.istore 5, 2) := by decide +kernel
theorem dX7_cut_179 : decode cX7_cut 179 = .ok (.iinc 6 1, 3) := by decide +kernel
theorem dX7_cut_182 : decode cX7_cut 182 = .ok (.goto (-71), 3) := by decide +kernel
theorem dX7_cut_185 : decode cX7_cut 185 = .ok (.iload_n 2, 1) := by decide +kernel
theorem dX7_cut_186 : decode cX7_cut 186 = .ok (.ifCond .ne 7, 3) := by decide +kernel
theorem dX7_cut_189 : decode cX7_cut 189 = .ok (.iload_n 3, 1) := by decide +kernel
theorem dX7_cut_190 : decode cX7_cut 190 = .ok (.goto 15, 3) := by decide +kernel
theorem dX7_cut_193 : decode cX7_cut 193 = .ok (.iload_n 2, 1) := by decide +kernel
theorem dX7_cut_194 : decode cX7_cut 194 = .ok (.iconst 1, 1) := by decide +kernel
theorem dX7_cut_195 : decode cX7_cut 195 = .ok (.if_icmp .ne 8, 3) := by decide +kernel
theorem dX7_cut_198 : decode cX7_cut 198 = .ok (.iload 5, 2) := by decide +kernel
theorem dX7_cut_200 : decode cX7_cut 200 = .ok (.goto 5, 3) := by decide +kernel
theorem dX7_cut_203 : decode cX7_cut 203 = .ok (.iload 4, 2) := by decide +kernel
theorem dX7_cut_205 : decode cX7_cut 205 = .ok (.ireturn, 1) := by decide +kernel
theorem dX7_isPlain_0 : decode cX7_isPlain 0 = .ok (.aload_n 0, 1) := by decide +kernel
theorem dX7_isPlain_1 : decode cX7_isPlain 1 = .ok (.getfield 13, 3) := by decide +kernel
theorem dX7_isPlain_4 : decode cX7_isPlain 4 = .ok (.iload_n 1, 1) := by decide +kernel
theorem dX7_isPlain_5 : decode cX7_isPlain 5 = .ok (.baload, 1) := by decide +kernel
theorem dX7_isPlain_6 : decode cX7_isPlain 6 = .ok (.ifCond .ne 16, 3) := by decide +kernel
theorem dX7_isPlain_9 : decode cX7_isPlain 9 = .ok (.aload_n 0, 1) := by decide +kernel
theorem dX7_isPlain_10 : decode cX7_isPlain 10 = .ok (.getfield 17, 3) := by decide +kernel
theorem dX7_isPlain_13 : decode cX7_isPlain 13 = .ok (.iload_n 1, 1) := by decide +kernel
theorem dX7_isPlain_14 : decode cX7_isPlain 14 = .ok (.baload, 1) := by decide +kernel
theorem dX7_isPlain_15 : decode cX7_isPlain 15 = .ok (.ifCond .ne 7, 3) := by decide +kernel
theorem dX7_isPlain_18 : decode cX7_isPlain 18 = .ok (.iconst 1, 1) := by decide +kernel
theorem dX7_isPlain_19 : decode cX7_isPlain 19 = .ok (.goto 4, 3) := by decide +kernel
theorem dX7_isPlain_22 : decode cX7_isPlain 22 = .ok (.iconst 0, 1) := by decide +kernel
theorem dX7_isPlain_23 : decode cX7_isPlain 23 = .ok (.ireturn, 1) := by decide +kernel
theorem dX7_low_0 : decode cX7_low 0 = .ok (.iload_n 1, 1) := by decide +kernel
theorem dX7_low_1 : decode cX7_low 1 = .ok (.i2l, 1) := by decide +kernel
theorem dX7_low_2 : decode cX7_low 2 = .ok (.lconst 0, 1) := by decide +kernel
theorem dX7_low_3 : decode cX7_low 3 = .ok (.lconst 1, 1) := by decide +kernel
theorem dX7_low_4 : decode cX7_low 4 = .ok (.invokestatic 102, 3) := by decide +kernel
theorem dX7_low_7 : decode cX7_low 7 = .ok (.ifCond .ne 5, 3) := by decide +kernel
theorem dX7_low_10 : decode cX7_low 10 = .ok (.iconst (-1), 1) := by decide +kernel
theorem dX7_low_11 : decode cX7_low 11 = .ok (.ireturn, 1) := by decide +kernel
theorem dX7_low_12 : decode cX7_low 12 = .ok (.bipush (-4), 2) := by decide +kernel
theorem dX7_low_14 : decode cX7_low 14 = .ok (.istore_n 2, 1) := by decide +kernel
theorem dX7_low_15 : decode cX7_low 15 = .ok (.bipush (-4), 2) := by decide +kernel
theorem dX7_low_17 : decode cX7_low 17 = .ok (.istore_n 3, 1) := by decide +kernel
theorem dX7_low_18 : decode cX7_low 18 = .ok (.iconst 0, 1) := by decide +kernel
theorem dX7_low_19 : decode cX7_low 19 = .ok (.istore 4, 2) := by decide +kernel
theorem dX7_low_21 : decode cX7_low 21 = .ok (.iload 4, 2) := by decide +kernel
theorem dX7_low_23 : decode cX7_low 23 = .ok (.aload_n 0, 1) := by decide +kernel
theorem dX7_low_24 : decode cX7_low 24 = .ok (.getfield 98, 3) := by decide +kernel
theorem dX7_low_27 : decode cX7_low 27 = .ok (.if_icmp .ge 71, 3) := by decide +kernel
theorem dX7_low_30 : decode cX7_low 30 = .ok (.aload_n 0, 1) := by decide +kernel
theorem dX7_low_31 : decode cX7_low 31 = .ok (.iload 4, 2) := by decide +kernel
theorem dX7_low_33 : decode cX7_low 33 = .ok (.invokevirtual 228, 3) := by decide +kernel
theorem dX7_low_36 : decode cX7_low 36 = .ok (.ifCond .eq 56, 3) := by decide +kernel
theorem dX7_low_39 : decode cX7_low 39 = .ok (.aload_n 0, 1) := by decide +kernel
theorem dX7_low_40 : decode cX7_low 40 = .ok (.iconst 1, 1) := by decide +kernel
theorem dX7_low_41 : decode cX7_low 41 = .ok (.iload 4, 2) := by decide +kernel
theorem dX7_low_43 : decode cX7_low 43 = .ok (.ishl, 1) := by decide +kernel
theorem dX7_low_44 : decode cX7_low 44 = .ok (.invokevirtual 220, 3) := by decide +kernel
theorem dX7_low_47 : decode cX7_low 47 = .ok (.istore 5, 2) := by decide +kernel
theorem dX7_low_49 : decode cX7_low 49 = .ok (.iload_n 2, 1) := by decide +kernel
theorem dX7_low_50 : decode cX7_low 50 = .ok (.bipush (-4), 2) := by decide +kernel
theorem dX7_low_52 : decode cX7_low 52 = .ok (.if_icmp .eq 9, 3) := by decide +kernel
theorem dX7_low_55 : decode cX7_low 55 = .ok (.iload 5, 2) := by decide +kernel
theorem dX7_low_57 : decode cX7_low 57 = .ok (.iload_n 3, 1) := by decide +kernel
theorem dX7_low_58 : decode cX7_low 58 = .ok (.if_icmp .ge 7, 3) := by decide +kernel
theorem dX7_low_61 : decode cX7_low 61 = .ok (.iconst 1, 1) := by decide +kernel
theorem dX7_low_62 : decode cX7_low 62 = .ok (.goto 4, 3) := by decide +kernel
theorem dX7_low_65 : decode cX7_low 65 = .ok (.iconst 0, 1) := by decide +kernel
theorem dX7_low_66 : decode cX7_low 66 = .ok (.istore 6, 2) := by decide +kernel
theorem dX7_low_68 : decode cX7_low 68 = .ok (.iload 6, 2) := by decide +kernel
theorem dX7_low_70 : decode cX7_low 70 = .ok (.ifCond .eq 8, 3) := by decide +kernel
theorem dX7_low_73 : decode cX7_low 73 = .ok (.iload 4, 2) := by decide +kernel
theorem dX7_low_75 : decode cX7_low 75 = .ok (.goto 4, 3) := by decide +kernel
theorem dX7_low_78 : decode cX7_low 78 = .ok (.iload_n 2, 1) := by decide +kernel
theorem dX7_low_79 : decode cX7_low 79 = .ok (.istore_n 2, 1) := by decide +kernel
theorem dX7_low_80 : decode cX7_low 80 = .ok (.iload 6, 2) := by decide +kernel
theorem dX7_low_82 : decode cX7_low 82 = .ok (.ifCond .eq 8, 3) := by decide +kernel
theorem dX7_low_85 : decode cX7_low 85 = .ok (.iload 5, 2) := by decide +kernel
theorem dX7_low_87 : decode cX7_low 87 = .ok (.goto 4, 3) := by decide +kernel
theorem dX7_low_90 : decode cX7_low 90 = .ok (.iload_n 3, 1) := by decide +kernel
theorem dX7_low_91 : decode cX7_low 91 = .ok (.istore_n 3, 1) := by decide +kernel
theorem dX7_low_92 : decode cX7_low 92 = .ok (.iinc 4 1, 3) := by decide +kernel
theorem dX7_low_95 : decode cX7_low 95 = .ok (.goto (-74), 3) := by decide +kernel
theorem dX7_low_98 : decode cX7_low 98 = .ok (.iload_n 1, 1) := by decide +kernel
theorem dX7_low_99 : decode cX7_low 99 = .ok (.ifCond .ne 7, 3) := by decide +kernel
theorem dX7_low_102 : decode cX7_low 102 = .ok (.iload_n 2, 1) := by decide +kernel
theorem dX7_low_103 : decode cX7_low 103 = .ok (.goto 4, 3) := by decide +kernel
theorem dX7_low_106 : decode cX7_low 106 = .ok (.iload_n 3, 1) := by decide +kernel
theorem dX7_low_107 : decode cX7_low 107 = .ok (.ireturn, 1) := by decide +kernel
theorem dX7_twins_0 : decode cX7_twins 0 = .ok (.iload_n 1, 1) := by decide +kernel
theorem dX7_twins_1 : decode cX7_twins 1 = .ok (.i2l, 1) := by decide +kernel
theorem dX7_twins_2 : decode cX7_twins 2 = .ok (.lconst 0, 1) := by decide +kernel
theorem dX7_twins_3 : decode cX7_twins 3 = .ok (.lconst 1, 1) := by decide +kernel
theorem dX7_twins_4 : decode cX7_twins 4 = .ok (.invokestatic 102, 3) := by decide +kernel
theorem dX7_twins_7 : decode cX7_twins 7 = .ok (.ifCond .ne 5, 3) := by decide +kernel
theorem dX7_twins_10 : decode cX7_twins 10 = .ok (.iconst (-1), 1) := by decide +kernel
theorem dX7_twins_11 : decode cX7_twins 11 = .ok (.ireturn, 1) := by decide +kernel
theorem dX7_twins_12 : decode cX7_twins 12 = .ok (.bipush (-4), 2) := by decide +kernel
theorem dX7_twins_14 : decode cX7_twins 14 = .ok (.istore_n 2, 1) := by decide +kernel
theorem dX7_twins_15 : decode cX7_twins 15 = .ok (.iconst 0, 1) := by decide +kernel
theorem dX7_twins_16 : decode cX7_twins 16 = .ok (.istore_n 3, 1) := by decide +kernel
theorem dX7_twins_17 : decode cX7_twins 17 = .ok (.iconst 0, 1) := by decide +kernel
theorem dX7_twins_18 : decode cX7_twins 18 = .ok (.istore 4, 2) := by decide +kernel
theorem dX7_twins_20 : decode cX7_twins 20 = .ok (.iload 4, 2) := by decide +kernel
theorem dX7_twins_22 : decode cX7_twins 22 = .ok (.aload_n 0, 1) := by decide +kernel
theorem dX7_twins_23 : decode cX7_twins 23 = .ok (.getfield 98, 3) := by decide +kernel
theorem dX7_twins_26 : decode cX7_twins 26 = .ok (.if_icmp .ge 113, 3) := by decide +kernel
theorem dX7_twins_29 : decode cX7_twins 29 = .ok (.iload 4, 2) := by decide +kernel
theorem dX7_twins_31 : decode cX7_twins 31 = .ok (.iconst 1, 1) := by decide +kernel
theorem dX7_twins_32 : decode cX7_twins 32 = .ok (.iadd, 1) := by decide +kernel
theorem dX7_twins_33 : decode cX7_twins 33 = .ok (.istore 5, 2) := by decide +kernel
theorem dX7_twins_35 : decode cX7_twins 35 = .ok (.iload 5, 2) := by decide +kernel
theorem dX7_twins_37 : decode cX7_twins 37 = .ok (.aload_n 0, 1) := by decide +kernel
theorem dX7_twins_38 : decode cX7_twins 38 = .ok (.getfield 98, 3) := by decide +kernel
theorem dX7_twins_41 : decode cX7_twins 41 = .ok (.if_icmp .ge 92, 3) := by decide +kernel
theorem dX7_twins_44 : decode cX7_twins 44 = .ok (.aload_n 0, 1) := by decide +kernel
theorem dX7_twins_45 : decode cX7_twins 45 = .ok (.iload 4, 2) := by decide +kernel
theorem dX7_twins_47 : decode cX7_twins 47 = .ok (.invokevirtual 228, 3) := by decide +kernel
theorem dX7_twins_50 : decode cX7_twins 50 = .ok (.ifCond .eq 77, 3) := by decide +kernel
theorem dX7_twins_53 : decode cX7_twins 53 = .ok (.aload_n 0, 1) := by decide +kernel
theorem dX7_twins_54 : decode cX7_twins 54 = .ok (.iload 5, 2) := by decide +kernel
theorem dX7_twins_56 : decode cX7_twins 56 = .ok (.invokevirtual 228, 3) := by decide +kernel
theorem dX7_twins_59 : decode cX7_twins 59 = .ok (.ifCond .eq 68, 3) := by decide +kernel
theorem dX7_twins_62 : decode cX7_twins 62 = .ok (.aload_n 0, 1) := by decide +kernel
theorem dX7_twins_63 : decode cX7_twins 63 = .ok (.iconst 1, 1) := by decide +kernel
theorem dX7_twins_64 : decode cX7_twins 64 = .ok (.iload 4, 2) := by decide +kernel
theorem dX7_twins_66 : decode cX7_twins 66 = .ok (.ishl, 1) := by decide +kernel
theorem dX7_twins_67 : decode cX7_twins 67 = .ok (.invokevirtual 220, 3) := by decide +kernel
theorem dX7_twins_70 : decode cX7_twins 70 = .ok (.aload_n 0, 1) := by decide +kernel
theorem dX7_twins_71 : decode cX7_twins 71 = .ok (.iconst 1, 1) := by decide +kernel
theorem dX7_twins_72 : decode cX7_twins 72 = .ok (.iload 5, 2) := by decide +kernel
theorem dX7_twins_74 : decode cX7_twins 74 = .ok (.ishl, 1) := by decide +kernel
theorem dX7_twins_75 : decode cX7_twins 75 = .ok (.invokevirtual 220, 3) := by decide +kernel
theorem dX7_twins_78 : decode cX7_twins 78 = .ok (.iadd, 1) := by decide +kernel
theorem dX7_twins_79 : decode cX7_twins 79 = .ok (.aload_n 0, 1) := by decide +kernel
theorem dX7_twins_80 : decode cX7_twins 80 = .ok (.iconst 1, 1) := by decide +kernel
theorem dX7_twins_81 : decode cX7_twins 81 = .ok (.iload 4, 2) := by decide +kernel
theorem dX7_twins_83 : decode cX7_twins 83 = .ok (.ishl, 1) := by decide +kernel
theorem dX7_twins_84 : decode cX7_twins 84 = .ok (.iconst 1, 1) := by decide +kernel
theorem dX7_twins_85 : decode cX7_twins 85 = .ok (.iload 5, 2) := by decide +kernel
theorem dX7_twins_87 : decode cX7_twins 87 = .ok (.ishl, 1) := by decide +kernel
theorem dX7_twins_88 : decode cX7_twins 88 = .ok (.ior, 1) := by decide +kernel
theorem dX7_twins_89 : decode cX7_twins 89 = .ok (.invokevirtual 220, 3) := by decide +kernel
theorem dX7_twins_92 : decode cX7_twins 92 = .ok (.isub, 1) := by decide +kernel
theorem dX7_twins_93 : decode cX7_twins 93 = .ok (.istore 6, 2) := by decide +kernel
theorem dX7_twins_95 : decode cX7_twins 95 = .ok (.iload 6, 2) := by decide +kernel
theorem dX7_twins_97 : decode cX7_twins 97 = .ok (.iload_n 3, 1) := by decide +kernel
theorem dX7_twins_98 : decode cX7_twins 98 = .ok (.if_icmp .le 14, 3) := by decide +kernel
theorem dX7_twins_101 : decode cX7_twins 101 = .ok (.bipush 16, 2) := by decide +kernel
theorem dX7_twins_103 : decode cX7_twins 103 = .ok (.iload 4, 2) := by decide +kernel
theorem dX7_twins_105 : decode cX7_twins 105 = .ok (.imul, 1) := by decide +kernel
theorem dX7_twins_106 : decode cX7_twins 106 = .ok (.iload 5, 2) := by decide +kernel
theorem dX7_twins_108 : decode cX7_twins 108 = .ok (.iadd, 1) := by decide +kernel
theorem dX7_twins_109 : decode cX7_twins 109 = .ok (.goto 4, 3) := by decide +kernel
theorem dX7_twins_112 : decode cX7_twins 112 = .ok (.iload_n 2, 1) := by decide +kernel
theorem dX7_twins_113 : decode cX7_twins 113 = .ok (.istore_n 2, 1) := by decide +kernel
theorem dX7_twins_114 : decode cX7_twins 114 = .ok (.iload 6, 2) := by decide +kernel
theorem dX7_twins_116 : decode cX7_twins 116 = .ok (.iload_n 3, 1) := by decide +kernel
theorem dX7_twins_117 : decode cX7_twins 117 = .ok (.if_icmp .le 8, 3) := by decide +kernel
theorem dX7_twins_120 : decode cX7_twins 120 = .ok (.iload 6, 2) := by decide +kernel
theorem dX7_twins_122 : decode cX7_twins 122 = .ok (.goto 4, 3) := by decide +kernel
theorem dX7_twins_125 : decode cX7_twins 125 = .ok (.iload_n 3, 1) := by decide +kernel
theorem dX7_twins_126 : decode cX7_twins 126 = .ok (.istore_n 3, 1) := by decide +kernel
theorem dX7_twins_127 : decode cX7_twins 127 = .ok (.iinc 5 1, 3) := by decide +kernel
theorem dX7_twins_130 : decode cX7_twins 130 = .ok (.goto (-95), 3) := by decide +kernel
theorem dX7_twins_133 : decode cX7_twins 133 = .ok (.iinc 4 1, 3) := by decide +kernel
theorem dX7_twins_136 : decode cX7_twins 136 = .ok (.goto (-116), 3) := by decide +kernel
theorem dX7_twins_139 : decode cX7_twins 139 = .ok (.iload_n 2, 1) := by decide +kernel
theorem dX7_twins_140 : decode cX7_twins 140 = .ok (.bipush (-4), 2) := by decide +kernel
theorem dX7_twins_142 : decode cX7_twins 142 = .ok (.if_icmp .ne 8, 3) := by decide +kernel
theorem dX7_twins_145 : decode cX7_twins 145 = .ok (.bipush (-4), 2) := by decide +kernel
theorem dX7_twins_147 : decode cX7_twins 147 = .ok (.goto 12, 3) := by decide +kernel
theorem dX7_twins_150 : decode cX7_twins 150 = .ok (.iload_n 1, 1) := by decide +kernel
theorem dX7_twins_151 : decode cX7_twins 151 = .ok (.ifCond .ne 7, 3) := by decide +kernel
theorem dX7_twins_154 : decode cX7_twins 154 = .ok (.iload_n 2, 1) := by decide +kernel
theorem dX7_twins_155 : decode cX7_twins 155 = .ok (.goto 4, 3) := by decide +kernel
theorem dX7_twins_158 : decode cX7_twins 158 = .ok (.iload_n 3, 1) := by decide +kernel
theorem dX7_twins_159 : decode cX7_twins 159 = .ok (.ireturn, 1) := by decide +kernel
theorem dX7_isWord_0 : decode cX7_isWord 0 = .ok (.aload_n 0, 1) := by decide +kernel
theorem dX7_isWord_1 : decode cX7_isWord 1 = .ok (.iload_n 1, 1) := by decide +kernel
theorem dX7_isWord_2 : decode cX7_isWord 2 = .ok (.invokevirtual 111, 3) := by decide +kernel
theorem dX7_isWord_5 : decode cX7_isWord 5 = .ok (.ifCond .eq 45, 3) := by decide +kernel
theorem dX7_isWord_8 : decode cX7_isWord 8 = .ok (.aload_n 0, 1) := by decide +kernel
theorem dX7_isWord_9 : decode cX7_isWord 9 = .ok (.iload_n 2, 1) := by decide +kernel
theorem dX7_isWord_10 : decode cX7_isWord 10 = .ok (.invokevirtual 111, 3) := by decide +kernel
theorem dX7_isWord_13 : decode cX7_isWord 13 = .ok (.ifCond .eq 37, 3) := by decide +kernel
theorem dX7_isWord_16 : decode cX7_isWord 16 = .ok (.iload_n 1, 1) := by decide +kernel
theorem dX7_isWord_17 : decode cX7_isWord 17 = .ok (.iload_n 2, 1) := by decide +kernel
theorem dX7_isWord_18 : decode cX7_isWord 18 = .ok (.if_icmp .eq 32, 3) := by decide +kernel
theorem dX7_isWord_21 : decode cX7_isWord 21 = .ok (.iload_n 3, 1) := by decide +kernel
theorem dX7_isWord_22 : decode cX7_isWord 22 = .ok (.i2l, 1) := by decide +kernel
theorem dX7_isWord_23 : decode cX7_isWord 23 = .ok (.lconst 0, 1) := by decide +kernel
theorem dX7_isWord_24 : decode cX7_isWord 24 = .ok (.ldc2_w 231, 3) := by decide +kernel
theorem dX7_isWord_27 : decode cX7_isWord 27 = .ok (.invokestatic 102, 3) := by decide +kernel
theorem dX7_isWord_30 : decode cX7_isWord 30 = .ok (.ifCond .eq 20, 3) := by decide +kernel
theorem dX7_isWord_33 : decode cX7_isWord 33 = .ok (.iload 4, 2) := by decide +kernel
theorem dX7_isWord_35 : decode cX7_isWord 35 = .ok (.i2l, 1) := by decide +kernel
theorem dX7_isWord_36 : decode cX7_isWord 36 = .ok (.lconst 0, 1) := by decide +kernel
theorem dX7_isWord_37 : decode cX7_isWord 37 = .ok (.ldc2_w 233, 3) := by decide +kernel
theorem dX7_isWord_40 : decode cX7_isWord 40 = .ok (.invokestatic 102, 3) := by decide +kernel
theorem dX7_isWord_43 : decode cX7_isWord 43 = .ok (.ifCond .eq 7, 3) := by decide +kernel
theorem dX7_isWord_46 : decode cX7_isWord 46 = .ok (.iconst 1, 1) := by decide +kernel
theorem dX7_isWord_47 : decode cX7_isWord 47 = .ok (.goto 4, 3) := by decide +kernel
theorem dX7_isWord_50 : decode cX7_isWord 50 = .ok (.iconst 0, 1) := by decide +kernel
theorem dX7_isWord_51 : decode cX7_isWord 51 = .ok (.ireturn, 1) := by decide +kernel
theorem dX7_says_0 : decode cX7_says 0 = .ok (.aload_n 0, 1) := by decide +kernel
theorem dX7_says_1 : decode cX7_says 1 = .ok (.getfield 62, 3) := by decide +kernel
theorem dX7_says_4 : decode cX7_says 4 = .ok (.aload_n 0, 1) := by decide +kernel
theorem dX7_says_5 : decode cX7_says 5 = .ok (.getfield 235, 3) := by decide +kernel
theorem dX7_says_8 : decode cX7_says 8 = .ok (.iload_n 1, 1) := by decide +kernel
theorem dX7_says_9 : decode cX7_says 9 = .ok (.iastore, 1) := by decide +kernel
theorem dX7_says_10 : decode cX7_says 10 = .ok (.aload_n 0, 1) := by decide +kernel
theorem dX7_says_11 : decode cX7_says 11 = .ok (.getfield 65, 3) := by decide +kernel
theorem dX7_says_14 : decode cX7_says 14 = .ok (.aload_n 0, 1) := by decide +kernel
theorem dX7_says_15 : decode cX7_says 15 = .ok (.getfield 235, 3) := by decide +kernel
theorem dX7_says_18 : decode cX7_says 18 = .ok (.iload_n 2, 1) := by decide +kernel
theorem dX7_says_19 : decode cX7_says 19 = .ok (.iastore, 1) := by decide +kernel
theorem dX7_says_20 : decode cX7_says 20 = .ok (.aload_n 0, 1) := by decide +kernel
theorem dX7_says_21 : decode cX7_says 21 = .ok (.getfield 68, 3) := by decide +kernel
theorem dX7_says_24 : decode cX7_says 24 = .ok (.aload_n 0, 1) := by decide +kernel
theorem dX7_says_25 : decode cX7_says 25 = .ok (.getfield 235, 3) := by decide +kernel
theorem dX7_says_28 : decode cX7_says 28 = .ok (.iload_n 3, 1) := by decide +kernel
theorem dX7_says_29 : decode cX7_says 29 = .ok (.iastore, 1) := by decide +kernel
theorem dX7_says_30 : decode cX7_says 30 = .ok (.aload_n 0, 1) := by decide +kernel
theorem dX7_says_31 : decode cX7_says 31 = .ok (.getfield 71, 3) := by decide +kernel
theorem dX7_says_34 : decode cX7_says 34 = .ok (.aload_n 0, 1) := by decide +kernel
theorem dX7_says_35 : decode cX7_says 35 = .ok (.getfield 235, 3) := by decide +kernel
theorem dX7_says_38 : decode cX7_says 38 = .ok (.iload 4, 2) := by decide +kernel
theorem dX7_says_40 : decode cX7_says 40 = .ok (.iastore, 1) := by decide +kernel
theorem dX7_says_41 : decode cX7_says 41 = .ok (.aload_n 0, 1) := by decide +kernel
theorem dX7_says_42 : decode cX7_says 42 = .ok (.getfield 74, 3) := by decide +kernel
theorem dX7_says_45 : decode cX7_says 45 = .ok (.aload_n 0, 1) := by decide +kernel
theorem dX7_says_46 : decode cX7_says 46 = .ok (.getfield 235, 3) := by decide +kernel
theorem dX7_says_49 : decode cX7_says 49 = .ok (.aload_n 0, 1) := by decide +kernel
theorem dX7_says_50 : decode cX7_says 50 = .ok (.getfield 106, 3) := by decide +kernel
theorem dX7_says_53 : decode cX7_says 53 = .ok (.iastore, 1) := by decide +kernel
theorem dX7_says_54 : decode cX7_says 54 = .ok (.aload_n 0, 1) := by decide +kernel
theorem dX7_says_55 : decode cX7_says 55 = .ok (.dup, 1) := by decide +kernel
theorem dX7_says_56 : decode cX7_says 56 = .ok (.getfield 235, 3) := by decide +kernel
theorem dX7_says_59 : decode cX7_says 59 = .ok (.iconst 1, 1) := by decide +kernel
theorem dX7_says_60 : decode cX7_says 60 = .ok (.iadd, 1) := by decide +kernel
theorem dX7_says_61 : decode cX7_says 61 = .ok (.putfield 235, 3) := by decide +kernel
theorem dX7_says_64 : decode cX7_says 64 = .ok (.return_, 1) := by decide +kernel
theorem dX7_word_0 : decode cX7_word 0 = .ok (.aload_n 0, 1) := by decide +kernel
theorem dX7_word_1 : decode cX7_word 1 = .ok (.iload_n 1, 1) := by decide +kernel
theorem dX7_word_2 : decode cX7_word 2 = .ok (.iload_n 2, 1) := by decide +kernel
theorem dX7_word_3 : decode cX7_word 3 = .ok (.iload_n 3, 1) := by decide +kernel
theorem dX7_word_4 : decode cX7_word 4 = .ok (.iload 4, 2) := by decide +kernel
theorem dX7_word_6 : decode cX7_word 6 = .ok (.invokevirtual 238, 3) := by decide +kernel
theorem dX7_word_9 : decode cX7_word 9 = .ok (.ifCond .ne 5, 3) := by decide +kernel
theorem dX7_word_12 : decode cX7_word 12 = .ok (.iconst (-1), 1) := by decide +kernel
theorem dX7_word_13 : decode cX7_word 13 = .ok (.ireturn, 1) := by decide +kernel
theorem dX7_word_14 : decode cX7_word 14 = .ok (.aload_n 0, 1) := by decide +kernel
theorem dX7_word_15 : decode cX7_word 15 = .ok (.getfield 235, 3) := by decide +kernel
theorem dX7_word_18 : decode cX7_word 18 = .ok (.bipush 24, 2) := by decide +kernel
theorem dX7_word_20 : decode cX7_word 20 = .ok (.if_icmp .ne 6, 3) := by decide +kernel
theorem dX7_word_23 : decode cX7_word 23 = .ok (.bipush (-3), 2) := by decide +kernel
theorem dX7_word_25 : decode cX7_word 25 = .ok (.ireturn, 1) := by decide +kernel
theorem dX7_word_26 : decode cX7_word 26 = .ok (.aload_n 0, 1) := by decide +kernel
theorem dX7_word_27 : decode cX7_word 27 = .ok (.getfield 17, 3) := by decide +kernel
theorem dX7_word_30 : decode cX7_word 30 = .ok (.iload_n 1, 1) := by decide +kernel
theorem dX7_word_31 : decode cX7_word 31 = .ok (.baload, 1) := by decide +kernel
theorem dX7_word_32 : decode cX7_word 32 = .ok (.ifCond .eq 6, 3) := by decide +kernel
theorem dX7_word_35 : decode cX7_word 35 = .ok (.bipush (-2), 2) := by decide +kernel
theorem dX7_word_37 : decode cX7_word 37 = .ok (.ireturn, 1) := by decide +kernel
theorem dX7_word_38 : decode cX7_word 38 = .ok (.aload_n 0, 1) := by decide +kernel
theorem dX7_word_39 : decode cX7_word 39 = .ok (.iload_n 1, 1) := by decide +kernel
theorem dX7_word_40 : decode cX7_word 40 = .ok (.iload_n 2, 1) := by decide +kernel
theorem dX7_word_41 : decode cX7_word 41 = .ok (.iload_n 3, 1) := by decide +kernel
theorem dX7_word_42 : decode cX7_word 42 = .ok (.iload 4, 2) := by decide +kernel
theorem dX7_word_44 : decode cX7_word 44 = .ok (.invokevirtual 242, 3) := by decide +kernel
theorem dX7_word_47 : decode cX7_word 47 = .ok (.aload_n 0, 1) := by decide +kernel
theorem dX7_word_48 : decode cX7_word 48 = .ok (.getfield 235, 3) := by decide +kernel
theorem dX7_word_51 : decode cX7_word 51 = .ok (.iconst 1, 1) := by decide +kernel
theorem dX7_word_52 : decode cX7_word 52 = .ok (.isub, 1) := by decide +kernel
theorem dX7_word_53 : decode cX7_word 53 = .ok (.ireturn, 1) := by decide +kernel
theorem dX7_isFirst_0 : decode cX7_isFirst 0 = .ok (.iconst 1, 1) := by decide +kernel
theorem dX7_isFirst_1 : decode cX7_isFirst 1 = .ok (.istore_n 2, 1) := by decide +kernel
theorem dX7_isFirst_2 : decode cX7_isFirst 2 = .ok (.iconst 0, 1) := by decide +kernel
theorem dX7_isFirst_3 : decode cX7_isFirst 3 = .ok (.istore_n 3, 1) := by decide +kernel
theorem dX7_isFirst_4 : decode cX7_isFirst 4 = .ok (.iload_n 3, 1) := by decide +kernel
theorem dX7_isFirst_5 : decode cX7_isFirst 5 = .ok (.iload_n 1, 1) := by decide +kernel
theorem dX7_isFirst_6 : decode cX7_isFirst 6 = .ok (.if_icmp .ge 34, 3) := by decide +kernel
theorem dX7_isFirst_9 : decode cX7_isFirst 9 = .ok (.iload_n 2, 1) := by decide +kernel
theorem dX7_isFirst_10 : decode cX7_isFirst 10 = .ok (.ifCond .eq 22, 3) := by decide +kernel
theorem dX7_isFirst_13 : decode cX7_isFirst 13 = .ok (.aload_n 0, 1) := by decide +kernel
theorem dX7_isFirst_14 : decode cX7_isFirst 14 = .ok (.getfield 68, 3) := by decide +kernel
theorem dX7_isFirst_17 : decode cX7_isFirst 17 = .ok (.iload_n 3, 1) := by decide +kernel
theorem dX7_isFirst_18 : decode cX7_isFirst 18 = .ok (.iaload, 1) := by decide +kernel
theorem dX7_isFirst_19 : decode cX7_isFirst 19 = .ok (.aload_n 0, 1) := by decide +kernel
theorem dX7_isFirst_20 : decode cX7_isFirst 20 = .ok (.getfield 68, 3) := by decide +kernel
theorem dX7_isFirst_23 : decode cX7_isFirst 23 = .ok (.iload_n 1, 1) := by decide +kernel
theorem dX7_isFirst_24 : decode cX7_isFirst 24 = .ok (.iaload, 1) := by decide +kernel
theorem dX7_isFirst_25 : decode cX7_isFirst 25 = .ok (.if_icmp .eq 7, 3) := by decide +kernel
theorem dX7_isFirst_28 : decode cX7_isFirst 28 = .ok (.iconst 1, 1) := by decide +kernel
theorem dX7_isFirst_29 : decode cX7_isFirst 29 = .ok (.goto 4, 3) := by decide +kernel
theorem dX7_isFirst_32 : decode cX7_isFirst 32 = .ok (.iconst 0, 1) := by decide +kernel
theorem dX7_isFirst_33 : decode cX7_isFirst 33 = .ok (.istore_n 2, 1) := by decide +kernel
theorem dX7_isFirst_34 : decode cX7_isFirst 34 = .ok (.iinc 3 1, 3) := by decide +kernel
theorem dX7_isFirst_37 : decode cX7_isFirst 37 = .ok (.goto (-33), 3) := by decide +kernel
theorem dX7_isFirst_40 : decode cX7_isFirst 40 = .ok (.iload_n 2, 1) := by decide +kernel
theorem dX7_isFirst_41 : decode cX7_isFirst 41 = .ok (.ireturn, 1) := by decide +kernel
theorem dX7_counts_0 : decode cX7_counts 0 = .ok (.aload_n 0, 1) := by decide +kernel
theorem dX7_counts_1 : decode cX7_counts 1 = .ok (.iload_n 1, 1) := by decide +kernel
theorem dX7_counts_2 : decode cX7_counts 2 = .ok (.invokevirtual 246, 3) := by decide +kernel
theorem dX7_counts_5 : decode cX7_counts 5 = .ok (.istore_n 2, 1) := by decide +kernel
theorem dX7_counts_6 : decode cX7_counts 6 = .ok (.iload_n 1, 1) := by decide +kernel
theorem dX7_counts_7 : decode cX7_counts 7 = .ok (.iconst 1, 1) := by decide +kernel
theorem dX7_counts_8 : decode cX7_counts 8 = .ok (.iadd, 1) := by decide +kernel
theorem dX7_counts_9 : decode cX7_counts 9 = .ok (.istore_n 3, 1) := by decide +kernel
theorem dX7_counts_10 : decode cX7_counts 10 = .ok (.iload_n 3, 1) := by decide +kernel
theorem dX7_counts_11 : decode cX7_counts 11 = .ok (.aload_n 0, 1) := by decide +kernel
theorem dX7_counts_12 : decode cX7_counts 12 = .ok (.getfield 235, 3) := by decide +kernel
theorem dX7_counts_15 : decode cX7_counts 15 = .ok (.if_icmp .ge 57, 3) := by decide +kernel
theorem dX7_counts_18 : decode cX7_counts 18 = .ok (.iload_n 2, 1) := by decide +kernel
theorem dX7_counts_19 : decode cX7_counts 19 = .ok (.ifCond .eq 53, 3) := by decide +kernel
theorem dX7_counts_22 : decode cX7_counts 22 = .ok (.aload_n 0, 1) := by decide +kernel
theorem dX7_counts_23 : decode cX7_counts 23 = .ok (.getfield 62, 3) := by decide +kernel
theorem dX7_counts_26 : decode cX7_counts 26 = .ok (.iload_n 3, 1) := by decide +kernel
theorem dX7_counts_27 : decode cX7_counts 27 = .ok (.iaload, 1) := by decide +kernel
theorem dX7_counts_28 : decode cX7_counts 28 = .ok (.aload_n 0, 1) := by decide +kernel
theorem dX7_counts_29 : decode cX7_counts 29 = .ok (.getfield 62, 3) := by decide +kernel
theorem dX7_counts_32 : decode cX7_counts 32 = .ok (.iload_n 1, 1) := by decide +kernel
theorem dX7_counts_33 : decode cX7_counts 33 = .ok (.iaload, 1) := by decide +kernel
theorem dX7_counts_34 : decode cX7_counts 34 = .ok (.if_icmp .ne 26, 3) := by decide +kernel
theorem dX7_counts_37 : decode cX7_counts 37 = .ok (.aload_n 0, 1) := by decide +kernel
theorem dX7_counts_38 : decode cX7_counts 38 = .ok (.getfield 65, 3) := by decide +kernel
theorem dX7_counts_41 : decode cX7_counts 41 = .ok (.iload_n 3, 1) := by decide +kernel
theorem dX7_counts_42 : decode cX7_counts 42 = .ok (.iaload, 1) := by decide +kernel
theorem dX7_counts_43 : decode cX7_counts 43 = .ok (.aload_n 0, 1) := by decide +kernel
theorem dX7_counts_44 : decode cX7_counts 44 = .ok (.getfield 65, 3) := by decide +kernel
theorem dX7_counts_47 : decode cX7_counts 47 = .ok (.iload_n 1, 1) := by decide +kernel
theorem dX7_counts_48 : decode cX7_counts 48 = .ok (.iaload, 1) := by decide +kernel
theorem dX7_counts_49 : decode cX7_counts 49 = .ok (.if_icmp .ne 11, 3) := by decide +kernel
theorem dX7_counts_52 : decode cX7_counts 52 = .ok (.aload_n 0, 1) := by decide +kernel
theorem dX7_counts_53 : decode cX7_counts 53 = .ok (.iload_n 3, 1) := by decide +kernel
theorem dX7_counts_54 : decode cX7_counts 54 = .ok (.invokevirtual 246, 3) := by decide +kernel
theorem dX7_counts_57 : decode cX7_counts 57 = .ok (.ifCond .ne 7, 3) := by decide +kernel
theorem dX7_counts_60 : decode cX7_counts 60 = .ok (.iconst 1, 1) := by decide +kernel
theorem dX7_counts_61 : decode cX7_counts 61 = .ok (.goto 4, 3) := by decide +kernel
theorem dX7_counts_64 : decode cX7_counts 64 = .ok (.iconst 0, 1) := by decide +kernel
theorem dX7_counts_65 : decode cX7_counts 65 = .ok (.istore_n 2, 1) := by decide +kernel
theorem dX7_counts_66 : decode cX7_counts 66 = .ok (.iinc 3 1, 3) := by decide +kernel
theorem dX7_counts_69 : decode cX7_counts 69 = .ok (.goto (-59), 3) := by decide +kernel
theorem dX7_counts_72 : decode cX7_counts 72 = .ok (.iload_n 2, 1) := by decide +kernel
theorem dX7_counts_73 : decode cX7_counts 73 = .ok (.ireturn, 1) := by decide +kernel
theorem dX7_wordOf_0 : decode cX7_wordOf 0 = .ok (.iload_n 1, 1) := by decide +kernel
theorem dX7_wordOf_1 : decode cX7_wordOf 1 = .ok (.i2l, 1) := by decide +kernel
theorem dX7_wordOf_2 : decode cX7_wordOf 2 = .ok (.lconst 0, 1) := by decide +kernel
theorem dX7_wordOf_3 : decode cX7_wordOf 3 = .ok (.aload_n 0, 1) := by decide +kernel
theorem dX7_wordOf_4 : decode cX7_wordOf 4 = .ok (.getfield 235, 3) := by decide +kernel
theorem dX7_wordOf_7 : decode cX7_wordOf 7 = .ok (.iconst 1, 1) := by decide +kernel
theorem dX7_wordOf_8 : decode cX7_wordOf 8 = .ok (.isub, 1) := by decide +kernel
theorem dX7_wordOf_9 : decode cX7_wordOf 9 = .ok (.i2l, 1) := by decide +kernel
theorem dX7_wordOf_10 : decode cX7_wordOf 10 = .ok (.invokestatic 102, 3) := by decide +kernel
theorem dX7_wordOf_13 : decode cX7_wordOf 13 = .ok (.ifCond .eq 15, 3) := by decide +kernel
theorem dX7_wordOf_16 : decode cX7_wordOf 16 = .ok (.iload_n 2, 1) := by decide +kernel
theorem dX7_wordOf_17 : decode cX7_wordOf 17 = .ok (.i2l, 1) := by decide +kernel
theorem dX7_wordOf_18 : decode cX7_wordOf 18 = .ok (.lconst 0, 1) := by decide +kernel
theorem dX7_wordOf_19 : decode cX7_wordOf 19 = .ok (.ldc2_w 134, 3) := by decide +kernel
theorem dX7_wordOf_22 : decode cX7_wordOf 22 = .ok (.invokestatic 102, 3) := by decide +kernel
theorem dX7_wordOf_25 : decode cX7_wordOf 25 = .ok (.ifCond .ne 5, 3) := by decide +kernel
theorem dX7_wordOf_28 : decode cX7_wordOf 28 = .ok (.iconst (-1), 1) := by decide +kernel
theorem dX7_wordOf_29 : decode cX7_wordOf 29 = .ok (.ireturn, 1) := by decide +kernel
theorem dX7_wordOf_30 : decode cX7_wordOf 30 = .ok (.iload_n 2, 1) := by decide +kernel
theorem dX7_wordOf_31 : decode cX7_wordOf 31 = .ok (.ifCond .ne 12, 3) := by decide +kernel
theorem dX7_wordOf_34 : decode cX7_wordOf 34 = .ok (.aload_n 0, 1) := by decide +kernel
theorem dX7_wordOf_35 : decode cX7_wordOf 35 = .ok (.getfield 62, 3) := by decide +kernel
theorem dX7_wordOf_38 : decode cX7_wordOf 38 = .ok (.iload_n 1, 1) := by decide +kernel
theorem dX7_wordOf_39 : decode cX7_wordOf 39 = .ok (.iaload, 1) := by decide +kernel
theorem dX7_wordOf_40 : decode cX7_wordOf 40 = .ok (.goto 72, 3) := by decide +kernel
theorem dX7_wordOf_43 : decode cX7_wordOf 43 = .ok (.iload_n 2, 1) := by decide +kernel
theorem dX7_wordOf_44 : decode cX7_wordOf 44 = .ok (.iconst 1, 1) := by decide +kernel
theorem dX7_wordOf_45 : decode cX7_wordOf 45 = .ok (.if_icmp .ne 12, 3) := by decide +kernel
theorem dX7_wordOf_48 : decode cX7_wordOf 48 = .ok (.aload_n 0, 1) := by decide +kernel
theorem dX7_wordOf_49 : decode cX7_wordOf 49 = .ok (.getfield 65, 3) := by decide +kernel
theorem dX7_wordOf_52 : decode cX7_wordOf 52 = .ok (.iload_n 1, 1) := by decide +kernel
theorem dX7_wordOf_53 : decode cX7_wordOf 53 = .ok (.iaload, 1) := by decide +kernel
theorem dX7_wordOf_54 : decode cX7_wordOf 54 = .ok (.goto 58, 3) := by decide +kernel
theorem dX7_wordOf_57 : decode cX7_wordOf 57 = .ok (.iload_n 2, 1) := by decide +kernel
theorem dX7_wordOf_58 : decode cX7_wordOf 58 = .ok (.iconst 2, 1) := by decide +kernel
theorem dX7_wordOf_59 : decode cX7_wordOf 59 = .ok (.if_icmp .ne 12, 3) := by decide +kernel
theorem dX7_wordOf_62 : decode cX7_wordOf 62 = .ok (.aload_n 0, 1) := by decide +kernel
theorem dX7_wordOf_63 : decode cX7_wordOf 63 = .ok (.getfield 68, 3) := by decide +kernel
theorem dX7_wordOf_66 : decode cX7_wordOf 66 = .ok (.iload_n 1, 1) := by decide +kernel
theorem dX7_wordOf_67 : decode cX7_wordOf 67 = .ok (.iaload, 1) := by decide +kernel
theorem dX7_wordOf_68 : decode cX7_wordOf 68 = .ok (.goto 44, 3) := by decide +kernel
theorem dX7_wordOf_71 : decode cX7_wordOf 71 = .ok (.iload_n 2, 1) := by decide +kernel
theorem dX7_wordOf_72 : decode cX7_wordOf 72 = .ok (.iconst 3, 1) := by decide +kernel
theorem dX7_wordOf_73 : decode cX7_wordOf 73 = .ok (.if_icmp .ne 12, 3) := by decide +kernel
theorem dX7_wordOf_76 : decode cX7_wordOf 76 = .ok (.aload_n 0, 1) := by decide +kernel
theorem dX7_wordOf_77 : decode cX7_wordOf 77 = .ok (.getfield 71, 3) := by decide +kernel
theorem dX7_wordOf_80 : decode cX7_wordOf 80 = .ok (.iload_n 1, 1) := by decide +kernel
theorem dX7_wordOf_81 : decode cX7_wordOf 81 = .ok (.iaload, 1) := by decide +kernel
theorem dX7_wordOf_82 : decode cX7_wordOf 82 = .ok (.goto 30, 3) := by decide +kernel
theorem dX7_wordOf_85 : decode cX7_wordOf 85 = .ok (.iload_n 2, 1) := by decide +kernel
theorem dX7_wordOf_86 : decode cX7_wordOf 86 = .ok (.iconst 4, 1) := by decide +kernel
theorem dX7_wordOf_87 : decode cX7_wordOf 87 = .ok (.if_icmp .ne 12, 3) := by decide +kernel
theorem dX7_wordOf_90 : decode cX7_wordOf 90 = .ok (.aload_n 0, 1) := by decide +kernel
theorem dX7_wordOf_91 : decode cX7_wordOf 91 = .ok (.getfield 74, 3) := by decide +kernel
theorem dX7_wordOf_94 : decode cX7_wordOf 94 = .ok (.iload_n 1, 1) := by decide +kernel
theorem dX7_wordOf_95 : decode cX7_wordOf 95 = .ok (.iaload, 1) := by decide +kernel
theorem dX7_wordOf_96 : decode cX7_wordOf 96 = .ok (.goto 16, 3) := by decide +kernel
theorem dX7_wordOf_99 : decode cX7_wordOf 99 = .ok (.aload_n 0, 1) := by decide +kernel
theorem dX7_wordOf_100 : decode cX7_wordOf 100 = .ok (.iload_n 1, 1) := by decide +kernel
theorem dX7_wordOf_101 : decode cX7_wordOf 101 = .ok (.invokevirtual 249, 3) := by decide +kernel
theorem dX7_wordOf_104 : decode cX7_wordOf 104 = .ok (.ifCond .eq 7, 3) := by decide +kernel
theorem dX7_wordOf_107 : decode cX7_wordOf 107 = .ok (.iconst 1, 1) := by decide +kernel
theorem dX7_wordOf_108 : decode cX7_wordOf 108 = .ok (.goto 4, 3) := by decide +kernel
theorem dX7_wordOf_111 : decode cX7_wordOf 111 = .ok (.iconst 0, 1) := by decide +kernel
theorem dX7_wordOf_112 : decode cX7_wordOf 112 = .ok (.ireturn, 1) := by decide +kernel
theorem dX7_wordBy_0 : decode cX7_wordBy 0 = .ok (.bipush (-4), 2) := by decide +kernel
theorem dX7_wordBy_2 : decode cX7_wordBy 2 = .ok (.istore_n 3, 1) := by decide +kernel
theorem dX7_wordBy_3 : decode cX7_wordBy 3 = .ok (.iconst 0, 1) := by decide +kernel
theorem dX7_wordBy_4 : decode cX7_wordBy 4 = .ok (.istore 4, 2) := by decide +kernel
theorem dX7_wordBy_6 : decode cX7_wordBy 6 = .ok (.iload 4, 2) := by decide +kernel
theorem dX7_wordBy_8 : decode cX7_wordBy 8 = .ok (.aload_n 0, 1) := by decide +kernel
theorem dX7_wordBy_9 : decode cX7_wordBy 9 = .ok (.getfield 235, 3) := by decide +kernel
theorem dX7_wordBy_12 : decode cX7_wordBy 12 = .ok (.if_icmp .ge 47, 3) := by decide +kernel
theorem dX7_wordBy_15 : decode cX7_wordBy 15 = .ok (.aload_n 0, 1) := by decide +kernel
theorem dX7_wordBy_16 : decode cX7_wordBy 16 = .ok (.getfield 62, 3) := by decide +kernel
theorem dX7_wordBy_19 : decode cX7_wordBy 19 = .ok (.iload 4, 2) := by decide +kernel
theorem dX7_wordBy_21 : decode cX7_wordBy 21 = .ok (.iaload, 1) := by decide +kernel
theorem dX7_wordBy_22 : decode cX7_wordBy 22 = .ok (.iload_n 1, 1) := by decide +kernel
theorem dX7_wordBy_23 : decode cX7_wordBy 23 = .ok (.if_icmp .ne 28, 3) := by decide +kernel
theorem dX7_wordBy_26 : decode cX7_wordBy 26 = .ok (.aload_n 0, 1) := by decide +kernel
theorem dX7_wordBy_27 : decode cX7_wordBy 27 = .ok (.getfield 65, 3) := by decide +kernel
theorem dX7_wordBy_30 : decode cX7_wordBy 30 = .ok (.iload 4, 2) := by decide +kernel
theorem dX7_wordBy_32 : decode cX7_wordBy 32 = .ok (.iaload, 1) := by decide +kernel
theorem dX7_wordBy_33 : decode cX7_wordBy 33 = .ok (.iload_n 2, 1) := by decide +kernel
theorem dX7_wordBy_34 : decode cX7_wordBy 34 = .ok (.if_icmp .ne 17, 3) := by decide +kernel
theorem dX7_wordBy_37 : decode cX7_wordBy 37 = .ok (.aload_n 0, 1) := by decide +kernel
theorem dX7_wordBy_38 : decode cX7_wordBy 38 = .ok (.iload 4, 2) := by decide +kernel
theorem dX7_wordBy_40 : decode cX7_wordBy 40 = .ok (.invokevirtual 249, 3) := by decide +kernel
theorem dX7_wordBy_43 : decode cX7_wordBy 43 = .ok (.ifCond .eq 8, 3) := by decide +kernel
theorem dX7_wordBy_46 : decode cX7_wordBy 46 = .ok (.iload 4, 2) := by decide +kernel
theorem dX7_wordBy_48 : decode cX7_wordBy 48 = .ok (.goto 4, 3) := by decide +kernel
theorem dX7_wordBy_51 : decode cX7_wordBy 51 = .ok (.iload_n 3, 1) := by decide +kernel
theorem dX7_wordBy_52 : decode cX7_wordBy 52 = .ok (.istore_n 3, 1) := by decide +kernel
theorem dX7_wordBy_53 : decode cX7_wordBy 53 = .ok (.iinc 4 1, 3) := by decide +kernel
theorem dX7_wordBy_56 : decode cX7_wordBy 56 = .ok (.goto (-50), 3) := by decide +kernel
theorem dX7_wordBy_59 : decode cX7_wordBy 59 = .ok (.iload_n 3, 1) := by decide +kernel
theorem dX7_wordBy_60 : decode cX7_wordBy 60 = .ok (.ireturn, 1) := by decide +kernel
theorem dX7_sayersOf_0 : decode cX7_sayersOf 0 = .ok (.iconst 0, 1) := by decide +kernel
theorem dX7_sayersOf_1 : decode cX7_sayersOf 1 = .ok (.istore_n 2, 1) := by decide +kernel
theorem dX7_sayersOf_2 : decode cX7_sayersOf 2 = .ok (.iconst 0, 1) := by decide +kernel
theorem dX7_sayersOf_3 : decode cX7_sayersOf 3 = .ok (.istore_n 3, 1) := by decide +kernel
theorem dX7_sayersOf_4 : decode cX7_sayersOf 4 = .ok (.iload_n 3, 1) := by decide +kernel
theorem dX7_sayersOf_5 : decode cX7_sayersOf 5 = .ok (.aload_n 0, 1) := by decide +kernel
theorem dX7_sayersOf_6 : decode cX7_sayersOf 6 = .ok (.getfield 98, 3) := by decide +kernel
theorem dX7_sayersOf_9 : decode cX7_sayersOf 9 = .ok (.if_icmp .ge 39, 3) := by decide +kernel
theorem dX7_sayersOf_12 : decode cX7_sayersOf 12 = .ok (.iload_n 2, 1) := by decide +kernel
theorem dX7_sayersOf_13 : decode cX7_sayersOf 13 = .ok (.aload_n 0, 1) := by decide +kernel
theorem dX7_sayersOf_14 : decode cX7_sayersOf 14 = .ok (.getfield 17, 3) := by decide +kernel
theorem dX7_sayersOf_17 : decode cX7_sayersOf 17 = .ok (.iload_n 3, 1) := by decide +kernel
theorem dX7_sayersOf_18 : decode cX7_sayersOf 18 = .ok (.baload, 1) := by decide +kernel
theorem dX7_sayersOf_19 : decode cX7_sayersOf 19 = .ok (.ifCond .ne 20, 3) := by decide +kernel
theorem dX7_sayersOf_22 : decode cX7_sayersOf 22 = .ok (.aload_n 0, 1) := by decide +kernel
theorem dX7_sayersOf_23 : decode cX7_sayersOf 23 = .ok (.iload_n 3, 1) := by decide +kernel
theorem dX7_sayersOf_24 : decode cX7_sayersOf 24 = .ok (.iload_n 1, 1) := by decide +kernel
theorem dX7_sayersOf_25 : decode cX7_sayersOf 25 = .ok (.invokevirtual 252, 3) := by decide +kernel
theorem dX7_sayersOf_28 : decode cX7_sayersOf 28 = .ok (.bipush (-4), 2) := by decide +kernel
theorem dX7_sayersOf_30 : decode cX7_sayersOf 30 = .ok (.if_icmp .eq 9, 3) := by decide +kernel
theorem dX7_sayersOf_33 : decode cX7_sayersOf 33 = .ok (.iconst 1, 1) := by decide +kernel
theorem dX7_sayersOf_34 : decode cX7_sayersOf 34 = .ok (.iload_n 3, 1) := by decide +kernel
theorem dX7_sayersOf_35 : decode cX7_sayersOf 35 = .ok (.ishl, 1) := by decide +kernel
theorem dX7_sayersOf_36 : decode cX7_sayersOf 36 = .ok (.goto 4, 3) := by decide +kernel
theorem dX7_sayersOf_39 : decode cX7_sayersOf 39 = .ok (.iconst 0, 1) := by decide +kernel
theorem dX7_sayersOf_40 : decode cX7_sayersOf 40 = .ok (.ior, 1) := by decide +kernel
theorem dX7_sayersOf_41 : decode cX7_sayersOf 41 = .ok (.istore_n 2, 1) := by decide +kernel
theorem dX7_sayersOf_42 : decode cX7_sayersOf 42 = .ok (.iinc 3 1, 3) := by decide +kernel
theorem dX7_sayersOf_45 : decode cX7_sayersOf 45 = .ok (.goto (-41), 3) := by decide +kernel
theorem dX7_sayersOf_48 : decode cX7_sayersOf 48 = .ok (.iload_n 2, 1) := by decide +kernel
theorem dX7_sayersOf_49 : decode cX7_sayersOf 49 = .ok (.ireturn, 1) := by decide +kernel
theorem dX7_weightOf_0 : decode cX7_weightOf 0 = .ok (.aload_n 0, 1) := by decide +kernel
theorem dX7_weightOf_1 : decode cX7_weightOf 1 = .ok (.iload_n 2, 1) := by decide +kernel
theorem dX7_weightOf_2 : decode cX7_weightOf 2 = .ok (.invokevirtual 256, 3) := by decide +kernel
theorem dX7_weightOf_5 : decode cX7_weightOf 5 = .ok (.iconst 1, 1) := by decide +kernel
theorem dX7_weightOf_6 : decode cX7_weightOf 6 = .ok (.iload_n 1, 1) := by decide +kernel
theorem dX7_weightOf_7 : decode cX7_weightOf 7 = .ok (.ishl, 1) := by decide +kernel
theorem dX7_weightOf_8 : decode cX7_weightOf 8 = .ok (.iconst 1, 1) := by decide +kernel
theorem dX7_weightOf_9 : decode cX7_weightOf 9 = .ok (.isub, 1) := by decide +kernel
theorem dX7_weightOf_10 : decode cX7_weightOf 10 = .ok (.iand, 1) := by decide +kernel
theorem dX7_weightOf_11 : decode cX7_weightOf 11 = .ok (.istore_n 3, 1) := by decide +kernel
theorem dX7_weightOf_12 : decode cX7_weightOf 12 = .ok (.aload_n 0, 1) := by decide +kernel
theorem dX7_weightOf_13 : decode cX7_weightOf 13 = .ok (.iload_n 3, 1) := by decide +kernel
theorem dX7_weightOf_14 : decode cX7_weightOf 14 = .ok (.iconst 1, 1) := by decide +kernel
theorem dX7_weightOf_15 : decode cX7_weightOf 15 = .ok (.iload_n 1, 1) := by decide +kernel
theorem dX7_weightOf_16 : decode cX7_weightOf 16 = .ok (.ishl, 1) := by decide +kernel
theorem dX7_weightOf_17 : decode cX7_weightOf 17 = .ok (.ior, 1) := by decide +kernel
theorem dX7_weightOf_18 : decode cX7_weightOf 18 = .ok (.invokevirtual 220, 3) := by decide +kernel
theorem dX7_weightOf_21 : decode cX7_weightOf 21 = .ok (.aload_n 0, 1) := by decide +kernel
theorem dX7_weightOf_22 : decode cX7_weightOf 22 = .ok (.iload_n 3, 1) := by decide +kernel
theorem dX7_weightOf_23 : decode cX7_weightOf 23 = .ok (.invokevirtual 220, 3) := by decide +kernel
theorem dX7_weightOf_26 : decode cX7_weightOf 26 = .ok (.isub, 1) := by decide +kernel
theorem dX7_weightOf_27 : decode cX7_weightOf 27 = .ok (.istore 4, 2) := by decide +kernel
theorem dX7_weightOf_29 : decode cX7_weightOf 29 = .ok (.iload 4, 2) := by decide +kernel
theorem dX7_weightOf_31 : decode cX7_weightOf 31 = .ok (.aload_n 0, 1) := by decide +kernel
theorem dX7_weightOf_32 : decode cX7_weightOf 32 = .ok (.getfield 41, 3) := by decide +kernel
theorem dX7_weightOf_35 : decode cX7_weightOf 35 = .ok (.iconst 5, 1) := by decide +kernel
theorem dX7_weightOf_36 : decode cX7_weightOf 36 = .ok (.iaload, 1) := by decide +kernel
theorem dX7_weightOf_37 : decode cX7_weightOf 37 = .ok (.aload_n 0, 1) := by decide +kernel
theorem dX7_weightOf_38 : decode cX7_weightOf 38 = .ok (.getfield 106, 3) := by decide +kernel
theorem dX7_weightOf_41 : decode cX7_weightOf 41 = .ok (.aload_n 0, 1) := by decide +kernel
theorem dX7_weightOf_42 : decode cX7_weightOf 42 = .ok (.getfield 74, 3) := by decide +kernel
theorem dX7_weightOf_45 : decode cX7_weightOf 45 = .ok (.aload_n 0, 1) := by decide +kernel
theorem dX7_weightOf_46 : decode cX7_weightOf 46 = .ok (.iload_n 1, 1) := by decide +kernel
theorem dX7_weightOf_47 : decode cX7_weightOf 47 = .ok (.iload_n 2, 1) := by decide +kernel
theorem dX7_weightOf_48 : decode cX7_weightOf 48 = .ok (.invokevirtual 252, 3) := by decide +kernel
theorem dX7_weightOf_51 : decode cX7_weightOf 51 = .ok (.iaload, 1) := by decide +kernel
theorem dX7_weightOf_52 : decode cX7_weightOf 52 = .ok (.isub, 1) := by decide +kernel
theorem dX7_weightOf_53 : decode cX7_weightOf 53 = .ok (.invokestatic 124, 3) := by decide +kernel
theorem dX7_weightOf_56 : decode cX7_weightOf 56 = .ok (.ireturn, 1) := by decide +kernel
theorem dX7_weight_0 : decode cX7_weight 0 = .ok (.aload_n 0, 1) := by decide +kernel
theorem dX7_weight_1 : decode cX7_weight 1 = .ok (.iload_n 1, 1) := by decide +kernel
theorem dX7_weight_2 : decode cX7_weight 2 = .ok (.invokevirtual 111, 3) := by decide +kernel
theorem dX7_weight_5 : decode cX7_weight 5 = .ok (.ifCond .eq 16, 3) := by decide +kernel
theorem dX7_weight_8 : decode cX7_weight 8 = .ok (.aload_n 0, 1) := by decide +kernel
theorem dX7_weight_9 : decode cX7_weight 9 = .ok (.iload_n 2, 1) := by decide +kernel
theorem dX7_weight_10 : decode cX7_weight 10 = .ok (.invokevirtual 111, 3) := by decide +kernel
theorem dX7_weight_13 : decode cX7_weight 13 = .ok (.ifCond .eq 8, 3) := by decide +kernel
theorem dX7_weight_16 : decode cX7_weight 16 = .ok (.iload_n 2, 1) := by decide +kernel
theorem dX7_weight_17 : decode cX7_weight 17 = .ok (.iload_n 1, 1) := by decide +kernel
theorem dX7_weight_18 : decode cX7_weight 18 = .ok (.if_icmp .ne 5, 3) := by decide +kernel
theorem dX7_weight_21 : decode cX7_weight 21 = .ok (.iconst (-1), 1) := by decide +kernel
theorem dX7_weight_22 : decode cX7_weight 22 = .ok (.ireturn, 1) := by decide +kernel
theorem dX7_weight_23 : decode cX7_weight 23 = .ok (.aload_n 0, 1) := by decide +kernel
theorem dX7_weight_24 : decode cX7_weight 24 = .ok (.iload_n 1, 1) := by decide +kernel
theorem dX7_weight_25 : decode cX7_weight 25 = .ok (.invokevirtual 256, 3) := by decide +kernel
theorem dX7_weight_28 : decode cX7_weight 28 = .ok (.iload_n 2, 1) := by decide +kernel
theorem dX7_weight_29 : decode cX7_weight 29 = .ok (.ishr, 1) := by decide +kernel
theorem dX7_weight_30 : decode cX7_weight 30 = .ok (.iconst 1, 1) := by decide +kernel
theorem dX7_weight_31 : decode cX7_weight 31 = .ok (.iand, 1) := by decide +kernel
theorem dX7_weight_32 : decode cX7_weight 32 = .ok (.iconst 1, 1) := by decide +kernel
theorem dX7_weight_33 : decode cX7_weight 33 = .ok (.if_icmp .ne 12, 3) := by decide +kernel
theorem dX7_weight_36 : decode cX7_weight 36 = .ok (.aload_n 0, 1) := by decide +kernel
theorem dX7_weight_37 : decode cX7_weight 37 = .ok (.iload_n 2, 1) := by decide +kernel
theorem dX7_weight_38 : decode cX7_weight 38 = .ok (.iload_n 1, 1) := by decide +kernel
theorem dX7_weight_39 : decode cX7_weight 39 = .ok (.invokevirtual 259, 3) := by decide +kernel
theorem dX7_weight_42 : decode cX7_weight 42 = .ok (.goto 5, 3) := by decide +kernel
theorem dX7_weight_45 : decode cX7_weight 45 = .ok (.bipush (-4), 2) := by decide +kernel
theorem dX7_weight_47 : decode cX7_weight 47 = .ok (.ireturn, 1) := by decide +kernel
theorem dX7_sayers_0 : decode cX7_sayers 0 = .ok (.aload_n 0, 1) := by decide +kernel
theorem dX7_sayers_1 : decode cX7_sayers 1 = .ok (.iload_n 1, 1) := by decide +kernel
theorem dX7_sayers_2 : decode cX7_sayers 2 = .ok (.invokevirtual 111, 3) := by decide +kernel
theorem dX7_sayers_5 : decode cX7_sayers 5 = .ok (.ifCond .eq 11, 3) := by decide +kernel
theorem dX7_sayers_8 : decode cX7_sayers 8 = .ok (.aload_n 0, 1) := by decide +kernel
theorem dX7_sayers_9 : decode cX7_sayers 9 = .ok (.iload_n 1, 1) := by decide +kernel
theorem dX7_sayers_10 : decode cX7_sayers 10 = .ok (.invokevirtual 256, 3) := by decide +kernel
theorem dX7_sayers_13 : decode cX7_sayers 13 = .ok (.goto 4, 3) := by decide +kernel
theorem dX7_sayers_16 : decode cX7_sayers 16 = .ok (.iconst (-1), 1) := by decide +kernel
theorem dX7_sayers_17 : decode cX7_sayers 17 = .ok (.ireturn, 1) := by decide +kernel
theorem dX7_lists_0 : decode cX7_lists 0 = .ok (.aload_n 0, 1) := by decide +kernel
theorem dX7_lists_1 : decode cX7_lists 1 = .ok (.iload_n 1, 1) := by decide +kernel
theorem dX7_lists_2 : decode cX7_lists 2 = .ok (.invokevirtual 256, 3) := by decide +kernel
theorem dX7_lists_5 : decode cX7_lists 5 = .ok (.istore_n 2, 1) := by decide +kernel
theorem dX7_lists_6 : decode cX7_lists 6 = .ok (.aload_n 0, 1) := by decide +kernel
theorem dX7_lists_7 : decode cX7_lists 7 = .ok (.iconst 0, 1) := by decide +kernel
theorem dX7_lists_8 : decode cX7_lists 8 = .ok (.putfield 262, 3) := by decide +kernel
theorem dX7_lists_11 : decode cX7_lists 11 = .ok (.aload_n 0, 1) := by decide +kernel
theorem dX7_lists_12 : decode cX7_lists 12 = .ok (.iconst 0, 1) := by decide +kernel
theorem dX7_lists_13 : decode cX7_lists 13 = .ok (.putfield 265, 3) := by decide +kernel
theorem dX7_lists_16 : decode cX7_lists 16 = .ok (.aload_n 0, 1) := by decide +kernel
theorem dX7_lists_17 : decode cX7_lists 17 = .ok (.iconst 0, 1) := by decide +kernel
theorem dX7_lists_18 : decode cX7_lists 18 = .ok (.putfield 268, 3) := by decide +kernel
theorem dX7_lists_21 : decode cX7_lists 21 = .ok (.iconst 0, 1) := by decide +kernel
theorem dX7_lists_22 : decode cX7_lists 22 = .ok (.istore_n 3, 1) := by decide +kernel
theorem dX7_lists_23 : decode cX7_lists 23 = .ok (.iload_n 3, 1) := by decide +kernel
theorem dX7_lists_24 : decode cX7_lists 24 = .ok (.aload_n 0, 1) := by decide +kernel
theorem dX7_lists_25 : decode cX7_lists 25 = .ok (.getfield 98, 3) := by decide +kernel
theorem dX7_lists_28 : decode cX7_lists 28 = .ok (.if_icmp .ge 109, 3) := by decide +kernel
theorem dX7_lists_31 : decode cX7_lists 31 = .ok (.iload_n 2, 1) := by decide +kernel
theorem dX7_lists_32 : decode cX7_lists 32 = .ok (.iload_n 3, 1) := by decide +kernel
theorem dX7_lists_33 : decode cX7_lists 33 = .ok (.ishr, 1) := by decide +kernel
theorem dX7_lists_34 : decode cX7_lists 34 = .ok (.iconst 1, 1) := by decide +kernel
theorem dX7_lists_35 : decode cX7_lists 35 = .ok (.iand, 1) := by decide +kernel
theorem dX7_lists_36 : decode cX7_lists 36 = .ok (.iconst 1, 1) := by decide +kernel
theorem dX7_lists_37 : decode cX7_lists 37 = .ok (.if_icmp .ne 94, 3) := by decide +kernel
theorem dX7_lists_40 : decode cX7_lists 40 = .ok (.aload_n 0, 1) := by decide +kernel
theorem dX7_lists_41 : decode cX7_lists 41 = .ok (.getfield 77, 3) := by decide +kernel
theorem dX7_lists_44 : decode cX7_lists 44 = .ok (.aload_n 0, 1) := by decide +kernel
theorem dX7_lists_45 : decode cX7_lists 45 = .ok (.getfield 262, 3) := by decide +kernel
theorem dX7_lists_48 : decode cX7_lists 48 = .ok (.aload_n 0, 1) := by decide +kernel
theorem dX7_lists_49 : decode cX7_lists 49 = .ok (.iload_n 3, 1) := by decide +kernel
theorem dX7_lists_50 : decode cX7_lists 50 = .ok (.iload_n 1, 1) := by decide +kernel
theorem dX7_lists_51 : decode cX7_lists 51 = .ok (.invokevirtual 259, 3) := by decide +kernel
theorem dX7_lists_54 : decode cX7_lists 54 = .ok (.iastore, 1) := by decide +kernel
theorem dX7_lists_55 : decode cX7_lists 55 = .ok (.aload_n 0, 1) := by decide +kernel
theorem dX7_lists_56 : decode cX7_lists 56 = .ok (.getfield 80, 3) := by decide +kernel
theorem dX7_lists_59 : decode cX7_lists 59 = .ok (.aload_n 0, 1) := by decide +kernel
theorem dX7_lists_60 : decode cX7_lists 60 = .ok (.getfield 262, 3) := by decide +kernel
theorem dX7_lists_63 : decode cX7_lists 63 = .ok (.aload_n 0, 1) := by decide +kernel
theorem dX7_lists_64 : decode cX7_lists 64 = .ok (.getfield 71, 3) := by decide +kernel
theorem dX7_lists_67 : decode cX7_lists 67 = .ok (.aload_n 0, 1) := by decide +kernel
theorem dX7_lists_68 : decode cX7_lists 68 = .ok (.iload_n 3, 1) := by decide +kernel
theorem dX7_lists_69 : decode cX7_lists 69 = .ok (.iload_n 1, 1) := by decide +kernel
theorem dX7_lists_70 : decode cX7_lists 70 = .ok (.invokevirtual 252, 3) := by decide +kernel
theorem dX7_lists_73 : decode cX7_lists 73 = .ok (.iaload, 1) := by decide +kernel
theorem dX7_lists_74 : decode cX7_lists 74 = .ok (.iastore, 1) := by decide +kernel
theorem dX7_lists_75 : decode cX7_lists 75 = .ok (.aload_n 0, 1) := by decide +kernel
theorem dX7_lists_76 : decode cX7_lists 76 = .ok (.dup, 1) := by decide +kernel
theorem dX7_lists_77 : decode cX7_lists 77 = .ok (.getfield 265, 3) := by decide +kernel
theorem dX7_lists_80 : decode cX7_lists 80 = .ok (.aload_n 0, 1) := by decide +kernel
theorem dX7_lists_81 : decode cX7_lists 81 = .ok (.getfield 77, 3) := by decide +kernel
theorem dX7_lists_84 : decode cX7_lists 84 = .ok (.aload_n 0, 1) := by decide +kernel
theorem dX7_lists_85 : decode cX7_lists 85 = .ok (.getfield 262, 3) := by decide +kernel
theorem dX7_lists_88 : decode cX7_lists 88 = .ok (.iaload, 1) := by decide +kernel
theorem dX7_lists_89 : decode cX7_lists 89 = .ok (.iadd, 1) := by decide +kernel
theorem dX7_lists_90 : decode cX7_lists 90 = .ok (.putfield 265, 3) := by decide +kernel
theorem dX7_lists_93 : decode cX7_lists 93 = .ok (.aload_n 0, 1) := by decide +kernel
theorem dX7_lists_94 : decode cX7_lists 94 = .ok (.dup, 1) := by decide +kernel
theorem dX7_lists_95 : decode cX7_lists 95 = .ok (.getfield 268, 3) := by decide +kernel
theorem dX7_lists_98 : decode cX7_lists 98 = .ok (.aload_n 0, 1) := by decide +kernel
theorem dX7_lists_99 : decode cX7_lists 99 = .ok (.getfield 77, 3) := by decide +kernel
theorem dX7_lists_102 : decode cX7_lists 102 = .ok (.aload_n 0, 1) := by decide +kernel
theorem dX7_lists_103 : decode cX7_lists 103 = .ok (.getfield 262, 3) := by decide +kernel
theorem dX7_lists_106 : decode cX7_lists 106 = .ok (.iaload, 1) := by decide +kernel
theorem dX7_lists_107 : decode cX7_lists 107 = .ok (.aload_n 0, 1) := by decide +kernel
theorem dX7_lists_108 : decode cX7_lists 108 = .ok (.getfield 80, 3) := by decide +kernel
theorem dX7_lists_111 : decode cX7_lists 111 = .ok (.aload_n 0, 1) := by decide +kernel
theorem dX7_lists_112 : decode cX7_lists 112 = .ok (.getfield 262, 3) := by decide +kernel
theorem dX7_lists_115 : decode cX7_lists 115 = .ok (.iaload, 1) := by decide +kernel
theorem dX7_lists_116 : decode cX7_lists 116 = .ok (.imul, 1) := by decide +kernel
theorem dX7_lists_117 : decode cX7_lists 117 = .ok (.iadd, 1) := by decide +kernel
theorem dX7_lists_118 : decode cX7_lists 118 = .ok (.putfield 268, 3) := by decide +kernel
theorem dX7_lists_121 : decode cX7_lists 121 = .ok (.aload_n 0, 1) := by decide +kernel
theorem dX7_lists_122 : decode cX7_lists 122 = .ok (.dup, 1) := by decide +kernel
theorem dX7_lists_123 : decode cX7_lists 123 = .ok (.getfield 262, 3) := by decide +kernel
theorem dX7_lists_126 : decode cX7_lists 126 = .ok (.iconst 1, 1) := by decide +kernel
theorem dX7_lists_127 : decode cX7_lists 127 = .ok (.iadd, 1) := by decide +kernel
theorem dX7_lists_128 : decode cX7_lists 128 = .ok (.putfield 262, 3) := by decide +kernel
theorem dX7_lists_131 : decode cX7_lists 131 = .ok (.iinc 3 1, 3) := by decide +kernel
theorem dX7_lists_134 : decode cX7_lists 134 = .ok (.goto (-111), 3) := by decide +kernel
theorem dX7_lists_137 : decode cX7_lists 137 = .ok (.return_, 1) := by decide +kernel
theorem dX7_fraction_0 : decode cX7_fraction 0 = .ok (.iload_n 1, 1) := by decide +kernel
theorem dX7_fraction_1 : decode cX7_fraction 1 = .ok (.i2l, 1) := by decide +kernel
theorem dX7_fraction_2 : decode cX7_fraction 2 = .ok (.aload_n 0, 1) := by decide +kernel
theorem dX7_fraction_3 : decode cX7_fraction 3 = .ok (.getfield 265, 3) := by decide +kernel
theorem dX7_fraction_6 : decode cX7_fraction 6 = .ok (.i2l, 1) := by decide +kernel
theorem dX7_fraction_7 : decode cX7_fraction 7 = .ok (.invokestatic 271, 3) := by decide +kernel
theorem dX7_fraction_10 : decode cX7_fraction 10 = .ok (.l2i, 1) := by decide +kernel
theorem dX7_fraction_11 : decode cX7_fraction 11 = .ok (.istore_n 3, 1) := by decide +kernel
theorem dX7_fraction_12 : decode cX7_fraction 12 = .ok (.iload_n 2, 1) := by decide +kernel
theorem dX7_fraction_13 : decode cX7_fraction 13 = .ok (.iconst 2, 1) := by decide +kernel
theorem dX7_fraction_14 : decode cX7_fraction 14 = .ok (.irem, 1) := by decide +kernel
theorem dX7_fraction_15 : decode cX7_fraction 15 = .ok (.ifCond .ne 9, 3) := by decide +kernel
theorem dX7_fraction_18 : decode cX7_fraction 18 = .ok (.iload_n 1, 1) := by decide +kernel
theorem dX7_fraction_19 : decode cX7_fraction 19 = .ok (.iload_n 3, 1) := by decide +kernel
theorem dX7_fraction_20 : decode cX7_fraction 20 = .ok (.idiv, 1) := by decide +kernel
theorem dX7_fraction_21 : decode cX7_fraction 21 = .ok (.goto 9, 3) := by decide +kernel
theorem dX7_fraction_24 : decode cX7_fraction 24 = .ok (.aload_n 0, 1) := by decide +kernel
theorem dX7_fraction_25 : decode cX7_fraction 25 = .ok (.getfield 265, 3) := by decide +kernel
theorem dX7_fraction_28 : decode cX7_fraction 28 = .ok (.iload_n 3, 1) := by decide +kernel
theorem dX7_fraction_29 : decode cX7_fraction 29 = .ok (.idiv, 1) := by decide +kernel
theorem dX7_fraction_30 : decode cX7_fraction 30 = .ok (.ireturn, 1) := by decide +kernel
theorem dX7_mark_0 : decode cX7_mark 0 = .ok (.aload_n 0, 1) := by decide +kernel
theorem dX7_mark_1 : decode cX7_mark 1 = .ok (.iload_n 1, 1) := by decide +kernel
theorem dX7_mark_2 : decode cX7_mark 2 = .ok (.invokevirtual 111, 3) := by decide +kernel
theorem dX7_mark_5 : decode cX7_mark 5 = .ok (.ifCond .eq 13, 3) := by decide +kernel
theorem dX7_mark_8 : decode cX7_mark 8 = .ok (.iload_n 2, 1) := by decide +kernel
theorem dX7_mark_9 : decode cX7_mark 9 = .ok (.i2l, 1) := by decide +kernel
theorem dX7_mark_10 : decode cX7_mark 10 = .ok (.lconst 0, 1) := by decide +kernel
theorem dX7_mark_11 : decode cX7_mark 11 = .ok (.lconst 1, 1) := by decide +kernel
theorem dX7_mark_12 : decode cX7_mark 12 = .ok (.invokestatic 102, 3) := by decide +kernel
theorem dX7_mark_15 : decode cX7_mark 15 = .ok (.ifCond .ne 5, 3) := by decide +kernel
theorem dX7_mark_18 : decode cX7_mark 18 = .ok (.iconst (-1), 1) := by decide +kernel
theorem dX7_mark_19 : decode cX7_mark 19 = .ok (.ireturn, 1) := by decide +kernel
theorem dX7_mark_20 : decode cX7_mark 20 = .ok (.aload_n 0, 1) := by decide +kernel
theorem dX7_mark_21 : decode cX7_mark 21 = .ok (.iload_n 1, 1) := by decide +kernel
theorem dX7_mark_22 : decode cX7_mark 22 = .ok (.invokevirtual 275, 3) := by decide +kernel
theorem dX7_mark_25 : decode cX7_mark 25 = .ok (.aload_n 0, 1) := by decide +kernel
theorem dX7_mark_26 : decode cX7_mark 26 = .ok (.getfield 265, 3) := by decide +kernel
theorem dX7_mark_29 : decode cX7_mark 29 = .ok (.ifCond .ne 8, 3) := by decide +kernel
theorem dX7_mark_32 : decode cX7_mark 32 = .ok (.bipush (-4), 2) := by decide +kernel
theorem dX7_mark_34 : decode cX7_mark 34 = .ok (.goto 12, 3) := by decide +kernel
theorem dX7_mark_37 : decode cX7_mark 37 = .ok (.aload_n 0, 1) := by decide +kernel
theorem dX7_mark_38 : decode cX7_mark 38 = .ok (.aload_n 0, 1) := by decide +kernel
theorem dX7_mark_39 : decode cX7_mark 39 = .ok (.getfield 268, 3) := by decide +kernel
theorem dX7_mark_42 : decode cX7_mark 42 = .ok (.iload_n 2, 1) := by decide +kernel
theorem dX7_mark_43 : decode cX7_mark 43 = .ok (.invokevirtual 279, 3) := by decide +kernel
theorem dX7_mark_46 : decode cX7_mark 46 = .ok (.ireturn, 1) := by decide +kernel
theorem dX7_moved_0 : decode cX7_moved 0 = .ok (.iconst 0, 1) := by decide +kernel
theorem dX7_moved_1 : decode cX7_moved 1 = .ok (.istore_n 3, 1) := by decide +kernel
theorem dX7_moved_2 : decode cX7_moved 2 = .ok (.iconst 0, 1) := by decide +kernel
theorem dX7_moved_3 : decode cX7_moved 3 = .ok (.istore 4, 2) := by decide +kernel
theorem dX7_moved_5 : decode cX7_moved 5 = .ok (.iconst 0, 1) := by decide +kernel
theorem dX7_moved_6 : decode cX7_moved 6 = .ok (.istore 5, 2) := by decide +kernel
theorem dX7_moved_8 : decode cX7_moved 8 = .ok (.iload 5, 2) := by decide +kernel
theorem dX7_moved_10 : decode cX7_moved 10 = .ok (.iload_n 1, 1) := by decide +kernel
theorem dX7_moved_11 : decode cX7_moved 11 = .ok (.if_icmp .ge 142, 3) := by decide +kernel
theorem dX7_moved_14 : decode cX7_moved 14 = .ok (.iload 5, 2) := by decide +kernel
theorem dX7_moved_16 : decode cX7_moved 16 = .ok (.aload_n 0, 1) := by decide +kernel
theorem dX7_moved_17 : decode cX7_moved 17 = .ok (.getfield 262, 3) := by decide +kernel
theorem dX7_moved_20 : decode cX7_moved 20 = .ok (.if_icmp .ge 133, 3) := by decide +kernel
theorem dX7_moved_23 : decode cX7_moved 23 = .ok (.bipush (-4), 2) := by decide +kernel
theorem dX7_moved_25 : decode cX7_moved 25 = .ok (.istore 6, 2) := by decide +kernel
theorem dX7_moved_27 : decode cX7_moved 27 = .ok (.iconst (-1), 1) := by decide +kernel
theorem dX7_moved_28 : decode cX7_moved 28 = .ok (.istore 7, 2) := by decide +kernel
theorem dX7_moved_30 : decode cX7_moved 30 = .ok (.iconst 0, 1) := by decide +kernel
theorem dX7_moved_31 : decode cX7_moved 31 = .ok (.istore 8, 2) := by decide +kernel
theorem dX7_moved_33 : decode cX7_moved 33 = .ok (.iload 8, 2) := by decide +kernel
theorem dX7_moved_35 : decode cX7_moved 35 = .ok (.aload_n 0, 1) := by decide +kernel
theorem dX7_moved_36 : decode cX7_moved 36 = .ok (.getfield 262, 3) := by decide +kernel
theorem dX7_moved_39 : decode cX7_moved 39 = .ok (.if_icmp .ge 94, 3) := by decide +kernel
theorem dX7_moved_42 : decode cX7_moved 42 = .ok (.aload_n 0, 1) := by decide +kernel
theorem dX7_moved_43 : decode cX7_moved 43 = .ok (.getfield 77, 3) := by decide +kernel
theorem dX7_moved_46 : decode cX7_moved 46 = .ok (.iload 8, 2) := by decide +kernel
theorem dX7_moved_48 : decode cX7_moved 48 = .ok (.iaload, 1) := by decide +kernel
theorem dX7_moved_49 : decode cX7_moved 49 = .ok (.iload_n 2, 1) := by decide +kernel
theorem dX7_moved_50 : decode cX7_moved 50 = .ok (.ifCond .eq 13, 3) := by decide +kernel
theorem dX7_moved_53 : decode cX7_moved 53 = .ok (.aload_n 0, 1) := by decide +kernel
theorem dX7_moved_54 : decode cX7_moved 54 = .ok (.getfield 80, 3) := by decide +kernel
theorem dX7_moved_57 : decode cX7_moved 57 = .ok (.iload 8, 2) := by decide +kernel
theorem dX7_moved_59 : decode cX7_moved 59 = .ok (.iaload, 1) := by decide +kernel
theorem dX7_moved_60 : decode cX7_moved 60 = .ok (.goto 13, 3) := by decide +kernel
theorem dX7_moved_63 : decode cX7_moved 63 = .ok (.bipush 10, 2) := by decide +kernel
theorem dX7_moved_65 : decode cX7_moved 65 = .ok (.aload_n 0, 1) := by decide +kernel
theorem dX7_moved_66 : decode cX7_moved 66 = .ok (.getfield 80, 3) := by decide +kernel
theorem dX7_moved_69 : decode cX7_moved 69 = .ok (.iload 8, 2) := by decide +kernel
theorem dX7_moved_71 : decode cX7_moved 71 = .ok (.iaload, 1) := by decide +kernel
theorem dX7_moved_72 : decode cX7_moved 72 = .ok (.isub, 1) := by decide +kernel
theorem dX7_moved_73 : decode cX7_moved 73 = .ok (.imul, 1) := by decide +kernel
theorem dX7_moved_74 : decode cX7_moved 74 = .ok (.istore 9, 2) := by decide +kernel
theorem dX7_moved_76 : decode cX7_moved 76 = .ok (.iload_n 3, 1) := by decide +kernel
theorem dX7_moved_77 : decode cX7_moved 77 = .ok (.iload 8, 2) := by decide +kernel
theorem dX7_moved_79 : decode cX7_moved 79 = .ok (.ishr, 1) := by decide +kernel
theorem dX7_moved_80 : decode cX7_moved 80 = .ok (.iconst 1, 1) := by decide +kernel
theorem dX7_moved_81 : decode cX7_moved 81 = .ok (.iand, 1) := by decide +kernel
theorem dX7_moved_82 : decode cX7_moved 82 = .ok (.ifCond .ne 14, 3) := by decide +kernel
theorem dX7_moved_85 : decode cX7_moved 85 = .ok (.iload 9, 2) := by decide +kernel
theorem dX7_moved_87 : decode cX7_moved 87 = .ok (.iload 7, 2) := by decide +kernel
theorem dX7_moved_89 : decode cX7_moved 89 = .ok (.if_icmp .le 7, 3) := by decide +kernel
theorem dX7_moved_92 : decode cX7_moved 92 = .ok (.iconst 1, 1) := by decide +kernel
theorem dX7_moved_93 : decode cX7_moved 93 = .ok (.goto 4, 3) := by decide +kernel
theorem dX7_moved_96 : decode cX7_moved 96 = .ok (.iconst 0, 1) := by decide +kernel
theorem dX7_moved_97 : decode cX7_moved 97 = .ok (.istore 10, 2) := by decide +kernel
theorem dX7_moved_99 : decode cX7_moved 99 = .ok (.iload 10, 2) := by decide +kernel
theorem dX7_moved_101 : decode cX7_moved 101 = .ok (.ifCond .eq 8, 3) := by decide +kernel
theorem dX7_moved_104 : decode cX7_moved 104 = .ok (.iload 8, 2) := by decide +kernel
theorem dX7_moved_106 : decode cX7_moved 106 = .ok (.goto 5, 3) := by decide +kernel
theorem dX7_moved_109 : decode cX7_moved 109 = .ok (.iload 6, 2) := by decide +kernel
theorem dX7_moved_111 : decode cX7_moved 111 = .ok (.istore 6, 2) := by decide +kernel
theorem dX7_moved_113 : decode cX7_moved 113 = .ok (.iload 10, 2) := by decide +kernel
theorem dX7_moved_115 : decode cX7_moved 115 = .ok (.ifCond .eq 8, 3) := by decide +kernel
theorem dX7_moved_118 : decode cX7_moved 118 = .ok (.iload 9, 2) := by decide +kernel
theorem dX7_moved_120 : decode cX7_moved 120 = .ok (.goto 5, 3) := by decide +kernel
theorem dX7_moved_123 : decode cX7_moved 123 = .ok (.iload 7, 2) := by decide +kernel
theorem dX7_moved_125 : decode cX7_moved 125 = .ok (.istore 7, 2) := by decide +kernel
theorem dX7_moved_127 : decode cX7_moved 127 = .ok (.iinc 8 1, 3) := by decide +kernel
theorem dX7_moved_130 : decode cX7_moved 130 = .ok (.goto (-97), 3) := by decide +kernel
theorem dX7_moved_133 : decode cX7_moved 133 = .ok (.iload_n 3, 1) := by decide +kernel
theorem dX7_moved_134 : decode cX7_moved 134 = .ok (.iconst 1, 1) := by decide +kernel
theorem dX7_moved_135 : decode cX7_moved 135 = .ok (.iload 6, 2) := by decide +kernel
theorem dX7_moved_137 : decode cX7_moved 137 = .ok (.ishl, 1) := by decide +kernel
theorem dX7_moved_138 : decode cX7_moved 138 = .ok (.ior, 1) := by decide +kernel
theorem dX7_moved_139 : decode cX7_moved 139 = .ok (.istore_n 3, 1) := by decide +kernel
theorem dX7_moved_140 : decode cX7_moved 140 = .ok (.iload 4, 2) := by decide +kernel
theorem dX7_moved_142 : decode cX7_moved 142 = .ok (.iload 7, 2) := by decide +kernel
theorem dX7_moved_144 : decode cX7_moved 144 = .ok (.iadd, 1) := by decide +kernel
theorem dX7_moved_145 : decode cX7_moved 145 = .ok (.istore 4, 2) := by decide +kernel
theorem dX7_moved_147 : decode cX7_moved 147 = .ok (.iinc 5 1, 3) := by decide +kernel
theorem dX7_moved_150 : decode cX7_moved 150 = .ok (.goto (-142), 3) := by decide +kernel
theorem dX7_moved_153 : decode cX7_moved 153 = .ok (.iload 4, 2) := by decide +kernel
theorem dX7_moved_155 : decode cX7_moved 155 = .ok (.ireturn, 1) := by decide +kernel
theorem dX7_span_0 : decode cX7_span 0 = .ok (.aload_n 0, 1) := by decide +kernel
theorem dX7_span_1 : decode cX7_span 1 = .ok (.iload_n 1, 1) := by decide +kernel
theorem dX7_span_2 : decode cX7_span 2 = .ok (.invokevirtual 111, 3) := by decide +kernel
theorem dX7_span_5 : decode cX7_span 5 = .ok (.ifCond .eq 27, 3) := by decide +kernel
theorem dX7_span_8 : decode cX7_span 8 = .ok (.iload_n 2, 1) := by decide +kernel
theorem dX7_span_9 : decode cX7_span 9 = .ok (.i2l, 1) := by decide +kernel
theorem dX7_span_10 : decode cX7_span 10 = .ok (.lconst 0, 1) := by decide +kernel
theorem dX7_span_11 : decode cX7_span 11 = .ok (.ldc2_w 119, 3) := by decide +kernel
theorem dX7_span_14 : decode cX7_span 14 = .ok (.invokestatic 102, 3) := by decide +kernel
theorem dX7_span_17 : decode cX7_span 17 = .ok (.ifCond .eq 15, 3) := by decide +kernel
theorem dX7_span_20 : decode cX7_span 20 = .ok (.iload_n 3, 1) := by decide +kernel
theorem dX7_span_21 : decode cX7_span 21 = .ok (.i2l, 1) := by decide +kernel
theorem dX7_span_22 : decode cX7_span 22 = .ok (.lconst 0, 1) := by decide +kernel
theorem dX7_span_23 : decode cX7_span 23 = .ok (.ldc2_w 119, 3) := by decide +kernel
theorem dX7_span_26 : decode cX7_span 26 = .ok (.invokestatic 102, 3) := by decide +kernel
theorem dX7_span_29 : decode cX7_span 29 = .ok (.ifCond .ne 5, 3) := by decide +kernel
theorem dX7_span_32 : decode cX7_span 32 = .ok (.iconst (-1), 1) := by decide +kernel
theorem dX7_span_33 : decode cX7_span 33 = .ok (.ireturn, 1) := by decide +kernel
theorem dX7_span_34 : decode cX7_span 34 = .ok (.aload_n 0, 1) := by decide +kernel
theorem dX7_span_35 : decode cX7_span 35 = .ok (.iload_n 1, 1) := by decide +kernel
theorem dX7_span_36 : decode cX7_span 36 = .ok (.invokevirtual 275, 3) := by decide +kernel
theorem dX7_span_39 : decode cX7_span 39 = .ok (.aload_n 0, 1) := by decide +kernel
theorem dX7_span_40 : decode cX7_span 40 = .ok (.getfield 265, 3) := by decide +kernel
theorem dX7_span_43 : decode cX7_span 43 = .ok (.ifCond .ne 6, 3) := by decide +kernel
theorem dX7_span_46 : decode cX7_span 46 = .ok (.bipush (-4), 2) := by decide +kernel
theorem dX7_span_48 : decode cX7_span 48 = .ok (.ireturn, 1) := by decide +kernel
theorem dX7_span_49 : decode cX7_span 49 = .ok (.iload_n 3, 1) := by decide +kernel
theorem dX7_span_50 : decode cX7_span 50 = .ok (.iconst 2, 1) := by decide +kernel
theorem dX7_span_51 : decode cX7_span 51 = .ok (.if_icmp .ge 22, 3) := by decide +kernel
theorem dX7_span_54 : decode cX7_span 54 = .ok (.aload_n 0, 1) := by decide +kernel
theorem dX7_span_55 : decode cX7_span 55 = .ok (.aload_n 0, 1) := by decide +kernel
theorem dX7_span_56 : decode cX7_span 56 = .ok (.getfield 268, 3) := by decide +kernel
theorem dX7_span_59 : decode cX7_span 59 = .ok (.aload_n 0, 1) := by decide +kernel
theorem dX7_span_60 : decode cX7_span 60 = .ok (.iload_n 2, 1) := by decide +kernel
theorem dX7_span_61 : decode cX7_span 61 = .ok (.iconst 1, 1) := by decide +kernel
theorem dX7_span_62 : decode cX7_span 62 = .ok (.invokevirtual 282, 3) := by decide +kernel
theorem dX7_span_65 : decode cX7_span 65 = .ok (.isub, 1) := by decide +kernel
theorem dX7_span_66 : decode cX7_span 66 = .ok (.iload_n 3, 1) := by decide +kernel
theorem dX7_span_67 : decode cX7_span 67 = .ok (.invokevirtual 279, 3) := by decide +kernel
theorem dX7_span_70 : decode cX7_span 70 = .ok (.goto 19, 3) := by decide +kernel
theorem dX7_span_73 : decode cX7_span 73 = .ok (.aload_n 0, 1) := by decide +kernel
theorem dX7_span_74 : decode cX7_span 74 = .ok (.aload_n 0, 1) := by decide +kernel
theorem dX7_span_75 : decode cX7_span 75 = .ok (.getfield 268, 3) := by decide +kernel
theorem dX7_span_78 : decode cX7_span 78 = .ok (.aload_n 0, 1) := by decide +kernel
theorem dX7_span_79 : decode cX7_span 79 = .ok (.iload_n 2, 1) := by decide +kernel
theorem dX7_span_80 : decode cX7_span 80 = .ok (.iconst 0, 1) := by decide +kernel
theorem dX7_span_81 : decode cX7_span 81 = .ok (.invokevirtual 282, 3) := by decide +kernel
theorem dX7_span_84 : decode cX7_span 84 = .ok (.iadd, 1) := by decide +kernel
theorem dX7_span_85 : decode cX7_span 85 = .ok (.iload_n 3, 1) := by decide +kernel
theorem dX7_span_86 : decode cX7_span 86 = .ok (.invokevirtual 279, 3) := by decide +kernel
theorem dX7_span_89 : decode cX7_span 89 = .ok (.ireturn, 1) := by decide +kernel
theorem dX7_isGood_0 : decode cX7_isGood 0 = .ok (.aload_n 0, 1) := by decide +kernel
theorem dX7_isGood_1 : decode cX7_isGood 1 = .ok (.getfield 71, 3) := by decide +kernel
theorem dX7_isGood_4 : decode cX7_isGood 4 = .ok (.iload_n 1, 1) := by decide +kernel
theorem dX7_isGood_5 : decode cX7_isGood 5 = .ok (.iaload, 1) := by decide +kernel
theorem dX7_isGood_6 : decode cX7_isGood 6 = .ok (.aload_n 0, 1) := by decide +kernel
theorem dX7_isGood_7 : decode cX7_isGood 7 = .ok (.getfield 41, 3) := by decide +kernel
theorem dX7_isGood_10 : decode cX7_isGood 10 = .ok (.bipush 9, 2) := by decide +kernel
theorem dX7_isGood_12 : decode cX7_isGood 12 = .ok (.iaload, 1) := by decide +kernel
theorem dX7_isGood_13 : decode cX7_isGood 13 = .ok (.if_icmp .lt 7, 3) := by decide +kernel
theorem dX7_isGood_16 : decode cX7_isGood 16 = .ok (.iconst 1, 1) := by decide +kernel
theorem dX7_isGood_17 : decode cX7_isGood 17 = .ok (.goto 4, 3) := by decide +kernel
theorem dX7_isGood_20 : decode cX7_isGood 20 = .ok (.iconst 0, 1) := by decide +kernel
theorem dX7_isGood_21 : decode cX7_isGood 21 = .ok (.ireturn, 1) := by decide +kernel
theorem dX7_isBetween_0 : decode cX7_isBetween 0 = .ok (.iload_n 2, 1) := by decide +kernel
theorem dX7_isBetween_1 : decode cX7_isBetween 1 = .ok (.aload_n 0, 1) := by decide +kernel
theorem dX7_isBetween_2 : decode cX7_isBetween 2 = .ok (.getfield 62, 3) := by decide +kernel
theorem dX7_isBetween_5 : decode cX7_isBetween 5 = .ok (.iload_n 1, 1) := by decide +kernel
theorem dX7_isBetween_6 : decode cX7_isBetween 6 = .ok (.iaload, 1) := by decide +kernel
theorem dX7_isBetween_7 : decode cX7_isBetween 7 = .ok (.ishr, 1) := by decide +kernel
theorem dX7_isBetween_8 : decode cX7_isBetween 8 = .ok (.iload_n 2, 1) := by decide +kernel
theorem dX7_isBetween_9 : decode cX7_isBetween 9 = .ok (.aload_n 0, 1) := by decide +kernel
theorem dX7_isBetween_10 : decode cX7_isBetween 10 = .ok (.getfield 65, 3) := by decide +kernel
theorem dX7_isBetween_13 : decode cX7_isBetween 13 = .ok (.iload_n 1, 1) := by decide +kernel
theorem dX7_isBetween_14 : decode cX7_isBetween 14 = .ok (.iaload, 1) := by decide +kernel
theorem dX7_isBetween_15 : decode cX7_isBetween 15 = .ok (.ishr, 1) := by decide +kernel
theorem dX7_isBetween_16 : decode cX7_isBetween 16 = .ok (.iand, 1) := by decide +kernel
theorem dX7_isBetween_17 : decode cX7_isBetween 17 = .ok (.iconst 1, 1) := by decide +kernel
theorem dX7_isBetween_18 : decode cX7_isBetween 18 = .ok (.iand, 1) := by decide +kernel
theorem dX7_isBetween_19 : decode cX7_isBetween 19 = .ok (.iconst 1, 1) := by decide +kernel
theorem dX7_isBetween_20 : decode cX7_isBetween 20 = .ok (.if_icmp .ne 7, 3) := by decide +kernel
theorem dX7_isBetween_23 : decode cX7_isBetween 23 = .ok (.iconst 1, 1) := by decide +kernel
theorem dX7_isBetween_24 : decode cX7_isBetween 24 = .ok (.goto 4, 3) := by decide +kernel
theorem dX7_isBetween_27 : decode cX7_isBetween 27 = .ok (.iconst 0, 1) := by decide +kernel
theorem dX7_isBetween_28 : decode cX7_isBetween 28 = .ok (.ireturn, 1) := by decide +kernel
theorem dX7_ringOf_0 : decode cX7_ringOf 0 = .ok (.iconst 0, 1) := by decide +kernel
theorem dX7_ringOf_1 : decode cX7_ringOf 1 = .ok (.istore_n 3, 1) := by decide +kernel
theorem dX7_ringOf_2 : decode cX7_ringOf 2 = .ok (.iconst 0, 1) := by decide +kernel
theorem dX7_ringOf_3 : decode cX7_ringOf 3 = .ok (.istore 4, 2) := by decide +kernel
theorem dX7_ringOf_5 : decode cX7_ringOf 5 = .ok (.iload 4, 2) := by decide +kernel
theorem dX7_ringOf_7 : decode cX7_ringOf 7 = .ok (.aload_n 0, 1) := by decide +kernel
theorem dX7_ringOf_8 : decode cX7_ringOf 8 = .ok (.getfield 235, 3) := by decide +kernel
theorem dX7_ringOf_11 : decode cX7_ringOf 11 = .ok (.if_icmp .ge 86, 3) := by decide +kernel
theorem dX7_ringOf_14 : decode cX7_ringOf 14 = .ok (.iload_n 2, 1) := by decide +kernel
theorem dX7_ringOf_15 : decode cX7_ringOf 15 = .ok (.ifCond .eq 56, 3) := by decide +kernel
theorem dX7_ringOf_18 : decode cX7_ringOf 18 = .ok (.iload_n 2, 1) := by decide +kernel
theorem dX7_ringOf_19 : decode cX7_ringOf 19 = .ok (.iconst 1, 1) := by decide +kernel
theorem dX7_ringOf_20 : decode cX7_ringOf 20 = .ok (.if_icmp .ne 13, 3) := by decide +kernel
theorem dX7_ringOf_23 : decode cX7_ringOf 23 = .ok (.aload_n 0, 1) := by decide +kernel
theorem dX7_ringOf_24 : decode cX7_ringOf 24 = .ok (.iload 4, 2) := by decide +kernel
theorem dX7_ringOf_26 : decode cX7_ringOf 26 = .ok (.iload_n 1, 1) := by decide +kernel
theorem dX7_ringOf_27 : decode cX7_ringOf 27 = .ok (.invokevirtual 286, 3) := by decide +kernel
theorem dX7_ringOf_30 : decode cX7_ringOf 30 = .ok (.ifCond .ne 41, 3) := by decide +kernel
theorem dX7_ringOf_33 : decode cX7_ringOf 33 = .ok (.iload_n 2, 1) := by decide +kernel
theorem dX7_ringOf_34 : decode cX7_ringOf 34 = .ok (.iconst 2, 1) := by decide +kernel
theorem dX7_ringOf_35 : decode cX7_ringOf 35 = .ok (.if_icmp .ne 12, 3) := by decide +kernel
theorem dX7_ringOf_38 : decode cX7_ringOf 38 = .ok (.aload_n 0, 1) := by decide +kernel
theorem dX7_ringOf_39 : decode cX7_ringOf 39 = .ok (.iload 4, 2) := by decide +kernel
theorem dX7_ringOf_41 : decode cX7_ringOf 41 = .ok (.invokevirtual 290, 3) := by decide +kernel
theorem dX7_ringOf_44 : decode cX7_ringOf 44 = .ok (.ifCond .ne 27, 3) := by decide +kernel
theorem dX7_ringOf_47 : decode cX7_ringOf 47 = .ok (.iload_n 2, 1) := by decide +kernel
theorem dX7_ringOf_48 : decode cX7_ringOf 48 = .ok (.iconst 3, 1) := by decide +kernel
theorem dX7_ringOf_49 : decode cX7_ringOf 49 = .ok (.if_icmp .ne 26, 3) := by decide +kernel
theorem dX7_ringOf_52 : decode cX7_ringOf 52 = .ok (.aload_n 0, 1) := by decide +kernel
theorem dX7_ringOf_53 : decode cX7_ringOf 53 = .ok (.iload 4, 2) := by decide +kernel
theorem dX7_ringOf_55 : decode cX7_ringOf 55 = .ok (.invokevirtual 290, 3) := by decide +kernel
theorem dX7_ringOf_58 : decode cX7_ringOf 58 = .ok (.ifCond .eq 17, 3) := by decide +kernel
theorem dX7_ringOf_61 : decode cX7_ringOf 61 = .ok (.aload_n 0, 1) := by decide +kernel
theorem dX7_ringOf_62 : decode cX7_ringOf 62 = .ok (.iload 4, 2) := by decide +kernel
theorem dX7_ringOf_64 : decode cX7_ringOf 64 = .ok (.iload_n 1, 1) := by decide +kernel
theorem dX7_ringOf_65 : decode cX7_ringOf 65 = .ok (.invokevirtual 286, 3) := by decide +kernel
theorem dX7_ringOf_68 : decode cX7_ringOf 68 = .ok (.ifCond .eq 7, 3) := by decide +kernel
theorem dX7_ringOf_71 : decode cX7_ringOf 71 = .ok (.iconst 1, 1) := by decide +kernel
theorem dX7_ringOf_72 : decode cX7_ringOf 72 = .ok (.goto 4, 3) := by decide +kernel
theorem dX7_ringOf_75 : decode cX7_ringOf 75 = .ok (.iconst 0, 1) := by decide +kernel
theorem dX7_ringOf_76 : decode cX7_ringOf 76 = .ok (.istore 5, 2) := by decide +kernel
theorem dX7_ringOf_78 : decode cX7_ringOf 78 = .ok (.iload_n 3, 1) := by decide +kernel
theorem dX7_ringOf_79 : decode cX7_ringOf 79 = .ok (.iload 5, 2) := by decide +kernel
theorem dX7_ringOf_81 : decode cX7_ringOf 81 = .ok (.ifCond .eq 7, 3) := by decide +kernel
theorem dX7_ringOf_84 : decode cX7_ringOf 84 = .ok (.iconst 1, 1) := by decide +kernel
theorem dX7_ringOf_85 : decode cX7_ringOf 85 = .ok (.goto 4, 3) := by decide +kernel
theorem dX7_ringOf_88 : decode cX7_ringOf 88 = .ok (.iconst 0, 1) := by decide +kernel
theorem dX7_ringOf_89 : decode cX7_ringOf 89 = .ok (.iadd, 1) := by decide +kernel
theorem dX7_ringOf_90 : decode cX7_ringOf 90 = .ok (.istore_n 3, 1) := by decide +kernel
theorem dX7_ringOf_91 : decode cX7_ringOf 91 = .ok (.iinc 4 1, 3) := by decide +kernel
theorem dX7_ringOf_94 : decode cX7_ringOf 94 = .ok (.goto (-89), 3) := by decide +kernel
theorem dX7_ringOf_97 : decode cX7_ringOf 97 = .ok (.iload_n 3, 1) := by decide +kernel
theorem dX7_ringOf_98 : decode cX7_ringOf 98 = .ok (.ireturn, 1) := by decide +kernel
theorem dX7_ring_0 : decode cX7_ring 0 = .ok (.aload_n 0, 1) := by decide +kernel
theorem dX7_ring_1 : decode cX7_ring 1 = .ok (.iload_n 1, 1) := by decide +kernel
theorem dX7_ring_2 : decode cX7_ring 2 = .ok (.invokevirtual 223, 3) := by decide +kernel
theorem dX7_ring_5 : decode cX7_ring 5 = .ok (.ifCond .eq 24, 3) := by decide +kernel
theorem dX7_ring_8 : decode cX7_ring 8 = .ok (.iload_n 2, 1) := by decide +kernel
theorem dX7_ring_9 : decode cX7_ring 9 = .ok (.i2l, 1) := by decide +kernel
theorem dX7_ring_10 : decode cX7_ring 10 = .ok (.lconst 0, 1) := by decide +kernel
theorem dX7_ring_11 : decode cX7_ring 11 = .ok (.ldc2_w 119, 3) := by decide +kernel
theorem dX7_ring_14 : decode cX7_ring 14 = .ok (.invokestatic 102, 3) := by decide +kernel
theorem dX7_ring_17 : decode cX7_ring 17 = .ok (.ifCond .eq 12, 3) := by decide +kernel
theorem dX7_ring_20 : decode cX7_ring 20 = .ok (.aload_n 0, 1) := by decide +kernel
theorem dX7_ring_21 : decode cX7_ring 21 = .ok (.iload_n 1, 1) := by decide +kernel
theorem dX7_ring_22 : decode cX7_ring 22 = .ok (.iload_n 2, 1) := by decide +kernel
theorem dX7_ring_23 : decode cX7_ring 23 = .ok (.invokevirtual 293, 3) := by decide +kernel
theorem dX7_ring_26 : decode cX7_ring 26 = .ok (.goto 4, 3) := by decide +kernel
theorem dX7_ring_29 : decode cX7_ring 29 = .ok (.iconst (-1), 1) := by decide +kernel
theorem dX7_ring_30 : decode cX7_ring 30 = .ok (.ireturn, 1) := by decide +kernel
theorem dX7_ways_0 : decode cX7_ways 0 = .ok (.iload_n 1, 1) := by decide +kernel
theorem dX7_ways_1 : decode cX7_ways 1 = .ok (.ifCond .lt 8, 3) := by decide +kernel
theorem dX7_ways_4 : decode cX7_ways 4 = .ok (.iload_n 1, 1) := by decide +kernel
theorem dX7_ways_5 : decode cX7_ways 5 = .ok (.iload_n 0, 1) := by decide +kernel
theorem dX7_ways_6 : decode cX7_ways 6 = .ok (.if_icmp .le 5, 3) := by decide +kernel
theorem dX7_ways_9 : decode cX7_ways 9 = .ok (.lconst 0, 1) := by decide +kernel
theorem dX7_ways_10 : decode cX7_ways 10 = .ok (.lreturn, 1) := by decide +kernel
theorem dX7_ways_11 : decode cX7_ways 11 = .ok (.lconst 1, 1) := by decide +kernel
theorem dX7_ways_12 : decode cX7_ways 12 = .ok (.lstore_n 2, 1) := by decide +kernel
theorem dX7_ways_13 : decode cX7_ways 13 = .ok (.iconst 1, 1) := by decide +kernel
theorem dX7_ways_14 : decode cX7_ways 14 = .ok (.istore 4, 2) := by decide +kernel
theorem dX7_ways_16 : decode cX7_ways 16 = .ok (.iload 4, 2) := by decide +kernel
theorem dX7_ways_18 : decode cX7_ways 18 = .ok (.iload_n 1, 1) := by decide +kernel
theorem dX7_ways_19 : decode cX7_ways 19 = .ok (.if_icmp .gt 23, 3) := by decide +kernel
theorem dX7_ways_22 : decode cX7_ways 22 = .ok (.lload_n 2, 1) := by decide +kernel
theorem dX7_ways_23 : decode cX7_ways 23 = .ok (.iload_n 0, 1) := by decide +kernel
theorem dX7_ways_24 : decode cX7_ways 24 = .ok (.iload_n 1, 1) := by decide +kernel
theorem dX7_ways_25 : decode cX7_ways 25 = .ok (.isub, 1) := by decide +kernel
theorem dX7_ways_26 : decode cX7_ways 26 = .ok (.iload 4, 2) := by decide +kernel
theorem dX7_ways_28 : decode cX7_ways 28 = .ok (.iadd, 1) := by decide +kernel
theorem dX7_ways_29 : decode cX7_ways 29 = .ok (.i2l, 1) := by decide +kernel
theorem dX7_ways_30 : decode cX7_ways 30 = .ok (.lmul, 1) := by decide +kernel
theorem dX7_ways_31 : decode cX7_ways 31 = .ok (.iload 4, 2) := by decide +kernel
theorem dX7_ways_33 : decode cX7_ways 33 = .ok (.i2l, 1) := by decide +kernel
theorem dX7_ways_34 : decode cX7_ways 34 = .ok (.ldiv, 1) := by decide +kernel
theorem dX7_ways_35 : decode cX7_ways 35 = .ok (.lstore_n 2, 1) := by decide +kernel
theorem dX7_ways_36 : decode cX7_ways 36 = .ok (.iinc 4 1, 3) := by decide +kernel
theorem dX7_ways_39 : decode cX7_ways 39 = .ok (.goto (-23), 3) := by decide +kernel
theorem dX7_ways_42 : decode cX7_ways 42 = .ok (.lload_n 2, 1) := by decide +kernel
theorem dX7_ways_43 : decode cX7_ways 43 = .ok (.lreturn, 1) := by decide +kernel
theorem dX7_findOdds_0 : decode cX7_findOdds 0 = .ok (.aload_n 0, 1) := by decide +kernel
theorem dX7_findOdds_1 : decode cX7_findOdds 1 = .ok (.iload_n 1, 1) := by decide +kernel
theorem dX7_findOdds_2 : decode cX7_findOdds 2 = .ok (.iconst 0, 1) := by decide +kernel
theorem dX7_findOdds_3 : decode cX7_findOdds 3 = .ok (.invokevirtual 293, 3) := by decide +kernel
theorem dX7_findOdds_6 : decode cX7_findOdds 6 = .ok (.istore_n 2, 1) := by decide +kernel
theorem dX7_findOdds_7 : decode cX7_findOdds 7 = .ok (.aload_n 0, 1) := by decide +kernel
theorem dX7_findOdds_8 : decode cX7_findOdds 8 = .ok (.iload_n 1, 1) := by decide +kernel
theorem dX7_findOdds_9 : decode cX7_findOdds 9 = .ok (.iconst 1, 1) := by decide +kernel
theorem dX7_findOdds_10 : decode cX7_findOdds 10 = .ok (.invokevirtual 293, 3) := by decide +kernel
theorem dX7_findOdds_13 : decode cX7_findOdds 13 = .ok (.istore_n 3, 1) := by decide +kernel
theorem dX7_findOdds_14 : decode cX7_findOdds 14 = .ok (.aload_n 0, 1) := by decide +kernel
theorem dX7_findOdds_15 : decode cX7_findOdds 15 = .ok (.iload_n 1, 1) := by decide +kernel
theorem dX7_findOdds_16 : decode cX7_findOdds 16 = .ok (.iconst 2, 1) := by decide +kernel
theorem dX7_findOdds_17 : decode cX7_findOdds 17 = .ok (.invokevirtual 293, 3) := by decide +kernel
theorem dX7_findOdds_20 : decode cX7_findOdds 20 = .ok (.istore 4, 2) := by decide +kernel
theorem dX7_findOdds_22 : decode cX7_findOdds 22 = .ok (.aload_n 0, 1) := by decide +kernel
theorem dX7_findOdds_23 : decode cX7_findOdds 23 = .ok (.iload_n 1, 1) := by decide +kernel
theorem dX7_findOdds_24 : decode cX7_findOdds 24 = .ok (.iconst 3, 1) := by decide +kernel
theorem dX7_findOdds_25 : decode cX7_findOdds 25 = .ok (.invokevirtual 293, 3) := by decide +kernel
theorem dX7_findOdds_28 : decode cX7_findOdds 28 = .ok (.istore 5, 2) := by decide +kernel
theorem dX7_findOdds_30 : decode cX7_findOdds 30 = .ok (.aload_n 0, 1) := by decide +kernel
theorem dX7_findOdds_31 : decode cX7_findOdds 31 = .ok (.lconst 0, 1) := by decide +kernel
theorem dX7_findOdds_32 : decode cX7_findOdds 32 = .ok (.putfield 296, 3) := by decide +kernel
theorem dX7_findOdds_35 : decode cX7_findOdds 35 = .ok (.aload_n 0, 1) := by decide +kernel
theorem dX7_findOdds_36 : decode cX7_findOdds 36 = .ok (.iload_n 2, 1) := by decide +kernel
theorem dX7_findOdds_37 : decode cX7_findOdds 37 = .ok (.iload 4, 2) := by decide +kernel
theorem dX7_findOdds_39 : decode cX7_findOdds 39 = .ok (.invokestatic 300, 3) := by decide +kernel
theorem dX7_findOdds_42 : decode cX7_findOdds 42 = .ok (.putfield 304, 3) := by decide +kernel
theorem dX7_findOdds_45 : decode cX7_findOdds 45 = .ok (.iload 5, 2) := by decide +kernel
theorem dX7_findOdds_47 : decode cX7_findOdds 47 = .ok (.istore 6, 2) := by decide +kernel
theorem dX7_findOdds_49 : decode cX7_findOdds 49 = .ok (.iload 6, 2) := by decide +kernel
theorem dX7_findOdds_51 : decode cX7_findOdds 51 = .ok (.iload_n 3, 1) := by decide +kernel
theorem dX7_findOdds_52 : decode cX7_findOdds 52 = .ok (.if_icmp .gt 36, 3) := by decide +kernel
theorem dX7_findOdds_55 : decode cX7_findOdds 55 = .ok (.aload_n 0, 1) := by decide +kernel
theorem dX7_findOdds_56 : decode cX7_findOdds 56 = .ok (.dup, 1) := by decide +kernel
theorem dX7_findOdds_57 : decode cX7_findOdds 57 = .ok (.getfield 296, 3) := by decide +kernel
theorem dX7_findOdds_60 : decode cX7_findOdds 60 = .ok (.iload_n 3, 1) := by decide +kernel
theorem dX7_findOdds_61 : decode cX7_findOdds 61 = .ok (.iload 6, 2) := by decide +kernel
theorem dX7_findOdds_63 : decode cX7_findOdds 63 = .ok (.invokestatic 300, 3) := by decide +kernel
theorem dX7_findOdds_66 : decode cX7_findOdds 66 = .ok (.iload_n 2, 1) := by decide +kernel
theorem dX7_findOdds_67 : decode cX7_findOdds 67 = .ok (.iload_n 3, 1) := by decide +kernel
theorem dX7_findOdds_68 : decode cX7_findOdds 68 = .ok (.isub, 1) := by decide +kernel
theorem dX7_findOdds_69 : decode cX7_findOdds 69 = .ok (.iload 4, 2) := by decide +kernel
theorem dX7_findOdds_71 : decode cX7_findOdds 71 = .ok (.iload 6, 2) := by decide +kernel
theorem dX7_findOdds_73 : decode cX7_findOdds 73 = .ok (.isub, 1) := by decide +kernel
theorem dX7_findOdds_74 : decode cX7_findOdds 74 = .ok (.invokestatic 300, 3) := by decide +kernel
theorem dX7_findOdds_77 : decode cX7_findOdds 77 = .ok (.lmul, 1) := by decide +kernel
theorem dX7_findOdds_78 : decode cX7_findOdds 78 = .ok (.ladd, 1) := by decide +kernel
theorem dX7_findOdds_79 : decode cX7_findOdds 79 = .ok (.putfield 296, 3) := by decide +kernel
theorem dX7_findOdds_82 : decode cX7_findOdds 82 = .ok (.iinc 6 1, 3) := by decide +kernel
theorem dX7_findOdds_85 : decode cX7_findOdds 85 = .ok (.goto (-36), 3) := by decide +kernel
theorem dX7_findOdds_88 : decode cX7_findOdds 88 = .ok (.aload_n 0, 1) := by decide +kernel
theorem dX7_findOdds_89 : decode cX7_findOdds 89 = .ok (.getfield 296, 3) := by decide +kernel
theorem dX7_findOdds_92 : decode cX7_findOdds 92 = .ok (.aload_n 0, 1) := by decide +kernel
theorem dX7_findOdds_93 : decode cX7_findOdds 93 = .ok (.getfield 304, 3) := by decide +kernel
theorem dX7_findOdds_96 : decode cX7_findOdds 96 = .ok (.invokestatic 271, 3) := by decide +kernel
theorem dX7_findOdds_99 : decode cX7_findOdds 99 = .ok (.lstore 6, 2) := by decide +kernel
theorem dX7_findOdds_101 : decode cX7_findOdds 101 = .ok (.aload_n 0, 1) := by decide +kernel
theorem dX7_findOdds_102 : decode cX7_findOdds 102 = .ok (.dup, 1) := by decide +kernel
theorem dX7_findOdds_103 : decode cX7_findOdds 103 = .ok (.getfield 296, 3) := by decide +kernel
theorem dX7_findOdds_106 : decode cX7_findOdds 106 = .ok (.lload 6, 2) := by decide +kernel
theorem dX7_findOdds_108 : decode cX7_findOdds 108 = .ok (.ldiv, 1) := by decide +kernel
theorem dX7_findOdds_109 : decode cX7_findOdds 109 = .ok (.putfield 296, 3) := by decide +kernel
theorem dX7_findOdds_112 : decode cX7_findOdds 112 = .ok (.aload_n 0, 1) := by decide +kernel
theorem dX7_findOdds_113 : decode cX7_findOdds 113 = .ok (.dup, 1) := by decide +kernel
theorem dX7_findOdds_114 : decode cX7_findOdds 114 = .ok (.getfield 304, 3) := by decide +kernel
theorem dX7_findOdds_117 : decode cX7_findOdds 117 = .ok (.lload 6, 2) := by decide +kernel
theorem dX7_findOdds_119 : decode cX7_findOdds 119 = .ok (.ldiv, 1) := by decide +kernel
theorem dX7_findOdds_120 : decode cX7_findOdds 120 = .ok (.putfield 304, 3) := by decide +kernel
theorem dX7_findOdds_123 : decode cX7_findOdds 123 = .ok (.return_, 1) := by decide +kernel
theorem dX7_odds_0 : decode cX7_odds 0 = .ok (.aload_n 0, 1) := by decide +kernel
theorem dX7_odds_1 : decode cX7_odds 1 = .ok (.iload_n 1, 1) := by decide +kernel
theorem dX7_odds_2 : decode cX7_odds 2 = .ok (.invokevirtual 223, 3) := by decide +kernel
theorem dX7_odds_5 : decode cX7_odds 5 = .ok (.ifCond .eq 13, 3) := by decide +kernel
theorem dX7_odds_8 : decode cX7_odds 8 = .ok (.iload_n 2, 1) := by decide +kernel
theorem dX7_odds_9 : decode cX7_odds 9 = .ok (.i2l, 1) := by decide +kernel
theorem dX7_odds_10 : decode cX7_odds 10 = .ok (.lconst 0, 1) := by decide +kernel
theorem dX7_odds_11 : decode cX7_odds 11 = .ok (.lconst 1, 1) := by decide +kernel
theorem dX7_odds_12 : decode cX7_odds 12 = .ok (.invokestatic 102, 3) := by decide +kernel
theorem dX7_odds_15 : decode cX7_odds 15 = .ok (.ifCond .ne 7, 3) := by decide +kernel
theorem dX7_odds_18 : decode cX7_odds 18 = .ok (.ldc2_w 307, 3) := by decide +kernel
theorem dX7_odds_21 : decode cX7_odds 21 = .ok (.lreturn, 1) := by decide +kernel
theorem dX7_odds_22 : decode cX7_odds 22 = .ok (.aload_n 0, 1) := by decide +kernel
theorem dX7_odds_23 : decode cX7_odds 23 = .ok (.iload_n 1, 1) := by decide +kernel
theorem dX7_odds_24 : decode cX7_odds 24 = .ok (.invokevirtual 309, 3) := by decide +kernel
theorem dX7_odds_27 : decode cX7_odds 27 = .ok (.iload_n 2, 1) := by decide +kernel
theorem dX7_odds_28 : decode cX7_odds 28 = .ok (.ifCond .ne 10, 3) := by decide +kernel
theorem dX7_odds_31 : decode cX7_odds 31 = .ok (.aload_n 0, 1) := by decide +kernel
theorem dX7_odds_32 : decode cX7_odds 32 = .ok (.getfield 296, 3) := by decide +kernel
theorem dX7_odds_35 : decode cX7_odds 35 = .ok (.goto 7, 3) := by decide +kernel
theorem dX7_odds_38 : decode cX7_odds 38 = .ok (.aload_n 0, 1) := by decide +kernel
theorem dX7_odds_39 : decode cX7_odds 39 = .ok (.getfield 304, 3) := by decide +kernel
theorem dX7_odds_42 : decode cX7_odds 42 = .ok (.lreturn, 1) := by decide +kernel
theorem dX7_oddest_0 : decode cX7_oddest 0 = .ok (.iload_n 1, 1) := by decide +kernel
theorem dX7_oddest_1 : decode cX7_oddest 1 = .ok (.i2l, 1) := by decide +kernel
theorem dX7_oddest_2 : decode cX7_oddest 2 = .ok (.lconst 0, 1) := by decide +kernel
theorem dX7_oddest_3 : decode cX7_oddest 3 = .ok (.ldc2_w 226, 3) := by decide +kernel
theorem dX7_oddest_6 : decode cX7_oddest 6 = .ok (.invokestatic 102, 3) := by decide +kernel
theorem dX7_oddest_9 : decode cX7_oddest 9 = .ok (.ifCond .ne 7, 3) := by decide +kernel
theorem dX7_oddest_12 : decode cX7_oddest 12 = .ok (.ldc2_w 307, 3) := by decide +kernel
theorem dX7_oddest_15 : decode cX7_oddest 15 = .ok (.lreturn, 1) := by decide +kernel
theorem dX7_oddest_16 : decode cX7_oddest 16 = .ok (.lconst 1, 1) := by decide +kernel
theorem dX7_oddest_17 : decode cX7_oddest 17 = .ok (.lstore_n 2, 1) := by decide +kernel
theorem dX7_oddest_18 : decode cX7_oddest 18 = .ok (.lconst 1, 1) := by decide +kernel
theorem dX7_oddest_19 : decode cX7_oddest 19 = .ok (.lstore 4, 2) := by decide +kernel
theorem dX7_oddest_21 : decode cX7_oddest 21 = .ok (.bipush (-4), 2) := by decide +kernel
theorem dX7_oddest_23 : decode cX7_oddest 23 = .ok (.istore 6, 2) := by decide +kernel
theorem dX7_oddest_25 : decode cX7_oddest 25 = .ok (.iconst 0, 1) := by decide +kernel
theorem dX7_oddest_26 : decode cX7_oddest 26 = .ok (.istore 7, 2) := by decide +kernel
theorem dX7_oddest_28 : decode cX7_oddest 28 = .ok (.iload 7, 2) := by decide +kernel
theorem dX7_oddest_30 : decode cX7_oddest 30 = .ok (.iconst 1, 1) := by decide +kernel
theorem dX7_oddest_31 : decode cX7_oddest 31 = .ok (.aload_n 0, 1) := by decide +kernel
theorem dX7_oddest_32 : decode cX7_oddest 32 = .ok (.getfield 98, 3) := by decide +kernel
theorem dX7_oddest_35 : decode cX7_oddest 35 = .ok (.ishl, 1) := by decide +kernel
theorem dX7_oddest_36 : decode cX7_oddest 36 = .ok (.if_icmp .ge 65, 3) := by decide +kernel
theorem dX7_oddest_39 : decode cX7_oddest 39 = .ok (.iload 7, 2) := by decide +kernel
theorem dX7_oddest_41 : decode cX7_oddest 41 = .ok (.invokestatic 144, 3) := by decide +kernel
theorem dX7_oddest_44 : decode cX7_oddest 44 = .ok (.iconst 3, 1) := by decide +kernel
theorem dX7_oddest_45 : decode cX7_oddest 45 = .ok (.if_icmp .eq 12, 3) := by decide +kernel
theorem dX7_oddest_48 : decode cX7_oddest 48 = .ok (.iload 7, 2) := by decide +kernel
theorem dX7_oddest_50 : decode cX7_oddest 50 = .ok (.invokestatic 144, 3) := by decide +kernel
theorem dX7_oddest_53 : decode cX7_oddest 53 = .ok (.iconst 4, 1) := by decide +kernel
theorem dX7_oddest_54 : decode cX7_oddest 54 = .ok (.if_icmp .ne 41, 3) := by decide +kernel
theorem dX7_oddest_57 : decode cX7_oddest 57 = .ok (.aload_n 0, 1) := by decide +kernel
theorem dX7_oddest_58 : decode cX7_oddest 58 = .ok (.iload 7, 2) := by decide +kernel
theorem dX7_oddest_60 : decode cX7_oddest 60 = .ok (.invokevirtual 309, 3) := by decide +kernel
theorem dX7_oddest_63 : decode cX7_oddest 63 = .ok (.aload_n 0, 1) := by decide +kernel
theorem dX7_oddest_64 : decode cX7_oddest 64 = .ok (.getfield 296, 3) := by decide +kernel
theorem dX7_oddest_67 : decode cX7_oddest 67 = .ok (.lload 4, 2) := by decide +kernel
theorem dX7_oddest_69 : decode cX7_oddest 69 = .ok (.lmul, 1) := by decide +kernel
theorem dX7_oddest_70 : decode cX7_oddest 70 = .ok (.lload_n 2, 1) := by decide +kernel
theorem dX7_oddest_71 : decode cX7_oddest 71 = .ok (.aload_n 0, 1) := by decide +kernel
theorem dX7_oddest_72 : decode cX7_oddest 72 = .ok (.getfield 304, 3) := by decide +kernel
theorem dX7_oddest_75 : decode cX7_oddest 75 = .ok (.lmul, 1) := by decide +kernel
theorem dX7_oddest_76 : decode cX7_oddest 76 = .ok (.lcmp, 1) := by decide +kernel
theorem dX7_oddest_77 : decode cX7_oddest 77 = .ok (.ifCond .ge 18, 3) := by decide +kernel
theorem dX7_oddest_80 : decode cX7_oddest 80 = .ok (.aload_n 0, 1) := by decide +kernel
theorem dX7_oddest_81 : decode cX7_oddest 81 = .ok (.getfield 296, 3) := by decide +kernel
theorem dX7_oddest_84 : decode cX7_oddest 84 = .ok (.lstore_n 2, 1) := by decide +kernel
theorem dX7_oddest_85 : decode cX7_oddest 85 = .ok (.aload_n 0, 1) := by decide +kernel
theorem dX7_oddest_86 : decode cX7_oddest 86 = .ok (.getfield 304, 3) := by decide +kernel
theorem dX7_oddest_89 : decode cX7_oddest 89 = .ok (.lstore 4, 2) := by decide +kernel
theorem dX7_oddest_91 : decode cX7_oddest 91 = .ok (.iload 7, 2) := by decide +kernel
theorem dX7_oddest_93 : decode cX7_oddest 93 = .ok (.istore 6, 2) := by decide +kernel
theorem dX7_oddest_95 : decode cX7_oddest 95 = .ok (.iinc 7 1, 3) := by decide +kernel
theorem dX7_oddest_98 : decode cX7_oddest 98 = .ok (.goto (-70), 3) := by decide +kernel
theorem dX7_oddest_101 : decode cX7_oddest 101 = .ok (.iload 6, 2) := by decide +kernel
theorem dX7_oddest_103 : decode cX7_oddest 103 = .ok (.bipush (-4), 2) := by decide +kernel
theorem dX7_oddest_105 : decode cX7_oddest 105 = .ok (.if_icmp .ne 9, 3) := by decide +kernel
theorem dX7_oddest_108 : decode cX7_oddest 108 = .ok (.ldc2_w 312, 3) := by decide +kernel
theorem dX7_oddest_111 : decode cX7_oddest 111 = .ok (.goto 24, 3) := by decide +kernel
theorem dX7_oddest_114 : decode cX7_oddest 114 = .ok (.iload_n 1, 1) := by decide +kernel
theorem dX7_oddest_115 : decode cX7_oddest 115 = .ok (.ifCond .ne 9, 3) := by decide +kernel
theorem dX7_oddest_118 : decode cX7_oddest 118 = .ok (.iload 6, 2) := by decide +kernel
theorem dX7_oddest_120 : decode cX7_oddest 120 = .ok (.i2l, 1) := by decide +kernel
theorem dX7_oddest_121 : decode cX7_oddest 121 = .ok (.goto 14, 3) := by decide +kernel
theorem dX7_oddest_124 : decode cX7_oddest 124 = .ok (.iload_n 1, 1) := by decide +kernel
theorem dX7_oddest_125 : decode cX7_oddest 125 = .ok (.iconst 1, 1) := by decide +kernel
theorem dX7_oddest_126 : decode cX7_oddest 126 = .ok (.if_icmp .ne 7, 3) := by decide +kernel
theorem dX7_oddest_129 : decode cX7_oddest 129 = .ok (.lload_n 2, 1) := by decide +kernel
theorem dX7_oddest_130 : decode cX7_oddest 130 = .ok (.goto 5, 3) := by decide +kernel
theorem dX7_oddest_133 : decode cX7_oddest 133 = .ok (.lload 4, 2) := by decide +kernel
theorem dX7_oddest_135 : decode cX7_oddest 135 = .ok (.lreturn, 1) := by decide +kernel
theorem dX7_sells_0 : decode cX7_sells 0 = .ok (.aload_n 0, 1) := by decide +kernel
theorem dX7_sells_1 : decode cX7_sells 1 = .ok (.getfield 7, 3) := by decide +kernel
theorem dX7_sells_4 : decode cX7_sells 4 = .ok (.iload_n 1, 1) := by decide +kernel
theorem dX7_sells_5 : decode cX7_sells 5 = .ok (.iaload, 1) := by decide +kernel
theorem dX7_sells_6 : decode cX7_sells 6 = .ok (.ifCond .le 16, 3) := by decide +kernel
theorem dX7_sells_9 : decode cX7_sells 9 = .ok (.aload_n 0, 1) := by decide +kernel
theorem dX7_sells_10 : decode cX7_sells 10 = .ok (.getfield 17, 3) := by decide +kernel
theorem dX7_sells_13 : decode cX7_sells 13 = .ok (.iload_n 1, 1) := by decide +kernel
theorem dX7_sells_14 : decode cX7_sells 14 = .ok (.baload, 1) := by decide +kernel
theorem dX7_sells_15 : decode cX7_sells 15 = .ok (.ifCond .ne 7, 3) := by decide +kernel
theorem dX7_sells_18 : decode cX7_sells 18 = .ok (.iconst 1, 1) := by decide +kernel
theorem dX7_sells_19 : decode cX7_sells 19 = .ok (.goto 4, 3) := by decide +kernel
theorem dX7_sells_22 : decode cX7_sells 22 = .ok (.iconst 0, 1) := by decide +kernel
theorem dX7_sells_23 : decode cX7_sells 23 = .ok (.ireturn, 1) := by decide +kernel
theorem dX7_gainOf_0 : decode cX7_gainOf 0 = .ok (.aload_n 0, 1) := by decide +kernel
theorem dX7_gainOf_1 : decode cX7_gainOf 1 = .ok (.invokevirtual 214, 3) := by decide +kernel
theorem dX7_gainOf_4 : decode cX7_gainOf 4 = .ok (.iconst 0, 1) := by decide +kernel
theorem dX7_gainOf_5 : decode cX7_gainOf 5 = .ok (.istore 4, 2) := by decide +kernel
theorem dX7_gainOf_7 : decode cX7_gainOf 7 = .ok (.iconst 0, 1) := by decide +kernel
theorem dX7_gainOf_8 : decode cX7_gainOf 8 = .ok (.istore 5, 2) := by decide +kernel
theorem dX7_gainOf_10 : decode cX7_gainOf 10 = .ok (.iload 5, 2) := by decide +kernel
theorem dX7_gainOf_12 : decode cX7_gainOf 12 = .ok (.aload_n 0, 1) := by decide +kernel
theorem dX7_gainOf_13 : decode cX7_gainOf 13 = .ok (.getfield 98, 3) := by decide +kernel
theorem dX7_gainOf_16 : decode cX7_gainOf 16 = .ok (.if_icmp .ge 80, 3) := by decide +kernel
theorem dX7_gainOf_19 : decode cX7_gainOf 19 = .ok (.iload_n 1, 1) := by decide +kernel
theorem dX7_gainOf_20 : decode cX7_gainOf 20 = .ok (.iload 5, 2) := by decide +kernel
theorem dX7_gainOf_22 : decode cX7_gainOf 22 = .ok (.ishr, 1) := by decide +kernel
theorem dX7_gainOf_23 : decode cX7_gainOf 23 = .ok (.iconst 1, 1) := by decide +kernel
theorem dX7_gainOf_24 : decode cX7_gainOf 24 = .ok (.iand, 1) := by decide +kernel
theorem dX7_gainOf_25 : decode cX7_gainOf 25 = .ok (.iconst 1, 1) := by decide +kernel
theorem dX7_gainOf_26 : decode cX7_gainOf 26 = .ok (.if_icmp .ne 7, 3) := by decide +kernel
theorem dX7_gainOf_29 : decode cX7_gainOf 29 = .ok (.iconst 1, 1) := by decide +kernel
theorem dX7_gainOf_30 : decode cX7_gainOf 30 = .ok (.goto 4, 3) := by decide +kernel
theorem dX7_gainOf_33 : decode cX7_gainOf 33 = .ok (.iconst 0, 1) := by decide +kernel
theorem dX7_gainOf_34 : decode cX7_gainOf 34 = .ok (.istore 6, 2) := by decide +kernel
theorem dX7_gainOf_36 : decode cX7_gainOf 36 = .ok (.aload_n 0, 1) := by decide +kernel
theorem dX7_gainOf_37 : decode cX7_gainOf 37 = .ok (.getfield 53, 3) := by decide +kernel
theorem dX7_gainOf_40 : decode cX7_gainOf 40 = .ok (.bipush 14, 2) := by decide +kernel
theorem dX7_gainOf_42 : decode cX7_gainOf 42 = .ok (.iload 5, 2) := by decide +kernel
theorem dX7_gainOf_44 : decode cX7_gainOf 44 = .ok (.imul, 1) := by decide +kernel
theorem dX7_gainOf_45 : decode cX7_gainOf 45 = .ok (.bipush 13, 2) := by decide +kernel
theorem dX7_gainOf_47 : decode cX7_gainOf 47 = .ok (.iadd, 1) := by decide +kernel
theorem dX7_gainOf_48 : decode cX7_gainOf 48 = .ok (.iload 6, 2) := by decide +kernel
theorem dX7_gainOf_50 : decode cX7_gainOf 50 = .ok (.ifCond .eq 17, 3) := by decide +kernel
theorem dX7_gainOf_53 : decode cX7_gainOf 53 = .ok (.iload_n 2, 1) := by decide +kernel
theorem dX7_gainOf_54 : decode cX7_gainOf 54 = .ok (.aload_n 0, 1) := by decide +kernel
theorem dX7_gainOf_55 : decode cX7_gainOf 55 = .ok (.getfield 41, 3) := by decide +kernel
theorem dX7_gainOf_58 : decode cX7_gainOf 58 = .ok (.iconst 3, 1) := by decide +kernel
theorem dX7_gainOf_59 : decode cX7_gainOf 59 = .ok (.iaload, 1) := by decide +kernel
theorem dX7_gainOf_60 : decode cX7_gainOf 60 = .ok (.imul, 1) := by decide +kernel
theorem dX7_gainOf_61 : decode cX7_gainOf 61 = .ok (.bipush 100, 2) := by decide +kernel
theorem dX7_gainOf_63 : decode cX7_gainOf 63 = .ok (.idiv, 1) := by decide +kernel
theorem dX7_gainOf_64 : decode cX7_gainOf 64 = .ok (.goto 4, 3) := by decide +kernel
theorem dX7_gainOf_67 : decode cX7_gainOf 67 = .ok (.iconst 0, 1) := by decide +kernel
theorem dX7_gainOf_68 : decode cX7_gainOf 68 = .ok (.iastore, 1) := by decide +kernel
theorem dX7_gainOf_69 : decode cX7_gainOf 69 = .ok (.iload 4, 2) := by decide +kernel
theorem dX7_gainOf_71 : decode cX7_gainOf 71 = .ok (.iload 6, 2) := by decide +kernel
theorem dX7_gainOf_73 : decode cX7_gainOf 73 = .ok (.ifCond .eq 13, 3) := by decide +kernel
theorem dX7_gainOf_76 : decode cX7_gainOf 76 = .ok (.aload_n 0, 1) := by decide +kernel
theorem dX7_gainOf_77 : decode cX7_gainOf 77 = .ok (.getfield 7, 3) := by decide +kernel
theorem dX7_gainOf_80 : decode cX7_gainOf 80 = .ok (.iload 5, 2) := by decide +kernel
theorem dX7_gainOf_82 : decode cX7_gainOf 82 = .ok (.iaload, 1) := by decide +kernel
theorem dX7_gainOf_83 : decode cX7_gainOf 83 = .ok (.goto 4, 3) := by decide +kernel
theorem dX7_gainOf_86 : decode cX7_gainOf 86 = .ok (.iconst 0, 1) := by decide +kernel
theorem dX7_gainOf_87 : decode cX7_gainOf 87 = .ok (.iadd, 1) := by decide +kernel
theorem dX7_gainOf_88 : decode cX7_gainOf 88 = .ok (.istore 4, 2) := by decide +kernel
theorem dX7_gainOf_90 : decode cX7_gainOf 90 = .ok (.iinc 5 1, 3) := by decide +kernel
theorem dX7_gainOf_93 : decode cX7_gainOf 93 = .ok (.goto (-83), 3) := by decide +kernel
theorem dX7_gainOf_96 : decode cX7_gainOf 96 = .ok (.iload_n 3, 1) := by decide +kernel
theorem dX7_gainOf_97 : decode cX7_gainOf 97 = .ok (.aload_n 0, 1) := by decide +kernel
theorem dX7_gainOf_98 : decode cX7_gainOf 98 = .ok (.invokevirtual 217, 3) := by decide +kernel
theorem dX7_gainOf_101 : decode cX7_gainOf 101 = .ok (.imul, 1) := by decide +kernel
theorem dX7_gainOf_102 : decode cX7_gainOf 102 = .ok (.iload 4, 2) := by decide +kernel
theorem dX7_gainOf_104 : decode cX7_gainOf 104 = .ok (.isub, 1) := by decide +kernel
theorem dX7_gainOf_105 : decode cX7_gainOf 105 = .ok (.ireturn, 1) := by decide +kernel
theorem dX7_sellers_0 : decode cX7_sellers 0 = .ok (.iconst 0, 1) := by decide +kernel
theorem dX7_sellers_1 : decode cX7_sellers 1 = .ok (.istore_n 1, 1) := by decide +kernel
theorem dX7_sellers_2 : decode cX7_sellers 2 = .ok (.iconst 0, 1) := by decide +kernel
theorem dX7_sellers_3 : decode cX7_sellers 3 = .ok (.istore_n 2, 1) := by decide +kernel
theorem dX7_sellers_4 : decode cX7_sellers 4 = .ok (.iload_n 2, 1) := by decide +kernel
theorem dX7_sellers_5 : decode cX7_sellers 5 = .ok (.aload_n 0, 1) := by decide +kernel
theorem dX7_sellers_6 : decode cX7_sellers 6 = .ok (.getfield 98, 3) := by decide +kernel
theorem dX7_sellers_9 : decode cX7_sellers 9 = .ok (.if_icmp .ge 27, 3) := by decide +kernel
theorem dX7_sellers_12 : decode cX7_sellers 12 = .ok (.iload_n 1, 1) := by decide +kernel
theorem dX7_sellers_13 : decode cX7_sellers 13 = .ok (.aload_n 0, 1) := by decide +kernel
theorem dX7_sellers_14 : decode cX7_sellers 14 = .ok (.iload_n 2, 1) := by decide +kernel
theorem dX7_sellers_15 : decode cX7_sellers 15 = .ok (.invokevirtual 314, 3) := by decide +kernel
theorem dX7_sellers_18 : decode cX7_sellers 18 = .ok (.ifCond .eq 9, 3) := by decide +kernel
theorem dX7_sellers_21 : decode cX7_sellers 21 = .ok (.iconst 1, 1) := by decide +kernel
theorem dX7_sellers_22 : decode cX7_sellers 22 = .ok (.iload_n 2, 1) := by decide +kernel
theorem dX7_sellers_23 : decode cX7_sellers 23 = .ok (.ishl, 1) := by decide +kernel
theorem dX7_sellers_24 : decode cX7_sellers 24 = .ok (.goto 4, 3) := by decide +kernel
theorem dX7_sellers_27 : decode cX7_sellers 27 = .ok (.iconst 0, 1) := by decide +kernel
theorem dX7_sellers_28 : decode cX7_sellers 28 = .ok (.ior, 1) := by decide +kernel
theorem dX7_sellers_29 : decode cX7_sellers 29 = .ok (.istore_n 1, 1) := by decide +kernel
theorem dX7_sellers_30 : decode cX7_sellers 30 = .ok (.iinc 2 1, 3) := by decide +kernel
theorem dX7_sellers_33 : decode cX7_sellers 33 = .ok (.goto (-29), 3) := by decide +kernel
theorem dX7_sellers_36 : decode cX7_sellers 36 = .ok (.iload_n 1, 1) := by decide +kernel
theorem dX7_sellers_37 : decode cX7_sellers 37 = .ok (.ireturn, 1) := by decide +kernel
theorem dX7_gain_0 : decode cX7_gain 0 = .ok (.aload_n 0, 1) := by decide +kernel
theorem dX7_gain_1 : decode cX7_gain 1 = .ok (.iload_n 1, 1) := by decide +kernel
theorem dX7_gain_2 : decode cX7_gain 2 = .ok (.invokevirtual 223, 3) := by decide +kernel
theorem dX7_gain_5 : decode cX7_gain 5 = .ok (.ifCond .eq 38, 3) := by decide +kernel
theorem dX7_gain_8 : decode cX7_gain 8 = .ok (.iload_n 1, 1) := by decide +kernel
theorem dX7_gain_9 : decode cX7_gain 9 = .ok (.aload_n 0, 1) := by decide +kernel
theorem dX7_gain_10 : decode cX7_gain 10 = .ok (.invokevirtual 317, 3) := by decide +kernel
theorem dX7_gain_13 : decode cX7_gain 13 = .ok (.iconst (-1), 1) := by decide +kernel
theorem dX7_gain_14 : decode cX7_gain 14 = .ok (.ixor, 1) := by decide +kernel
theorem dX7_gain_15 : decode cX7_gain 15 = .ok (.iand, 1) := by decide +kernel
theorem dX7_gain_16 : decode cX7_gain 16 = .ok (.ifCond .ne 27, 3) := by decide +kernel
theorem dX7_gain_19 : decode cX7_gain 19 = .ok (.iload_n 2, 1) := by decide +kernel
theorem dX7_gain_20 : decode cX7_gain 20 = .ok (.i2l, 1) := by decide +kernel
theorem dX7_gain_21 : decode cX7_gain 21 = .ok (.lconst 1, 1) := by decide +kernel
theorem dX7_gain_22 : decode cX7_gain 22 = .ok (.ldc2_w 109, 3) := by decide +kernel
theorem dX7_gain_25 : decode cX7_gain 25 = .ok (.invokestatic 102, 3) := by decide +kernel
theorem dX7_gain_28 : decode cX7_gain 28 = .ok (.ifCond .eq 15, 3) := by decide +kernel
theorem dX7_gain_31 : decode cX7_gain 31 = .ok (.iload_n 3, 1) := by decide +kernel
theorem dX7_gain_32 : decode cX7_gain 32 = .ok (.i2l, 1) := by decide +kernel
theorem dX7_gain_33 : decode cX7_gain 33 = .ok (.lconst 0, 1) := by decide +kernel
theorem dX7_gain_34 : decode cX7_gain 34 = .ok (.ldc2_w 231, 3) := by decide +kernel
theorem dX7_gain_37 : decode cX7_gain 37 = .ok (.invokestatic 102, 3) := by decide +kernel
theorem dX7_gain_40 : decode cX7_gain 40 = .ok (.ifCond .ne 7, 3) := by decide +kernel
theorem dX7_gain_43 : decode cX7_gain 43 = .ok (.ldc_w 320, 3) := by decide +kernel
theorem dX7_gain_46 : decode cX7_gain 46 = .ok (.ireturn, 1) := by decide +kernel
theorem dX7_gain_47 : decode cX7_gain 47 = .ok (.aload_n 0, 1) := by decide +kernel
theorem dX7_gain_48 : decode cX7_gain 48 = .ok (.iload_n 1, 1) := by decide +kernel
theorem dX7_gain_49 : decode cX7_gain 49 = .ok (.iload_n 2, 1) := by decide +kernel
theorem dX7_gain_50 : decode cX7_gain 50 = .ok (.iload_n 3, 1) := by decide +kernel
theorem dX7_gain_51 : decode cX7_gain 51 = .ok (.invokevirtual 321, 3) := by decide +kernel
theorem dX7_gain_54 : decode cX7_gain 54 = .ok (.ireturn, 1) := by decide +kernel
theorem dX7_best_0 : decode cX7_best 0 = .ok (.iload_n 1, 1) := by decide +kernel
theorem dX7_best_1 : decode cX7_best 1 = .ok (.i2l, 1) := by decide +kernel
theorem dX7_best_2 : decode cX7_best 2 = .ok (.lconst 1, 1) := by decide +kernel
theorem dX7_best_3 : decode cX7_best 3 = .ok (.ldc2_w 109, 3) := by decide +kernel
theorem dX7_best_6 : decode cX7_best 6 = .ok (.invokestatic 102, 3) := by decide +kernel
theorem dX7_best_9 : decode cX7_best 9 = .ok (.ifCond .eq 25, 3) := by decide +kernel
theorem dX7_best_12 : decode cX7_best 12 = .ok (.iload_n 2, 1) := by decide +kernel
theorem dX7_best_13 : decode cX7_best 13 = .ok (.i2l, 1) := by decide +kernel
theorem dX7_best_14 : decode cX7_best 14 = .ok (.lconst 0, 1) := by decide +kernel
theorem dX7_best_15 : decode cX7_best 15 = .ok (.ldc2_w 231, 3) := by decide +kernel
theorem dX7_best_18 : decode cX7_best 18 = .ok (.invokestatic 102, 3) := by decide +kernel
theorem dX7_best_21 : decode cX7_best 21 = .ok (.ifCond .eq 13, 3) := by decide +kernel
theorem dX7_best_24 : decode cX7_best 24 = .ok (.iload_n 3, 1) := by decide +kernel
theorem dX7_best_25 : decode cX7_best 25 = .ok (.i2l, 1) := by decide +kernel
theorem dX7_best_26 : decode cX7_best 26 = .ok (.lconst 0, 1) := by decide +kernel
theorem dX7_best_27 : decode cX7_best 27 = .ok (.lconst 1, 1) := by decide +kernel
theorem dX7_best_28 : decode cX7_best 28 = .ok (.invokestatic 102, 3) := by decide +kernel
theorem dX7_best_31 : decode cX7_best 31 = .ok (.ifCond .ne 5, 3) := by decide +kernel
theorem dX7_best_34 : decode cX7_best 34 = .ok (.iconst (-1), 1) := by decide +kernel
theorem dX7_best_35 : decode cX7_best 35 = .ok (.ireturn, 1) := by decide +kernel
theorem dX7_best_36 : decode cX7_best 36 = .ok (.aload_n 0, 1) := by decide +kernel
theorem dX7_best_37 : decode cX7_best 37 = .ok (.invokevirtual 317, 3) := by decide +kernel
theorem dX7_best_40 : decode cX7_best 40 = .ok (.istore 4, 2) := by decide +kernel
theorem dX7_best_42 : decode cX7_best 42 = .ok (.iload 4, 2) := by decide +kernel
theorem dX7_best_44 : decode cX7_best 44 = .ok (.invokestatic 144, 3) := by decide +kernel
theorem dX7_best_47 : decode cX7_best 47 = .ok (.bipush 8, 2) := by decide +kernel
theorem dX7_best_49 : decode cX7_best 49 = .ok (.if_icmp .le 6, 3) := by decide +kernel
theorem dX7_best_52 : decode cX7_best 52 = .ok (.bipush (-2), 2) := by decide +kernel
theorem dX7_best_54 : decode cX7_best 54 = .ok (.ireturn, 1) := by decide +kernel
theorem dX7_best_55 : decode cX7_best 55 = .ok (.iconst 0, 1) := by decide +kernel
theorem dX7_best_56 : decode cX7_best 56 = .ok (.istore 5, 2) := by decide +kernel
theorem dX7_best_58 : decode cX7_best 58 = .ok (.iconst 0, 1) := by decide +kernel
theorem dX7_best_59 : decode cX7_best 59 = .ok (.istore 6, 2) := by decide +kernel
theorem dX7_best_61 : decode cX7_best 61 = .ok (.iconst 1, 1) := by decide +kernel
theorem dX7_best_62 : decode cX7_best 62 = .ok (.istore 7, 2) := by decide +kernel
theorem dX7_best_64 : decode cX7_best 64 = .ok (.iload 7, 2) := by decide +kernel
theorem dX7_best_66 : decode cX7_best 66 = .ok (.iconst 1, 1) := by decide +kernel
theorem dX7_best_67 : decode cX7_best 67 = .ok (.aload_n 0, 1) := by decide +kernel
theorem dX7_best_68 : decode cX7_best 68 = .ok (.getfield 98, 3) := by decide +kernel
theorem dX7_best_71 : decode cX7_best 71 = .ok (.ishl, 1) := by decide +kernel
theorem dX7_best_72 : decode cX7_best 72 = .ok (.if_icmp .ge 61, 3) := by decide +kernel
theorem dX7_best_75 : decode cX7_best 75 = .ok (.iload 7, 2) := by decide +kernel
theorem dX7_best_77 : decode cX7_best 77 = .ok (.iload 4, 2) := by decide +kernel
theorem dX7_best_79 : decode cX7_best 79 = .ok (.iconst (-1), 1) := by decide +kernel
theorem dX7_best_80 : decode cX7_best 80 = .ok (.ixor, 1) := by decide +kernel
theorem dX7_best_81 : decode cX7_best 81 = .ok (.iand, 1) := by decide +kernel
theorem dX7_best_82 : decode cX7_best 82 = .ok (.ifCond .ne 45, 3) := by decide +kernel
theorem dX7_best_85 : decode cX7_best 85 = .ok (.aload_n 0, 1) := by decide +kernel
theorem dX7_best_86 : decode cX7_best 86 = .ok (.iload 7, 2) := by decide +kernel
theorem dX7_best_88 : decode cX7_best 88 = .ok (.iload_n 1, 1) := by decide +kernel
theorem dX7_best_89 : decode cX7_best 89 = .ok (.iload_n 2, 1) := by decide +kernel
theorem dX7_best_90 : decode cX7_best 90 = .ok (.invokevirtual 321, 3) := by decide +kernel
theorem dX7_best_93 : decode cX7_best 93 = .ok (.istore 8, 2) := by decide +kernel
theorem dX7_best_95 : decode cX7_best 95 = .ok (.iload 8, 2) := by decide +kernel
theorem dX7_best_97 : decode cX7_best 97 = .ok (.iload 6, 2) := by decide +kernel
theorem dX7_best_99 : decode cX7_best 99 = .ok (.if_icmp .le 8, 3) := by decide +kernel
theorem dX7_best_102 : decode cX7_best 102 = .ok (.iload 7, 2) := by decide +kernel
theorem dX7_best_104 : decode cX7_best 104 = .ok (.goto 5, 3) := by decide +kernel
theorem dX7_best_107 : decode cX7_best 107 = .ok (.iload 5, 2) := by decide +kernel
theorem dX7_best_109 : decode cX7_best 109 = .ok (.istore 5, 2) := by decide +kernel
theorem dX7_best_111 : decode cX7_best 111 = .ok (.iload 8, 2) := by decide +kernel
theorem dX7_best_113 : decode cX7_best 113 = .ok (.iload 6, 2) := by decide +kernel
theorem dX7_best_115 : decode cX7_best 115 = .ok (.if_icmp .le 8, 3) := by decide +kernel
theorem dX7_best_118 : decode cX7_best 118 = .ok (.iload 8, 2) := by decide +kernel
theorem dX7_best_120 : decode cX7_best 120 = .ok (.goto 5, 3) := by decide +kernel
theorem dX7_best_123 : decode cX7_best 123 = .ok (.iload 6, 2) := by decide +kernel
theorem dX7_best_125 : decode cX7_best 125 = .ok (.istore 6, 2) := by decide +kernel
theorem dX7_best_127 : decode cX7_best 127 = .ok (.iinc 7 1, 3) := by decide +kernel
theorem dX7_best_130 : decode cX7_best 130 = .ok (.goto (-66), 3) := by decide +kernel
theorem dX7_best_133 : decode cX7_best 133 = .ok (.iload_n 3, 1) := by decide +kernel
theorem dX7_best_134 : decode cX7_best 134 = .ok (.ifCond .ne 8, 3) := by decide +kernel
theorem dX7_best_137 : decode cX7_best 137 = .ok (.iload 6, 2) := by decide +kernel
theorem dX7_best_139 : decode cX7_best 139 = .ok (.goto 5, 3) := by decide +kernel
theorem dX7_best_142 : decode cX7_best 142 = .ok (.iload 5, 2) := by decide +kernel
theorem dX7_best_144 : decode cX7_best 144 = .ok (.ireturn, 1) := by decide +kernel
theorem dX7_isSheet_0 : decode cX7_isSheet 0 = .ok (.iload_n 0, 1) := by decide +kernel
theorem dX7_isSheet_1 : decode cX7_isSheet 1 = .ok (.i2l, 1) := by decide +kernel
theorem dX7_isSheet_2 : decode cX7_isSheet 2 = .ok (.lconst 0, 1) := by decide +kernel
theorem dX7_isSheet_3 : decode cX7_isSheet 3 = .ok (.ldc2_w 119, 3) := by decide +kernel
theorem dX7_isSheet_6 : decode cX7_isSheet 6 = .ok (.invokestatic 102, 3) := by decide +kernel
theorem dX7_isSheet_9 : decode cX7_isSheet 9 = .ok (.ifCond .eq 19, 3) := by decide +kernel
theorem dX7_isSheet_12 : decode cX7_isSheet 12 = .ok (.iload_n 1, 1) := by decide +kernel
theorem dX7_isSheet_13 : decode cX7_isSheet 13 = .ok (.i2l, 1) := by decide +kernel
theorem dX7_isSheet_14 : decode cX7_isSheet 14 = .ok (.lconst 0, 1) := by decide +kernel
theorem dX7_isSheet_15 : decode cX7_isSheet 15 = .ok (.ldc2_w 226, 3) := by decide +kernel
theorem dX7_isSheet_18 : decode cX7_isSheet 18 = .ok (.invokestatic 102, 3) := by decide +kernel
theorem dX7_isSheet_21 : decode cX7_isSheet 21 = .ok (.ifCond .eq 7, 3) := by decide +kernel
theorem dX7_isSheet_24 : decode cX7_isSheet 24 = .ok (.iconst 1, 1) := by decide +kernel
theorem dX7_isSheet_25 : decode cX7_isSheet 25 = .ok (.goto 4, 3) := by decide +kernel
theorem dX7_isSheet_28 : decode cX7_isSheet 28 = .ok (.iconst 0, 1) := by decide +kernel
theorem dX7_isSheet_29 : decode cX7_isSheet 29 = .ok (.ireturn, 1) := by decide +kernel
theorem dX7_sheet_0 : decode cX7_sheet 0 = .ok (.iload_n 1, 1) := by decide +kernel
theorem dX7_sheet_1 : decode cX7_sheet 1 = .ok (.iload_n 2, 1) := by decide +kernel
theorem dX7_sheet_2 : decode cX7_sheet 2 = .ok (.invokestatic 324, 3) := by decide +kernel
theorem dX7_sheet_5 : decode cX7_sheet 5 = .ok (.ifCond .eq 9, 3) := by decide +kernel
theorem dX7_sheet_8 : decode cX7_sheet 8 = .ok (.iload_n 3, 1) := by decide +kernel
theorem dX7_sheet_9 : decode cX7_sheet 9 = .ok (.bipush 48, 2) := by decide +kernel
theorem dX7_sheet_11 : decode cX7_sheet 11 = .ok (.if_icmp .le 5, 3) := by decide +kernel
theorem dX7_sheet_14 : decode cX7_sheet 14 = .ok (.iconst (-1), 1) := by decide +kernel
theorem dX7_sheet_15 : decode cX7_sheet 15 = .ok (.ireturn, 1) := by decide +kernel
theorem dX7_sheet_16 : decode cX7_sheet 16 = .ok (.iload_n 3, 1) := by decide +kernel
theorem dX7_sheet_17 : decode cX7_sheet 17 = .ok (.ifCond .ge 6, 3) := by decide +kernel
theorem dX7_sheet_20 : decode cX7_sheet 20 = .ok (.bipush (-14), 2) := by decide +kernel
theorem dX7_sheet_22 : decode cX7_sheet 22 = .ok (.ireturn, 1) := by decide +kernel
theorem dX7_sheet_23 : decode cX7_sheet 23 = .ok (.aload_n 0, 1) := by decide +kernel
theorem dX7_sheet_24 : decode cX7_sheet 24 = .ok (.getfield 83, 3) := by decide +kernel
theorem dX7_sheet_27 : decode cX7_sheet 27 = .ok (.iload_n 1, 1) := by decide +kernel
theorem dX7_sheet_28 : decode cX7_sheet 28 = .ok (.iload_n 2, 1) := by decide +kernel
theorem dX7_sheet_29 : decode cX7_sheet 29 = .ok (.iastore, 1) := by decide +kernel
theorem dX7_sheet_30 : decode cX7_sheet 30 = .ok (.aload_n 0, 1) := by decide +kernel
theorem dX7_sheet_31 : decode cX7_sheet 31 = .ok (.getfield 86, 3) := by decide +kernel
theorem dX7_sheet_34 : decode cX7_sheet 34 = .ok (.iload_n 1, 1) := by decide +kernel
theorem dX7_sheet_35 : decode cX7_sheet 35 = .ok (.iload_n 3, 1) := by decide +kernel
theorem dX7_sheet_36 : decode cX7_sheet 36 = .ok (.iastore, 1) := by decide +kernel
theorem dX7_sheet_37 : decode cX7_sheet 37 = .ok (.iconst 0, 1) := by decide +kernel
theorem dX7_sheet_38 : decode cX7_sheet 38 = .ok (.istore 4, 2) := by decide +kernel
theorem dX7_sheet_40 : decode cX7_sheet 40 = .ok (.iload 4, 2) := by decide +kernel
theorem dX7_sheet_42 : decode cX7_sheet 42 = .ok (.bipush 48, 2) := by decide +kernel
theorem dX7_sheet_44 : decode cX7_sheet 44 = .ok (.if_icmp .ge 22, 3) := by decide +kernel
theorem dX7_sheet_47 : decode cX7_sheet 47 = .ok (.aload_n 0, 1) := by decide +kernel
theorem dX7_sheet_48 : decode cX7_sheet 48 = .ok (.getfield 89, 3) := by decide +kernel
theorem dX7_sheet_51 : decode cX7_sheet 51 = .ok (.bipush 48, 2) := by decide +kernel
theorem dX7_sheet_53 : decode cX7_sheet 53 = .ok (.iload_n 1, 1) := by decide +kernel
theorem dX7_sheet_54 : decode cX7_sheet 54 = .ok (.imul, 1) := by decide +kernel
theorem dX7_sheet_55 : decode cX7_sheet 55 = .ok (.iload 4, 2) := by decide +kernel
theorem dX7_sheet_57 : decode cX7_sheet 57 = .ok (.iadd, 1) := by decide +kernel
theorem dX7_sheet_58 : decode cX7_sheet 58 = .ok (.iconst 0, 1) := by decide +kernel
theorem dX7_sheet_59 : decode cX7_sheet 59 = .ok (.iastore, 1) := by decide +kernel
theorem dX7_sheet_60 : decode cX7_sheet 60 = .ok (.iinc 4 1, 3) := by decide +kernel
theorem dX7_sheet_63 : decode cX7_sheet 63 = .ok (.goto (-23), 3) := by decide +kernel
theorem dX7_sheet_66 : decode cX7_sheet 66 = .ok (.iconst 1, 1) := by decide +kernel
theorem dX7_sheet_67 : decode cX7_sheet 67 = .ok (.ireturn, 1) := by decide +kernel
theorem dX7_lay_0 : decode cX7_lay 0 = .ok (.iload_n 1, 1) := by decide +kernel
theorem dX7_lay_1 : decode cX7_lay 1 = .ok (.iconst 0, 1) := by decide +kernel
theorem dX7_lay_2 : decode cX7_lay 2 = .ok (.invokestatic 324, 3) := by decide +kernel
theorem dX7_lay_5 : decode cX7_lay 5 = .ok (.ifCond .ne 5, 3) := by decide +kernel
theorem dX7_lay_8 : decode cX7_lay 8 = .ok (.iconst (-1), 1) := by decide +kernel
theorem dX7_lay_9 : decode cX7_lay 9 = .ok (.ireturn, 1) := by decide +kernel
theorem dX7_lay_10 : decode cX7_lay 10 = .ok (.aload_n 0, 1) := by decide +kernel
theorem dX7_lay_11 : decode cX7_lay 11 = .ok (.getfield 83, 3) := by decide +kernel
theorem dX7_lay_14 : decode cX7_lay 14 = .ok (.iload_n 1, 1) := by decide +kernel
theorem dX7_lay_15 : decode cX7_lay 15 = .ok (.iaload, 1) := by decide +kernel
theorem dX7_lay_16 : decode cX7_lay 16 = .ok (.bipush (-4), 2) := by decide +kernel
theorem dX7_lay_18 : decode cX7_lay 18 = .ok (.if_icmp .ne 6, 3) := by decide +kernel
theorem dX7_lay_21 : decode cX7_lay 21 = .ok (.bipush (-11), 2) := by decide +kernel
theorem dX7_lay_23 : decode cX7_lay 23 = .ok (.ireturn, 1) := by decide +kernel
theorem dX7_lay_24 : decode cX7_lay 24 = .ok (.iload_n 2, 1) := by decide +kernel
theorem dX7_lay_25 : decode cX7_lay 25 = .ok (.i2l, 1) := by decide +kernel
theorem dX7_lay_26 : decode cX7_lay 26 = .ok (.lconst 0, 1) := by decide +kernel
theorem dX7_lay_27 : decode cX7_lay 27 = .ok (.aload_n 0, 1) := by decide +kernel
theorem dX7_lay_28 : decode cX7_lay 28 = .ok (.getfield 86, 3) := by decide +kernel
theorem dX7_lay_31 : decode cX7_lay 31 = .ok (.iload_n 1, 1) := by decide +kernel
theorem dX7_lay_32 : decode cX7_lay 32 = .ok (.iaload, 1) := by decide +kernel
theorem dX7_lay_33 : decode cX7_lay 33 = .ok (.iconst 1, 1) := by decide +kernel
theorem dX7_lay_34 : decode cX7_lay 34 = .ok (.isub, 1) := by decide +kernel
theorem dX7_lay_35 : decode cX7_lay 35 = .ok (.i2l, 1) := by decide +kernel
theorem dX7_lay_36 : decode cX7_lay 36 = .ok (.invokestatic 102, 3) := by decide +kernel
theorem dX7_lay_39 : decode cX7_lay 39 = .ok (.ifCond .ne 6, 3) := by decide +kernel
theorem dX7_lay_42 : decode cX7_lay 42 = .ok (.bipush (-12), 2) := by decide +kernel
theorem dX7_lay_44 : decode cX7_lay 44 = .ok (.ireturn, 1) := by decide +kernel
theorem dX7_lay_45 : decode cX7_lay 45 = .ok (.aload_n 0, 1) := by decide +kernel
theorem dX7_lay_46 : decode cX7_lay 46 = .ok (.getfield 89, 3) := by decide +kernel
theorem dX7_lay_49 : decode cX7_lay 49 = .ok (.bipush 48, 2) := by decide +kernel
theorem dX7_lay_51 : decode cX7_lay 51 = .ok (.iload_n 1, 1) := by decide +kernel
theorem dX7_lay_52 : decode cX7_lay 52 = .ok (.imul, 1) := by decide +kernel
theorem dX7_lay_53 : decode cX7_lay 53 = .ok (.iload_n 2, 1) := by decide +kernel
theorem dX7_lay_54 : decode cX7_lay 54 = .ok (.iadd, 1) := by decide +kernel
theorem dX7_lay_55 : decode cX7_lay 55 = .ok (.aload_n 0, 1) := by decide +kernel
theorem dX7_lay_56 : decode cX7_lay 56 = .ok (.getfield 83, 3) := by decide +kernel
theorem dX7_lay_59 : decode cX7_lay 59 = .ok (.iload_n 1, 1) := by decide +kernel
theorem dX7_lay_60 : decode cX7_lay 60 = .ok (.iaload, 1) := by decide +kernel
theorem dX7_lay_61 : decode cX7_lay 61 = .ok (.ifCond .ne 8, 3) := by decide +kernel
theorem dX7_lay_64 : decode cX7_lay 64 = .ok (.iload_n 3, 1) := by decide +kernel
theorem dX7_lay_65 : decode cX7_lay 65 = .ok (.i2b, 1) := by decide +kernel
theorem dX7_lay_66 : decode cX7_lay 66 = .ok (.goto 19, 3) := by decide +kernel
theorem dX7_lay_69 : decode cX7_lay 69 = .ok (.aload_n 0, 1) := by decide +kernel
theorem dX7_lay_70 : decode cX7_lay 70 = .ok (.getfield 83, 3) := by decide +kernel
theorem dX7_lay_73 : decode cX7_lay 73 = .ok (.iload_n 1, 1) := by decide +kernel
theorem dX7_lay_74 : decode cX7_lay 74 = .ok (.iaload, 1) := by decide +kernel
theorem dX7_lay_75 : decode cX7_lay 75 = .ok (.iconst 1, 1) := by decide +kernel
theorem dX7_lay_76 : decode cX7_lay 76 = .ok (.if_icmp .ne 8, 3) := by decide +kernel
theorem dX7_lay_79 : decode cX7_lay 79 = .ok (.iload_n 3, 1) := by decide +kernel
theorem dX7_lay_80 : decode cX7_lay 80 = .ok (.i2s, 1) := by decide +kernel
theorem dX7_lay_81 : decode cX7_lay 81 = .ok (.goto 4, 3) := by decide +kernel
theorem dX7_lay_84 : decode cX7_lay 84 = .ok (.iload_n 3, 1) := by decide +kernel
theorem dX7_lay_85 : decode cX7_lay 85 = .ok (.iastore, 1) := by decide +kernel
theorem dX7_lay_86 : decode cX7_lay 86 = .ok (.iconst 1, 1) := by decide +kernel
theorem dX7_lay_87 : decode cX7_lay 87 = .ok (.ireturn, 1) := by decide +kernel
theorem dX7_refuses_0 : decode cX7_refuses 0 = .ok (.aload_n 0, 1) := by decide +kernel
theorem dX7_refuses_1 : decode cX7_refuses 1 = .ok (.getfield 83, 3) := by decide +kernel
theorem dX7_refuses_4 : decode cX7_refuses 4 = .ok (.iload_n 1, 1) := by decide +kernel
theorem dX7_refuses_5 : decode cX7_refuses 5 = .ok (.iaload, 1) := by decide +kernel
theorem dX7_refuses_6 : decode cX7_refuses 6 = .ok (.bipush (-4), 2) := by decide +kernel
theorem dX7_refuses_8 : decode cX7_refuses 8 = .ok (.if_icmp .ne 7, 3) := by decide +kernel
theorem dX7_refuses_11 : decode cX7_refuses 11 = .ok (.iconst 1, 1) := by decide +kernel
theorem dX7_refuses_12 : decode cX7_refuses 12 = .ok (.goto 40, 3) := by decide +kernel
theorem dX7_refuses_15 : decode cX7_refuses 15 = .ok (.aload_n 0, 1) := by decide +kernel
theorem dX7_refuses_16 : decode cX7_refuses 16 = .ok (.getfield 83, 3) := by decide +kernel
theorem dX7_refuses_19 : decode cX7_refuses 19 = .ok (.iload_n 1, 1) := by decide +kernel
theorem dX7_refuses_20 : decode cX7_refuses 20 = .ok (.iaload, 1) := by decide +kernel
theorem dX7_refuses_21 : decode cX7_refuses 21 = .ok (.iload_n 2, 1) := by decide +kernel
theorem dX7_refuses_22 : decode cX7_refuses 22 = .ok (.if_icmp .eq 7, 3) := by decide +kernel
theorem dX7_refuses_25 : decode cX7_refuses 25 = .ok (.iconst 3, 1) := by decide +kernel
theorem dX7_refuses_26 : decode cX7_refuses 26 = .ok (.goto 26, 3) := by decide +kernel
theorem dX7_refuses_29 : decode cX7_refuses 29 = .ok (.lload_n 3, 1) := by decide +kernel
theorem dX7_refuses_30 : decode cX7_refuses 30 = .ok (.lconst 0, 1) := by decide +kernel
theorem dX7_refuses_31 : decode cX7_refuses 31 = .ok (.lcmp, 1) := by decide +kernel
theorem dX7_refuses_32 : decode cX7_refuses 32 = .ok (.ifCond .lt 15, 3) := by decide +kernel
theorem dX7_refuses_35 : decode cX7_refuses 35 = .ok (.lload_n 3, 1) := by decide +kernel
theorem dX7_refuses_36 : decode cX7_refuses 36 = .ok (.aload_n 0, 1) := by decide +kernel
theorem dX7_refuses_37 : decode cX7_refuses 37 = .ok (.getfield 86, 3) := by decide +kernel
theorem dX7_refuses_40 : decode cX7_refuses 40 = .ok (.iload_n 1, 1) := by decide +kernel
theorem dX7_refuses_41 : decode cX7_refuses 41 = .ok (.iaload, 1) := by decide +kernel
theorem dX7_refuses_42 : decode cX7_refuses 42 = .ok (.i2l, 1) := by decide +kernel
theorem dX7_refuses_43 : decode cX7_refuses 43 = .ok (.lcmp, 1) := by decide +kernel
theorem dX7_refuses_44 : decode cX7_refuses 44 = .ok (.ifCond .lt 7, 3) := by decide +kernel
theorem dX7_refuses_47 : decode cX7_refuses 47 = .ok (.iconst 2, 1) := by decide +kernel
theorem dX7_refuses_48 : decode cX7_refuses 48 = .ok (.goto 4, 3) := by decide +kernel
theorem dX7_refuses_51 : decode cX7_refuses 51 = .ok (.iconst 0, 1) := by decide +kernel
theorem dX7_refuses_52 : decode cX7_refuses 52 = .ok (.ireturn, 1) := by decide +kernel
theorem dX7_read_0 : decode cX7_read 0 = .ok (.iload_n 1, 1) := by decide +kernel
theorem dX7_read_1 : decode cX7_read 1 = .ok (.iload_n 2, 1) := by decide +kernel
theorem dX7_read_2 : decode cX7_read 2 = .ok (.invokestatic 324, 3) := by decide +kernel
theorem dX7_read_5 : decode cX7_read 5 = .ok (.ifCond .eq 16, 3) := by decide +kernel
theorem dX7_read_8 : decode cX7_read 8 = .ok (.iload 4, 2) := by decide +kernel
theorem dX7_read_10 : decode cX7_read 10 = .ok (.i2l, 1) := by decide +kernel
theorem dX7_read_11 : decode cX7_read 11 = .ok (.lconst 0, 1) := by decide +kernel
theorem dX7_read_12 : decode cX7_read 12 = .ok (.ldc2_w 327, 3) := by decide +kernel
theorem dX7_read_15 : decode cX7_read 15 = .ok (.invokestatic 102, 3) := by decide +kernel
theorem dX7_read_18 : decode cX7_read 18 = .ok (.ifCond .ne 5, 3) := by decide +kernel
theorem dX7_read_21 : decode cX7_read 21 = .ok (.iconst (-1), 1) := by decide +kernel
theorem dX7_read_22 : decode cX7_read 22 = .ok (.ireturn, 1) := by decide +kernel
theorem dX7_read_23 : decode cX7_read 23 = .ok (.iconst 0, 1) := by decide +kernel
theorem dX7_read_24 : decode cX7_read 24 = .ok (.istore 5, 2) := by decide +kernel
theorem dX7_read_26 : decode cX7_read 26 = .ok (.iconst 0, 1) := by decide +kernel
theorem dX7_read_27 : decode cX7_read 27 = .ok (.istore 6, 2) := by decide +kernel
theorem dX7_read_29 : decode cX7_read 29 = .ok (.iconst 0, 1) := by decide +kernel
theorem dX7_read_30 : decode cX7_read 30 = .ok (.istore 7, 2) := by decide +kernel
theorem dX7_read_32 : decode cX7_read 32 = .ok (.iload 7, 2) := by decide +kernel
theorem dX7_read_34 : decode cX7_read 34 = .ok (.iload 4, 2) := by decide +kernel
theorem dX7_read_36 : decode cX7_read 36 = .ok (.if_icmp .ge 152, 3) := by decide +kernel
theorem dX7_read_39 : decode cX7_read 39 = .ok (.iload 5, 2) := by decide +kernel
theorem dX7_read_41 : decode cX7_read 41 = .ok (.ifCond .ne 147, 3) := by decide +kernel
theorem dX7_read_44 : decode cX7_read 44 = .ok (.iconst 0, 1) := by decide +kernel
theorem dX7_read_45 : decode cX7_read 45 = .ok (.istore 8, 2) := by decide +kernel
theorem dX7_read_47 : decode cX7_read 47 = .ok (.iload 8, 2) := by decide +kernel
theorem dX7_read_49 : decode cX7_read 49 = .ok (.iconst 4, 1) := by decide +kernel
theorem dX7_read_50 : decode cX7_read 50 = .ok (.if_icmp .ge 34, 3) := by decide +kernel
theorem dX7_read_53 : decode cX7_read 53 = .ok (.iload 5, 2) := by decide +kernel
theorem dX7_read_55 : decode cX7_read 55 = .ok (.ifCond .ne 29, 3) := by decide +kernel
theorem dX7_read_58 : decode cX7_read 58 = .ok (.aload_n 0, 1) := by decide +kernel
theorem dX7_read_59 : decode cX7_read 59 = .ok (.iload_n 1, 1) := by decide +kernel
theorem dX7_read_60 : decode cX7_read 60 = .ok (.iload_n 2, 1) := by decide +kernel
theorem dX7_read_61 : decode cX7_read 61 = .ok (.iload_n 3, 1) := by decide +kernel
theorem dX7_read_62 : decode cX7_read 62 = .ok (.i2l, 1) := by decide +kernel
theorem dX7_read_63 : decode cX7_read 63 = .ok (.iconst 4, 1) := by decide +kernel
theorem dX7_read_64 : decode cX7_read 64 = .ok (.iload 7, 2) := by decide +kernel
theorem dX7_read_66 : decode cX7_read 66 = .ok (.imul, 1) := by decide +kernel
theorem dX7_read_67 : decode cX7_read 67 = .ok (.i2l, 1) := by decide +kernel
theorem dX7_read_68 : decode cX7_read 68 = .ok (.ladd, 1) := by decide +kernel
theorem dX7_read_69 : decode cX7_read 69 = .ok (.iload 8, 2) := by decide +kernel
theorem dX7_read_71 : decode cX7_read 71 = .ok (.i2l, 1) := by decide +kernel
theorem dX7_read_72 : decode cX7_read 72 = .ok (.ladd, 1) := by decide +kernel
theorem dX7_read_73 : decode cX7_read 73 = .ok (.invokevirtual 329, 3) := by decide +kernel
theorem dX7_read_76 : decode cX7_read 76 = .ok (.istore 5, 2) := by decide +kernel
theorem dX7_read_78 : decode cX7_read 78 = .ok (.iinc 8 1, 3) := by decide +kernel
theorem dX7_read_81 : decode cX7_read 81 = .ok (.goto (-34), 3) := by decide +kernel
theorem dX7_read_84 : decode cX7_read 84 = .ok (.iload 5, 2) := by decide +kernel
theorem dX7_read_86 : decode cX7_read 86 = .ok (.ifCond .ne 96, 3) := by decide +kernel
theorem dX7_read_89 : decode cX7_read 89 = .ok (.bipush 48, 2) := by decide +kernel
theorem dX7_read_91 : decode cX7_read 91 = .ok (.iload_n 1, 1) := by decide +kernel
theorem dX7_read_92 : decode cX7_read 92 = .ok (.imul, 1) := by decide +kernel
theorem dX7_read_93 : decode cX7_read 93 = .ok (.iload_n 3, 1) := by decide +kernel
theorem dX7_read_94 : decode cX7_read 94 = .ok (.iadd, 1) := by decide +kernel
theorem dX7_read_95 : decode cX7_read 95 = .ok (.iconst 4, 1) := by decide +kernel
theorem dX7_read_96 : decode cX7_read 96 = .ok (.iload 7, 2) := by decide +kernel
theorem dX7_read_98 : decode cX7_read 98 = .ok (.imul, 1) := by decide +kernel
theorem dX7_read_99 : decode cX7_read 99 = .ok (.iadd, 1) := by decide +kernel
theorem dX7_read_100 : decode cX7_read 100 = .ok (.istore 8, 2) := by decide +kernel
theorem dX7_read_102 : decode cX7_read 102 = .ok (.aload_n 0, 1) := by decide +kernel
theorem dX7_read_103 : decode cX7_read 103 = .ok (.aload_n 0, 1) := by decide +kernel
theorem dX7_read_104 : decode cX7_read 104 = .ok (.getfield 89, 3) := by decide +kernel
theorem dX7_read_107 : decode cX7_read 107 = .ok (.iload 8, 2) := by decide +kernel
theorem dX7_read_109 : decode cX7_read 109 = .ok (.iaload, 1) := by decide +kernel
theorem dX7_read_110 : decode cX7_read 110 = .ok (.aload_n 0, 1) := by decide +kernel
theorem dX7_read_111 : decode cX7_read 111 = .ok (.getfield 89, 3) := by decide +kernel
theorem dX7_read_114 : decode cX7_read 114 = .ok (.iload 8, 2) := by decide +kernel
theorem dX7_read_116 : decode cX7_read 116 = .ok (.iconst 1, 1) := by decide +kernel
theorem dX7_read_117 : decode cX7_read 117 = .ok (.iadd, 1) := by decide +kernel
theorem dX7_read_118 : decode cX7_read 118 = .ok (.iaload, 1) := by decide +kernel
theorem dX7_read_119 : decode cX7_read 119 = .ok (.aload_n 0, 1) := by decide +kernel
theorem dX7_read_120 : decode cX7_read 120 = .ok (.getfield 89, 3) := by decide +kernel
theorem dX7_read_123 : decode cX7_read 123 = .ok (.iload 8, 2) := by decide +kernel
theorem dX7_read_125 : decode cX7_read 125 = .ok (.iconst 2, 1) := by decide +kernel
theorem dX7_read_126 : decode cX7_read 126 = .ok (.iadd, 1) := by decide +kernel
theorem dX7_read_127 : decode cX7_read 127 = .ok (.iaload, 1) := by decide +kernel
theorem dX7_read_128 : decode cX7_read 128 = .ok (.aload_n 0, 1) := by decide +kernel
theorem dX7_read_129 : decode cX7_read 129 = .ok (.getfield 89, 3) := by decide +kernel
theorem dX7_read_132 : decode cX7_read 132 = .ok (.iload 8, 2) := by decide +kernel
theorem dX7_read_134 : decode cX7_read 134 = .ok (.iconst 3, 1) := by decide +kernel
theorem dX7_read_135 : decode cX7_read 135 = .ok (.iadd, 1) := by decide +kernel
theorem dX7_read_136 : decode cX7_read 136 = .ok (.iaload, 1) := by decide +kernel
theorem dX7_read_137 : decode cX7_read 137 = .ok (.invokevirtual 238, 3) := by decide +kernel
theorem dX7_read_140 : decode cX7_read 140 = .ok (.ifCond .eq 18, 3) := by decide +kernel
theorem dX7_read_143 : decode cX7_read 143 = .ok (.aload_n 0, 1) := by decide +kernel
theorem dX7_read_144 : decode cX7_read 144 = .ok (.getfield 17, 3) := by decide +kernel
theorem dX7_read_147 : decode cX7_read 147 = .ok (.aload_n 0, 1) := by decide +kernel
theorem dX7_read_148 : decode cX7_read 148 = .ok (.getfield 89, 3) := by decide +kernel
theorem dX7_read_151 : decode cX7_read 151 = .ok (.iload 8, 2) := by decide +kernel
theorem dX7_read_153 : decode cX7_read 153 = .ok (.iaload, 1) := by decide +kernel
theorem dX7_read_154 : decode cX7_read 154 = .ok (.baload, 1) := by decide +kernel
theorem dX7_read_155 : decode cX7_read 155 = .ok (.ifCond .eq 9, 3) := by decide +kernel
theorem dX7_read_158 : decode cX7_read 158 = .ok (.bipush (-20), 2) := by decide +kernel
theorem dX7_read_160 : decode cX7_read 160 = .ok (.iload 7, 2) := by decide +kernel
theorem dX7_read_162 : decode cX7_read 162 = .ok (.isub, 1) := by decide +kernel
theorem dX7_read_163 : decode cX7_read 163 = .ok (.ireturn, 1) := by decide +kernel
theorem dX7_read_164 : decode cX7_read 164 = .ok (.aload_n 0, 1) := by decide +kernel
theorem dX7_read_165 : decode cX7_read 165 = .ok (.getfield 235, 3) := by decide +kernel
theorem dX7_read_168 : decode cX7_read 168 = .ok (.iload 7, 2) := by decide +kernel
theorem dX7_read_170 : decode cX7_read 170 = .ok (.iadd, 1) := by decide +kernel
theorem dX7_read_171 : decode cX7_read 171 = .ok (.bipush 24, 2) := by decide +kernel
theorem dX7_read_173 : decode cX7_read 173 = .ok (.if_icmp .lt 6, 3) := by decide +kernel
theorem dX7_read_176 : decode cX7_read 176 = .ok (.bipush (-3), 2) := by decide +kernel
theorem dX7_read_178 : decode cX7_read 178 = .ok (.ireturn, 1) := by decide +kernel
theorem dX7_read_179 : decode cX7_read 179 = .ok (.iinc 6 1, 3) := by decide +kernel
theorem dX7_read_182 : decode cX7_read 182 = .ok (.iinc 7 1, 3) := by decide +kernel
theorem dX7_read_185 : decode cX7_read 185 = .ok (.goto (-153), 3) := by decide +kernel
theorem dX7_read_188 : decode cX7_read 188 = .ok (.iconst 0, 1) := by decide +kernel
theorem dX7_read_189 : decode cX7_read 189 = .ok (.istore 7, 2) := by decide +kernel
theorem dX7_read_191 : decode cX7_read 191 = .ok (.iload 7, 2) := by decide +kernel
theorem dX7_read_193 : decode cX7_read 193 = .ok (.iload 6, 2) := by decide +kernel
theorem dX7_read_195 : decode cX7_read 195 = .ok (.if_icmp .ge 60, 3) := by decide +kernel
theorem dX7_read_198 : decode cX7_read 198 = .ok (.bipush 48, 2) := by decide +kernel
theorem dX7_read_200 : decode cX7_read 200 = .ok (.iload_n 1, 1) := by decide +kernel
theorem dX7_read_201 : decode cX7_read 201 = .ok (.imul, 1) := by decide +kernel
theorem dX7_read_202 : decode cX7_read 202 = .ok (.iload_n 3, 1) := by decide +kernel
theorem dX7_read_203 : decode cX7_read 203 = .ok (.iadd, 1) := by decide +kernel
theorem dX7_read_204 : decode cX7_read 204 = .ok (.iconst 4, 1) := by decide +kernel
theorem dX7_read_205 : decode cX7_read 205 = .ok (.iload 7, 2) := by decide +kernel
theorem dX7_read_207 : decode cX7_read 207 = .ok (.imul, 1) := by decide +kernel
theorem dX7_read_208 : decode cX7_read 208 = .ok (.iadd, 1) := by decide +kernel
theorem dX7_read_209 : decode cX7_read 209 = .ok (.istore 8, 2) := by decide +kernel
theorem dX7_read_211 : decode cX7_read 211 = .ok (.aload_n 0, 1) := by decide +kernel
theorem dX7_read_212 : decode cX7_read 212 = .ok (.aload_n 0, 1) := by decide +kernel
theorem dX7_read_213 : decode cX7_read 213 = .ok (.getfield 89, 3) := by decide +kernel
theorem dX7_read_216 : decode cX7_read 216 = .ok (.iload 8, 2) := by decide +kernel
theorem dX7_read_218 : decode cX7_read 218 = .ok (.iaload, 1) := by decide +kernel
theorem dX7_read_219 : decode cX7_read 219 = .ok (.aload_n 0, 1) := by decide +kernel
theorem dX7_read_220 : decode cX7_read 220 = .ok (.getfield 89, 3) := by decide +kernel
theorem dX7_read_223 : decode cX7_read 223 = .ok (.iload 8, 2) := by decide +kernel
theorem dX7_read_225 : decode cX7_read 225 = .ok (.iconst 1, 1) := by decide +kernel
theorem dX7_read_226 : decode cX7_read 226 = .ok (.iadd, 1) := by decide +kernel
theorem dX7_read_227 : decode cX7_read 227 = .ok (.iaload, 1) := by decide +kernel
theorem dX7_read_228 : decode cX7_read 228 = .ok (.aload_n 0, 1) := by decide +kernel
theorem dX7_read_229 : decode cX7_read 229 = .ok (.getfield 89, 3) := by decide +kernel
theorem dX7_read_232 : decode cX7_read 232 = .ok (.iload 8, 2) := by decide +kernel
theorem dX7_read_234 : decode cX7_read 234 = .ok (.iconst 2, 1) := by decide +kernel
theorem dX7_read_235 : decode cX7_read 235 = .ok (.iadd, 1) := by decide +kernel
theorem dX7_read_236 : decode cX7_read 236 = .ok (.iaload, 1) := by decide +kernel
theorem dX7_read_237 : decode cX7_read 237 = .ok (.aload_n 0, 1) := by decide +kernel
theorem dX7_read_238 : decode cX7_read 238 = .ok (.getfield 89, 3) := by decide +kernel
theorem dX7_read_241 : decode cX7_read 241 = .ok (.iload 8, 2) := by decide +kernel
theorem dX7_read_243 : decode cX7_read 243 = .ok (.iconst 3, 1) := by decide +kernel
theorem dX7_read_244 : decode cX7_read 244 = .ok (.iadd, 1) := by decide +kernel
theorem dX7_read_245 : decode cX7_read 245 = .ok (.iaload, 1) := by decide +kernel
theorem dX7_read_246 : decode cX7_read 246 = .ok (.invokevirtual 242, 3) := by decide +kernel
theorem dX7_read_249 : decode cX7_read 249 = .ok (.iinc 7 1, 3) := by decide +kernel
theorem dX7_read_252 : decode cX7_read 252 = .ok (.goto (-61), 3) := by decide +kernel
theorem dX7_read_255 : decode cX7_read 255 = .ok (.aload_n 0, 1) := by decide +kernel
theorem dX7_read_256 : decode cX7_read 256 = .ok (.iload 5, 2) := by decide +kernel
theorem dX7_read_258 : decode cX7_read 258 = .ok (.putfield 333, 3) := by decide +kernel
theorem dX7_read_261 : decode cX7_read 261 = .ok (.iload 6, 2) := by decide +kernel
theorem dX7_read_263 : decode cX7_read 263 = .ok (.ireturn, 1) := by decide +kernel
theorem dX7_lost_0 : decode cX7_lost 0 = .ok (.aload_n 0, 1) := by decide +kernel
theorem dX7_lost_1 : decode cX7_lost 1 = .ok (.getfield 333, 3) := by decide +kernel
theorem dX7_lost_4 : decode cX7_lost 4 = .ok (.ireturn, 1) := by decide +kernel
theorem dX7_count_0 : decode cX7_count 0 = .ok (.iconst 0, 1) := by decide +kernel
theorem dX7_count_1 : decode cX7_count 1 = .ok (.istore_n 2, 1) := by decide +kernel
theorem dX7_count_2 : decode cX7_count 2 = .ok (.iconst 0, 1) := by decide +kernel
theorem dX7_count_3 : decode cX7_count 3 = .ok (.istore_n 3, 1) := by decide +kernel
theorem dX7_count_4 : decode cX7_count 4 = .ok (.iconst 0, 1) := by decide +kernel
theorem dX7_count_5 : decode cX7_count 5 = .ok (.istore 4, 2) := by decide +kernel
theorem dX7_count_7 : decode cX7_count 7 = .ok (.iconst 0, 1) := by decide +kernel
theorem dX7_count_8 : decode cX7_count 8 = .ok (.istore 5, 2) := by decide +kernel
theorem dX7_count_10 : decode cX7_count 10 = .ok (.iconst 0, 1) := by decide +kernel
theorem dX7_count_11 : decode cX7_count 11 = .ok (.istore 6, 2) := by decide +kernel
theorem dX7_count_13 : decode cX7_count 13 = .ok (.iconst 0, 1) := by decide +kernel
theorem dX7_count_14 : decode cX7_count 14 = .ok (.istore 7, 2) := by decide +kernel
theorem dX7_count_16 : decode cX7_count 16 = .ok (.iload 7, 2) := by decide +kernel
theorem dX7_count_18 : decode cX7_count 18 = .ok (.aload_n 0, 1) := by decide +kernel
theorem dX7_count_19 : decode cX7_count 19 = .ok (.getfield 98, 3) := by decide +kernel
theorem dX7_count_22 : decode cX7_count 22 = .ok (.if_icmp .ge 64, 3) := by decide +kernel
theorem dX7_count_25 : decode cX7_count 25 = .ok (.iload_n 2, 1) := by decide +kernel
theorem dX7_count_26 : decode cX7_count 26 = .ok (.aload_n 0, 1) := by decide +kernel
theorem dX7_count_27 : decode cX7_count 27 = .ok (.getfield 13, 3) := by decide +kernel
theorem dX7_count_30 : decode cX7_count 30 = .ok (.iload 7, 2) := by decide +kernel
theorem dX7_count_32 : decode cX7_count 32 = .ok (.baload, 1) := by decide +kernel
theorem dX7_count_33 : decode cX7_count 33 = .ok (.ifCond .eq 7, 3) := by decide +kernel
theorem dX7_count_36 : decode cX7_count 36 = .ok (.iconst 1, 1) := by decide +kernel
theorem dX7_count_37 : decode cX7_count 37 = .ok (.goto 4, 3) := by decide +kernel
theorem dX7_count_40 : decode cX7_count 40 = .ok (.iconst 0, 1) := by decide +kernel
theorem dX7_count_41 : decode cX7_count 41 = .ok (.iadd, 1) := by decide +kernel
theorem dX7_count_42 : decode cX7_count 42 = .ok (.istore_n 2, 1) := by decide +kernel
theorem dX7_count_43 : decode cX7_count 43 = .ok (.iload_n 3, 1) := by decide +kernel
theorem dX7_count_44 : decode cX7_count 44 = .ok (.aload_n 0, 1) := by decide +kernel
theorem dX7_count_45 : decode cX7_count 45 = .ok (.getfield 17, 3) := by decide +kernel
theorem dX7_count_48 : decode cX7_count 48 = .ok (.iload 7, 2) := by decide +kernel
theorem dX7_count_50 : decode cX7_count 50 = .ok (.baload, 1) := by decide +kernel
theorem dX7_count_51 : decode cX7_count 51 = .ok (.ifCond .eq 7, 3) := by decide +kernel
theorem dX7_count_54 : decode cX7_count 54 = .ok (.iconst 1, 1) := by decide +kernel
theorem dX7_count_55 : decode cX7_count 55 = .ok (.goto 4, 3) := by decide +kernel
theorem dX7_count_58 : decode cX7_count 58 = .ok (.iconst 0, 1) := by decide +kernel
theorem dX7_count_59 : decode cX7_count 59 = .ok (.iadd, 1) := by decide +kernel
theorem dX7_count_60 : decode cX7_count 60 = .ok (.istore_n 3, 1) := by decide +kernel
theorem dX7_count_61 : decode cX7_count 61 = .ok (.iload 4, 2) := by decide +kernel
theorem dX7_count_63 : decode cX7_count 63 = .ok (.aload_n 0, 1) := by decide +kernel
theorem dX7_count_64 : decode cX7_count 64 = .ok (.iload 7, 2) := by decide +kernel
theorem dX7_count_66 : decode cX7_count 66 = .ok (.invokevirtual 128, 3) := by decide +kernel
theorem dX7_count_69 : decode cX7_count 69 = .ok (.ifCond .eq 7, 3) := by decide +kernel
theorem dX7_count_72 : decode cX7_count 72 = .ok (.iconst 1, 1) := by decide +kernel
theorem dX7_count_73 : decode cX7_count 73 = .ok (.goto 4, 3) := by decide +kernel
theorem dX7_count_76 : decode cX7_count 76 = .ok (.iconst 0, 1) := by decide +kernel
theorem dX7_count_77 : decode cX7_count 77 = .ok (.iadd, 1) := by decide +kernel
theorem dX7_count_78 : decode cX7_count 78 = .ok (.istore 4, 2) := by decide +kernel
theorem dX7_count_80 : decode cX7_count 80 = .ok (.iinc 7 1, 3) := by decide +kernel
theorem dX7_count_83 : decode cX7_count 83 = .ok (.goto (-67), 3) := by decide +kernel
theorem dX7_count_86 : decode cX7_count 86 = .ok (.iconst 0, 1) := by decide +kernel
theorem dX7_count_87 : decode cX7_count 87 = .ok (.istore 7, 2) := by decide +kernel
theorem dX7_count_89 : decode cX7_count 89 = .ok (.iload 7, 2) := by decide +kernel
theorem dX7_count_91 : decode cX7_count 91 = .ok (.aload_n 0, 1) := by decide +kernel
theorem dX7_count_92 : decode cX7_count 92 = .ok (.getfield 121, 3) := by decide +kernel
theorem dX7_count_95 : decode cX7_count 95 = .ok (.if_icmp .ge 28, 3) := by decide +kernel
theorem dX7_count_98 : decode cX7_count 98 = .ok (.iload 5, 2) := by decide +kernel
theorem dX7_count_100 : decode cX7_count 100 = .ok (.aload_n 0, 1) := by decide +kernel
theorem dX7_count_101 : decode cX7_count 101 = .ok (.iload 7, 2) := by decide +kernel
theorem dX7_count_103 : decode cX7_count 103 = .ok (.invokevirtual 136, 3) := by decide +kernel
theorem dX7_count_106 : decode cX7_count 106 = .ok (.ifCond .le 7, 3) := by decide +kernel
theorem dX7_count_109 : decode cX7_count 109 = .ok (.iconst 1, 1) := by decide +kernel
theorem dX7_count_110 : decode cX7_count 110 = .ok (.goto 4, 3) := by decide +kernel
theorem dX7_count_113 : decode cX7_count 113 = .ok (.iconst 0, 1) := by decide +kernel
theorem dX7_count_114 : decode cX7_count 114 = .ok (.iadd, 1) := by decide +kernel
theorem dX7_count_115 : decode cX7_count 115 = .ok (.istore 5, 2) := by decide +kernel
theorem dX7_count_117 : decode cX7_count 117 = .ok (.iinc 7 1, 3) := by decide +kernel
theorem dX7_count_120 : decode cX7_count 120 = .ok (.goto (-31), 3) := by decide +kernel
theorem dX7_count_123 : decode cX7_count 123 = .ok (.iconst 0, 1) := by decide +kernel
theorem dX7_count_124 : decode cX7_count 124 = .ok (.istore 7, 2) := by decide +kernel
theorem dX7_count_126 : decode cX7_count 126 = .ok (.iload 7, 2) := by decide +kernel
theorem dX7_count_128 : decode cX7_count 128 = .ok (.aload_n 0, 1) := by decide +kernel
theorem dX7_count_129 : decode cX7_count 129 = .ok (.getfield 235, 3) := by decide +kernel
theorem dX7_count_132 : decode cX7_count 132 = .ok (.if_icmp .ge 28, 3) := by decide +kernel
theorem dX7_count_135 : decode cX7_count 135 = .ok (.iload 6, 2) := by decide +kernel
theorem dX7_count_137 : decode cX7_count 137 = .ok (.aload_n 0, 1) := by decide +kernel
theorem dX7_count_138 : decode cX7_count 138 = .ok (.iload 7, 2) := by decide +kernel
theorem dX7_count_140 : decode cX7_count 140 = .ok (.invokevirtual 249, 3) := by decide +kernel
theorem dX7_count_143 : decode cX7_count 143 = .ok (.ifCond .eq 7, 3) := by decide +kernel
theorem dX7_count_146 : decode cX7_count 146 = .ok (.iconst 1, 1) := by decide +kernel
theorem dX7_count_147 : decode cX7_count 147 = .ok (.goto 4, 3) := by decide +kernel
theorem dX7_count_150 : decode cX7_count 150 = .ok (.iconst 0, 1) := by decide +kernel
theorem dX7_count_151 : decode cX7_count 151 = .ok (.iadd, 1) := by decide +kernel
theorem dX7_count_152 : decode cX7_count 152 = .ok (.istore 6, 2) := by decide +kernel
theorem dX7_count_154 : decode cX7_count 154 = .ok (.iinc 7 1, 3) := by decide +kernel
theorem dX7_count_157 : decode cX7_count 157 = .ok (.goto (-31), 3) := by decide +kernel
theorem dX7_count_160 : decode cX7_count 160 = .ok (.iload_n 1, 1) := by decide +kernel
theorem dX7_count_161 : decode cX7_count 161 = .ok (.tableswitch 120 0 10 #[59, 64, 66, 68, 71, 76, 79, 84, 87, 92, 97], 59) := by decide +kernel
theorem dX7_count_220 : decode cX7_count 220 = .ok (.aload_n 0, 1) := by decide +kernel
theorem dX7_count_221 : decode cX7_count 221 = .ok (.getfield 98, 3) := by decide +kernel
theorem dX7_count_224 : decode cX7_count 224 = .ok (.ireturn, 1) := by decide +kernel
theorem dX7_count_225 : decode cX7_count 225 = .ok (.iload_n 2, 1) := by decide +kernel
theorem dX7_count_226 : decode cX7_count 226 = .ok (.ireturn, 1) := by decide +kernel
theorem dX7_count_227 : decode cX7_count 227 = .ok (.iload_n 3, 1) := by decide +kernel
theorem dX7_count_228 : decode cX7_count 228 = .ok (.ireturn, 1) := by decide +kernel
theorem dX7_count_229 : decode cX7_count 229 = .ok (.iload 4, 2) := by decide +kernel
theorem dX7_count_231 : decode cX7_count 231 = .ok (.ireturn, 1) := by decide +kernel
theorem dX7_count_232 : decode cX7_count 232 = .ok (.aload_n 0, 1) := by decide +kernel
theorem dX7_count_233 : decode cX7_count 233 = .ok (.getfield 121, 3) := by decide +kernel
theorem dX7_count_236 : decode cX7_count 236 = .ok (.ireturn, 1) := by decide +kernel
theorem dX7_count_237 : decode cX7_count 237 = .ok (.iload 5, 2) := by decide +kernel
theorem dX7_count_239 : decode cX7_count 239 = .ok (.ireturn, 1) := by decide +kernel
theorem dX7_count_240 : decode cX7_count 240 = .ok (.aload_n 0, 1) := by decide +kernel
theorem dX7_count_241 : decode cX7_count 241 = .ok (.getfield 235, 3) := by decide +kernel
theorem dX7_count_244 : decode cX7_count 244 = .ok (.ireturn, 1) := by decide +kernel
theorem dX7_count_245 : decode cX7_count 245 = .ok (.iload 6, 2) := by decide +kernel
theorem dX7_count_247 : decode cX7_count 247 = .ok (.ireturn, 1) := by decide +kernel
theorem dX7_count_248 : decode cX7_count 248 = .ok (.aload_n 0, 1) := by decide +kernel
theorem dX7_count_249 : decode cX7_count 249 = .ok (.getfield 106, 3) := by decide +kernel
theorem dX7_count_252 : decode cX7_count 252 = .ok (.ireturn, 1) := by decide +kernel
theorem dX7_count_253 : decode cX7_count 253 = .ok (.aload_n 0, 1) := by decide +kernel
theorem dX7_count_254 : decode cX7_count 254 = .ok (.getfield 149, 3) := by decide +kernel
theorem dX7_count_257 : decode cX7_count 257 = .ok (.ireturn, 1) := by decide +kernel
theorem dX7_count_258 : decode cX7_count 258 = .ok (.aload_n 0, 1) := by decide +kernel
theorem dX7_count_259 : decode cX7_count 259 = .ok (.getfield 83, 3) := by decide +kernel
theorem dX7_count_262 : decode cX7_count 262 = .ok (.iconst 0, 1) := by decide +kernel
theorem dX7_count_263 : decode cX7_count 263 = .ok (.iaload, 1) := by decide +kernel
theorem dX7_count_264 : decode cX7_count 264 = .ok (.bipush (-4), 2) := by decide +kernel
theorem dX7_count_266 : decode cX7_count 266 = .ok (.if_icmp .ne 8, 3) := by decide +kernel
theorem dX7_count_269 : decode cX7_count 269 = .ok (.bipush (-4), 2) := by decide +kernel
theorem dX7_count_271 : decode cX7_count 271 = .ok (.goto 9, 3) := by decide +kernel
theorem dX7_count_274 : decode cX7_count 274 = .ok (.aload_n 0, 1) := by decide +kernel
theorem dX7_count_275 : decode cX7_count 275 = .ok (.getfield 86, 3) := by decide +kernel
theorem dX7_count_278 : decode cX7_count 278 = .ok (.iconst 0, 1) := by decide +kernel
theorem dX7_count_279 : decode cX7_count 279 = .ok (.iaload, 1) := by decide +kernel
theorem dX7_count_280 : decode cX7_count 280 = .ok (.ireturn, 1) := by decide +kernel
theorem dX7_count_281 : decode cX7_count 281 = .ok (.iconst (-1), 1) := by decide +kernel
theorem dX7_count_282 : decode cX7_count 282 = .ok (.ireturn, 1) := by decide +kernel
theorem dJ6_bitCount_0f7a4_0 : decode cJ6_bitCount_0f7a4 0 = .ok (.iload_n 0, 1) := by decide +kernel
theorem dJ6_bitCount_0f7a4_1 : decode cJ6_bitCount_0f7a4 1 = .ok (.iload_n 0, 1) := by decide +kernel
theorem dJ6_bitCount_0f7a4_2 : decode cJ6_bitCount_0f7a4 2 = .ok (.iconst 1, 1) := by decide +kernel
theorem dJ6_bitCount_0f7a4_3 : decode cJ6_bitCount_0f7a4 3 = .ok (.iushr, 1) := by decide +kernel
theorem dJ6_bitCount_0f7a4_4 : decode cJ6_bitCount_0f7a4 4 = .ok (.ldc_w 265, 3) := by decide +kernel
theorem dJ6_bitCount_0f7a4_7 : decode cJ6_bitCount_0f7a4 7 = .ok (.iand, 1) := by decide +kernel
theorem dJ6_bitCount_0f7a4_8 : decode cJ6_bitCount_0f7a4 8 = .ok (.isub, 1) := by decide +kernel
theorem dJ6_bitCount_0f7a4_9 : decode cJ6_bitCount_0f7a4 9 = .ok (.istore_n 0, 1) := by decide +kernel
theorem dJ6_bitCount_0f7a4_10 : decode cJ6_bitCount_0f7a4 10 = .ok (.iload_n 0, 1) := by decide +kernel
theorem dJ6_bitCount_0f7a4_11 : decode cJ6_bitCount_0f7a4 11 = .ok (.ldc_w 266, 3) := by decide +kernel
theorem dJ6_bitCount_0f7a4_14 : decode cJ6_bitCount_0f7a4 14 = .ok (.iand, 1) := by decide +kernel
theorem dJ6_bitCount_0f7a4_15 : decode cJ6_bitCount_0f7a4 15 = .ok (.iload_n 0, 1) := by decide +kernel
theorem dJ6_bitCount_0f7a4_16 : decode cJ6_bitCount_0f7a4 16 = .ok (.iconst 2, 1) := by decide +kernel
theorem dJ6_bitCount_0f7a4_17 : decode cJ6_bitCount_0f7a4 17 = .ok (.iushr, 1) := by decide +kernel
theorem dJ6_bitCount_0f7a4_18 : decode cJ6_bitCount_0f7a4 18 = .ok (.ldc_w 266, 3) := by decide +kernel
theorem dJ6_bitCount_0f7a4_21 : decode cJ6_bitCount_0f7a4 21 = .ok (.iand, 1) := by decide +kernel
theorem dJ6_bitCount_0f7a4_22 : decode cJ6_bitCount_0f7a4 22 = .ok (.iadd, 1) := by decide +kernel
theorem dJ6_bitCount_0f7a4_23 : decode cJ6_bitCount_0f7a4 23 = .ok (.istore_n 0, 1) := by decide +kernel
theorem dJ6_bitCount_0f7a4_24 : decode cJ6_bitCount_0f7a4 24 = .ok (.iload_n 0, 1) := by decide +kernel
theorem dJ6_bitCount_0f7a4_25 : decode cJ6_bitCount_0f7a4 25 = .ok (.iload_n 0, 1) := by decide +kernel
theorem dJ6_bitCount_0f7a4_26 : decode cJ6_bitCount_0f7a4 26 = .ok (.iconst 4, 1) := by decide +kernel
theorem dJ6_bitCount_0f7a4_27 : decode cJ6_bitCount_0f7a4 27 = .ok (.iushr, 1) := by decide +kernel
theorem dJ6_bitCount_0f7a4_28 : decode cJ6_bitCount_0f7a4 28 = .ok (.iadd, 1) := by decide +kernel
theorem dJ6_bitCount_0f7a4_29 : decode cJ6_bitCount_0f7a4 29 = .ok (.ldc_w 267, 3) := by decide +kernel
theorem dJ6_bitCount_0f7a4_32 : decode cJ6_bitCount_0f7a4 32 = .ok (.iand, 1) := by decide +kernel
theorem dJ6_bitCount_0f7a4_33 : decode cJ6_bitCount_0f7a4 33 = .ok (.istore_n 0, 1) := by decide +kernel
theorem dJ6_bitCount_0f7a4_34 : decode cJ6_bitCount_0f7a4 34 = .ok (.iload_n 0, 1) := by decide +kernel
theorem dJ6_bitCount_0f7a4_35 : decode cJ6_bitCount_0f7a4 35 = .ok (.iload_n 0, 1) := by decide +kernel
theorem dJ6_bitCount_0f7a4_36 : decode cJ6_bitCount_0f7a4 36 = .ok (.bipush 8, 2) := by decide +kernel
theorem dJ6_bitCount_0f7a4_38 : decode cJ6_bitCount_0f7a4 38 = .ok (.iushr, 1) := by decide +kernel
theorem dJ6_bitCount_0f7a4_39 : decode cJ6_bitCount_0f7a4 39 = .ok (.iadd, 1) := by decide +kernel
theorem dJ6_bitCount_0f7a4_40 : decode cJ6_bitCount_0f7a4 40 = .ok (.istore_n 0, 1) := by decide +kernel
theorem dJ6_bitCount_0f7a4_41 : decode cJ6_bitCount_0f7a4 41 = .ok (.iload_n 0, 1) := by decide +kernel
theorem dJ6_bitCount_0f7a4_42 : decode cJ6_bitCount_0f7a4 42 = .ok (.iload_n 0, 1) := by decide +kernel
theorem dJ6_bitCount_0f7a4_43 : decode cJ6_bitCount_0f7a4 43 = .ok (.bipush 16, 2) := by decide +kernel
theorem dJ6_bitCount_0f7a4_45 : decode cJ6_bitCount_0f7a4 45 = .ok (.iushr, 1) := by decide +kernel
theorem dJ6_bitCount_0f7a4_46 : decode cJ6_bitCount_0f7a4 46 = .ok (.iadd, 1) := by decide +kernel
theorem dJ6_bitCount_0f7a4_47 : decode cJ6_bitCount_0f7a4 47 = .ok (.istore_n 0, 1) := by decide +kernel
theorem dJ6_bitCount_0f7a4_48 : decode cJ6_bitCount_0f7a4 48 = .ok (.iload_n 0, 1) := by decide +kernel
theorem dJ6_bitCount_0f7a4_49 : decode cJ6_bitCount_0f7a4 49 = .ok (.bipush 63, 2) := by decide +kernel
theorem dJ6_bitCount_0f7a4_51 : decode cJ6_bitCount_0f7a4 51 = .ok (.iand, 1) := by decide +kernel
theorem dJ6_bitCount_0f7a4_52 : decode cJ6_bitCount_0f7a4 52 = .ok (.ireturn, 1) := by decide +kernel
theorem dJ9_max_7cf53_0 : decode cJ9_max_7cf53 0 = .ok (.iload_n 0, 1) := by decide +kernel
theorem dJ9_max_7cf53_1 : decode cJ9_max_7cf53 1 = .ok (.iload_n 1, 1) := by decide +kernel
theorem dJ9_max_7cf53_2 : decode cJ9_max_7cf53 2 = .ok (.if_icmp .lt 7, 3) := by decide +kernel
theorem dJ9_max_7cf53_5 : decode cJ9_max_7cf53 5 = .ok (.iload_n 0, 1) := by decide +kernel
theorem dJ9_max_7cf53_6 : decode cJ9_max_7cf53 6 = .ok (.goto 4, 3) := by decide +kernel
theorem dJ9_max_7cf53_9 : decode cJ9_max_7cf53 9 = .ok (.iload_n 1, 1) := by decide +kernel
theorem dJ9_max_7cf53_10 : decode cJ9_max_7cf53 10 = .ok (.ireturn, 1) := by decide +kernel
theorem dJ9_max_f86c9_0 : decode cJ9_max_f86c9 0 = .ok (.lload_n 0, 1) := by decide +kernel
theorem dJ9_max_f86c9_1 : decode cJ9_max_f86c9 1 = .ok (.lload_n 2, 1) := by decide +kernel
theorem dJ9_max_f86c9_2 : decode cJ9_max_f86c9 2 = .ok (.lcmp, 1) := by decide +kernel
theorem dJ9_max_f86c9_3 : decode cJ9_max_f86c9 3 = .ok (.ifCond .lt 7, 3) := by decide +kernel
theorem dJ9_max_f86c9_6 : decode cJ9_max_f86c9 6 = .ok (.lload_n 0, 1) := by decide +kernel
theorem dJ9_max_f86c9_7 : decode cJ9_max_f86c9 7 = .ok (.goto 4, 3) := by decide +kernel
theorem dJ9_max_f86c9_10 : decode cJ9_max_f86c9 10 = .ok (.lload_n 2, 1) := by decide +kernel
theorem dJ9_max_f86c9_11 : decode cJ9_max_f86c9 11 = .ok (.lreturn, 1) := by decide +kernel
theorem dJ9_min_7cf53_0 : decode cJ9_min_7cf53 0 = .ok (.iload_n 0, 1) := by decide +kernel
theorem dJ9_min_7cf53_1 : decode cJ9_min_7cf53 1 = .ok (.iload_n 1, 1) := by decide +kernel
theorem dJ9_min_7cf53_2 : decode cJ9_min_7cf53 2 = .ok (.if_icmp .gt 7, 3) := by decide +kernel
theorem dJ9_min_7cf53_5 : decode cJ9_min_7cf53 5 = .ok (.iload_n 0, 1) := by decide +kernel
theorem dJ9_min_7cf53_6 : decode cJ9_min_7cf53 6 = .ok (.goto 4, 3) := by decide +kernel
theorem dJ9_min_7cf53_9 : decode cJ9_min_7cf53 9 = .ok (.iload_n 1, 1) := by decide +kernel
theorem dJ9_min_7cf53_10 : decode cJ9_min_7cf53 10 = .ok (.ireturn, 1) := by decide +kernel
theorem dJ0_length_8abf5_0 : decode cJ0_length_8abf5 0 = .ok (.aload_n 0, 1) := by decide +kernel
theorem dJ0_length_8abf5_1 : decode cJ0_length_8abf5 1 = .ok (.getfield 9, 3) := by decide +kernel
theorem dJ0_length_8abf5_4 : decode cJ0_length_8abf5 4 = .ok (.arraylength, 1) := by decide +kernel
theorem dJ0_length_8abf5_5 : decode cJ0_length_8abf5 5 = .ok (.aload_n 0, 1) := by decide +kernel
theorem dJ0_length_8abf5_6 : decode cJ0_length_8abf5 6 = .ok (.invokevirtual 335, 3) := by decide +kernel
theorem dJ0_length_8abf5_9 : decode cJ0_length_8abf5 9 = .ok (.ishr, 1) := by decide +kernel
theorem dJ0_length_8abf5_10 : decode cJ0_length_8abf5 10 = .ok (.ireturn, 1) := by decide +kernel
theorem dJ0_charAt_5068e_0 : decode cJ0_charAt_5068e 0 = .ok (.aload_n 0, 1) := by decide +kernel
theorem dJ0_charAt_5068e_1 : decode cJ0_charAt_5068e 1 = .ok (.invokevirtual 492, 3) := by decide +kernel
theorem dJ0_charAt_5068e_4 : decode cJ0_charAt_5068e 4 = .ok (.ifCond .eq 12, 3) := by decide +kernel
theorem dJ0_charAt_5068e_7 : decode cJ0_charAt_5068e 7 = .ok (.aload_n 0, 1) := by decide +kernel
theorem dJ0_charAt_5068e_8 : decode cJ0_charAt_5068e 8 = .ok (.getfield 9, 3) := by decide +kernel
theorem dJ0_charAt_5068e_11 : decode cJ0_charAt_5068e 11 = .ok (.iload_n 1, 1) := by decide +kernel
theorem dJ0_charAt_5068e_12 : decode cJ0_charAt_5068e 12 = .ok (.invokestatic 495, 3) := by decide +kernel
theorem dJ0_charAt_5068e_15 : decode cJ0_charAt_5068e 15 = .ok (.ireturn, 1) := by decide +kernel
theorem dJ0_charAt_5068e_16 : decode cJ0_charAt_5068e 16 = .ok (.aload_n 0, 1) := by decide +kernel
theorem dJ0_charAt_5068e_17 : decode cJ0_charAt_5068e 17 = .ok (.getfield 9, 3) := by decide +kernel
theorem dJ0_charAt_5068e_20 : decode cJ0_charAt_5068e 20 = .ok (.iload_n 1, 1) := by decide +kernel
theorem dJ0_charAt_5068e_21 : decode cJ0_charAt_5068e 21 = .ok (.invokestatic 498, 3) := by decide +kernel
theorem dJ0_charAt_5068e_24 : decode cJ0_charAt_5068e 24 = .ok (.ireturn, 1) := by decide +kernel
theorem dJ0_coder_7d493_0 : decode cJ0_coder_7d493 0 = .ok (.getstatic 38, 3) := by decide +kernel
theorem dJ0_coder_7d493_3 : decode cJ0_coder_7d493 3 = .ok (.ifCond .eq 10, 3) := by decide +kernel
theorem dJ0_coder_7d493_6 : decode cJ0_coder_7d493 6 = .ok (.aload_n 0, 1) := by decide +kernel
theorem dJ0_coder_7d493_7 : decode cJ0_coder_7d493 7 = .ok (.getfield 15, 3) := by decide +kernel
theorem dJ0_coder_7d493_10 : decode cJ0_coder_7d493 10 = .ok (.goto 4, 3) := by decide +kernel
theorem dJ0_coder_7d493_13 : decode cJ0_coder_7d493 13 = .ok (.iconst 1, 1) := by decide +kernel
theorem dJ0_coder_7d493_14 : decode cJ0_coder_7d493 14 = .ok (.ireturn, 1) := by decide +kernel
theorem dJ0_isLatin1_aae02_0 : decode cJ0_isLatin1_aae02 0 = .ok (.getstatic 38, 3) := by decide +kernel
theorem dJ0_isLatin1_aae02_3 : decode cJ0_isLatin1_aae02 3 = .ok (.ifCond .eq 14, 3) := by decide +kernel
theorem dJ0_isLatin1_aae02_6 : decode cJ0_isLatin1_aae02 6 = .ok (.aload_n 0, 1) := by decide +kernel
theorem dJ0_isLatin1_aae02_7 : decode cJ0_isLatin1_aae02 7 = .ok (.getfield 15, 3) := by decide +kernel
theorem dJ0_isLatin1_aae02_10 : decode cJ0_isLatin1_aae02 10 = .ok (.ifCond .ne 7, 3) := by decide +kernel
theorem dJ0_isLatin1_aae02_13 : decode cJ0_isLatin1_aae02 13 = .ok (.iconst 1, 1) := by decide +kernel
theorem dJ0_isLatin1_aae02_14 : decode cJ0_isLatin1_aae02 14 = .ok (.goto 4, 3) := by decide +kernel
theorem dJ0_isLatin1_aae02_17 : decode cJ0_isLatin1_aae02 17 = .ok (.iconst 0, 1) := by decide +kernel
theorem dJ0_isLatin1_aae02_18 : decode cJ0_isLatin1_aae02 18 = .ok (.ireturn, 1) := by decide +kernel
theorem dJ0_checkIndex_df160_0 : decode cJ0_checkIndex_df160 0 = .ok (.iload_n 0, 1) := by decide +kernel
theorem dJ0_checkIndex_df160_1 : decode cJ0_checkIndex_df160 1 = .ok (.iload_n 1, 1) := by decide +kernel
theorem dJ0_checkIndex_df160_2 : decode cJ0_checkIndex_df160 2 = .ok (.getstatic 1053, 3) := by decide +kernel
theorem dJ0_checkIndex_df160_5 : decode cJ0_checkIndex_df160 5 = .ok (.invokestatic 1059, 3) := by decide +kernel
theorem dJ0_checkIndex_df160_8 : decode cJ0_checkIndex_df160 8 = .ok (.pop, 1) := by decide +kernel
theorem dJ0_checkIndex_df160_9 : decode cJ0_checkIndex_df160 9 = .ok (.return_, 1) := by decide +kernel
theorem dJ1_charAt_3b067_0 : decode cJ1_charAt_3b067 0 = .ok (.iload_n 1, 1) := by decide +kernel
theorem dJ1_charAt_3b067_1 : decode cJ1_charAt_3b067 1 = .ok (.aload_n 0, 1) := by decide +kernel
theorem dJ1_charAt_3b067_2 : decode cJ1_charAt_3b067 2 = .ok (.arraylength, 1) := by decide +kernel
theorem dJ1_charAt_3b067_3 : decode cJ1_charAt_3b067 3 = .ok (.invokestatic 9, 3) := by decide +kernel
theorem dJ1_charAt_3b067_6 : decode cJ1_charAt_3b067 6 = .ok (.aload_n 0, 1) := by decide +kernel
theorem dJ1_charAt_3b067_7 : decode cJ1_charAt_3b067 7 = .ok (.iload_n 1, 1) := by decide +kernel
theorem dJ1_charAt_3b067_8 : decode cJ1_charAt_3b067 8 = .ok (.baload, 1) := by decide +kernel
theorem dJ1_charAt_3b067_9 : decode cJ1_charAt_3b067 9 = .ok (.sipush 255, 3) := by decide +kernel
theorem dJ1_charAt_3b067_12 : decode cJ1_charAt_3b067 12 = .ok (.iand, 1) := by decide +kernel
theorem dJ1_charAt_3b067_13 : decode cJ1_charAt_3b067 13 = .ok (.i2c, 1) := by decide +kernel
theorem dJ1_charAt_3b067_14 : decode cJ1_charAt_3b067 14 = .ok (.ireturn, 1) := by decide +kernel
theorem dJ2_getChar_3b067_0 : decode cJ2_getChar_3b067 0 = .ok (.getstatic 44, 3) := by decide +kernel
theorem dJ2_getChar_3b067_3 : decode cJ2_getChar_3b067 3 = .ok (.ifCond .ne 25, 3) := by decide +kernel
theorem dJ2_getChar_3b067_6 : decode cJ2_getChar_3b067 6 = .ok (.iload_n 1, 1) := by decide +kernel
theorem dJ2_getChar_3b067_7 : decode cJ2_getChar_3b067 7 = .ok (.ifCond .lt 11, 3) := by decide +kernel
theorem dJ2_getChar_3b067_10 : decode cJ2_getChar_3b067 10 = .ok (.iload_n 1, 1) := by decide +kernel
theorem dJ2_getChar_3b067_11 : decode cJ2_getChar_3b067 11 = .ok (.aload_n 0, 1) := by decide +kernel
theorem dJ2_getChar_3b067_12 : decode cJ2_getChar_3b067 12 = .ok (.invokestatic 48, 3) := by decide +kernel
theorem dJ2_getChar_3b067_15 : decode cJ2_getChar_3b067 15 = .ok (.if_icmp .lt 13, 3) := by decide +kernel
theorem dJ2_getChar_3b067_18 : decode cJ2_getChar_3b067 18 = .ok (.new 52, 3) := by decide +kernel
theorem dJ2_getChar_3b067_21 : decode cJ2_getChar_3b067 21 = .ok (.dup, 1) := by decide +kernel
theorem dJ2_getChar_3b067_22 : decode cJ2_getChar_3b067 22 = .ok (.ldc 54, 2) := by decide +kernel
theorem dJ2_getChar_3b067_24 : decode cJ2_getChar_3b067 24 = .ok (.invokespecial 56, 3) := by decide +kernel
theorem dJ2_getChar_3b067_27 : decode cJ2_getChar_3b067 27 = .ok (.athrow, 1) := by decide +kernel
theorem dJ2_getChar_3b067_28 : decode cJ2_getChar_3b067 28 = .ok (.iload_n 1, 1) := by decide +kernel
theorem dJ2_getChar_3b067_29 : decode cJ2_getChar_3b067 29 = .ok (.iconst 1, 1) := by decide +kernel
theorem dJ2_getChar_3b067_30 : decode cJ2_getChar_3b067 30 = .ok (.ishl, 1) := by decide +kernel
theorem dJ2_getChar_3b067_31 : decode cJ2_getChar_3b067 31 = .ok (.istore_n 1, 1) := by decide +kernel
theorem dJ2_getChar_3b067_32 : decode cJ2_getChar_3b067 32 = .ok (.aload_n 0, 1) := by decide +kernel
theorem dJ2_getChar_3b067_33 : decode cJ2_getChar_3b067 33 = .ok (.iload_n 1, 1) := by decide +kernel
theorem dJ2_getChar_3b067_34 : decode cJ2_getChar_3b067 34 = .ok (.iinc 1 1, 3) := by decide +kernel
theorem dJ2_getChar_3b067_37 : decode cJ2_getChar_3b067 37 = .ok (.baload, 1) := by decide +kernel
theorem dJ2_getChar_3b067_38 : decode cJ2_getChar_3b067 38 = .ok (.sipush 255, 3) := by decide +kernel
theorem dJ2_getChar_3b067_41 : decode cJ2_getChar_3b067 41 = .ok (.iand, 1) := by decide +kernel
theorem dJ2_getChar_3b067_42 : decode cJ2_getChar_3b067 42 = .ok (.getstatic 59, 3) := by decide +kernel
theorem dJ2_getChar_3b067_45 : decode cJ2_getChar_3b067 45 = .ok (.ishl, 1) := by decide +kernel
theorem dJ2_getChar_3b067_46 : decode cJ2_getChar_3b067 46 = .ok (.aload_n 0, 1) := by decide +kernel
theorem dJ2_getChar_3b067_47 : decode cJ2_getChar_3b067 47 = .ok (.iload_n 1, 1) := by decide +kernel
theorem dJ2_getChar_3b067_48 : decode cJ2_getChar_3b067 48 = .ok (.baload, 1) := by decide +kernel
theorem dJ2_getChar_3b067_49 : decode cJ2_getChar_3b067 49 = .ok (.sipush 255, 3) := by decide +kernel
theorem dJ2_getChar_3b067_52 : decode cJ2_getChar_3b067 52 = .ok (.iand, 1) := by decide +kernel
theorem dJ2_getChar_3b067_53 : decode cJ2_getChar_3b067 53 = .ok (.getstatic 63, 3) := by decide +kernel
theorem dJ2_getChar_3b067_56 : decode cJ2_getChar_3b067 56 = .ok (.ishl, 1) := by decide +kernel
theorem dJ2_getChar_3b067_57 : decode cJ2_getChar_3b067 57 = .ok (.ior, 1) := by decide +kernel
theorem dJ2_getChar_3b067_58 : decode cJ2_getChar_3b067 58 = .ok (.i2c, 1) := by decide +kernel
theorem dJ2_getChar_3b067_59 : decode cJ2_getChar_3b067 59 = .ok (.ireturn, 1) := by decide +kernel
theorem dJ2_length_9d52b_0 : decode cJ2_length_9d52b 0 = .ok (.aload_n 0, 1) := by decide +kernel
theorem dJ2_length_9d52b_1 : decode cJ2_length_9d52b 1 = .ok (.arraylength, 1) := by decide +kernel
theorem dJ2_length_9d52b_2 : decode cJ2_length_9d52b 2 = .ok (.iconst 1, 1) := by decide +kernel
theorem dJ2_length_9d52b_3 : decode cJ2_length_9d52b 3 = .ok (.ishr, 1) := by decide +kernel
theorem dJ2_length_9d52b_4 : decode cJ2_length_9d52b 4 = .ok (.ireturn, 1) := by decide +kernel
theorem dJ2_charAt_3b067_0 : decode cJ2_charAt_3b067 0 = .ok (.iload_n 1, 1) := by decide +kernel
theorem dJ2_charAt_3b067_1 : decode cJ2_charAt_3b067 1 = .ok (.aload_n 0, 1) := by decide +kernel
theorem dJ2_charAt_3b067_2 : decode cJ2_charAt_3b067 2 = .ok (.invokestatic 67, 3) := by decide +kernel
theorem dJ2_charAt_3b067_5 : decode cJ2_charAt_3b067 5 = .ok (.aload_n 0, 1) := by decide +kernel
theorem dJ2_charAt_3b067_6 : decode cJ2_charAt_3b067 6 = .ok (.iload_n 1, 1) := by decide +kernel
theorem dJ2_charAt_3b067_7 : decode cJ2_charAt_3b067 7 = .ok (.invokestatic 71, 3) := by decide +kernel
theorem dJ2_charAt_3b067_10 : decode cJ2_charAt_3b067 10 = .ok (.ireturn, 1) := by decide +kernel
theorem dJ2_checkIndex_2214a_0 : decode cJ2_checkIndex_2214a 0 = .ok (.iload_n 0, 1) := by decide +kernel
theorem dJ2_checkIndex_2214a_1 : decode cJ2_checkIndex_2214a 1 = .ok (.aload_n 1, 1) := by decide +kernel
theorem dJ2_checkIndex_2214a_2 : decode cJ2_checkIndex_2214a 2 = .ok (.invokestatic 48, 3) := by decide +kernel
theorem dJ2_checkIndex_2214a_5 : decode cJ2_checkIndex_2214a 5 = .ok (.invokestatic 414, 3) := by decide +kernel
theorem dJ2_checkIndex_2214a_8 : decode cJ2_checkIndex_2214a 8 = .ok (.return_, 1) := by decide +kernel
theorem dJ7_fill_53178_0 : decode cJ7_fill_53178 0 = .ok (.iconst 0, 1) := by decide +kernel
theorem dJ7_fill_53178_1 : decode cJ7_fill_53178 1 = .ok (.istore_n 2, 1) := by decide +kernel
theorem dJ7_fill_53178_2 : decode cJ7_fill_53178 2 = .ok (.aload_n 0, 1) := by decide +kernel
theorem dJ7_fill_53178_3 : decode cJ7_fill_53178 3 = .ok (.arraylength, 1) := by decide +kernel
theorem dJ7_fill_53178_4 : decode cJ7_fill_53178 4 = .ok (.istore_n 3, 1) := by decide +kernel
theorem dJ7_fill_53178_5 : decode cJ7_fill_53178 5 = .ok (.iload_n 2, 1) := by decide +kernel
theorem dJ7_fill_53178_6 : decode cJ7_fill_53178 6 = .ok (.iload_n 3, 1) := by decide +kernel
theorem dJ7_fill_53178_7 : decode cJ7_fill_53178 7 = .ok (.if_icmp .ge 13, 3) := by decide +kernel
theorem dJ7_fill_53178_10 : decode cJ7_fill_53178 10 = .ok (.aload_n 0, 1) := by decide +kernel
theorem dJ7_fill_53178_11 : decode cJ7_fill_53178 11 = .ok (.iload_n 2, 1) := by decide +kernel
theorem dJ7_fill_53178_12 : decode cJ7_fill_53178 12 = .ok (.iload_n 1, 1) := by decide +kernel
theorem dJ7_fill_53178_13 : decode cJ7_fill_53178 13 = .ok (.iastore, 1) := by decide +kernel
theorem dJ7_fill_53178_14 : decode cJ7_fill_53178 14 = .ok (.iinc 2 1, 3) := by decide +kernel
theorem dJ7_fill_53178_17 : decode cJ7_fill_53178 17 = .ok (.goto (-12), 3) := by decide +kernel
theorem dJ7_fill_53178_20 : decode cJ7_fill_53178 20 = .ok (.return_, 1) := by decide +kernel
theorem dJ3_checkIndex_8e157_0 : decode cJ3_checkIndex_8e157 0 = .ok (.iload_n 0, 1) := by decide +kernel
theorem dJ3_checkIndex_8e157_1 : decode cJ3_checkIndex_8e157 1 = .ok (.ifCond .lt 8, 3) := by decide +kernel
theorem dJ3_checkIndex_8e157_4 : decode cJ3_checkIndex_8e157 4 = .ok (.iload_n 0, 1) := by decide +kernel
theorem dJ3_checkIndex_8e157_5 : decode cJ3_checkIndex_8e157 5 = .ok (.iload_n 1, 1) := by decide +kernel
theorem dJ3_checkIndex_8e157_6 : decode cJ3_checkIndex_8e157 6 = .ok (.if_icmp .lt 10, 3) := by decide +kernel
theorem dJ3_checkIndex_8e157_9 : decode cJ3_checkIndex_8e157 9 = .ok (.aload_n 2, 1) := by decide +kernel
theorem dJ3_checkIndex_8e157_10 : decode cJ3_checkIndex_8e157 10 = .ok (.iload_n 0, 1) := by decide +kernel
theorem dJ3_checkIndex_8e157_11 : decode cJ3_checkIndex_8e157 11 = .ok (.iload_n 1, 1) := by decide +kernel
theorem dJ3_checkIndex_8e157_12 : decode cJ3_checkIndex_8e157 12 = .ok (.invokestatic 95, 3) := by decide +kernel
theorem dJ3_checkIndex_8e157_15 : decode cJ3_checkIndex_8e157 15 = .ok (.athrow, 1) := by decide +kernel
theorem dJ3_checkIndex_8e157_16 : decode cJ3_checkIndex_8e157 16 = .ok (.iload_n 0, 1) := by decide +kernel
theorem dJ3_checkIndex_8e157_17 : decode cJ3_checkIndex_8e157 17 = .ok (.ireturn, 1) := by decide +kernel
