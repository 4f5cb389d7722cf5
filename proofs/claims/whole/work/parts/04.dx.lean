theorem dX11_init_0 : decode cX11_init 0 = .ok (.aload_n 0, 1) := by decide +kernel
theorem dX11_init_1 : decode cX11_init 1 = .ok (.invokespecial 1, 3) := by decide +kernel
theorem dX11_init_4 : decode cX11_init 4 = .ok (.aload_n 0, 1) := by decide +kernel
theorem dX11_init_5 : decode cX11_init 5 = .ok (.new 7, 3) := by decide +kernel
theorem dX11_init_8 : decode cX11_init 8 = .ok (.dup, 1) := by decide +kernel
theorem dX11_init_9 : decode cX11_init 9 = .ok (.invokespecial 9, 3) := by decide +kernel
theorem dX11_init_12 : decode cX11_init 12 = .ok (.putfield 10, 3) := by decide +kernel
theorem dX11_init_15 : decode cX11_init 15 = .ok (.aload_n 0, 1) := by decide +kernel
theorem dX11_init_16 : decode cX11_init 16 = .ok (.aconst_null, 1) := by decide +kernel
theorem dX11_init_17 : decode cX11_init 17 = .ok (.putfield 16, 3) := by decide +kernel
theorem dX11_init_20 : decode cX11_init 20 = .ok (.aload_n 0, 1) := by decide +kernel
theorem dX11_init_21 : decode cX11_init 21 = .ok (.iconst 0, 1) := by decide +kernel
theorem dX11_init_22 : decode cX11_init 22 = .ok (.putfield 19, 3) := by decide +kernel
theorem dX11_init_25 : decode cX11_init 25 = .ok (.aload_n 0, 1) := by decide +kernel
theorem dX11_init_26 : decode cX11_init 26 = .ok (.bipush 6, 2) := by decide +kernel
theorem dX11_init_28 : decode cX11_init 28 = .ok (.newarray .int, 2) := by decide +kernel
theorem dX11_init_30 : decode cX11_init 30 = .ok (.putfield 23, 3) := by decide +kernel
theorem dX11_init_33 : decode cX11_init 33 = .ok (.aload_n 0, 1) := by decide +kernel
theorem dX11_init_34 : decode cX11_init 34 = .ok (.bipush 7, 2) := by decide +kernel
theorem dX11_init_36 : decode cX11_init 36 = .ok (.anewarray 27, 3) := by decide +kernel
theorem dX11_init_39 : decode cX11_init 39 = .ok (.dup, 1) := by decide +kernel
theorem dX11_init_40 : decode cX11_init 40 = .ok (.iconst 0, 1) := by decide +kernel
theorem dX11_init_41 : decode cX11_init 41 = .ok (.new 27, 3) := by decide +kernel
theorem dX11_init_44 : decode cX11_init 44 = .ok (.dup, 1) := by decide +kernel
theorem dX11_init_45 : decode cX11_init 45 = .ok (.invokespecial 29, 3) := by decide +kernel
theorem dX11_init_48 : decode cX11_init 48 = .ok (.aastore, 1) := by decide +kernel
theorem dX11_init_49 : decode cX11_init 49 = .ok (.dup, 1) := by decide +kernel
theorem dX11_init_50 : decode cX11_init 50 = .ok (.iconst 1, 1) := by decide +kernel
theorem dX11_init_51 : decode cX11_init 51 = .ok (.new 30, 3) := by decide +kernel
theorem dX11_init_54 : decode cX11_init 54 = .ok (.dup, 1) := by decide +kernel
theorem dX11_init_55 : decode cX11_init 55 = .ok (.invokespecial 32, 3) := by decide +kernel
theorem dX11_init_58 : decode cX11_init 58 = .ok (.aastore, 1) := by decide +kernel
theorem dX11_init_59 : decode cX11_init 59 = .ok (.dup, 1) := by decide +kernel
theorem dX11_init_60 : decode cX11_init 60 = .ok (.iconst 2, 1) := by decide +kernel
theorem dX11_init_61 : decode cX11_init 61 = .ok (.new 33, 3) := by decide +kernel
theorem dX11_init_64 : decode cX11_init 64 = .ok (.dup, 1) := by decide +kernel
theorem dX11_init_65 : decode cX11_init 65 = .ok (.invokespecial 35, 3) := by decide +kernel
theorem dX11_init_68 : decode cX11_init 68 = .ok (.aastore, 1) := by decide +kernel
theorem dX11_init_69 : decode cX11_init 69 = .ok (.dup, 1) := by decide +kernel
theorem dX11_init_70 : decode cX11_init 70 = .ok (.iconst 3, 1) := by decide +kernel
theorem dX11_init_71 : decode cX11_init 71 = .ok (.new 36, 3) := by decide +kernel
theorem dX11_init_74 : decode cX11_init 74 = .ok (.dup, 1) := by decide +kernel
theorem dX11_init_75 : decode cX11_init 75 = .ok (.invokespecial 38, 3) := by decide +kernel
theorem dX11_init_78 : decode cX11_init 78 = .ok (.aastore, 1) := by decide +kernel
theorem dX11_init_79 : decode cX11_init 79 = .ok (.dup, 1) := by decide +kernel
theorem dX11_init_80 : decode cX11_init 80 = .ok (.iconst 4, 1) := by decide +kernel
theorem dX11_init_81 : decode cX11_init 81 = .ok (.new 39, 3) := by decide +kernel
theorem dX11_init_84 : decode cX11_init 84 = .ok (.dup, 1) := by decide +kernel
theorem dX11_init_85 : decode cX11_init 85 = .ok (.invokespecial 41, 3) := by decide +kernel
theorem dX11_init_88 : decode cX11_init 88 = .ok (.aastore, 1) := by decide +kernel
theorem dX11_init_89 : decode cX11_init 89 = .ok (.dup, 1) := by decide +kernel
theorem dX11_init_90 : decode cX11_init 90 = .ok (.iconst 5, 1) := by decide +kernel
theorem dX11_init_91 : decode cX11_init 91 = .ok (.new 42, 3) := by decide +kernel
theorem dX11_init_94 : decode cX11_init 94 = .ok (.dup, 1) := by decide +kernel
theorem dX11_init_95 : decode cX11_init 95 = .ok (.invokespecial 44, 3) := by decide +kernel
theorem dX11_init_98 : decode cX11_init 98 = .ok (.aastore, 1) := by decide +kernel
theorem dX11_init_99 : decode cX11_init 99 = .ok (.dup, 1) := by decide +kernel
theorem dX11_init_100 : decode cX11_init 100 = .ok (.bipush 6, 2) := by decide +kernel
theorem dX11_init_102 : decode cX11_init 102 = .ok (.new 45, 3) := by decide +kernel
theorem dX11_init_105 : decode cX11_init 105 = .ok (.dup, 1) := by decide +kernel
theorem dX11_init_106 : decode cX11_init 106 = .ok (.invokespecial 47, 3) := by decide +kernel
theorem dX11_init_109 : decode cX11_init 109 = .ok (.aastore, 1) := by decide +kernel
theorem dX11_init_110 : decode cX11_init 110 = .ok (.putfield 48, 3) := by decide +kernel
theorem dX11_init_113 : decode cX11_init 113 = .ok (.aload_n 0, 1) := by decide +kernel
theorem dX11_init_114 : decode cX11_init 114 = .ok (.new 52, 3) := by decide +kernel
theorem dX11_init_117 : decode cX11_init 117 = .ok (.dup, 1) := by decide +kernel
theorem dX11_init_118 : decode cX11_init 118 = .ok (.invokespecial 54, 3) := by decide +kernel
theorem dX11_init_121 : decode cX11_init 121 = .ok (.putfield 55, 3) := by decide +kernel
theorem dX11_init_124 : decode cX11_init 124 = .ok (.aload_n 0, 1) := by decide +kernel
theorem dX11_init_125 : decode cX11_init 125 = .ok (.bipush 50, 2) := by decide +kernel
theorem dX11_init_127 : decode cX11_init 127 = .ok (.newarray .int, 2) := by decide +kernel
theorem dX11_init_129 : decode cX11_init 129 = .ok (.putfield 59, 3) := by decide +kernel
theorem dX11_init_132 : decode cX11_init 132 = .ok (.aload_n 0, 1) := by decide +kernel
theorem dX11_init_133 : decode cX11_init 133 = .ok (.new 62, 3) := by decide +kernel
theorem dX11_init_136 : decode cX11_init 136 = .ok (.dup, 1) := by decide +kernel
theorem dX11_init_137 : decode cX11_init 137 = .ok (.invokespecial 64, 3) := by decide +kernel
theorem dX11_init_140 : decode cX11_init 140 = .ok (.putfield 65, 3) := by decide +kernel
theorem dX11_init_143 : decode cX11_init 143 = .ok (.aload_n 0, 1) := by decide +kernel
theorem dX11_init_144 : decode cX11_init 144 = .ok (.iconst 4, 1) := by decide +kernel
theorem dX11_init_145 : decode cX11_init 145 = .ok (.bipush 40, 2) := by decide +kernel
theorem dX11_init_147 : decode cX11_init 147 = .ok (.multianewarray 69 2, 4) := by decide +kernel
theorem dX11_init_151 : decode cX11_init 151 = .ok (.putfield 71, 3) := by decide +kernel
theorem dX11_init_154 : decode cX11_init 154 = .ok (.aload_n 0, 1) := by decide +kernel
theorem dX11_init_155 : decode cX11_init 155 = .ok (.iconst 4, 1) := by decide +kernel
theorem dX11_init_156 : decode cX11_init 156 = .ok (.newarray .int, 2) := by decide +kernel
theorem dX11_init_158 : decode cX11_init 158 = .ok (.putfield 74, 3) := by decide +kernel
theorem dX11_init_161 : decode cX11_init 161 = .ok (.aload_n 0, 1) := by decide +kernel
theorem dX11_init_162 : decode cX11_init 162 = .ok (.iconst 4, 1) := by decide +kernel
theorem dX11_init_163 : decode cX11_init 163 = .ok (.newarray .int, 2) := by decide +kernel
theorem dX11_init_165 : decode cX11_init 165 = .ok (.putfield 77, 3) := by decide +kernel
theorem dX11_init_168 : decode cX11_init 168 = .ok (.return_, 1) := by decide +kernel
theorem dX11_rule_0 : decode cX11_rule 0 = .ok (.iload_n 1, 1) := by decide +kernel
theorem dX11_rule_1 : decode cX11_rule 1 = .ok (.ifCond .lt 26, 3) := by decide +kernel
theorem dX11_rule_4 : decode cX11_rule 4 = .ok (.iload_n 1, 1) := by decide +kernel
theorem dX11_rule_5 : decode cX11_rule 5 = .ok (.iconst 4, 1) := by decide +kernel
theorem dX11_rule_6 : decode cX11_rule 6 = .ok (.if_icmp .gt 21, 3) := by decide +kernel
theorem dX11_rule_9 : decode cX11_rule 9 = .ok (.iload_n 2, 1) := by decide +kernel
theorem dX11_rule_10 : decode cX11_rule 10 = .ok (.getstatic 80, 3) := by decide +kernel
theorem dX11_rule_13 : decode cX11_rule 13 = .ok (.iload_n 1, 1) := by decide +kernel
theorem dX11_rule_14 : decode cX11_rule 14 = .ok (.iaload, 1) := by decide +kernel
theorem dX11_rule_15 : decode cX11_rule 15 = .ok (.if_icmp .lt 12, 3) := by decide +kernel
theorem dX11_rule_18 : decode cX11_rule 18 = .ok (.iload_n 2, 1) := by decide +kernel
theorem dX11_rule_19 : decode cX11_rule 19 = .ok (.getstatic 83, 3) := by decide +kernel
theorem dX11_rule_22 : decode cX11_rule 22 = .ok (.iload_n 1, 1) := by decide +kernel
theorem dX11_rule_23 : decode cX11_rule 23 = .ok (.iaload, 1) := by decide +kernel
theorem dX11_rule_24 : decode cX11_rule 24 = .ok (.if_icmp .le 9, 3) := by decide +kernel
theorem dX11_rule_27 : decode cX11_rule 27 = .ok (.aload_n 0, 1) := by decide +kernel
theorem dX11_rule_28 : decode cX11_rule 28 = .ok (.iconst 1, 1) := by decide +kernel
theorem dX11_rule_29 : decode cX11_rule 29 = .ok (.invokevirtual 86, 3) := by decide +kernel
theorem dX11_rule_32 : decode cX11_rule 32 = .ok (.ireturn, 1) := by decide +kernel
theorem dX11_rule_33 : decode cX11_rule 33 = .ok (.aload_n 0, 1) := by decide +kernel
theorem dX11_rule_34 : decode cX11_rule 34 = .ok (.getfield 10, 3) := by decide +kernel
theorem dX11_rule_37 : decode cX11_rule 37 = .ok (.getfield 90, 3) := by decide +kernel
theorem dX11_rule_40 : decode cX11_rule 40 = .ok (.iload_n 1, 1) := by decide +kernel
theorem dX11_rule_41 : decode cX11_rule 41 = .ok (.iaload, 1) := by decide +kernel
theorem dX11_rule_42 : decode cX11_rule 42 = .ok (.istore_n 3, 1) := by decide +kernel
theorem dX11_rule_43 : decode cX11_rule 43 = .ok (.aload_n 0, 1) := by decide +kernel
theorem dX11_rule_44 : decode cX11_rule 44 = .ok (.getfield 10, 3) := by decide +kernel
theorem dX11_rule_47 : decode cX11_rule 47 = .ok (.getfield 90, 3) := by decide +kernel
theorem dX11_rule_50 : decode cX11_rule 50 = .ok (.iload_n 1, 1) := by decide +kernel
theorem dX11_rule_51 : decode cX11_rule 51 = .ok (.iload_n 2, 1) := by decide +kernel
theorem dX11_rule_52 : decode cX11_rule 52 = .ok (.iastore, 1) := by decide +kernel
theorem dX11_rule_53 : decode cX11_rule 53 = .ok (.iload_n 3, 1) := by decide +kernel
theorem dX11_rule_54 : decode cX11_rule 54 = .ok (.ireturn, 1) := by decide +kernel
theorem dX11_way_0 : decode cX11_way 0 = .ok (.iload_n 1, 1) := by decide +kernel
theorem dX11_way_1 : decode cX11_way 1 = .ok (.bipush 69, 2) := by decide +kernel
theorem dX11_way_3 : decode cX11_way 3 = .ok (.invokestatic 93, 3) := by decide +kernel
theorem dX11_way_6 : decode cX11_way 6 = .ok (.ifCond .eq 19, 3) := by decide +kernel
theorem dX11_way_9 : decode cX11_way 9 = .ok (.iload_n 2, 1) := by decide +kernel
theorem dX11_way_10 : decode cX11_way 10 = .ok (.bipush 99, 2) := by decide +kernel
theorem dX11_way_12 : decode cX11_way 12 = .ok (.invokestatic 93, 3) := by decide +kernel
theorem dX11_way_15 : decode cX11_way 15 = .ok (.ifCond .eq 10, 3) := by decide +kernel
theorem dX11_way_18 : decode cX11_way 18 = .ok (.iload_n 3, 1) := by decide +kernel
theorem dX11_way_19 : decode cX11_way 19 = .ok (.invokestatic 97, 3) := by decide +kernel
theorem dX11_way_22 : decode cX11_way 22 = .ok (.ifCond .ne 9, 3) := by decide +kernel
theorem dX11_way_25 : decode cX11_way 25 = .ok (.aload_n 0, 1) := by decide +kernel
theorem dX11_way_26 : decode cX11_way 26 = .ok (.iconst 1, 1) := by decide +kernel
theorem dX11_way_27 : decode cX11_way 27 = .ok (.invokevirtual 86, 3) := by decide +kernel
theorem dX11_way_30 : decode cX11_way 30 = .ok (.ireturn, 1) := by decide +kernel
theorem dX11_way_31 : decode cX11_way 31 = .ok (.aload_n 0, 1) := by decide +kernel
theorem dX11_way_32 : decode cX11_way 32 = .ok (.getfield 10, 3) := by decide +kernel
theorem dX11_way_35 : decode cX11_way 35 = .ok (.getfield 101, 3) := by decide +kernel
theorem dX11_way_38 : decode cX11_way 38 = .ok (.bipush 6, 2) := by decide +kernel
theorem dX11_way_40 : decode cX11_way 40 = .ok (.if_icmp .lt 9, 3) := by decide +kernel
theorem dX11_way_43 : decode cX11_way 43 = .ok (.aload_n 0, 1) := by decide +kernel
theorem dX11_way_44 : decode cX11_way 44 = .ok (.iconst 4, 1) := by decide +kernel
theorem dX11_way_45 : decode cX11_way 45 = .ok (.invokevirtual 86, 3) := by decide +kernel
theorem dX11_way_48 : decode cX11_way 48 = .ok (.ireturn, 1) := by decide +kernel
theorem dX11_way_49 : decode cX11_way 49 = .ok (.aload_n 0, 1) := by decide +kernel
theorem dX11_way_50 : decode cX11_way 50 = .ok (.getfield 10, 3) := by decide +kernel
theorem dX11_way_53 : decode cX11_way 53 = .ok (.getfield 101, 3) := by decide +kernel
theorem dX11_way_56 : decode cX11_way 56 = .ok (.istore 4, 2) := by decide +kernel
theorem dX11_way_58 : decode cX11_way 58 = .ok (.aload_n 0, 1) := by decide +kernel
theorem dX11_way_59 : decode cX11_way 59 = .ok (.getfield 10, 3) := by decide +kernel
theorem dX11_way_62 : decode cX11_way 62 = .ok (.getfield 104, 3) := by decide +kernel
theorem dX11_way_65 : decode cX11_way 65 = .ok (.iload 4, 2) := by decide +kernel
theorem dX11_way_67 : decode cX11_way 67 = .ok (.aaload, 1) := by decide +kernel
theorem dX11_way_68 : decode cX11_way 68 = .ok (.astore 5, 2) := by decide +kernel
theorem dX11_way_70 : decode cX11_way 70 = .ok (.aload 5, 2) := by decide +kernel
theorem dX11_way_72 : decode cX11_way 72 = .ok (.iconst 0, 1) := by decide +kernel
theorem dX11_way_73 : decode cX11_way 73 = .ok (.iload_n 1, 1) := by decide +kernel
theorem dX11_way_74 : decode cX11_way 74 = .ok (.bipush 10, 2) := by decide +kernel
theorem dX11_way_76 : decode cX11_way 76 = .ok (.idiv, 1) := by decide +kernel
theorem dX11_way_77 : decode cX11_way 77 = .ok (.iastore, 1) := by decide +kernel
theorem dX11_way_78 : decode cX11_way 78 = .ok (.aload 5, 2) := by decide +kernel
theorem dX11_way_80 : decode cX11_way 80 = .ok (.iconst 1, 1) := by decide +kernel
theorem dX11_way_81 : decode cX11_way 81 = .ok (.iload_n 1, 1) := by decide +kernel
theorem dX11_way_82 : decode cX11_way 82 = .ok (.bipush 10, 2) := by decide +kernel
theorem dX11_way_84 : decode cX11_way 84 = .ok (.irem, 1) := by decide +kernel
theorem dX11_way_85 : decode cX11_way 85 = .ok (.iastore, 1) := by decide +kernel
theorem dX11_way_86 : decode cX11_way 86 = .ok (.aload 5, 2) := by decide +kernel
theorem dX11_way_88 : decode cX11_way 88 = .ok (.iconst 2, 1) := by decide +kernel
theorem dX11_way_89 : decode cX11_way 89 = .ok (.iload_n 2, 1) := by decide +kernel
theorem dX11_way_90 : decode cX11_way 90 = .ok (.iastore, 1) := by decide +kernel
theorem dX11_way_91 : decode cX11_way 91 = .ok (.aload 5, 2) := by decide +kernel
theorem dX11_way_93 : decode cX11_way 93 = .ok (.iconst 3, 1) := by decide +kernel
theorem dX11_way_94 : decode cX11_way 94 = .ok (.iload_n 3, 1) := by decide +kernel
theorem dX11_way_95 : decode cX11_way 95 = .ok (.iastore, 1) := by decide +kernel
theorem dX11_way_96 : decode cX11_way 96 = .ok (.aload 5, 2) := by decide +kernel
theorem dX11_way_98 : decode cX11_way 98 = .ok (.iconst 4, 1) := by decide +kernel
theorem dX11_way_99 : decode cX11_way 99 = .ok (.iconst 0, 1) := by decide +kernel
theorem dX11_way_100 : decode cX11_way 100 = .ok (.iastore, 1) := by decide +kernel
theorem dX11_way_101 : decode cX11_way 101 = .ok (.aload_n 0, 1) := by decide +kernel
theorem dX11_way_102 : decode cX11_way 102 = .ok (.getfield 10, 3) := by decide +kernel
theorem dX11_way_105 : decode cX11_way 105 = .ok (.dup, 1) := by decide +kernel
theorem dX11_way_106 : decode cX11_way 106 = .ok (.getfield 101, 3) := by decide +kernel
theorem dX11_way_109 : decode cX11_way 109 = .ok (.iconst 1, 1) := by decide +kernel
theorem dX11_way_110 : decode cX11_way 110 = .ok (.iadd, 1) := by decide +kernel
theorem dX11_way_111 : decode cX11_way 111 = .ok (.putfield 101, 3) := by decide +kernel
theorem dX11_way_114 : decode cX11_way 114 = .ok (.iload 4, 2) := by decide +kernel
theorem dX11_way_116 : decode cX11_way 116 = .ok (.ireturn, 1) := by decide +kernel
theorem dX11_ofWay_0 : decode cX11_ofWay 0 = .ok (.aload_n 0, 1) := by decide +kernel
theorem dX11_ofWay_1 : decode cX11_ofWay 1 = .ok (.iload_n 1, 1) := by decide +kernel
theorem dX11_ofWay_2 : decode cX11_ofWay 2 = .ok (.invokevirtual 107, 3) := by decide +kernel
theorem dX11_ofWay_5 : decode cX11_ofWay 5 = .ok (.ifCond .eq 12, 3) := by decide +kernel
theorem dX11_ofWay_8 : decode cX11_ofWay 8 = .ok (.iload_n 2, 1) := by decide +kernel
theorem dX11_ofWay_9 : decode cX11_ofWay 9 = .ok (.bipush 6, 2) := by decide +kernel
theorem dX11_ofWay_11 : decode cX11_ofWay 11 = .ok (.invokestatic 93, 3) := by decide +kernel
theorem dX11_ofWay_14 : decode cX11_ofWay 14 = .ok (.ifCond .ne 9, 3) := by decide +kernel
theorem dX11_ofWay_17 : decode cX11_ofWay 17 = .ok (.aload_n 0, 1) := by decide +kernel
theorem dX11_ofWay_18 : decode cX11_ofWay 18 = .ok (.iconst 1, 1) := by decide +kernel
theorem dX11_ofWay_19 : decode cX11_ofWay 19 = .ok (.invokevirtual 86, 3) := by decide +kernel
theorem dX11_ofWay_22 : decode cX11_ofWay 22 = .ok (.ireturn, 1) := by decide +kernel
theorem dX11_ofWay_23 : decode cX11_ofWay 23 = .ok (.iload_n 2, 1) := by decide +kernel
theorem dX11_ofWay_24 : decode cX11_ofWay 24 = .ok (.iconst 5, 1) := by decide +kernel
theorem dX11_ofWay_25 : decode cX11_ofWay 25 = .ok (.if_icmp .ne 16, 3) := by decide +kernel
theorem dX11_ofWay_28 : decode cX11_ofWay 28 = .ok (.aload_n 0, 1) := by decide +kernel
theorem dX11_ofWay_29 : decode cX11_ofWay 29 = .ok (.iload_n 1, 1) := by decide +kernel
theorem dX11_ofWay_30 : decode cX11_ofWay 30 = .ok (.aload_n 0, 1) := by decide +kernel
theorem dX11_ofWay_31 : decode cX11_ofWay 31 = .ok (.getfield 10, 3) := by decide +kernel
theorem dX11_ofWay_34 : decode cX11_ofWay 34 = .ok (.getfield 110, 3) := by decide +kernel
theorem dX11_ofWay_37 : decode cX11_ofWay 37 = .ok (.invokevirtual 113, 3) := by decide +kernel
theorem dX11_ofWay_40 : decode cX11_ofWay 40 = .ok (.ireturn, 1) := by decide +kernel
theorem dX11_ofWay_41 : decode cX11_ofWay 41 = .ok (.iload_n 2, 1) := by decide +kernel
theorem dX11_ofWay_42 : decode cX11_ofWay 42 = .ok (.bipush 6, 2) := by decide +kernel
theorem dX11_ofWay_44 : decode cX11_ofWay 44 = .ok (.if_icmp .ne 18, 3) := by decide +kernel
theorem dX11_ofWay_47 : decode cX11_ofWay 47 = .ok (.aload_n 0, 1) := by decide +kernel
theorem dX11_ofWay_48 : decode cX11_ofWay 48 = .ok (.iload_n 1, 1) := by decide +kernel
theorem dX11_ofWay_49 : decode cX11_ofWay 49 = .ok (.aload_n 0, 1) := by decide +kernel
theorem dX11_ofWay_50 : decode cX11_ofWay 50 = .ok (.getfield 10, 3) := by decide +kernel
theorem dX11_ofWay_53 : decode cX11_ofWay 53 = .ok (.getfield 90, 3) := by decide +kernel
theorem dX11_ofWay_56 : decode cX11_ofWay 56 = .ok (.iconst 1, 1) := by decide +kernel
theorem dX11_ofWay_57 : decode cX11_ofWay 57 = .ok (.iaload, 1) := by decide +kernel
theorem dX11_ofWay_58 : decode cX11_ofWay 58 = .ok (.invokevirtual 117, 3) := by decide +kernel
theorem dX11_ofWay_61 : decode cX11_ofWay 61 = .ok (.ireturn, 1) := by decide +kernel
theorem dX11_ofWay_62 : decode cX11_ofWay 62 = .ok (.aload_n 0, 1) := by decide +kernel
theorem dX11_ofWay_63 : decode cX11_ofWay 63 = .ok (.getfield 10, 3) := by decide +kernel
theorem dX11_ofWay_66 : decode cX11_ofWay 66 = .ok (.getfield 104, 3) := by decide +kernel
theorem dX11_ofWay_69 : decode cX11_ofWay 69 = .ok (.iload_n 1, 1) := by decide +kernel
theorem dX11_ofWay_70 : decode cX11_ofWay 70 = .ok (.aaload, 1) := by decide +kernel
theorem dX11_ofWay_71 : decode cX11_ofWay 71 = .ok (.iload_n 2, 1) := by decide +kernel
theorem dX11_ofWay_72 : decode cX11_ofWay 72 = .ok (.iaload, 1) := by decide +kernel
theorem dX11_ofWay_73 : decode cX11_ofWay 73 = .ok (.ireturn, 1) := by decide +kernel
theorem dX11_change_0 : decode cX11_change 0 = .ok (.aload_n 0, 1) := by decide +kernel
theorem dX11_change_1 : decode cX11_change 1 = .ok (.iload_n 1, 1) := by decide +kernel
theorem dX11_change_2 : decode cX11_change 2 = .ok (.invokevirtual 107, 3) := by decide +kernel
theorem dX11_change_5 : decode cX11_change 5 = .ok (.ifCond .eq 24, 3) := by decide +kernel
theorem dX11_change_8 : decode cX11_change 8 = .ok (.iload_n 2, 1) := by decide +kernel
theorem dX11_change_9 : decode cX11_change 9 = .ok (.iconst 2, 1) := by decide +kernel
theorem dX11_change_10 : decode cX11_change 10 = .ok (.invokestatic 93, 3) := by decide +kernel
theorem dX11_change_13 : decode cX11_change 13 = .ok (.ifCond .eq 16, 3) := by decide +kernel
theorem dX11_change_16 : decode cX11_change 16 = .ok (.iload_n 3, 1) := by decide +kernel
theorem dX11_change_17 : decode cX11_change 17 = .ok (.iconst 2, 1) := by decide +kernel
theorem dX11_change_18 : decode cX11_change 18 = .ok (.iload_n 2, 1) := by decide +kernel
theorem dX11_change_19 : decode cX11_change 19 = .ok (.iadd, 1) := by decide +kernel
theorem dX11_change_20 : decode cX11_change 20 = .ok (.invokestatic 120, 3) := by decide +kernel
theorem dX11_change_23 : decode cX11_change 23 = .ok (.invokestatic 93, 3) := by decide +kernel
theorem dX11_change_26 : decode cX11_change 26 = .ok (.ifCond .ne 9, 3) := by decide +kernel
theorem dX11_change_29 : decode cX11_change 29 = .ok (.aload_n 0, 1) := by decide +kernel
theorem dX11_change_30 : decode cX11_change 30 = .ok (.iconst 1, 1) := by decide +kernel
theorem dX11_change_31 : decode cX11_change 31 = .ok (.invokevirtual 86, 3) := by decide +kernel
theorem dX11_change_34 : decode cX11_change 34 = .ok (.ireturn, 1) := by decide +kernel
theorem dX11_change_35 : decode cX11_change 35 = .ok (.aload_n 0, 1) := by decide +kernel
theorem dX11_change_36 : decode cX11_change 36 = .ok (.getfield 10, 3) := by decide +kernel
theorem dX11_change_39 : decode cX11_change 39 = .ok (.getfield 104, 3) := by decide +kernel
theorem dX11_change_42 : decode cX11_change 42 = .ok (.iload_n 1, 1) := by decide +kernel
theorem dX11_change_43 : decode cX11_change 43 = .ok (.aaload, 1) := by decide +kernel
theorem dX11_change_44 : decode cX11_change 44 = .ok (.iconst 2, 1) := by decide +kernel
theorem dX11_change_45 : decode cX11_change 45 = .ok (.iload_n 2, 1) := by decide +kernel
theorem dX11_change_46 : decode cX11_change 46 = .ok (.iadd, 1) := by decide +kernel
theorem dX11_change_47 : decode cX11_change 47 = .ok (.iaload, 1) := by decide +kernel
theorem dX11_change_48 : decode cX11_change 48 = .ok (.istore 4, 2) := by decide +kernel
theorem dX11_change_50 : decode cX11_change 50 = .ok (.aload_n 0, 1) := by decide +kernel
theorem dX11_change_51 : decode cX11_change 51 = .ok (.getfield 10, 3) := by decide +kernel
theorem dX11_change_54 : decode cX11_change 54 = .ok (.getfield 104, 3) := by decide +kernel
theorem dX11_change_57 : decode cX11_change 57 = .ok (.iload_n 1, 1) := by decide +kernel
theorem dX11_change_58 : decode cX11_change 58 = .ok (.aaload, 1) := by decide +kernel
theorem dX11_change_59 : decode cX11_change 59 = .ok (.iconst 2, 1) := by decide +kernel
theorem dX11_change_60 : decode cX11_change 60 = .ok (.iload_n 2, 1) := by decide +kernel
theorem dX11_change_61 : decode cX11_change 61 = .ok (.iadd, 1) := by decide +kernel
theorem dX11_change_62 : decode cX11_change 62 = .ok (.iload_n 3, 1) := by decide +kernel
theorem dX11_change_63 : decode cX11_change 63 = .ok (.iastore, 1) := by decide +kernel
theorem dX11_change_64 : decode cX11_change 64 = .ok (.iload 4, 2) := by decide +kernel
theorem dX11_change_66 : decode cX11_change 66 = .ok (.ireturn, 1) := by decide +kernel
theorem dX11_become_0 : decode cX11_become 0 = .ok (.aload_n 0, 1) := by decide +kernel
theorem dX11_become_1 : decode cX11_become 1 = .ok (.iload_n 1, 1) := by decide +kernel
theorem dX11_become_2 : decode cX11_become 2 = .ok (.invokevirtual 107, 3) := by decide +kernel
theorem dX11_become_5 : decode cX11_become 5 = .ok (.ifCond .eq 12, 3) := by decide +kernel
theorem dX11_become_8 : decode cX11_become 8 = .ok (.iload_n 2, 1) := by decide +kernel
theorem dX11_become_9 : decode cX11_become 9 = .ok (.bipush 69, 2) := by decide +kernel
theorem dX11_become_11 : decode cX11_become 11 = .ok (.invokestatic 93, 3) := by decide +kernel
theorem dX11_become_14 : decode cX11_become 14 = .ok (.ifCond .ne 9, 3) := by decide +kernel
theorem dX11_become_17 : decode cX11_become 17 = .ok (.aload_n 0, 1) := by decide +kernel
theorem dX11_become_18 : decode cX11_become 18 = .ok (.iconst 1, 1) := by decide +kernel
theorem dX11_become_19 : decode cX11_become 19 = .ok (.invokevirtual 86, 3) := by decide +kernel
theorem dX11_become_22 : decode cX11_become 22 = .ok (.ireturn, 1) := by decide +kernel
theorem dX11_become_23 : decode cX11_become 23 = .ok (.aload_n 0, 1) := by decide +kernel
theorem dX11_become_24 : decode cX11_become 24 = .ok (.getfield 10, 3) := by decide +kernel
theorem dX11_become_27 : decode cX11_become 27 = .ok (.getfield 104, 3) := by decide +kernel
theorem dX11_become_30 : decode cX11_become 30 = .ok (.iload_n 1, 1) := by decide +kernel
theorem dX11_become_31 : decode cX11_become 31 = .ok (.aaload, 1) := by decide +kernel
theorem dX11_become_32 : decode cX11_become 32 = .ok (.iconst 0, 1) := by decide +kernel
theorem dX11_become_33 : decode cX11_become 33 = .ok (.iaload, 1) := by decide +kernel
theorem dX11_become_34 : decode cX11_become 34 = .ok (.istore_n 3, 1) := by decide +kernel
theorem dX11_become_35 : decode cX11_become 35 = .ok (.aload_n 0, 1) := by decide +kernel
theorem dX11_become_36 : decode cX11_become 36 = .ok (.getfield 10, 3) := by decide +kernel
theorem dX11_become_39 : decode cX11_become 39 = .ok (.getfield 104, 3) := by decide +kernel
theorem dX11_become_42 : decode cX11_become 42 = .ok (.iload_n 1, 1) := by decide +kernel
theorem dX11_become_43 : decode cX11_become 43 = .ok (.aaload, 1) := by decide +kernel
theorem dX11_become_44 : decode cX11_become 44 = .ok (.iconst 0, 1) := by decide +kernel
theorem dX11_become_45 : decode cX11_become 45 = .ok (.iload_n 2, 1) := by decide +kernel
theorem dX11_become_46 : decode cX11_become 46 = .ok (.bipush 10, 2) := by decide +kernel
theorem dX11_become_48 : decode cX11_become 48 = .ok (.idiv, 1) := by decide +kernel
theorem dX11_become_49 : decode cX11_become 49 = .ok (.iastore, 1) := by decide +kernel
theorem dX11_become_50 : decode cX11_become 50 = .ok (.aload_n 0, 1) := by decide +kernel
theorem dX11_become_51 : decode cX11_become 51 = .ok (.getfield 10, 3) := by decide +kernel
theorem dX11_become_54 : decode cX11_become 54 = .ok (.getfield 104, 3) := by decide +kernel
theorem dX11_become_57 : decode cX11_become 57 = .ok (.iload_n 1, 1) := by decide +kernel
theorem dX11_become_58 : decode cX11_become 58 = .ok (.aaload, 1) := by decide +kernel
theorem dX11_become_59 : decode cX11_become 59 = .ok (.iconst 1, 1) := by decide +kernel
theorem dX11_become_60 : decode cX11_become 60 = .ok (.iload_n 2, 1) := by decide +kernel
theorem dX11_become_61 : decode cX11_become 61 = .ok (.bipush 10, 2) := by decide +kernel
theorem dX11_become_63 : decode cX11_become 63 = .ok (.irem, 1) := by decide +kernel
theorem dX11_become_64 : decode cX11_become 64 = .ok (.iastore, 1) := by decide +kernel
theorem dX11_become_65 : decode cX11_become 65 = .ok (.iload_n 3, 1) := by decide +kernel
theorem dX11_become_66 : decode cX11_become 66 = .ok (.ireturn, 1) := by decide +kernel
theorem dX11_as_0 : decode cX11_as 0 = .ok (.aload_n 0, 1) := by decide +kernel
theorem dX11_as_1 : decode cX11_as 1 = .ok (.iload_n 1, 1) := by decide +kernel
theorem dX11_as_2 : decode cX11_as 2 = .ok (.invokevirtual 107, 3) := by decide +kernel
theorem dX11_as_5 : decode cX11_as 5 = .ok (.ifCond .eq 16, 3) := by decide +kernel
theorem dX11_as_8 : decode cX11_as 8 = .ok (.iload_n 2, 1) := by decide +kernel
theorem dX11_as_9 : decode cX11_as 9 = .ok (.getstatic 123, 3) := by decide +kernel
theorem dX11_as_12 : decode cX11_as 12 = .ok (.arraylength, 1) := by decide +kernel
theorem dX11_as_13 : decode cX11_as 13 = .ok (.iconst 1, 1) := by decide +kernel
theorem dX11_as_14 : decode cX11_as 14 = .ok (.isub, 1) := by decide +kernel
theorem dX11_as_15 : decode cX11_as 15 = .ok (.invokestatic 93, 3) := by decide +kernel
theorem dX11_as_18 : decode cX11_as 18 = .ok (.ifCond .ne 9, 3) := by decide +kernel
theorem dX11_as_21 : decode cX11_as 21 = .ok (.aload_n 0, 1) := by decide +kernel
theorem dX11_as_22 : decode cX11_as 22 = .ok (.iconst 1, 1) := by decide +kernel
theorem dX11_as_23 : decode cX11_as 23 = .ok (.invokevirtual 86, 3) := by decide +kernel
theorem dX11_as_26 : decode cX11_as 26 = .ok (.ireturn, 1) := by decide +kernel
theorem dX11_as_27 : decode cX11_as 27 = .ok (.aload_n 0, 1) := by decide +kernel
theorem dX11_as_28 : decode cX11_as 28 = .ok (.getfield 10, 3) := by decide +kernel
theorem dX11_as_31 : decode cX11_as 31 = .ok (.getfield 104, 3) := by decide +kernel
theorem dX11_as_34 : decode cX11_as 34 = .ok (.iload_n 1, 1) := by decide +kernel
theorem dX11_as_35 : decode cX11_as 35 = .ok (.aaload, 1) := by decide +kernel
theorem dX11_as_36 : decode cX11_as 36 = .ok (.iconst 0, 1) := by decide +kernel
theorem dX11_as_37 : decode cX11_as 37 = .ok (.iaload, 1) := by decide +kernel
theorem dX11_as_38 : decode cX11_as 38 = .ok (.iload_n 2, 1) := by decide +kernel
theorem dX11_as_39 : decode cX11_as 39 = .ok (.invokestatic 126, 3) := by decide +kernel
theorem dX11_as_42 : decode cX11_as 42 = .ok (.ifCond .ne 9, 3) := by decide +kernel
theorem dX11_as_45 : decode cX11_as 45 = .ok (.aload_n 0, 1) := by decide +kernel
theorem dX11_as_46 : decode cX11_as 46 = .ok (.iconst 5, 1) := by decide +kernel
theorem dX11_as_47 : decode cX11_as 47 = .ok (.invokevirtual 86, 3) := by decide +kernel
theorem dX11_as_50 : decode cX11_as 50 = .ok (.ireturn, 1) := by decide +kernel
theorem dX11_as_51 : decode cX11_as 51 = .ok (.aload_n 0, 1) := by decide +kernel
theorem dX11_as_52 : decode cX11_as 52 = .ok (.getfield 10, 3) := by decide +kernel
theorem dX11_as_55 : decode cX11_as 55 = .ok (.getfield 104, 3) := by decide +kernel
theorem dX11_as_58 : decode cX11_as 58 = .ok (.iload_n 1, 1) := by decide +kernel
theorem dX11_as_59 : decode cX11_as 59 = .ok (.aaload, 1) := by decide +kernel
theorem dX11_as_60 : decode cX11_as 60 = .ok (.iconst 1, 1) := by decide +kernel
theorem dX11_as_61 : decode cX11_as 61 = .ok (.iaload, 1) := by decide +kernel
theorem dX11_as_62 : decode cX11_as 62 = .ok (.ireturn, 1) := by decide +kernel
theorem dX11_within_0 : decode cX11_within 0 = .ok (.iload_n 0, 1) := by decide +kernel
theorem dX11_within_1 : decode cX11_within 1 = .ok (.ifCond .lt 12, 3) := by decide +kernel
theorem dX11_within_4 : decode cX11_within 4 = .ok (.iload_n 0, 1) := by decide +kernel
theorem dX11_within_5 : decode cX11_within 5 = .ok (.iload_n 1, 1) := by decide +kernel
theorem dX11_within_6 : decode cX11_within 6 = .ok (.if_icmp .gt 7, 3) := by decide +kernel
theorem dX11_within_9 : decode cX11_within 9 = .ok (.iconst 1, 1) := by decide +kernel
theorem dX11_within_10 : decode cX11_within 10 = .ok (.goto 4, 3) := by decide +kernel
theorem dX11_within_13 : decode cX11_within 13 = .ok (.iconst 0, 1) := by decide +kernel
theorem dX11_within_14 : decode cX11_within 14 = .ok (.ireturn, 1) := by decide +kernel
theorem dX11_isWay_0 : decode cX11_isWay 0 = .ok (.iload_n 1, 1) := by decide +kernel
theorem dX11_isWay_1 : decode cX11_isWay 1 = .ok (.ifCond .lt 18, 3) := by decide +kernel
theorem dX11_isWay_4 : decode cX11_isWay 4 = .ok (.iload_n 1, 1) := by decide +kernel
theorem dX11_isWay_5 : decode cX11_isWay 5 = .ok (.aload_n 0, 1) := by decide +kernel
theorem dX11_isWay_6 : decode cX11_isWay 6 = .ok (.getfield 10, 3) := by decide +kernel
theorem dX11_isWay_9 : decode cX11_isWay 9 = .ok (.getfield 101, 3) := by decide +kernel
theorem dX11_isWay_12 : decode cX11_isWay 12 = .ok (.if_icmp .ge 7, 3) := by decide +kernel
theorem dX11_isWay_15 : decode cX11_isWay 15 = .ok (.iconst 1, 1) := by decide +kernel
theorem dX11_isWay_16 : decode cX11_isWay 16 = .ok (.goto 4, 3) := by decide +kernel
theorem dX11_isWay_19 : decode cX11_isWay 19 = .ok (.iconst 0, 1) := by decide +kernel
theorem dX11_isWay_20 : decode cX11_isWay 20 = .ok (.ireturn, 1) := by decide +kernel
theorem dX11_isPlace_0 : decode cX11_isPlace 0 = .ok (.iload_n 0, 1) := by decide +kernel
theorem dX11_isPlace_1 : decode cX11_isPlace 1 = .ok (.iconst 5, 1) := by decide +kernel
theorem dX11_isPlace_2 : decode cX11_isPlace 2 = .ok (.invokestatic 93, 3) := by decide +kernel
theorem dX11_isPlace_5 : decode cX11_isPlace 5 = .ok (.ireturn, 1) := by decide +kernel
theorem dX11_mostOf_0 : decode cX11_mostOf 0 = .ok (.iload_n 0, 1) := by decide +kernel
theorem dX11_mostOf_1 : decode cX11_mostOf 1 = .ok (.iconst 2, 1) := by decide +kernel
theorem dX11_mostOf_2 : decode cX11_mostOf 2 = .ok (.if_icmp .ne 6, 3) := by decide +kernel
theorem dX11_mostOf_5 : decode cX11_mostOf 5 = .ok (.bipush 99, 2) := by decide +kernel
theorem dX11_mostOf_7 : decode cX11_mostOf 7 = .ok (.ireturn, 1) := by decide +kernel
theorem dX11_mostOf_8 : decode cX11_mostOf 8 = .ok (.iload_n 0, 1) := by decide +kernel
theorem dX11_mostOf_9 : decode cX11_mostOf 9 = .ok (.iconst 3, 1) := by decide +kernel
theorem dX11_mostOf_10 : decode cX11_mostOf 10 = .ok (.if_icmp .ne 7, 3) := by decide +kernel
theorem dX11_mostOf_13 : decode cX11_mostOf 13 = .ok (.iconst 5, 1) := by decide +kernel
theorem dX11_mostOf_14 : decode cX11_mostOf 14 = .ok (.goto 4, 3) := by decide +kernel
theorem dX11_mostOf_17 : decode cX11_mostOf 17 = .ok (.iconst 1, 1) := by decide +kernel
theorem dX11_mostOf_18 : decode cX11_mostOf 18 = .ok (.ireturn, 1) := by decide +kernel
theorem dX11_isUnder_0 : decode cX11_isUnder 0 = .ok (.iload_n 0, 1) := by decide +kernel
theorem dX11_isUnder_1 : decode cX11_isUnder 1 = .ok (.istore_n 2, 1) := by decide +kernel
theorem dX11_isUnder_2 : decode cX11_isUnder 2 = .ok (.iconst 0, 1) := by decide +kernel
theorem dX11_isUnder_3 : decode cX11_isUnder 3 = .ok (.istore_n 3, 1) := by decide +kernel
theorem dX11_isUnder_4 : decode cX11_isUnder 4 = .ok (.iload_n 3, 1) := by decide +kernel
theorem dX11_isUnder_5 : decode cX11_isUnder 5 = .ok (.getstatic 123, 3) := by decide +kernel
theorem dX11_isUnder_8 : decode cX11_isUnder 8 = .ok (.arraylength, 1) := by decide +kernel
theorem dX11_isUnder_9 : decode cX11_isUnder 9 = .ok (.if_icmp .ge 34, 3) := by decide +kernel
theorem dX11_isUnder_12 : decode cX11_isUnder 12 = .ok (.iload_n 2, 1) := by decide +kernel
theorem dX11_isUnder_13 : decode cX11_isUnder 13 = .ok (.ifCond .lt 30, 3) := by decide +kernel
theorem dX11_isUnder_16 : decode cX11_isUnder 16 = .ok (.iload_n 2, 1) := by decide +kernel
theorem dX11_isUnder_17 : decode cX11_isUnder 17 = .ok (.getstatic 123, 3) := by decide +kernel
theorem dX11_isUnder_20 : decode cX11_isUnder 20 = .ok (.arraylength, 1) := by decide +kernel
theorem dX11_isUnder_21 : decode cX11_isUnder 21 = .ok (.if_icmp .ge 22, 3) := by decide +kernel
theorem dX11_isUnder_24 : decode cX11_isUnder 24 = .ok (.iload_n 2, 1) := by decide +kernel
theorem dX11_isUnder_25 : decode cX11_isUnder 25 = .ok (.iload_n 1, 1) := by decide +kernel
theorem dX11_isUnder_26 : decode cX11_isUnder 26 = .ok (.if_icmp .ne 5, 3) := by decide +kernel
theorem dX11_isUnder_29 : decode cX11_isUnder 29 = .ok (.iconst 1, 1) := by decide +kernel
theorem dX11_isUnder_30 : decode cX11_isUnder 30 = .ok (.ireturn, 1) := by decide +kernel
theorem dX11_isUnder_31 : decode cX11_isUnder 31 = .ok (.getstatic 123, 3) := by decide +kernel
theorem dX11_isUnder_34 : decode cX11_isUnder 34 = .ok (.iload_n 2, 1) := by decide +kernel
theorem dX11_isUnder_35 : decode cX11_isUnder 35 = .ok (.iaload, 1) := by decide +kernel
theorem dX11_isUnder_36 : decode cX11_isUnder 36 = .ok (.istore_n 2, 1) := by decide +kernel
theorem dX11_isUnder_37 : decode cX11_isUnder 37 = .ok (.iinc 3 1, 3) := by decide +kernel
theorem dX11_isUnder_40 : decode cX11_isUnder 40 = .ok (.goto (-36), 3) := by decide +kernel
theorem dX11_isUnder_43 : decode cX11_isUnder 43 = .ok (.iconst 0, 1) := by decide +kernel
theorem dX11_isUnder_44 : decode cX11_isUnder 44 = .ok (.ireturn, 1) := by decide +kernel
theorem dX11_isLost_0 : decode cX11_isLost 0 = .ok (.aload_n 0, 1) := by decide +kernel
theorem dX11_isLost_1 : decode cX11_isLost 1 = .ok (.getfield 10, 3) := by decide +kernel
theorem dX11_isLost_4 : decode cX11_isLost 4 = .ok (.getfield 104, 3) := by decide +kernel
theorem dX11_isLost_7 : decode cX11_isLost 7 = .ok (.iload_n 1, 1) := by decide +kernel
theorem dX11_isLost_8 : decode cX11_isLost 8 = .ok (.aaload, 1) := by decide +kernel
theorem dX11_isLost_9 : decode cX11_isLost 9 = .ok (.iconst 4, 1) := by decide +kernel
theorem dX11_isLost_10 : decode cX11_isLost 10 = .ok (.iaload, 1) := by decide +kernel
theorem dX11_isLost_11 : decode cX11_isLost 11 = .ok (.ifCond .eq 7, 3) := by decide +kernel
theorem dX11_isLost_14 : decode cX11_isLost 14 = .ok (.iconst 1, 1) := by decide +kernel
theorem dX11_isLost_15 : decode cX11_isLost 15 = .ok (.goto 4, 3) := by decide +kernel
theorem dX11_isLost_18 : decode cX11_isLost 18 = .ok (.iconst 0, 1) := by decide +kernel
theorem dX11_isLost_19 : decode cX11_isLost 19 = .ok (.ireturn, 1) := by decide +kernel
theorem dX11_lateAt_0 : decode cX11_lateAt 0 = .ok (.aload_n 0, 1) := by decide +kernel
theorem dX11_lateAt_1 : decode cX11_lateAt 1 = .ok (.getfield 10, 3) := by decide +kernel
theorem dX11_lateAt_4 : decode cX11_lateAt 4 = .ok (.getfield 104, 3) := by decide +kernel
theorem dX11_lateAt_7 : decode cX11_lateAt 7 = .ok (.iload_n 1, 1) := by decide +kernel
theorem dX11_lateAt_8 : decode cX11_lateAt 8 = .ok (.aaload, 1) := by decide +kernel
theorem dX11_lateAt_9 : decode cX11_lateAt 9 = .ok (.iconst 0, 1) := by decide +kernel
theorem dX11_lateAt_10 : decode cX11_lateAt 10 = .ok (.iaload, 1) := by decide +kernel
theorem dX11_lateAt_11 : decode cX11_lateAt 11 = .ok (.istore_n 3, 1) := by decide +kernel
theorem dX11_lateAt_12 : decode cX11_lateAt 12 = .ok (.aload_n 0, 1) := by decide +kernel
theorem dX11_lateAt_13 : decode cX11_lateAt 13 = .ok (.getfield 10, 3) := by decide +kernel
theorem dX11_lateAt_16 : decode cX11_lateAt 16 = .ok (.getfield 104, 3) := by decide +kernel
theorem dX11_lateAt_19 : decode cX11_lateAt 19 = .ok (.iload_n 1, 1) := by decide +kernel
theorem dX11_lateAt_20 : decode cX11_lateAt 20 = .ok (.aaload, 1) := by decide +kernel
theorem dX11_lateAt_21 : decode cX11_lateAt 21 = .ok (.iconst 1, 1) := by decide +kernel
theorem dX11_lateAt_22 : decode cX11_lateAt 22 = .ok (.iaload, 1) := by decide +kernel
theorem dX11_lateAt_23 : decode cX11_lateAt 23 = .ok (.istore 4, 2) := by decide +kernel
theorem dX11_lateAt_25 : decode cX11_lateAt 25 = .ok (.aload_n 0, 1) := by decide +kernel
theorem dX11_lateAt_26 : decode cX11_lateAt 26 = .ok (.getfield 48, 3) := by decide +kernel
theorem dX11_lateAt_29 : decode cX11_lateAt 29 = .ok (.iload_n 3, 1) := by decide +kernel
theorem dX11_lateAt_30 : decode cX11_lateAt 30 = .ok (.aaload, 1) := by decide +kernel
theorem dX11_lateAt_31 : decode cX11_lateAt 31 = .ok (.aload_n 0, 1) := by decide +kernel
theorem dX11_lateAt_32 : decode cX11_lateAt 32 = .ok (.iconst 0, 1) := by decide +kernel
theorem dX11_lateAt_33 : decode cX11_lateAt 33 = .ok (.iload 4, 2) := by decide +kernel
theorem dX11_lateAt_35 : decode cX11_lateAt 35 = .ok (.iload_n 3, 1) := by decide +kernel
theorem dX11_lateAt_36 : decode cX11_lateAt 36 = .ok (.iload_n 2, 1) := by decide +kernel
theorem dX11_lateAt_37 : decode cX11_lateAt 37 = .ok (.bipush 60, 2) := by decide +kernel
theorem dX11_lateAt_39 : decode cX11_lateAt 39 = .ok (.irem, 1) := by decide +kernel
theorem dX11_lateAt_40 : decode cX11_lateAt 40 = .ok (.invokevirtual 129, 3) := by decide +kernel
theorem dX11_lateAt_43 : decode cX11_lateAt 43 = .ok (.iload 4, 2) := by decide +kernel
theorem dX11_lateAt_45 : decode cX11_lateAt 45 = .ok (.invokevirtual 133, 3) := by decide +kernel
theorem dX11_lateAt_48 : decode cX11_lateAt 48 = .ok (.ireturn, 1) := by decide +kernel
theorem dX11_lastsWith_0 : decode cX11_lastsWith 0 = .ok (.aload_n 0, 1) := by decide +kernel
theorem dX11_lastsWith_1 : decode cX11_lastsWith 1 = .ok (.getfield 48, 3) := by decide +kernel
theorem dX11_lastsWith_4 : decode cX11_lastsWith 4 = .ok (.aload_n 0, 1) := by decide +kernel
theorem dX11_lastsWith_5 : decode cX11_lastsWith 5 = .ok (.getfield 10, 3) := by decide +kernel
theorem dX11_lastsWith_8 : decode cX11_lastsWith 8 = .ok (.getfield 104, 3) := by decide +kernel
theorem dX11_lastsWith_11 : decode cX11_lastsWith 11 = .ok (.iload_n 1, 1) := by decide +kernel
theorem dX11_lastsWith_12 : decode cX11_lastsWith 12 = .ok (.aaload, 1) := by decide +kernel
theorem dX11_lastsWith_13 : decode cX11_lastsWith 13 = .ok (.iconst 0, 1) := by decide +kernel
theorem dX11_lastsWith_14 : decode cX11_lastsWith 14 = .ok (.iaload, 1) := by decide +kernel
theorem dX11_lastsWith_15 : decode cX11_lastsWith 15 = .ok (.aaload, 1) := by decide +kernel
theorem dX11_lastsWith_16 : decode cX11_lastsWith 16 = .ok (.iload_n 2, 1) := by decide +kernel
theorem dX11_lastsWith_17 : decode cX11_lastsWith 17 = .ok (.invokevirtual 136, 3) := by decide +kernel
theorem dX11_lastsWith_20 : decode cX11_lastsWith 20 = .ok (.ireturn, 1) := by decide +kernel
theorem dX11_error_0 : decode cX11_error 0 = .ok (.aload_n 0, 1) := by decide +kernel
theorem dX11_error_1 : decode cX11_error 1 = .ok (.getfield 23, 3) := by decide +kernel
theorem dX11_error_4 : decode cX11_error 4 = .ok (.iload_n 1, 1) := by decide +kernel
theorem dX11_error_5 : decode cX11_error 5 = .ok (.dup2, 1) := by decide +kernel
theorem dX11_error_6 : decode cX11_error 6 = .ok (.iaload, 1) := by decide +kernel
theorem dX11_error_7 : decode cX11_error 7 = .ok (.iconst 1, 1) := by decide +kernel
theorem dX11_error_8 : decode cX11_error 8 = .ok (.iadd, 1) := by decide +kernel
theorem dX11_error_9 : decode cX11_error 9 = .ok (.iastore, 1) := by decide +kernel
theorem dX11_error_10 : decode cX11_error 10 = .ok (.ldc 139, 2) := by decide +kernel
theorem dX11_error_12 : decode cX11_error 12 = .ok (.iload_n 1, 1) := by decide +kernel
theorem dX11_error_13 : decode cX11_error 13 = .ok (.isub, 1) := by decide +kernel
theorem dX11_error_14 : decode cX11_error 14 = .ok (.ireturn, 1) := by decide +kernel
theorem dX11_feed_0 : decode cX11_feed 0 = .ok (.iload_n 3, 1) := by decide +kernel
theorem dX11_feed_1 : decode cX11_feed 1 = .ok (.iconst 1, 1) := by decide +kernel
theorem dX11_feed_2 : decode cX11_feed 2 = .ok (.if_icmp .lt 9, 3) := by decide +kernel
theorem dX11_feed_5 : decode cX11_feed 5 = .ok (.iload_n 3, 1) := by decide +kernel
theorem dX11_feed_6 : decode cX11_feed 6 = .ok (.bipush 8, 2) := by decide +kernel
theorem dX11_feed_8 : decode cX11_feed 8 = .ok (.if_icmp .le 9, 3) := by decide +kernel
theorem dX11_feed_11 : decode cX11_feed 11 = .ok (.aload_n 0, 1) := by decide +kernel
theorem dX11_feed_12 : decode cX11_feed 12 = .ok (.iconst 1, 1) := by decide +kernel
theorem dX11_feed_13 : decode cX11_feed 13 = .ok (.invokevirtual 86, 3) := by decide +kernel
theorem dX11_feed_16 : decode cX11_feed 16 = .ok (.ireturn, 1) := by decide +kernel
theorem dX11_feed_17 : decode cX11_feed 17 = .ok (.aload_n 0, 1) := by decide +kernel
theorem dX11_feed_18 : decode cX11_feed 18 = .ok (.getfield 10, 3) := by decide +kernel
theorem dX11_feed_21 : decode cX11_feed 21 = .ok (.getfield 140, 3) := by decide +kernel
theorem dX11_feed_24 : decode cX11_feed 24 = .ok (.iload_n 3, 1) := by decide +kernel
theorem dX11_feed_25 : decode cX11_feed 25 = .ok (.iadd, 1) := by decide +kernel
theorem dX11_feed_26 : decode cX11_feed 26 = .ok (.bipush 50, 2) := by decide +kernel
theorem dX11_feed_28 : decode cX11_feed 28 = .ok (.if_icmp .le 9, 3) := by decide +kernel
theorem dX11_feed_31 : decode cX11_feed 31 = .ok (.aload_n 0, 1) := by decide +kernel
theorem dX11_feed_32 : decode cX11_feed 32 = .ok (.iconst 4, 1) := by decide +kernel
theorem dX11_feed_33 : decode cX11_feed 33 = .ok (.invokevirtual 86, 3) := by decide +kernel
theorem dX11_feed_36 : decode cX11_feed 36 = .ok (.ireturn, 1) := by decide +kernel
theorem dX11_feed_37 : decode cX11_feed 37 = .ok (.iconst 0, 1) := by decide +kernel
theorem dX11_feed_38 : decode cX11_feed 38 = .ok (.istore 4, 2) := by decide +kernel
theorem dX11_feed_40 : decode cX11_feed 40 = .ok (.iload 4, 2) := by decide +kernel
theorem dX11_feed_42 : decode cX11_feed 42 = .ok (.iload_n 3, 1) := by decide +kernel
theorem dX11_feed_43 : decode cX11_feed 43 = .ok (.if_icmp .ge 49, 3) := by decide +kernel
theorem dX11_feed_46 : decode cX11_feed 46 = .ok (.aload_n 0, 1) := by decide +kernel
theorem dX11_feed_47 : decode cX11_feed 47 = .ok (.getfield 10, 3) := by decide +kernel
theorem dX11_feed_50 : decode cX11_feed 50 = .ok (.getfield 143, 3) := by decide +kernel
theorem dX11_feed_53 : decode cX11_feed 53 = .ok (.aload_n 0, 1) := by decide +kernel
theorem dX11_feed_54 : decode cX11_feed 54 = .ok (.getfield 10, 3) := by decide +kernel
theorem dX11_feed_57 : decode cX11_feed 57 = .ok (.getfield 140, 3) := by decide +kernel
theorem dX11_feed_60 : decode cX11_feed 60 = .ok (.lload_n 1, 1) := by decide +kernel
theorem dX11_feed_61 : decode cX11_feed 61 = .ok (.bipush 8, 2) := by decide +kernel
theorem dX11_feed_63 : decode cX11_feed 63 = .ok (.iload 4, 2) := by decide +kernel
theorem dX11_feed_65 : decode cX11_feed 65 = .ok (.imul, 1) := by decide +kernel
theorem dX11_feed_66 : decode cX11_feed 66 = .ok (.lushr, 1) := by decide +kernel
theorem dX11_feed_67 : decode cX11_feed 67 = .ok (.l2i, 1) := by decide +kernel
theorem dX11_feed_68 : decode cX11_feed 68 = .ok (.sipush 255, 3) := by decide +kernel
theorem dX11_feed_71 : decode cX11_feed 71 = .ok (.iand, 1) := by decide +kernel
theorem dX11_feed_72 : decode cX11_feed 72 = .ok (.iastore, 1) := by decide +kernel
theorem dX11_feed_73 : decode cX11_feed 73 = .ok (.aload_n 0, 1) := by decide +kernel
theorem dX11_feed_74 : decode cX11_feed 74 = .ok (.getfield 10, 3) := by decide +kernel
theorem dX11_feed_77 : decode cX11_feed 77 = .ok (.dup, 1) := by decide +kernel
theorem dX11_feed_78 : decode cX11_feed 78 = .ok (.getfield 140, 3) := by decide +kernel
theorem dX11_feed_81 : decode cX11_feed 81 = .ok (.iconst 1, 1) := by decide +kernel
theorem dX11_feed_82 : decode cX11_feed 82 = .ok (.iadd, 1) := by decide +kernel
theorem dX11_feed_83 : decode cX11_feed 83 = .ok (.putfield 140, 3) := by decide +kernel
theorem dX11_feed_86 : decode cX11_feed 86 = .ok (.iinc 4 1, 3) := by decide +kernel
theorem dX11_feed_89 : decode cX11_feed 89 = .ok (.goto (-49), 3) := by decide +kernel
theorem dX11_feed_92 : decode cX11_feed 92 = .ok (.aload_n 0, 1) := by decide +kernel
theorem dX11_feed_93 : decode cX11_feed 93 = .ok (.getfield 10, 3) := by decide +kernel
theorem dX11_feed_96 : decode cX11_feed 96 = .ok (.getfield 140, 3) := by decide +kernel
theorem dX11_feed_99 : decode cX11_feed 99 = .ok (.ireturn, 1) := by decide +kernel
theorem dX11_text_0 : decode cX11_text 0 = .ok (.iload_n 1, 1) := by decide +kernel
theorem dX11_text_1 : decode cX11_text 1 = .ok (.iconst 1, 1) := by decide +kernel
theorem dX11_text_2 : decode cX11_text 2 = .ok (.invokestatic 93, 3) := by decide +kernel
theorem dX11_text_5 : decode cX11_text 5 = .ok (.ifCond .ne 9, 3) := by decide +kernel
theorem dX11_text_8 : decode cX11_text 8 = .ok (.aload_n 0, 1) := by decide +kernel
theorem dX11_text_9 : decode cX11_text 9 = .ok (.iconst 1, 1) := by decide +kernel
theorem dX11_text_10 : decode cX11_text 10 = .ok (.invokevirtual 86, 3) := by decide +kernel
theorem dX11_text_13 : decode cX11_text 13 = .ok (.ireturn, 1) := by decide +kernel
theorem dX11_text_14 : decode cX11_text 14 = .ok (.aload_n 0, 1) := by decide +kernel
theorem dX11_text_15 : decode cX11_text 15 = .ok (.getfield 55, 3) := by decide +kernel
theorem dX11_text_18 : decode cX11_text 18 = .ok (.aload_n 0, 1) := by decide +kernel
theorem dX11_text_19 : decode cX11_text 19 = .ok (.getfield 10, 3) := by decide +kernel
theorem dX11_text_22 : decode cX11_text 22 = .ok (.getfield 143, 3) := by decide +kernel
theorem dX11_text_25 : decode cX11_text 25 = .ok (.aload_n 0, 1) := by decide +kernel
theorem dX11_text_26 : decode cX11_text 26 = .ok (.getfield 10, 3) := by decide +kernel
theorem dX11_text_29 : decode cX11_text 29 = .ok (.getfield 140, 3) := by decide +kernel
theorem dX11_text_32 : decode cX11_text 32 = .ok (.iload_n 1, 1) := by decide +kernel
theorem dX11_text_33 : decode cX11_text 33 = .ok (.ifCond .ne 8, 3) := by decide +kernel
theorem dX11_text_36 : decode cX11_text 36 = .ok (.ldc 146, 2) := by decide +kernel
theorem dX11_text_38 : decode cX11_text 38 = .ok (.goto 5, 3) := by decide +kernel
theorem dX11_text_41 : decode cX11_text 41 = .ok (.ldc 148, 2) := by decide +kernel
theorem dX11_text_43 : decode cX11_text 43 = .ok (.invokevirtual 150, 3) := by decide +kernel
theorem dX11_text_46 : decode cX11_text 46 = .ok (.istore_n 2, 1) := by decide +kernel
theorem dX11_text_47 : decode cX11_text 47 = .ok (.aload_n 0, 1) := by decide +kernel
theorem dX11_text_48 : decode cX11_text 48 = .ok (.getfield 10, 3) := by decide +kernel
theorem dX11_text_51 : decode cX11_text 51 = .ok (.iconst 0, 1) := by decide +kernel
theorem dX11_text_52 : decode cX11_text 52 = .ok (.putfield 140, 3) := by decide +kernel
theorem dX11_text_55 : decode cX11_text 55 = .ok (.iload_n 2, 1) := by decide +kernel
theorem dX11_text_56 : decode cX11_text 56 = .ok (.ifCond .ne 14, 3) := by decide +kernel
theorem dX11_text_59 : decode cX11_text 59 = .ok (.bipush (-10), 2) := by decide +kernel
theorem dX11_text_61 : decode cX11_text 61 = .ok (.aload_n 0, 1) := by decide +kernel
theorem dX11_text_62 : decode cX11_text 62 = .ok (.getfield 55, 3) := by decide +kernel
theorem dX11_text_65 : decode cX11_text 65 = .ok (.getfield 154, 3) := by decide +kernel
theorem dX11_text_68 : decode cX11_text 68 = .ok (.isub, 1) := by decide +kernel
theorem dX11_text_69 : decode cX11_text 69 = .ok (.ireturn, 1) := by decide +kernel
theorem dX11_text_70 : decode cX11_text 70 = .ok (.aload_n 0, 1) := by decide +kernel
theorem dX11_text_71 : decode cX11_text 71 = .ok (.getfield 10, 3) := by decide +kernel
theorem dX11_text_74 : decode cX11_text 74 = .ok (.getfield 157, 3) := by decide +kernel
theorem dX11_text_77 : decode cX11_text 77 = .ok (.iload_n 1, 1) := by decide +kernel
theorem dX11_text_78 : decode cX11_text 78 = .ok (.aaload, 1) := by decide +kernel
theorem dX11_text_79 : decode cX11_text 79 = .ok (.aload_n 0, 1) := by decide +kernel
theorem dX11_text_80 : decode cX11_text 80 = .ok (.getfield 55, 3) := by decide +kernel
theorem dX11_text_83 : decode cX11_text 83 = .ok (.getfield 161, 3) := by decide +kernel
theorem dX11_text_86 : decode cX11_text 86 = .ok (.invokevirtual 165, 3) := by decide +kernel
theorem dX11_text_89 : decode cX11_text 89 = .ok (.iconst 1, 1) := by decide +kernel
theorem dX11_text_90 : decode cX11_text 90 = .ok (.ireturn, 1) := by decide +kernel
theorem dX11_law_0 : decode cX11_law 0 = .ok (.iload_n 1, 1) := by decide +kernel
theorem dX11_law_1 : decode cX11_law 1 = .ok (.iconst 1, 1) := by decide +kernel
theorem dX11_law_2 : decode cX11_law 2 = .ok (.invokestatic 93, 3) := by decide +kernel
theorem dX11_law_5 : decode cX11_law 5 = .ok (.ifCond .eq 15, 3) := by decide +kernel
theorem dX11_law_8 : decode cX11_law 8 = .ok (.aload_n 0, 1) := by decide +kernel
theorem dX11_law_9 : decode cX11_law 9 = .ok (.iload_n 1, 1) := by decide +kernel
theorem dX11_law_10 : decode cX11_law 10 = .ok (.iload_n 2, 1) := by decide +kernel
theorem dX11_law_11 : decode cX11_law 11 = .ok (.iload_n 3, 1) := by decide +kernel
theorem dX11_law_12 : decode cX11_law 12 = .ok (.iload 4, 2) := by decide +kernel
theorem dX11_law_14 : decode cX11_law 14 = .ok (.invokevirtual 129, 3) := by decide +kernel
theorem dX11_law_17 : decode cX11_law 17 = .ok (.goto 8, 3) := by decide +kernel
theorem dX11_law_20 : decode cX11_law 20 = .ok (.aload_n 0, 1) := by decide +kernel
theorem dX11_law_21 : decode cX11_law 21 = .ok (.iconst 1, 1) := by decide +kernel
theorem dX11_law_22 : decode cX11_law 22 = .ok (.invokevirtual 86, 3) := by decide +kernel
theorem dX11_law_25 : decode cX11_law 25 = .ok (.ireturn, 1) := by decide +kernel
theorem dX11_gives_0 : decode cX11_gives 0 = .ok (.aload_n 0, 1) := by decide +kernel
theorem dX11_gives_1 : decode cX11_gives 1 = .ok (.getfield 10, 3) := by decide +kernel
theorem dX11_gives_4 : decode cX11_gives 4 = .ok (.getfield 157, 3) := by decide +kernel
theorem dX11_gives_7 : decode cX11_gives 7 = .ok (.iload_n 1, 1) := by decide +kernel
theorem dX11_gives_8 : decode cX11_gives 8 = .ok (.aaload, 1) := by decide +kernel
theorem dX11_gives_9 : decode cX11_gives 9 = .ok (.astore 5, 2) := by decide +kernel
theorem dX11_gives_11 : decode cX11_gives 11 = .ok (.aload 5, 2) := by decide +kernel
theorem dX11_gives_13 : decode cX11_gives 13 = .ok (.getfield 171, 3) := by decide +kernel
theorem dX11_gives_16 : decode cX11_gives 16 = .ok (.ifCond .le 19, 3) := by decide +kernel
theorem dX11_gives_19 : decode cX11_gives 19 = .ok (.aload 5, 2) := by decide +kernel
theorem dX11_gives_21 : decode cX11_gives 21 = .ok (.aload_n 0, 1) := by decide +kernel
theorem dX11_gives_22 : decode cX11_gives 22 = .ok (.getfield 59, 3) := by decide +kernel
theorem dX11_gives_25 : decode cX11_gives 25 = .ok (.iload_n 2, 1) := by decide +kernel
theorem dX11_gives_26 : decode cX11_gives 26 = .ok (.iload_n 3, 1) := by decide +kernel
theorem dX11_gives_27 : decode cX11_gives 27 = .ok (.iload 4, 2) := by decide +kernel
theorem dX11_gives_29 : decode cX11_gives 29 = .ok (.invokevirtual 174, 3) := by decide +kernel
theorem dX11_gives_32 : decode cX11_gives 32 = .ok (.goto 8, 3) := by decide +kernel
theorem dX11_gives_35 : decode cX11_gives 35 = .ok (.iload_n 1, 1) := by decide +kernel
theorem dX11_gives_36 : decode cX11_gives 36 = .ok (.iload_n 2, 1) := by decide +kernel
theorem dX11_gives_37 : decode cX11_gives 37 = .ok (.invokestatic 178, 3) := by decide +kernel
theorem dX11_gives_40 : decode cX11_gives 40 = .ok (.istore 6, 2) := by decide +kernel
theorem dX11_gives_42 : decode cX11_gives 42 = .ok (.iconst 0, 1) := by decide +kernel
theorem dX11_gives_43 : decode cX11_gives 43 = .ok (.iload 6, 2) := by decide +kernel
theorem dX11_gives_45 : decode cX11_gives 45 = .ok (.iload_n 1, 1) := by decide +kernel
theorem dX11_gives_46 : decode cX11_gives 46 = .ok (.ifCond .ne 9, 3) := by decide +kernel
theorem dX11_gives_49 : decode cX11_gives 49 = .ok (.sipush 300, 3) := by decide +kernel
theorem dX11_gives_52 : decode cX11_gives 52 = .ok (.goto 4, 3) := by decide +kernel
theorem dX11_gives_55 : decode cX11_gives 55 = .ok (.iconst 1, 1) := by decide +kernel
theorem dX11_gives_56 : decode cX11_gives 56 = .ok (.invokestatic 181, 3) := by decide +kernel
theorem dX11_gives_59 : decode cX11_gives 59 = .ok (.invokestatic 186, 3) := by decide +kernel
theorem dX11_gives_62 : decode cX11_gives 62 = .ok (.ireturn, 1) := by decide +kernel
theorem dX11_withoutText_0 : decode cX11_withoutText 0 = .ok (.iload_n 0, 1) := by decide +kernel
theorem dX11_withoutText_1 : decode cX11_withoutText 1 = .ok (.ifCond .ne 7, 3) := by decide +kernel
theorem dX11_withoutText_4 : decode cX11_withoutText 4 = .ok (.iconst 3, 1) := by decide +kernel
theorem dX11_withoutText_5 : decode cX11_withoutText 5 = .ok (.iload_n 1, 1) := by decide +kernel
theorem dX11_withoutText_6 : decode cX11_withoutText 6 = .ok (.iadd, 1) := by decide +kernel
theorem dX11_withoutText_7 : decode cX11_withoutText 7 = .ok (.ireturn, 1) := by decide +kernel
theorem dX11_withoutText_8 : decode cX11_withoutText 8 = .ok (.iload_n 1, 1) := by decide +kernel
theorem dX11_withoutText_9 : decode cX11_withoutText 9 = .ok (.bipush 60, 2) := by decide +kernel
theorem dX11_withoutText_11 : decode cX11_withoutText 11 = .ok (.if_icmp .le 7, 3) := by decide +kernel
theorem dX11_withoutText_14 : decode cX11_withoutText 14 = .ok (.iconst 1, 1) := by decide +kernel
theorem dX11_withoutText_15 : decode cX11_withoutText 15 = .ok (.goto 4, 3) := by decide +kernel
theorem dX11_withoutText_18 : decode cX11_withoutText 18 = .ok (.iconst 0, 1) := by decide +kernel
theorem dX11_withoutText_19 : decode cX11_withoutText 19 = .ok (.ireturn, 1) := by decide +kernel
theorem dX11_ask_0 : decode cX11_ask 0 = .ok (.aload_n 0, 1) := by decide +kernel
theorem dX11_ask_1 : decode cX11_ask 1 = .ok (.iload_n 1, 1) := by decide +kernel
theorem dX11_ask_2 : decode cX11_ask 2 = .ok (.invokevirtual 189, 3) := by decide +kernel
theorem dX11_ask_5 : decode cX11_ask 5 = .ok (.istore_n 2, 1) := by decide +kernel
theorem dX11_ask_6 : decode cX11_ask 6 = .ok (.iload_n 2, 1) := by decide +kernel
theorem dX11_ask_7 : decode cX11_ask 7 = .ok (.ifCond .eq 9, 3) := by decide +kernel
theorem dX11_ask_10 : decode cX11_ask 10 = .ok (.aload_n 0, 1) := by decide +kernel
theorem dX11_ask_11 : decode cX11_ask 11 = .ok (.iload_n 2, 1) := by decide +kernel
theorem dX11_ask_12 : decode cX11_ask 12 = .ok (.invokevirtual 86, 3) := by decide +kernel
theorem dX11_ask_15 : decode cX11_ask 15 = .ok (.ireturn, 1) := by decide +kernel
theorem dX11_ask_16 : decode cX11_ask 16 = .ok (.aload_n 0, 1) := by decide +kernel
theorem dX11_ask_17 : decode cX11_ask 17 = .ok (.iload_n 1, 1) := by decide +kernel
theorem dX11_ask_18 : decode cX11_ask 18 = .ok (.invokevirtual 192, 3) := by decide +kernel
theorem dX11_ask_21 : decode cX11_ask 21 = .ok (.ireturn, 1) := by decide +kernel
theorem dX11_ofCode_0 : decode cX11_ofCode 0 = .ok (.iload_n 1, 1) := by decide +kernel
theorem dX11_ofCode_1 : decode cX11_ofCode 1 = .ok (.ifCond .lt 23, 3) := by decide +kernel
theorem dX11_ofCode_4 : decode cX11_ofCode 4 = .ok (.iload_n 1, 1) := by decide +kernel
theorem dX11_ofCode_5 : decode cX11_ofCode 5 = .ok (.aload_n 0, 1) := by decide +kernel
theorem dX11_ofCode_6 : decode cX11_ofCode 6 = .ok (.getfield 10, 3) := by decide +kernel
theorem dX11_ofCode_9 : decode cX11_ofCode 9 = .ok (.getfield 195, 3) := by decide +kernel
theorem dX11_ofCode_12 : decode cX11_ofCode 12 = .ok (.if_icmp .ge 12, 3) := by decide +kernel
theorem dX11_ofCode_15 : decode cX11_ofCode 15 = .ok (.iload_n 2, 1) := by decide +kernel
theorem dX11_ofCode_16 : decode cX11_ofCode 16 = .ok (.bipush 6, 2) := by decide +kernel
theorem dX11_ofCode_18 : decode cX11_ofCode 18 = .ok (.invokestatic 93, 3) := by decide +kernel
theorem dX11_ofCode_21 : decode cX11_ofCode 21 = .ok (.ifCond .ne 9, 3) := by decide +kernel
theorem dX11_ofCode_24 : decode cX11_ofCode 24 = .ok (.aload_n 0, 1) := by decide +kernel
theorem dX11_ofCode_25 : decode cX11_ofCode 25 = .ok (.iconst 1, 1) := by decide +kernel
theorem dX11_ofCode_26 : decode cX11_ofCode 26 = .ok (.invokevirtual 86, 3) := by decide +kernel
theorem dX11_ofCode_29 : decode cX11_ofCode 29 = .ok (.ireturn, 1) := by decide +kernel
theorem dX11_ofCode_30 : decode cX11_ofCode 30 = .ok (.iload_n 2, 1) := by decide +kernel
theorem dX11_ofCode_31 : decode cX11_ofCode 31 = .ok (.bipush 6, 2) := by decide +kernel
theorem dX11_ofCode_33 : decode cX11_ofCode 33 = .ok (.if_icmp .ne 17, 3) := by decide +kernel
theorem dX11_ofCode_36 : decode cX11_ofCode 36 = .ok (.aload_n 0, 1) := by decide +kernel
theorem dX11_ofCode_37 : decode cX11_ofCode 37 = .ok (.iload_n 1, 1) := by decide +kernel
theorem dX11_ofCode_38 : decode cX11_ofCode 38 = .ok (.invokevirtual 198, 3) := by decide +kernel
theorem dX11_ofCode_41 : decode cX11_ofCode 41 = .ok (.ifCond .eq 7, 3) := by decide +kernel
theorem dX11_ofCode_44 : decode cX11_ofCode 44 = .ok (.iconst 1, 1) := by decide +kernel
theorem dX11_ofCode_45 : decode cX11_ofCode 45 = .ok (.goto 4, 3) := by decide +kernel
theorem dX11_ofCode_48 : decode cX11_ofCode 48 = .ok (.iconst 0, 1) := by decide +kernel
theorem dX11_ofCode_49 : decode cX11_ofCode 49 = .ok (.ireturn, 1) := by decide +kernel
theorem dX11_ofCode_50 : decode cX11_ofCode 50 = .ok (.aload_n 0, 1) := by decide +kernel
theorem dX11_ofCode_51 : decode cX11_ofCode 51 = .ok (.getfield 10, 3) := by decide +kernel
theorem dX11_ofCode_54 : decode cX11_ofCode 54 = .ok (.getfield 201, 3) := by decide +kernel
theorem dX11_ofCode_57 : decode cX11_ofCode 57 = .ok (.iload_n 1, 1) := by decide +kernel
theorem dX11_ofCode_58 : decode cX11_ofCode 58 = .ok (.aaload, 1) := by decide +kernel
theorem dX11_ofCode_59 : decode cX11_ofCode 59 = .ok (.iload_n 2, 1) := by decide +kernel
theorem dX11_ofCode_60 : decode cX11_ofCode 60 = .ok (.iaload, 1) := by decide +kernel
theorem dX11_ofCode_61 : decode cX11_ofCode 61 = .ok (.ireturn, 1) := by decide +kernel
theorem dX11_enter_0 : decode cX11_enter 0 = .ok (.iload_n 1, 1) := by decide +kernel
theorem dX11_enter_1 : decode cX11_enter 1 = .ok (.ldc 204, 2) := by decide +kernel
theorem dX11_enter_3 : decode cX11_enter 3 = .ok (.invokestatic 93, 3) := by decide +kernel
theorem dX11_enter_6 : decode cX11_enter 6 = .ok (.ifCond .ne 9, 3) := by decide +kernel
theorem dX11_enter_9 : decode cX11_enter 9 = .ok (.aload_n 0, 1) := by decide +kernel
theorem dX11_enter_10 : decode cX11_enter 10 = .ok (.iconst 1, 1) := by decide +kernel
theorem dX11_enter_11 : decode cX11_enter 11 = .ok (.invokevirtual 86, 3) := by decide +kernel
theorem dX11_enter_14 : decode cX11_enter 14 = .ok (.ireturn, 1) := by decide +kernel
theorem dX11_enter_15 : decode cX11_enter 15 = .ok (.aload_n 0, 1) := by decide +kernel
theorem dX11_enter_16 : decode cX11_enter 16 = .ok (.getfield 10, 3) := by decide +kernel
theorem dX11_enter_19 : decode cX11_enter 19 = .ok (.getfield 110, 3) := by decide +kernel
theorem dX11_enter_22 : decode cX11_enter 22 = .ok (.aload_n 0, 1) := by decide +kernel
theorem dX11_enter_23 : decode cX11_enter 23 = .ok (.getfield 10, 3) := by decide +kernel
theorem dX11_enter_26 : decode cX11_enter 26 = .ok (.getfield 205, 3) := by decide +kernel
theorem dX11_enter_29 : decode cX11_enter 29 = .ok (.if_icmp .lt 17, 3) := by decide +kernel
theorem dX11_enter_32 : decode cX11_enter 32 = .ok (.aload_n 0, 1) := by decide +kernel
theorem dX11_enter_33 : decode cX11_enter 33 = .ok (.getfield 10, 3) := by decide +kernel
theorem dX11_enter_36 : decode cX11_enter 36 = .ok (.getfield 110, 3) := by decide +kernel
theorem dX11_enter_39 : decode cX11_enter 39 = .ok (.iconst 2, 1) := by decide +kernel
theorem dX11_enter_40 : decode cX11_enter 40 = .ok (.iadd, 1) := by decide +kernel
theorem dX11_enter_41 : decode cX11_enter 41 = .ok (.ldc 204, 2) := by decide +kernel
theorem dX11_enter_43 : decode cX11_enter 43 = .ok (.if_icmp .le 9, 3) := by decide +kernel
theorem dX11_enter_46 : decode cX11_enter 46 = .ok (.aload_n 0, 1) := by decide +kernel
theorem dX11_enter_47 : decode cX11_enter 47 = .ok (.iconst 3, 1) := by decide +kernel
theorem dX11_enter_48 : decode cX11_enter 48 = .ok (.invokevirtual 86, 3) := by decide +kernel
theorem dX11_enter_51 : decode cX11_enter 51 = .ok (.ireturn, 1) := by decide +kernel
theorem dX11_enter_52 : decode cX11_enter 52 = .ok (.aload_n 0, 1) := by decide +kernel
theorem dX11_enter_53 : decode cX11_enter 53 = .ok (.getfield 10, 3) := by decide +kernel
theorem dX11_enter_56 : decode cX11_enter 56 = .ok (.dup, 1) := by decide +kernel
theorem dX11_enter_57 : decode cX11_enter 57 = .ok (.getfield 110, 3) := by decide +kernel
theorem dX11_enter_60 : decode cX11_enter 60 = .ok (.iconst 2, 1) := by decide +kernel
theorem dX11_enter_61 : decode cX11_enter 61 = .ok (.iadd, 1) := by decide +kernel
theorem dX11_enter_62 : decode cX11_enter 62 = .ok (.putfield 110, 3) := by decide +kernel
theorem dX11_enter_65 : decode cX11_enter 65 = .ok (.aload_n 0, 1) := by decide +kernel
theorem dX11_enter_66 : decode cX11_enter 66 = .ok (.iload_n 1, 1) := by decide +kernel
theorem dX11_enter_67 : decode cX11_enter 67 = .ok (.invokevirtual 208, 3) := by decide +kernel
theorem dX11_enter_70 : decode cX11_enter 70 = .ok (.istore_n 2, 1) := by decide +kernel
theorem dX11_enter_71 : decode cX11_enter 71 = .ok (.iload_n 2, 1) := by decide +kernel
theorem dX11_enter_72 : decode cX11_enter 72 = .ok (.ifCond .lt 38, 3) := by decide +kernel
theorem dX11_enter_75 : decode cX11_enter 75 = .ok (.aload_n 0, 1) := by decide +kernel
theorem dX11_enter_76 : decode cX11_enter 76 = .ok (.getfield 10, 3) := by decide +kernel
theorem dX11_enter_79 : decode cX11_enter 79 = .ok (.getfield 201, 3) := by decide +kernel
theorem dX11_enter_82 : decode cX11_enter 82 = .ok (.iload_n 2, 1) := by decide +kernel
theorem dX11_enter_83 : decode cX11_enter 83 = .ok (.aaload, 1) := by decide +kernel
theorem dX11_enter_84 : decode cX11_enter 84 = .ok (.iconst 5, 1) := by decide +kernel
theorem dX11_enter_85 : decode cX11_enter 85 = .ok (.iconst 1, 1) := by decide +kernel
theorem dX11_enter_86 : decode cX11_enter 86 = .ok (.iastore, 1) := by decide +kernel
theorem dX11_enter_87 : decode cX11_enter 87 = .ok (.aload_n 0, 1) := by decide +kernel
theorem dX11_enter_88 : decode cX11_enter 88 = .ok (.getfield 10, 3) := by decide +kernel
theorem dX11_enter_91 : decode cX11_enter 91 = .ok (.dup, 1) := by decide +kernel
theorem dX11_enter_92 : decode cX11_enter 92 = .ok (.getfield 211, 3) := by decide +kernel
theorem dX11_enter_95 : decode cX11_enter 95 = .ok (.iconst 1, 1) := by decide +kernel
theorem dX11_enter_96 : decode cX11_enter 96 = .ok (.iadd, 1) := by decide +kernel
theorem dX11_enter_97 : decode cX11_enter 97 = .ok (.putfield 211, 3) := by decide +kernel
theorem dX11_enter_100 : decode cX11_enter 100 = .ok (.aload_n 0, 1) := by decide +kernel
theorem dX11_enter_101 : decode cX11_enter 101 = .ok (.getfield 10, 3) := by decide +kernel
theorem dX11_enter_104 : decode cX11_enter 104 = .ok (.iconst 0, 1) := by decide +kernel
theorem dX11_enter_105 : decode cX11_enter 105 = .ok (.putfield 214, 3) := by decide +kernel
theorem dX11_enter_108 : decode cX11_enter 108 = .ok (.iconst 1, 1) := by decide +kernel
theorem dX11_enter_109 : decode cX11_enter 109 = .ok (.ireturn, 1) := by decide +kernel
theorem dX11_enter_110 : decode cX11_enter 110 = .ok (.aload_n 0, 1) := by decide +kernel
theorem dX11_enter_111 : decode cX11_enter 111 = .ok (.getfield 10, 3) := by decide +kernel
theorem dX11_enter_114 : decode cX11_enter 114 = .ok (.dup, 1) := by decide +kernel
theorem dX11_enter_115 : decode cX11_enter 115 = .ok (.getfield 214, 3) := by decide +kernel
theorem dX11_enter_118 : decode cX11_enter 118 = .ok (.iconst 1, 1) := by decide +kernel
theorem dX11_enter_119 : decode cX11_enter 119 = .ok (.iadd, 1) := by decide +kernel
theorem dX11_enter_120 : decode cX11_enter 120 = .ok (.putfield 214, 3) := by decide +kernel
theorem dX11_enter_123 : decode cX11_enter 123 = .ok (.aload_n 0, 1) := by decide +kernel
theorem dX11_enter_124 : decode cX11_enter 124 = .ok (.getfield 10, 3) := by decide +kernel
theorem dX11_enter_127 : decode cX11_enter 127 = .ok (.getfield 214, 3) := by decide +kernel
theorem dX11_enter_130 : decode cX11_enter 130 = .ok (.aload_n 0, 1) := by decide +kernel
theorem dX11_enter_131 : decode cX11_enter 131 = .ok (.getfield 10, 3) := by decide +kernel
theorem dX11_enter_134 : decode cX11_enter 134 = .ok (.getfield 90, 3) := by decide +kernel
theorem dX11_enter_137 : decode cX11_enter 137 = .ok (.iconst 2, 1) := by decide +kernel
theorem dX11_enter_138 : decode cX11_enter 138 = .ok (.iaload, 1) := by decide +kernel
theorem dX11_enter_139 : decode cX11_enter 139 = .ok (.if_icmp .lt 35, 3) := by decide +kernel
theorem dX11_enter_142 : decode cX11_enter 142 = .ok (.aload_n 0, 1) := by decide +kernel
theorem dX11_enter_143 : decode cX11_enter 143 = .ok (.getfield 10, 3) := by decide +kernel
theorem dX11_enter_146 : decode cX11_enter 146 = .ok (.aload_n 0, 1) := by decide +kernel
theorem dX11_enter_147 : decode cX11_enter 147 = .ok (.getfield 10, 3) := by decide +kernel
theorem dX11_enter_150 : decode cX11_enter 150 = .ok (.getfield 110, 3) := by decide +kernel
theorem dX11_enter_153 : decode cX11_enter 153 = .ok (.aload_n 0, 1) := by decide +kernel
theorem dX11_enter_154 : decode cX11_enter 154 = .ok (.getfield 10, 3) := by decide +kernel
theorem dX11_enter_157 : decode cX11_enter 157 = .ok (.getfield 90, 3) := by decide +kernel
theorem dX11_enter_160 : decode cX11_enter 160 = .ok (.iconst 3, 1) := by decide +kernel
theorem dX11_enter_161 : decode cX11_enter 161 = .ok (.iaload, 1) := by decide +kernel
theorem dX11_enter_162 : decode cX11_enter 162 = .ok (.iadd, 1) := by decide +kernel
theorem dX11_enter_163 : decode cX11_enter 163 = .ok (.putfield 205, 3) := by decide +kernel
theorem dX11_enter_166 : decode cX11_enter 166 = .ok (.aload_n 0, 1) := by decide +kernel
theorem dX11_enter_167 : decode cX11_enter 167 = .ok (.getfield 10, 3) := by decide +kernel
theorem dX11_enter_170 : decode cX11_enter 170 = .ok (.iconst 0, 1) := by decide +kernel
theorem dX11_enter_171 : decode cX11_enter 171 = .ok (.putfield 214, 3) := by decide +kernel
theorem dX11_enter_174 : decode cX11_enter 174 = .ok (.iconst 0, 1) := by decide +kernel
theorem dX11_enter_175 : decode cX11_enter 175 = .ok (.ireturn, 1) := by decide +kernel
theorem dX11_pass_0 : decode cX11_pass 0 = .ok (.iload_n 1, 1) := by decide +kernel
theorem dX11_pass_1 : decode cX11_pass 1 = .ok (.iconst 1, 1) := by decide +kernel
theorem dX11_pass_2 : decode cX11_pass 2 = .ok (.if_icmp .lt 10, 3) := by decide +kernel
theorem dX11_pass_5 : decode cX11_pass 5 = .ok (.iload_n 1, 1) := by decide +kernel
theorem dX11_pass_6 : decode cX11_pass 6 = .ok (.sipush 9999, 3) := by decide +kernel
theorem dX11_pass_9 : decode cX11_pass 9 = .ok (.if_icmp .le 9, 3) := by decide +kernel
theorem dX11_pass_12 : decode cX11_pass 12 = .ok (.aload_n 0, 1) := by decide +kernel
theorem dX11_pass_13 : decode cX11_pass 13 = .ok (.iconst 1, 1) := by decide +kernel
theorem dX11_pass_14 : decode cX11_pass 14 = .ok (.invokevirtual 86, 3) := by decide +kernel
theorem dX11_pass_17 : decode cX11_pass 17 = .ok (.ireturn, 1) := by decide +kernel
theorem dX11_pass_18 : decode cX11_pass 18 = .ok (.aload_n 0, 1) := by decide +kernel
theorem dX11_pass_19 : decode cX11_pass 19 = .ok (.getfield 10, 3) := by decide +kernel
theorem dX11_pass_22 : decode cX11_pass 22 = .ok (.getfield 110, 3) := by decide +kernel
theorem dX11_pass_25 : decode cX11_pass 25 = .ok (.iload_n 1, 1) := by decide +kernel
theorem dX11_pass_26 : decode cX11_pass 26 = .ok (.iadd, 1) := by decide +kernel
theorem dX11_pass_27 : decode cX11_pass 27 = .ok (.ldc 204, 2) := by decide +kernel
theorem dX11_pass_29 : decode cX11_pass 29 = .ok (.if_icmp .le 9, 3) := by decide +kernel
theorem dX11_pass_32 : decode cX11_pass 32 = .ok (.aload_n 0, 1) := by decide +kernel
theorem dX11_pass_33 : decode cX11_pass 33 = .ok (.iconst 3, 1) := by decide +kernel
theorem dX11_pass_34 : decode cX11_pass 34 = .ok (.invokevirtual 86, 3) := by decide +kernel
theorem dX11_pass_37 : decode cX11_pass 37 = .ok (.ireturn, 1) := by decide +kernel
theorem dX11_pass_38 : decode cX11_pass 38 = .ok (.aload_n 0, 1) := by decide +kernel
theorem dX11_pass_39 : decode cX11_pass 39 = .ok (.getfield 10, 3) := by decide +kernel
theorem dX11_pass_42 : decode cX11_pass 42 = .ok (.dup, 1) := by decide +kernel
theorem dX11_pass_43 : decode cX11_pass 43 = .ok (.getfield 110, 3) := by decide +kernel
theorem dX11_pass_46 : decode cX11_pass 46 = .ok (.iload_n 1, 1) := by decide +kernel
theorem dX11_pass_47 : decode cX11_pass 47 = .ok (.iadd, 1) := by decide +kernel
theorem dX11_pass_48 : decode cX11_pass 48 = .ok (.putfield 110, 3) := by decide +kernel
theorem dX11_pass_51 : decode cX11_pass 51 = .ok (.aload_n 0, 1) := by decide +kernel
theorem dX11_pass_52 : decode cX11_pass 52 = .ok (.getfield 10, 3) := by decide +kernel
theorem dX11_pass_55 : decode cX11_pass 55 = .ok (.getfield 110, 3) := by decide +kernel
theorem dX11_pass_58 : decode cX11_pass 58 = .ok (.ireturn, 1) := by decide +kernel
theorem dX11_loose_0 : decode cX11_loose 0 = .ok (.iload_n 1, 1) := by decide +kernel
theorem dX11_loose_1 : decode cX11_loose 1 = .ok (.iconst 1, 1) := by decide +kernel
theorem dX11_loose_2 : decode cX11_loose 2 = .ok (.if_icmp .lt 9, 3) := by decide +kernel
theorem dX11_loose_5 : decode cX11_loose 5 = .ok (.iload_n 1, 1) := by decide +kernel
theorem dX11_loose_6 : decode cX11_loose 6 = .ok (.bipush 60, 2) := by decide +kernel
theorem dX11_loose_8 : decode cX11_loose 8 = .ok (.if_icmp .le 9, 3) := by decide +kernel
theorem dX11_loose_11 : decode cX11_loose 11 = .ok (.aload_n 0, 1) := by decide +kernel
theorem dX11_loose_12 : decode cX11_loose 12 = .ok (.iconst 1, 1) := by decide +kernel
theorem dX11_loose_13 : decode cX11_loose 13 = .ok (.invokevirtual 86, 3) := by decide +kernel
theorem dX11_loose_16 : decode cX11_loose 16 = .ok (.ireturn, 1) := by decide +kernel
theorem dX11_loose_17 : decode cX11_loose 17 = .ok (.aload_n 0, 1) := by decide +kernel
theorem dX11_loose_18 : decode cX11_loose 18 = .ok (.getfield 10, 3) := by decide +kernel
theorem dX11_loose_21 : decode cX11_loose 21 = .ok (.getfield 110, 3) := by decide +kernel
theorem dX11_loose_24 : decode cX11_loose 24 = .ok (.iload_n 1, 1) := by decide +kernel
theorem dX11_loose_25 : decode cX11_loose 25 = .ok (.iadd, 1) := by decide +kernel
theorem dX11_loose_26 : decode cX11_loose 26 = .ok (.ldc 204, 2) := by decide +kernel
theorem dX11_loose_28 : decode cX11_loose 28 = .ok (.if_icmp .le 9, 3) := by decide +kernel
theorem dX11_loose_31 : decode cX11_loose 31 = .ok (.aload_n 0, 1) := by decide +kernel
theorem dX11_loose_32 : decode cX11_loose 32 = .ok (.iconst 3, 1) := by decide +kernel
theorem dX11_loose_33 : decode cX11_loose 33 = .ok (.invokevirtual 86, 3) := by decide +kernel
theorem dX11_loose_36 : decode cX11_loose 36 = .ok (.ireturn, 1) := by decide +kernel
theorem dX11_loose_37 : decode cX11_loose 37 = .ok (.iconst 0, 1) := by decide +kernel
theorem dX11_loose_38 : decode cX11_loose 38 = .ok (.istore_n 2, 1) := by decide +kernel
theorem dX11_loose_39 : decode cX11_loose 39 = .ok (.iconst 0, 1) := by decide +kernel
theorem dX11_loose_40 : decode cX11_loose 40 = .ok (.istore_n 3, 1) := by decide +kernel
theorem dX11_loose_41 : decode cX11_loose 41 = .ok (.iload_n 3, 1) := by decide +kernel
theorem dX11_loose_42 : decode cX11_loose 42 = .ok (.iload_n 1, 1) := by decide +kernel
theorem dX11_loose_43 : decode cX11_loose 43 = .ok (.if_icmp .ge 32, 3) := by decide +kernel
theorem dX11_loose_46 : decode cX11_loose 46 = .ok (.aload_n 0, 1) := by decide +kernel
theorem dX11_loose_47 : decode cX11_loose 47 = .ok (.invokevirtual 217, 3) := by decide +kernel
theorem dX11_loose_50 : decode cX11_loose 50 = .ok (.ifCond .eq 6, 3) := by decide +kernel
theorem dX11_loose_53 : decode cX11_loose 53 = .ok (.iinc 2 1, 3) := by decide +kernel
theorem dX11_loose_56 : decode cX11_loose 56 = .ok (.aload_n 0, 1) := by decide +kernel
theorem dX11_loose_57 : decode cX11_loose 57 = .ok (.getfield 10, 3) := by decide +kernel
theorem dX11_loose_60 : decode cX11_loose 60 = .ok (.dup, 1) := by decide +kernel
theorem dX11_loose_61 : decode cX11_loose 61 = .ok (.getfield 110, 3) := by decide +kernel
theorem dX11_loose_64 : decode cX11_loose 64 = .ok (.iconst 1, 1) := by decide +kernel
theorem dX11_loose_65 : decode cX11_loose 65 = .ok (.iadd, 1) := by decide +kernel
theorem dX11_loose_66 : decode cX11_loose 66 = .ok (.putfield 110, 3) := by decide +kernel
theorem dX11_loose_69 : decode cX11_loose 69 = .ok (.iinc 3 1, 3) := by decide +kernel
theorem dX11_loose_72 : decode cX11_loose 72 = .ok (.goto (-31), 3) := by decide +kernel
theorem dX11_loose_75 : decode cX11_loose 75 = .ok (.iload_n 2, 1) := by decide +kernel
theorem dX11_loose_76 : decode cX11_loose 76 = .ok (.ireturn, 1) := by decide +kernel
theorem dX11_asksByDraws_0 : decode cX11_asksByDraws 0 = .ok (.aload_n 0, 1) := by decide +kernel
theorem dX11_asksByDraws_1 : decode cX11_asksByDraws 1 = .ok (.invokevirtual 221, 3) := by decide +kernel
theorem dX11_asksByDraws_4 : decode cX11_asksByDraws 4 = .ok (.istore_n 1, 1) := by decide +kernel
theorem dX11_asksByDraws_5 : decode cX11_asksByDraws 5 = .ok (.aload_n 0, 1) := by decide +kernel
theorem dX11_asksByDraws_6 : decode cX11_asksByDraws 6 = .ok (.getfield 10, 3) := by decide +kernel
theorem dX11_asksByDraws_9 : decode cX11_asksByDraws 9 = .ok (.getfield 101, 3) := by decide +kernel
theorem dX11_asksByDraws_12 : decode cX11_asksByDraws 12 = .ok (.ifCond .le 9, 3) := by decide +kernel
theorem dX11_asksByDraws_15 : decode cX11_asksByDraws 15 = .ok (.iload_n 1, 1) := by decide +kernel
theorem dX11_asksByDraws_16 : decode cX11_asksByDraws 16 = .ok (.iconst 4, 1) := by decide +kernel
theorem dX11_asksByDraws_17 : decode cX11_asksByDraws 17 = .ok (.irem, 1) := by decide +kernel
theorem dX11_asksByDraws_18 : decode cX11_asksByDraws 18 = .ok (.ifCond .eq 5, 3) := by decide +kernel
theorem dX11_asksByDraws_21 : decode cX11_asksByDraws 21 = .ok (.iconst 0, 1) := by decide +kernel
theorem dX11_asksByDraws_22 : decode cX11_asksByDraws 22 = .ok (.ireturn, 1) := by decide +kernel
theorem dX11_asksByDraws_23 : decode cX11_asksByDraws 23 = .ok (.aload_n 0, 1) := by decide +kernel
theorem dX11_asksByDraws_24 : decode cX11_asksByDraws 24 = .ok (.invokevirtual 221, 3) := by decide +kernel
theorem dX11_asksByDraws_27 : decode cX11_asksByDraws 27 = .ok (.aload_n 0, 1) := by decide +kernel
theorem dX11_asksByDraws_28 : decode cX11_asksByDraws 28 = .ok (.getfield 10, 3) := by decide +kernel
theorem dX11_asksByDraws_31 : decode cX11_asksByDraws 31 = .ok (.getfield 101, 3) := by decide +kernel
theorem dX11_asksByDraws_34 : decode cX11_asksByDraws 34 = .ok (.irem, 1) := by decide +kernel
theorem dX11_asksByDraws_35 : decode cX11_asksByDraws 35 = .ok (.istore_n 2, 1) := by decide +kernel
theorem dX11_asksByDraws_36 : decode cX11_asksByDraws 36 = .ok (.aload_n 0, 1) := by decide +kernel
theorem dX11_asksByDraws_37 : decode cX11_asksByDraws 37 = .ok (.iload_n 2, 1) := by decide +kernel
theorem dX11_asksByDraws_38 : decode cX11_asksByDraws 38 = .ok (.invokevirtual 225, 3) := by decide +kernel
theorem dX11_asksByDraws_41 : decode cX11_asksByDraws 41 = .ok (.ifCond .eq 5, 3) := by decide +kernel
theorem dX11_asksByDraws_44 : decode cX11_asksByDraws 44 = .ok (.iconst 0, 1) := by decide +kernel
theorem dX11_asksByDraws_45 : decode cX11_asksByDraws 45 = .ok (.ireturn, 1) := by decide +kernel
theorem dX11_asksByDraws_46 : decode cX11_asksByDraws 46 = .ok (.aload_n 0, 1) := by decide +kernel
theorem dX11_asksByDraws_47 : decode cX11_asksByDraws 47 = .ok (.iload_n 2, 1) := by decide +kernel
theorem dX11_asksByDraws_48 : decode cX11_asksByDraws 48 = .ok (.invokevirtual 192, 3) := by decide +kernel
theorem dX11_asksByDraws_51 : decode cX11_asksByDraws 51 = .ok (.pop, 1) := by decide +kernel
theorem dX11_asksByDraws_52 : decode cX11_asksByDraws 52 = .ok (.iconst 1, 1) := by decide +kernel
theorem dX11_asksByDraws_53 : decode cX11_asksByDraws 53 = .ok (.ireturn, 1) := by decide +kernel
theorem dX11_refusalOfAsking_0 : decode cX11_refusalOfAsking 0 = .ok (.aload_n 0, 1) := by decide +kernel
theorem dX11_refusalOfAsking_1 : decode cX11_refusalOfAsking 1 = .ok (.iload_n 1, 1) := by decide +kernel
theorem dX11_refusalOfAsking_2 : decode cX11_refusalOfAsking 2 = .ok (.invokevirtual 107, 3) := by decide +kernel
theorem dX11_refusalOfAsking_5 : decode cX11_refusalOfAsking 5 = .ok (.ifCond .ne 5, 3) := by decide +kernel
theorem dX11_refusalOfAsking_8 : decode cX11_refusalOfAsking 8 = .ok (.iconst 1, 1) := by decide +kernel
theorem dX11_refusalOfAsking_9 : decode cX11_refusalOfAsking 9 = .ok (.ireturn, 1) := by decide +kernel
theorem dX11_refusalOfAsking_10 : decode cX11_refusalOfAsking 10 = .ok (.aload_n 0, 1) := by decide +kernel
theorem dX11_refusalOfAsking_11 : decode cX11_refusalOfAsking 11 = .ok (.iload_n 1, 1) := by decide +kernel
theorem dX11_refusalOfAsking_12 : decode cX11_refusalOfAsking 12 = .ok (.invokevirtual 225, 3) := by decide +kernel
theorem dX11_refusalOfAsking_15 : decode cX11_refusalOfAsking 15 = .ok (.ifCond .eq 7, 3) := by decide +kernel
theorem dX11_refusalOfAsking_18 : decode cX11_refusalOfAsking 18 = .ok (.iconst 3, 1) := by decide +kernel
theorem dX11_refusalOfAsking_19 : decode cX11_refusalOfAsking 19 = .ok (.goto 4, 3) := by decide +kernel
theorem dX11_refusalOfAsking_22 : decode cX11_refusalOfAsking 22 = .ok (.iconst 0, 1) := by decide +kernel
theorem dX11_refusalOfAsking_23 : decode cX11_refusalOfAsking 23 = .ok (.ireturn, 1) := by decide +kernel
theorem dX11_draw_0 : decode cX11_draw 0 = .ok (.aload_n 0, 1) := by decide +kernel
theorem dX11_draw_1 : decode cX11_draw 1 = .ok (.getfield 10, 3) := by decide +kernel
theorem dX11_draw_4 : decode cX11_draw 4 = .ok (.aload_n 0, 1) := by decide +kernel
theorem dX11_draw_5 : decode cX11_draw 5 = .ok (.getfield 10, 3) := by decide +kernel
theorem dX11_draw_8 : decode cX11_draw 8 = .ok (.getfield 228, 3) := by decide +kernel
theorem dX11_draw_11 : decode cX11_draw 11 = .ok (.ldc 231, 2) := by decide +kernel
theorem dX11_draw_13 : decode cX11_draw 13 = .ok (.imul, 1) := by decide +kernel
theorem dX11_draw_14 : decode cX11_draw 14 = .ok (.sipush 12345, 3) := by decide +kernel
theorem dX11_draw_17 : decode cX11_draw 17 = .ok (.iadd, 1) := by decide +kernel
theorem dX11_draw_18 : decode cX11_draw 18 = .ok (.putfield 228, 3) := by decide +kernel
theorem dX11_draw_21 : decode cX11_draw 21 = .ok (.aload_n 0, 1) := by decide +kernel
theorem dX11_draw_22 : decode cX11_draw 22 = .ok (.getfield 10, 3) := by decide +kernel
theorem dX11_draw_25 : decode cX11_draw 25 = .ok (.getfield 228, 3) := by decide +kernel
theorem dX11_draw_28 : decode cX11_draw 28 = .ok (.bipush 8, 2) := by decide +kernel
theorem dX11_draw_30 : decode cX11_draw 30 = .ok (.iushr, 1) := by decide +kernel
theorem dX11_draw_31 : decode cX11_draw 31 = .ok (.ireturn, 1) := by decide +kernel
theorem dX11_send_0 : decode cX11_send 0 = .ok (.aload_n 0, 1) := by decide +kernel
theorem dX11_send_1 : decode cX11_send 1 = .ok (.getfield 10, 3) := by decide +kernel
theorem dX11_send_4 : decode cX11_send 4 = .ok (.invokevirtual 232, 3) := by decide +kernel
theorem dX11_send_7 : decode cX11_send 7 = .ok (.astore_n 2, 1) := by decide +kernel
theorem dX11_send_8 : decode cX11_send 8 = .ok (.aload_n 2, 1) := by decide +kernel
theorem dX11_send_9 : decode cX11_send 9 = .ok (.iconst 0, 1) := by decide +kernel
theorem dX11_send_10 : decode cX11_send 10 = .ok (.iload_n 1, 1) := by decide +kernel
theorem dX11_send_11 : decode cX11_send 11 = .ok (.iastore, 1) := by decide +kernel
theorem dX11_send_12 : decode cX11_send 12 = .ok (.aload_n 2, 1) := by decide +kernel
theorem dX11_send_13 : decode cX11_send 13 = .ok (.iconst 1, 1) := by decide +kernel
theorem dX11_send_14 : decode cX11_send 14 = .ok (.aload_n 0, 1) := by decide +kernel
theorem dX11_send_15 : decode cX11_send 15 = .ok (.invokevirtual 221, 3) := by decide +kernel
theorem dX11_send_18 : decode cX11_send 18 = .ok (.aload_n 0, 1) := by decide +kernel
theorem dX11_send_19 : decode cX11_send 19 = .ok (.getfield 10, 3) := by decide +kernel
theorem dX11_send_22 : decode cX11_send 22 = .ok (.getfield 90, 3) := by decide +kernel
theorem dX11_send_25 : decode cX11_send 25 = .ok (.iconst 0, 1) := by decide +kernel
theorem dX11_send_26 : decode cX11_send 26 = .ok (.iaload, 1) := by decide +kernel
theorem dX11_send_27 : decode cX11_send 27 = .ok (.invokestatic 236, 3) := by decide +kernel
theorem dX11_send_30 : decode cX11_send 30 = .ok (.irem, 1) := by decide +kernel
theorem dX11_send_31 : decode cX11_send 31 = .ok (.iastore, 1) := by decide +kernel
theorem dX11_send_32 : decode cX11_send 32 = .ok (.aload_n 2, 1) := by decide +kernel
theorem dX11_send_33 : decode cX11_send 33 = .ok (.iconst 2, 1) := by decide +kernel
theorem dX11_send_34 : decode cX11_send 34 = .ok (.aload_n 0, 1) := by decide +kernel
theorem dX11_send_35 : decode cX11_send 35 = .ok (.getfield 10, 3) := by decide +kernel
theorem dX11_send_38 : decode cX11_send 38 = .ok (.getfield 110, 3) := by decide +kernel
theorem dX11_send_41 : decode cX11_send 41 = .ok (.iastore, 1) := by decide +kernel
theorem dX11_send_42 : decode cX11_send 42 = .ok (.aload_n 2, 1) := by decide +kernel
theorem dX11_send_43 : decode cX11_send 43 = .ok (.iconst 3, 1) := by decide +kernel
theorem dX11_send_44 : decode cX11_send 44 = .ok (.aload_n 0, 1) := by decide +kernel
theorem dX11_send_45 : decode cX11_send 45 = .ok (.getfield 10, 3) := by decide +kernel
theorem dX11_send_48 : decode cX11_send 48 = .ok (.getfield 110, 3) := by decide +kernel
theorem dX11_send_51 : decode cX11_send 51 = .ok (.aload_n 0, 1) := by decide +kernel
theorem dX11_send_52 : decode cX11_send 52 = .ok (.iload_n 1, 1) := by decide +kernel
theorem dX11_send_53 : decode cX11_send 53 = .ok (.aload_n 0, 1) := by decide +kernel
theorem dX11_send_54 : decode cX11_send 54 = .ok (.getfield 10, 3) := by decide +kernel
theorem dX11_send_57 : decode cX11_send 57 = .ok (.getfield 110, 3) := by decide +kernel
theorem dX11_send_60 : decode cX11_send 60 = .ok (.invokevirtual 113, 3) := by decide +kernel
theorem dX11_send_63 : decode cX11_send 63 = .ok (.iadd, 1) := by decide +kernel
theorem dX11_send_64 : decode cX11_send 64 = .ok (.iastore, 1) := by decide +kernel
theorem dX11_send_65 : decode cX11_send 65 = .ok (.aload_n 2, 1) := by decide +kernel
theorem dX11_send_66 : decode cX11_send 66 = .ok (.iconst 4, 1) := by decide +kernel
theorem dX11_send_67 : decode cX11_send 67 = .ok (.aload_n 0, 1) := by decide +kernel
theorem dX11_send_68 : decode cX11_send 68 = .ok (.getfield 10, 3) := by decide +kernel
theorem dX11_send_71 : decode cX11_send 71 = .ok (.getfield 110, 3) := by decide +kernel
theorem dX11_send_74 : decode cX11_send 74 = .ok (.aload_n 0, 1) := by decide +kernel
theorem dX11_send_75 : decode cX11_send 75 = .ok (.iload_n 1, 1) := by decide +kernel
theorem dX11_send_76 : decode cX11_send 76 = .ok (.aload_n 0, 1) := by decide +kernel
theorem dX11_send_77 : decode cX11_send 77 = .ok (.getfield 10, 3) := by decide +kernel
theorem dX11_send_80 : decode cX11_send 80 = .ok (.getfield 90, 3) := by decide +kernel
theorem dX11_send_83 : decode cX11_send 83 = .ok (.iconst 1, 1) := by decide +kernel
theorem dX11_send_84 : decode cX11_send 84 = .ok (.iaload, 1) := by decide +kernel
theorem dX11_send_85 : decode cX11_send 85 = .ok (.invokevirtual 117, 3) := by decide +kernel
theorem dX11_send_88 : decode cX11_send 88 = .ok (.iadd, 1) := by decide +kernel
theorem dX11_send_89 : decode cX11_send 89 = .ok (.iastore, 1) := by decide +kernel
theorem dX11_send_90 : decode cX11_send 90 = .ok (.aload_n 2, 1) := by decide +kernel
theorem dX11_send_91 : decode cX11_send 91 = .ok (.iconst 5, 1) := by decide +kernel
theorem dX11_send_92 : decode cX11_send 92 = .ok (.iconst 0, 1) := by decide +kernel
theorem dX11_send_93 : decode cX11_send 93 = .ok (.iastore, 1) := by decide +kernel
theorem dX11_send_94 : decode cX11_send 94 = .ok (.aload_n 0, 1) := by decide +kernel
theorem dX11_send_95 : decode cX11_send 95 = .ok (.getfield 10, 3) := by decide +kernel
theorem dX11_send_98 : decode cX11_send 98 = .ok (.getfield 195, 3) := by decide +kernel
theorem dX11_send_101 : decode cX11_send 101 = .ok (.iconst 1, 1) := by decide +kernel
theorem dX11_send_102 : decode cX11_send 102 = .ok (.isub, 1) := by decide +kernel
theorem dX11_send_103 : decode cX11_send 103 = .ok (.ireturn, 1) := by decide +kernel
theorem dX11_tens_0 : decode cX11_tens 0 = .ok (.iconst 1, 1) := by decide +kernel
theorem dX11_tens_1 : decode cX11_tens 1 = .ok (.istore_n 1, 1) := by decide +kernel
theorem dX11_tens_2 : decode cX11_tens 2 = .ok (.iconst 0, 1) := by decide +kernel
theorem dX11_tens_3 : decode cX11_tens 3 = .ok (.istore_n 2, 1) := by decide +kernel
theorem dX11_tens_4 : decode cX11_tens 4 = .ok (.iload_n 2, 1) := by decide +kernel
theorem dX11_tens_5 : decode cX11_tens 5 = .ok (.iload_n 0, 1) := by decide +kernel
theorem dX11_tens_6 : decode cX11_tens 6 = .ok (.if_icmp .ge 14, 3) := by decide +kernel
theorem dX11_tens_9 : decode cX11_tens 9 = .ok (.iload_n 1, 1) := by decide +kernel
theorem dX11_tens_10 : decode cX11_tens 10 = .ok (.bipush 10, 2) := by decide +kernel
theorem dX11_tens_12 : decode cX11_tens 12 = .ok (.imul, 1) := by decide +kernel
theorem dX11_tens_13 : decode cX11_tens 13 = .ok (.istore_n 1, 1) := by decide +kernel
theorem dX11_tens_14 : decode cX11_tens 14 = .ok (.iinc 2 1, 3) := by decide +kernel
theorem dX11_tens_17 : decode cX11_tens 17 = .ok (.goto (-13), 3) := by decide +kernel
theorem dX11_tens_20 : decode cX11_tens 20 = .ok (.iload_n 1, 1) := by decide +kernel
theorem dX11_tens_21 : decode cX11_tens 21 = .ok (.ireturn, 1) := by decide +kernel
theorem dX11_isCounting_0 : decode cX11_isCounting 0 = .ok (.aload_n 0, 1) := by decide +kernel
theorem dX11_isCounting_1 : decode cX11_isCounting 1 = .ok (.getfield 10, 3) := by decide +kernel
theorem dX11_isCounting_4 : decode cX11_isCounting 4 = .ok (.getfield 201, 3) := by decide +kernel
theorem dX11_isCounting_7 : decode cX11_isCounting 7 = .ok (.iload_n 1, 1) := by decide +kernel
theorem dX11_isCounting_8 : decode cX11_isCounting 8 = .ok (.aaload, 1) := by decide +kernel
theorem dX11_isCounting_9 : decode cX11_isCounting 9 = .ok (.astore_n 2, 1) := by decide +kernel
theorem dX11_isCounting_10 : decode cX11_isCounting 10 = .ok (.aload_n 2, 1) := by decide +kernel
theorem dX11_isCounting_11 : decode cX11_isCounting 11 = .ok (.iconst 5, 1) := by decide +kernel
theorem dX11_isCounting_12 : decode cX11_isCounting 12 = .ok (.iaload, 1) := by decide +kernel
theorem dX11_isCounting_13 : decode cX11_isCounting 13 = .ok (.ifCond .ne 58, 3) := by decide +kernel
theorem dX11_isCounting_16 : decode cX11_isCounting 16 = .ok (.aload_n 0, 1) := by decide +kernel
theorem dX11_isCounting_17 : decode cX11_isCounting 17 = .ok (.getfield 10, 3) := by decide +kernel
theorem dX11_isCounting_20 : decode cX11_isCounting 20 = .ok (.getfield 110, 3) := by decide +kernel
theorem dX11_isCounting_23 : decode cX11_isCounting 23 = .ok (.aload_n 2, 1) := by decide +kernel
theorem dX11_isCounting_24 : decode cX11_isCounting 24 = .ok (.iconst 3, 1) := by decide +kernel
theorem dX11_isCounting_25 : decode cX11_isCounting 25 = .ok (.iaload, 1) := by decide +kernel
theorem dX11_isCounting_26 : decode cX11_isCounting 26 = .ok (.if_icmp .lt 45, 3) := by decide +kernel
theorem dX11_isCounting_29 : decode cX11_isCounting 29 = .ok (.aload_n 0, 1) := by decide +kernel
theorem dX11_isCounting_30 : decode cX11_isCounting 30 = .ok (.getfield 10, 3) := by decide +kernel
theorem dX11_isCounting_33 : decode cX11_isCounting 33 = .ok (.getfield 110, 3) := by decide +kernel
theorem dX11_isCounting_36 : decode cX11_isCounting 36 = .ok (.aload_n 2, 1) := by decide +kernel
theorem dX11_isCounting_37 : decode cX11_isCounting 37 = .ok (.iconst 4, 1) := by decide +kernel
theorem dX11_isCounting_38 : decode cX11_isCounting 38 = .ok (.iaload, 1) := by decide +kernel
theorem dX11_isCounting_39 : decode cX11_isCounting 39 = .ok (.if_icmp .gt 32, 3) := by decide +kernel
theorem dX11_isCounting_42 : decode cX11_isCounting 42 = .ok (.aload_n 0, 1) := by decide +kernel
theorem dX11_isCounting_43 : decode cX11_isCounting 43 = .ok (.getfield 10, 3) := by decide +kernel
theorem dX11_isCounting_46 : decode cX11_isCounting 46 = .ok (.getfield 90, 3) := by decide +kernel
theorem dX11_isCounting_49 : decode cX11_isCounting 49 = .ok (.iconst 4, 1) := by decide +kernel
theorem dX11_isCounting_50 : decode cX11_isCounting 50 = .ok (.iaload, 1) := by decide +kernel
theorem dX11_isCounting_51 : decode cX11_isCounting 51 = .ok (.ifCond .eq 16, 3) := by decide +kernel
theorem dX11_isCounting_54 : decode cX11_isCounting 54 = .ok (.iload_n 1, 1) := by decide +kernel
theorem dX11_isCounting_55 : decode cX11_isCounting 55 = .ok (.aload_n 0, 1) := by decide +kernel
theorem dX11_isCounting_56 : decode cX11_isCounting 56 = .ok (.getfield 10, 3) := by decide +kernel
theorem dX11_isCounting_59 : decode cX11_isCounting 59 = .ok (.getfield 195, 3) := by decide +kernel
theorem dX11_isCounting_62 : decode cX11_isCounting 62 = .ok (.iconst 1, 1) := by decide +kernel
theorem dX11_isCounting_63 : decode cX11_isCounting 63 = .ok (.isub, 1) := by decide +kernel
theorem dX11_isCounting_64 : decode cX11_isCounting 64 = .ok (.if_icmp .ne 7, 3) := by decide +kernel
theorem dX11_isCounting_67 : decode cX11_isCounting 67 = .ok (.iconst 1, 1) := by decide +kernel
theorem dX11_isCounting_68 : decode cX11_isCounting 68 = .ok (.goto 4, 3) := by decide +kernel
theorem dX11_isCounting_71 : decode cX11_isCounting 71 = .ok (.iconst 0, 1) := by decide +kernel
theorem dX11_isCounting_72 : decode cX11_isCounting 72 = .ok (.ireturn, 1) := by decide +kernel
theorem dX11_codeThatOpens_0 : decode cX11_codeThatOpens 0 = .ok (.iconst 0, 1) := by decide +kernel
theorem dX11_codeThatOpens_1 : decode cX11_codeThatOpens 1 = .ok (.istore_n 2, 1) := by decide +kernel
theorem dX11_codeThatOpens_2 : decode cX11_codeThatOpens 2 = .ok (.iload_n 2, 1) := by decide +kernel
theorem dX11_codeThatOpens_3 : decode cX11_codeThatOpens 3 = .ok (.aload_n 0, 1) := by decide +kernel
theorem dX11_codeThatOpens_4 : decode cX11_codeThatOpens 4 = .ok (.getfield 10, 3) := by decide +kernel
theorem dX11_codeThatOpens_7 : decode cX11_codeThatOpens 7 = .ok (.getfield 195, 3) := by decide +kernel
theorem dX11_codeThatOpens_10 : decode cX11_codeThatOpens 10 = .ok (.if_icmp .ge 34, 3) := by decide +kernel
theorem dX11_codeThatOpens_13 : decode cX11_codeThatOpens 13 = .ok (.aload_n 0, 1) := by decide +kernel
theorem dX11_codeThatOpens_14 : decode cX11_codeThatOpens 14 = .ok (.getfield 10, 3) := by decide +kernel
theorem dX11_codeThatOpens_17 : decode cX11_codeThatOpens 17 = .ok (.getfield 201, 3) := by decide +kernel
theorem dX11_codeThatOpens_20 : decode cX11_codeThatOpens 20 = .ok (.iload_n 2, 1) := by decide +kernel
theorem dX11_codeThatOpens_21 : decode cX11_codeThatOpens 21 = .ok (.aaload, 1) := by decide +kernel
theorem dX11_codeThatOpens_22 : decode cX11_codeThatOpens 22 = .ok (.iconst 1, 1) := by decide +kernel
theorem dX11_codeThatOpens_23 : decode cX11_codeThatOpens 23 = .ok (.iaload, 1) := by decide +kernel
theorem dX11_codeThatOpens_24 : decode cX11_codeThatOpens 24 = .ok (.iload_n 1, 1) := by decide +kernel
theorem dX11_codeThatOpens_25 : decode cX11_codeThatOpens 25 = .ok (.if_icmp .ne 13, 3) := by decide +kernel
theorem dX11_codeThatOpens_28 : decode cX11_codeThatOpens 28 = .ok (.aload_n 0, 1) := by decide +kernel
theorem dX11_codeThatOpens_29 : decode cX11_codeThatOpens 29 = .ok (.iload_n 2, 1) := by decide +kernel
theorem dX11_codeThatOpens_30 : decode cX11_codeThatOpens 30 = .ok (.invokevirtual 198, 3) := by decide +kernel
theorem dX11_codeThatOpens_33 : decode cX11_codeThatOpens 33 = .ok (.ifCond .eq 5, 3) := by decide +kernel
theorem dX11_codeThatOpens_36 : decode cX11_codeThatOpens 36 = .ok (.iload_n 2, 1) := by decide +kernel
theorem dX11_codeThatOpens_37 : decode cX11_codeThatOpens 37 = .ok (.ireturn, 1) := by decide +kernel
theorem dX11_codeThatOpens_38 : decode cX11_codeThatOpens 38 = .ok (.iinc 2 1, 3) := by decide +kernel
theorem dX11_codeThatOpens_41 : decode cX11_codeThatOpens 41 = .ok (.goto (-39), 3) := by decide +kernel
theorem dX11_codeThatOpens_44 : decode cX11_codeThatOpens 44 = .ok (.iconst (-1), 1) := by decide +kernel
theorem dX11_codeThatOpens_45 : decode cX11_codeThatOpens 45 = .ok (.ireturn, 1) := by decide +kernel
theorem dX11_fetched_0 : decode cX11_fetched 0 = .ok (.iload_n 2, 1) := by decide +kernel
theorem dX11_fetched_1 : decode cX11_fetched 1 = .ok (.iconst 1, 1) := by decide +kernel
theorem dX11_fetched_2 : decode cX11_fetched 2 = .ok (.invokestatic 93, 3) := by decide +kernel
theorem dX11_fetched_5 : decode cX11_fetched 5 = .ok (.ifCond .eq 11, 3) := by decide +kernel
theorem dX11_fetched_8 : decode cX11_fetched 8 = .ok (.aload_n 0, 1) := by decide +kernel
theorem dX11_fetched_9 : decode cX11_fetched 9 = .ok (.iload_n 1, 1) := by decide +kernel
theorem dX11_fetched_10 : decode cX11_fetched 10 = .ok (.invokevirtual 189, 3) := by decide +kernel
theorem dX11_fetched_13 : decode cX11_fetched 13 = .ok (.goto 4, 3) := by decide +kernel
theorem dX11_fetched_16 : decode cX11_fetched 16 = .ok (.iconst 1, 1) := by decide +kernel
theorem dX11_fetched_17 : decode cX11_fetched 17 = .ok (.istore_n 3, 1) := by decide +kernel
theorem dX11_fetched_18 : decode cX11_fetched 18 = .ok (.iload_n 3, 1) := by decide +kernel
theorem dX11_fetched_19 : decode cX11_fetched 19 = .ok (.ifCond .eq 9, 3) := by decide +kernel
theorem dX11_fetched_22 : decode cX11_fetched 22 = .ok (.aload_n 0, 1) := by decide +kernel
theorem dX11_fetched_23 : decode cX11_fetched 23 = .ok (.iload_n 3, 1) := by decide +kernel
theorem dX11_fetched_24 : decode cX11_fetched 24 = .ok (.invokevirtual 86, 3) := by decide +kernel
theorem dX11_fetched_27 : decode cX11_fetched 27 = .ok (.ireturn, 1) := by decide +kernel
theorem dX11_fetched_28 : decode cX11_fetched 28 = .ok (.iload_n 2, 1) := by decide +kernel
theorem dX11_fetched_29 : decode cX11_fetched 29 = .ok (.iconst 1, 1) := by decide +kernel
theorem dX11_fetched_30 : decode cX11_fetched 30 = .ok (.if_icmp .ne 16, 3) := by decide +kernel
theorem dX11_fetched_33 : decode cX11_fetched 33 = .ok (.aload_n 0, 1) := by decide +kernel
theorem dX11_fetched_34 : decode cX11_fetched 34 = .ok (.iload_n 1, 1) := by decide +kernel
theorem dX11_fetched_35 : decode cX11_fetched 35 = .ok (.aload_n 0, 1) := by decide +kernel
theorem dX11_fetched_36 : decode cX11_fetched 36 = .ok (.getfield 10, 3) := by decide +kernel
theorem dX11_fetched_39 : decode cX11_fetched 39 = .ok (.getfield 110, 3) := by decide +kernel
theorem dX11_fetched_42 : decode cX11_fetched 42 = .ok (.invokevirtual 239, 3) := by decide +kernel
theorem dX11_fetched_45 : decode cX11_fetched 45 = .ok (.ireturn, 1) := by decide +kernel
theorem dX11_fetched_46 : decode cX11_fetched 46 = .ok (.aload_n 0, 1) := by decide +kernel
theorem dX11_fetched_47 : decode cX11_fetched 47 = .ok (.iload_n 1, 1) := by decide +kernel
theorem dX11_fetched_48 : decode cX11_fetched 48 = .ok (.aload_n 0, 1) := by decide +kernel
theorem dX11_fetched_49 : decode cX11_fetched 49 = .ok (.getfield 10, 3) := by decide +kernel
theorem dX11_fetched_52 : decode cX11_fetched 52 = .ok (.getfield 110, 3) := by decide +kernel
theorem dX11_fetched_55 : decode cX11_fetched 55 = .ok (.invokevirtual 242, 3) := by decide +kernel
theorem dX11_fetched_58 : decode cX11_fetched 58 = .ok (.ifCond .eq 7, 3) := by decide +kernel
theorem dX11_fetched_61 : decode cX11_fetched 61 = .ok (.iconst 1, 1) := by decide +kernel
theorem dX11_fetched_62 : decode cX11_fetched 62 = .ok (.goto 4, 3) := by decide +kernel
theorem dX11_fetched_65 : decode cX11_fetched 65 = .ok (.iconst 0, 1) := by decide +kernel
theorem dX11_fetched_66 : decode cX11_fetched 66 = .ok (.ireturn, 1) := by decide +kernel
theorem dX11_holdFor_0 : decode cX11_holdFor 0 = .ok (.aload_n 0, 1) := by decide +kernel
theorem dX11_holdFor_1 : decode cX11_holdFor 1 = .ok (.iload_n 1, 1) := by decide +kernel
theorem dX11_holdFor_2 : decode cX11_holdFor 2 = .ok (.invokevirtual 189, 3) := by decide +kernel
theorem dX11_holdFor_5 : decode cX11_holdFor 5 = .ok (.istore_n 2, 1) := by decide +kernel
theorem dX11_holdFor_6 : decode cX11_holdFor 6 = .ok (.iload_n 2, 1) := by decide +kernel
theorem dX11_holdFor_7 : decode cX11_holdFor 7 = .ok (.ifCond .eq 9, 3) := by decide +kernel
theorem dX11_holdFor_10 : decode cX11_holdFor 10 = .ok (.aload_n 0, 1) := by decide +kernel
theorem dX11_holdFor_11 : decode cX11_holdFor 11 = .ok (.iload_n 2, 1) := by decide +kernel
theorem dX11_holdFor_12 : decode cX11_holdFor 12 = .ok (.invokevirtual 86, 3) := by decide +kernel
theorem dX11_holdFor_15 : decode cX11_holdFor 15 = .ok (.ireturn, 1) := by decide +kernel
theorem dX11_holdFor_16 : decode cX11_holdFor 16 = .ok (.aload_n 0, 1) := by decide +kernel
theorem dX11_holdFor_17 : decode cX11_holdFor 17 = .ok (.iload_n 1, 1) := by decide +kernel
theorem dX11_holdFor_18 : decode cX11_holdFor 18 = .ok (.aload_n 0, 1) := by decide +kernel
theorem dX11_holdFor_19 : decode cX11_holdFor 19 = .ok (.getfield 10, 3) := by decide +kernel
theorem dX11_holdFor_22 : decode cX11_holdFor 22 = .ok (.getfield 110, 3) := by decide +kernel
theorem dX11_holdFor_25 : decode cX11_holdFor 25 = .ok (.invokevirtual 239, 3) := by decide +kernel
theorem dX11_holdFor_28 : decode cX11_holdFor 28 = .ok (.istore_n 3, 1) := by decide +kernel
theorem dX11_holdFor_29 : decode cX11_holdFor 29 = .ok (.aload_n 0, 1) := by decide +kernel
theorem dX11_holdFor_30 : decode cX11_holdFor 30 = .ok (.iload_n 1, 1) := by decide +kernel
theorem dX11_holdFor_31 : decode cX11_holdFor 31 = .ok (.aload_n 0, 1) := by decide +kernel
theorem dX11_holdFor_32 : decode cX11_holdFor 32 = .ok (.getfield 10, 3) := by decide +kernel
theorem dX11_holdFor_35 : decode cX11_holdFor 35 = .ok (.getfield 110, 3) := by decide +kernel
theorem dX11_holdFor_38 : decode cX11_holdFor 38 = .ok (.iload_n 3, 1) := by decide +kernel
theorem dX11_holdFor_39 : decode cX11_holdFor 39 = .ok (.iadd, 1) := by decide +kernel
theorem dX11_holdFor_40 : decode cX11_holdFor 40 = .ok (.invokevirtual 245, 3) := by decide +kernel
theorem dX11_holdFor_43 : decode cX11_holdFor 43 = .ok (.ifCond .eq 40, 3) := by decide +kernel
theorem dX11_holdFor_46 : decode cX11_holdFor 46 = .ok (.getstatic 80, 3) := by decide +kernel
theorem dX11_holdFor_49 : decode cX11_holdFor 49 = .ok (.iconst 1, 1) := by decide +kernel
theorem dX11_holdFor_50 : decode cX11_holdFor 50 = .ok (.iaload, 1) := by decide +kernel
theorem dX11_holdFor_51 : decode cX11_holdFor 51 = .ok (.istore 4, 2) := by decide +kernel
theorem dX11_holdFor_53 : decode cX11_holdFor 53 = .ok (.iload 4, 2) := by decide +kernel
theorem dX11_holdFor_55 : decode cX11_holdFor 55 = .ok (.getstatic 83, 3) := by decide +kernel
theorem dX11_holdFor_58 : decode cX11_holdFor 58 = .ok (.iconst 1, 1) := by decide +kernel
theorem dX11_holdFor_59 : decode cX11_holdFor 59 = .ok (.iaload, 1) := by decide +kernel
theorem dX11_holdFor_60 : decode cX11_holdFor 60 = .ok (.if_icmp .gt 23, 3) := by decide +kernel
theorem dX11_holdFor_63 : decode cX11_holdFor 63 = .ok (.iload_n 3, 1) := by decide +kernel
theorem dX11_holdFor_64 : decode cX11_holdFor 64 = .ok (.aload_n 0, 1) := by decide +kernel
theorem dX11_holdFor_65 : decode cX11_holdFor 65 = .ok (.iload_n 1, 1) := by decide +kernel
theorem dX11_holdFor_66 : decode cX11_holdFor 66 = .ok (.iload 4, 2) := by decide +kernel
theorem dX11_holdFor_68 : decode cX11_holdFor 68 = .ok (.invokevirtual 117, 3) := by decide +kernel
theorem dX11_holdFor_71 : decode cX11_holdFor 71 = .ok (.if_icmp .gt 6, 3) := by decide +kernel
theorem dX11_holdFor_74 : decode cX11_holdFor 74 = .ok (.iload 4, 2) := by decide +kernel
theorem dX11_holdFor_76 : decode cX11_holdFor 76 = .ok (.ireturn, 1) := by decide +kernel
theorem dX11_holdFor_77 : decode cX11_holdFor 77 = .ok (.iinc 4 1, 3) := by decide +kernel
theorem dX11_holdFor_80 : decode cX11_holdFor 80 = .ok (.goto (-27), 3) := by decide +kernel
theorem dX11_holdFor_83 : decode cX11_holdFor 83 = .ok (.aload_n 0, 1) := by decide +kernel
theorem dX11_holdFor_84 : decode cX11_holdFor 84 = .ok (.iconst 2, 1) := by decide +kernel
theorem dX11_holdFor_85 : decode cX11_holdFor 85 = .ok (.invokevirtual 86, 3) := by decide +kernel
theorem dX11_holdFor_88 : decode cX11_holdFor 88 = .ok (.ireturn, 1) := by decide +kernel
theorem dX11_fastest_0 : decode cX11_fastest 0 = .ok (.iload_n 1, 1) := by decide +kernel
theorem dX11_fastest_1 : decode cX11_fastest 1 = .ok (.iconst 1, 1) := by decide +kernel
theorem dX11_fastest_2 : decode cX11_fastest 2 = .ok (.invokestatic 93, 3) := by decide +kernel
theorem dX11_fastest_5 : decode cX11_fastest 5 = .ok (.ifCond .ne 9, 3) := by decide +kernel
theorem dX11_fastest_8 : decode cX11_fastest 8 = .ok (.aload_n 0, 1) := by decide +kernel
theorem dX11_fastest_9 : decode cX11_fastest 9 = .ok (.iconst 1, 1) := by decide +kernel
theorem dX11_fastest_10 : decode cX11_fastest 10 = .ok (.invokevirtual 86, 3) := by decide +kernel
theorem dX11_fastest_13 : decode cX11_fastest 13 = .ok (.ireturn, 1) := by decide +kernel
theorem dX11_fastest_14 : decode cX11_fastest 14 = .ok (.iconst (-1), 1) := by decide +kernel
theorem dX11_fastest_15 : decode cX11_fastest 15 = .ok (.istore_n 2, 1) := by decide +kernel
theorem dX11_fastest_16 : decode cX11_fastest 16 = .ok (.iconst 0, 1) := by decide +kernel
theorem dX11_fastest_17 : decode cX11_fastest 17 = .ok (.istore_n 3, 1) := by decide +kernel
theorem dX11_fastest_18 : decode cX11_fastest 18 = .ok (.iconst 0, 1) := by decide +kernel
theorem dX11_fastest_19 : decode cX11_fastest 19 = .ok (.istore 4, 2) := by decide +kernel
theorem dX11_fastest_21 : decode cX11_fastest 21 = .ok (.iload 4, 2) := by decide +kernel
theorem dX11_fastest_23 : decode cX11_fastest 23 = .ok (.aload_n 0, 1) := by decide +kernel
theorem dX11_fastest_24 : decode cX11_fastest 24 = .ok (.getfield 10, 3) := by decide +kernel
theorem dX11_fastest_27 : decode cX11_fastest 27 = .ok (.getfield 101, 3) := by decide +kernel
theorem dX11_fastest_30 : decode cX11_fastest 30 = .ok (.if_icmp .ge 65, 3) := by decide +kernel
theorem dX11_fastest_33 : decode cX11_fastest 33 = .ok (.aload_n 0, 1) := by decide +kernel
theorem dX11_fastest_34 : decode cX11_fastest 34 = .ok (.iload 4, 2) := by decide +kernel
theorem dX11_fastest_36 : decode cX11_fastest 36 = .ok (.invokevirtual 225, 3) := by decide +kernel
theorem dX11_fastest_39 : decode cX11_fastest 39 = .ok (.ifCond .ne 50, 3) := by decide +kernel
theorem dX11_fastest_42 : decode cX11_fastest 42 = .ok (.aload_n 0, 1) := by decide +kernel
theorem dX11_fastest_43 : decode cX11_fastest 43 = .ok (.iload 4, 2) := by decide +kernel
theorem dX11_fastest_45 : decode cX11_fastest 45 = .ok (.aload_n 0, 1) := by decide +kernel
theorem dX11_fastest_46 : decode cX11_fastest 46 = .ok (.getfield 10, 3) := by decide +kernel
theorem dX11_fastest_49 : decode cX11_fastest 49 = .ok (.getfield 110, 3) := by decide +kernel
theorem dX11_fastest_52 : decode cX11_fastest 52 = .ok (.invokevirtual 242, 3) := by decide +kernel
theorem dX11_fastest_55 : decode cX11_fastest 55 = .ok (.ifCond .eq 34, 3) := by decide +kernel
theorem dX11_fastest_58 : decode cX11_fastest 58 = .ok (.aload_n 0, 1) := by decide +kernel
theorem dX11_fastest_59 : decode cX11_fastest 59 = .ok (.iload 4, 2) := by decide +kernel
theorem dX11_fastest_61 : decode cX11_fastest 61 = .ok (.aload_n 0, 1) := by decide +kernel
theorem dX11_fastest_62 : decode cX11_fastest 62 = .ok (.getfield 10, 3) := by decide +kernel
theorem dX11_fastest_65 : decode cX11_fastest 65 = .ok (.getfield 110, 3) := by decide +kernel
theorem dX11_fastest_68 : decode cX11_fastest 68 = .ok (.invokevirtual 239, 3) := by decide +kernel
theorem dX11_fastest_71 : decode cX11_fastest 71 = .ok (.istore 5, 2) := by decide +kernel
theorem dX11_fastest_73 : decode cX11_fastest 73 = .ok (.iload_n 2, 1) := by decide +kernel
theorem dX11_fastest_74 : decode cX11_fastest 74 = .ok (.ifCond .lt 9, 3) := by decide +kernel
theorem dX11_fastest_77 : decode cX11_fastest 77 = .ok (.iload 5, 2) := by decide +kernel
theorem dX11_fastest_79 : decode cX11_fastest 79 = .ok (.iload_n 3, 1) := by decide +kernel
theorem dX11_fastest_80 : decode cX11_fastest 80 = .ok (.if_icmp .ge 9, 3) := by decide +kernel
theorem dX11_fastest_83 : decode cX11_fastest 83 = .ok (.iload 4, 2) := by decide +kernel
theorem dX11_fastest_85 : decode cX11_fastest 85 = .ok (.istore_n 2, 1) := by decide +kernel
theorem dX11_fastest_86 : decode cX11_fastest 86 = .ok (.iload 5, 2) := by decide +kernel
theorem dX11_fastest_88 : decode cX11_fastest 88 = .ok (.istore_n 3, 1) := by decide +kernel
theorem dX11_fastest_89 : decode cX11_fastest 89 = .ok (.iinc 4 1, 3) := by decide +kernel
theorem dX11_fastest_92 : decode cX11_fastest 92 = .ok (.goto (-71), 3) := by decide +kernel
theorem dX11_fastest_95 : decode cX11_fastest 95 = .ok (.iload_n 2, 1) := by decide +kernel
theorem dX11_fastest_96 : decode cX11_fastest 96 = .ok (.ifCond .ge 9, 3) := by decide +kernel
theorem dX11_fastest_99 : decode cX11_fastest 99 = .ok (.aload_n 0, 1) := by decide +kernel
theorem dX11_fastest_100 : decode cX11_fastest 100 = .ok (.iconst 2, 1) := by decide +kernel
theorem dX11_fastest_101 : decode cX11_fastest 101 = .ok (.invokevirtual 86, 3) := by decide +kernel
theorem dX11_fastest_104 : decode cX11_fastest 104 = .ok (.ireturn, 1) := by decide +kernel
theorem dX11_fastest_105 : decode cX11_fastest 105 = .ok (.iload_n 1, 1) := by decide +kernel
theorem dX11_fastest_106 : decode cX11_fastest 106 = .ok (.ifCond .ne 7, 3) := by decide +kernel
theorem dX11_fastest_109 : decode cX11_fastest 109 = .ok (.iload_n 2, 1) := by decide +kernel
theorem dX11_fastest_110 : decode cX11_fastest 110 = .ok (.goto 4, 3) := by decide +kernel
theorem dX11_fastest_113 : decode cX11_fastest 113 = .ok (.iload_n 3, 1) := by decide +kernel
theorem dX11_fastest_114 : decode cX11_fastest 114 = .ok (.ireturn, 1) := by decide +kernel
theorem dX11_figuresFor_0 : decode cX11_figuresFor 0 = .ok (.iload_n 1, 1) := by decide +kernel
theorem dX11_figuresFor_1 : decode cX11_figuresFor 1 = .ok (.iconst 1, 1) := by decide +kernel
theorem dX11_figuresFor_2 : decode cX11_figuresFor 2 = .ok (.if_icmp .lt 9, 3) := by decide +kernel
theorem dX11_figuresFor_5 : decode cX11_figuresFor 5 = .ok (.iload_n 1, 1) := by decide +kernel
theorem dX11_figuresFor_6 : decode cX11_figuresFor 6 = .ok (.ldc 204, 2) := by decide +kernel
theorem dX11_figuresFor_8 : decode cX11_figuresFor 8 = .ok (.if_icmp .le 9, 3) := by decide +kernel
theorem dX11_figuresFor_11 : decode cX11_figuresFor 11 = .ok (.aload_n 0, 1) := by decide +kernel
theorem dX11_figuresFor_12 : decode cX11_figuresFor 12 = .ok (.iconst 1, 1) := by decide +kernel
theorem dX11_figuresFor_13 : decode cX11_figuresFor 13 = .ok (.invokevirtual 86, 3) := by decide +kernel
theorem dX11_figuresFor_16 : decode cX11_figuresFor 16 = .ok (.ireturn, 1) := by decide +kernel
theorem dX11_figuresFor_17 : decode cX11_figuresFor 17 = .ok (.getstatic 80, 3) := by decide +kernel
theorem dX11_figuresFor_20 : decode cX11_figuresFor 20 = .ok (.iconst 0, 1) := by decide +kernel
theorem dX11_figuresFor_21 : decode cX11_figuresFor 21 = .ok (.iaload, 1) := by decide +kernel
theorem dX11_figuresFor_22 : decode cX11_figuresFor 22 = .ok (.istore_n 2, 1) := by decide +kernel
theorem dX11_figuresFor_23 : decode cX11_figuresFor 23 = .ok (.iload_n 2, 1) := by decide +kernel
theorem dX11_figuresFor_24 : decode cX11_figuresFor 24 = .ok (.getstatic 83, 3) := by decide +kernel
theorem dX11_figuresFor_27 : decode cX11_figuresFor 27 = .ok (.iconst 0, 1) := by decide +kernel
theorem dX11_figuresFor_28 : decode cX11_figuresFor 28 = .ok (.iaload, 1) := by decide +kernel
theorem dX11_figuresFor_29 : decode cX11_figuresFor 29 = .ok (.if_icmp .gt 29, 3) := by decide +kernel
theorem dX11_figuresFor_32 : decode cX11_figuresFor 32 = .ok (.aload_n 0, 1) := by decide +kernel
theorem dX11_figuresFor_33 : decode cX11_figuresFor 33 = .ok (.getfield 10, 3) := by decide +kernel
theorem dX11_figuresFor_36 : decode cX11_figuresFor 36 = .ok (.getfield 90, 3) := by decide +kernel
theorem dX11_figuresFor_39 : decode cX11_figuresFor 39 = .ok (.iconst 2, 1) := by decide +kernel
theorem dX11_figuresFor_40 : decode cX11_figuresFor 40 = .ok (.iaload, 1) := by decide +kernel
theorem dX11_figuresFor_41 : decode cX11_figuresFor 41 = .ok (.iload_n 1, 1) := by decide +kernel
theorem dX11_figuresFor_42 : decode cX11_figuresFor 42 = .ok (.imul, 1) := by decide +kernel
theorem dX11_figuresFor_43 : decode cX11_figuresFor 43 = .ok (.iload_n 2, 1) := by decide +kernel
theorem dX11_figuresFor_44 : decode cX11_figuresFor 44 = .ok (.invokestatic 236, 3) := by decide +kernel
theorem dX11_figuresFor_47 : decode cX11_figuresFor 47 = .ok (.if_icmp .gt 5, 3) := by decide +kernel
theorem dX11_figuresFor_50 : decode cX11_figuresFor 50 = .ok (.iload_n 2, 1) := by decide +kernel
theorem dX11_figuresFor_51 : decode cX11_figuresFor 51 = .ok (.ireturn, 1) := by decide +kernel
theorem dX11_figuresFor_52 : decode cX11_figuresFor 52 = .ok (.iinc 2 1, 3) := by decide +kernel
theorem dX11_figuresFor_55 : decode cX11_figuresFor 55 = .ok (.goto (-32), 3) := by decide +kernel
theorem dX11_figuresFor_58 : decode cX11_figuresFor 58 = .ok (.aload_n 0, 1) := by decide +kernel
theorem dX11_figuresFor_59 : decode cX11_figuresFor 59 = .ok (.iconst 2, 1) := by decide +kernel
theorem dX11_figuresFor_60 : decode cX11_figuresFor 60 = .ok (.invokevirtual 86, 3) := by decide +kernel
theorem dX11_figuresFor_63 : decode cX11_figuresFor 63 = .ok (.ireturn, 1) := by decide +kernel
theorem dX11_counting_0 : decode cX11_counting 0 = .ok (.iconst 0, 1) := by decide +kernel
theorem dX11_counting_1 : decode cX11_counting 1 = .ok (.istore_n 1, 1) := by decide +kernel
theorem dX11_counting_2 : decode cX11_counting 2 = .ok (.iconst 0, 1) := by decide +kernel
theorem dX11_counting_3 : decode cX11_counting 3 = .ok (.istore_n 2, 1) := by decide +kernel
theorem dX11_counting_4 : decode cX11_counting 4 = .ok (.iload_n 2, 1) := by decide +kernel
theorem dX11_counting_5 : decode cX11_counting 5 = .ok (.aload_n 0, 1) := by decide +kernel
theorem dX11_counting_6 : decode cX11_counting 6 = .ok (.getfield 10, 3) := by decide +kernel
theorem dX11_counting_9 : decode cX11_counting 9 = .ok (.getfield 195, 3) := by decide +kernel
theorem dX11_counting_12 : decode cX11_counting 12 = .ok (.if_icmp .ge 23, 3) := by decide +kernel
theorem dX11_counting_15 : decode cX11_counting 15 = .ok (.aload_n 0, 1) := by decide +kernel
theorem dX11_counting_16 : decode cX11_counting 16 = .ok (.iload_n 2, 1) := by decide +kernel
theorem dX11_counting_17 : decode cX11_counting 17 = .ok (.invokevirtual 198, 3) := by decide +kernel
theorem dX11_counting_20 : decode cX11_counting 20 = .ok (.ifCond .eq 9, 3) := by decide +kernel
theorem dX11_counting_23 : decode cX11_counting 23 = .ok (.iload_n 1, 1) := by decide +kernel
theorem dX11_counting_24 : decode cX11_counting 24 = .ok (.iconst 1, 1) := by decide +kernel
theorem dX11_counting_25 : decode cX11_counting 25 = .ok (.iload_n 2, 1) := by decide +kernel
theorem dX11_counting_26 : decode cX11_counting 26 = .ok (.ishl, 1) := by decide +kernel
theorem dX11_counting_27 : decode cX11_counting 27 = .ok (.ior, 1) := by decide +kernel
theorem dX11_counting_28 : decode cX11_counting 28 = .ok (.istore_n 1, 1) := by decide +kernel
theorem dX11_counting_29 : decode cX11_counting 29 = .ok (.iinc 2 1, 3) := by decide +kernel
theorem dX11_counting_32 : decode cX11_counting 32 = .ok (.goto (-28), 3) := by decide +kernel
theorem dX11_counting_35 : decode cX11_counting 35 = .ok (.iload_n 1, 1) := by decide +kernel
theorem dX11_counting_36 : decode cX11_counting 36 = .ok (.ireturn, 1) := by decide +kernel
theorem dX11_crossed_0 : decode cX11_crossed 0 = .ok (.iconst 0, 1) := by decide +kernel
theorem dX11_crossed_1 : decode cX11_crossed 1 = .ok (.istore_n 1, 1) := by decide +kernel
theorem dX11_crossed_2 : decode cX11_crossed 2 = .ok (.iconst 0, 1) := by decide +kernel
theorem dX11_crossed_3 : decode cX11_crossed 3 = .ok (.istore_n 2, 1) := by decide +kernel
theorem dX11_crossed_4 : decode cX11_crossed 4 = .ok (.iload_n 2, 1) := by decide +kernel
theorem dX11_crossed_5 : decode cX11_crossed 5 = .ok (.aload_n 0, 1) := by decide +kernel
theorem dX11_crossed_6 : decode cX11_crossed 6 = .ok (.getfield 10, 3) := by decide +kernel
theorem dX11_crossed_9 : decode cX11_crossed 9 = .ok (.getfield 195, 3) := by decide +kernel
theorem dX11_crossed_12 : decode cX11_crossed 12 = .ok (.if_icmp .ge 81, 3) := by decide +kernel
theorem dX11_crossed_15 : decode cX11_crossed 15 = .ok (.iconst 0, 1) := by decide +kernel
theorem dX11_crossed_16 : decode cX11_crossed 16 = .ok (.istore_n 3, 1) := by decide +kernel
theorem dX11_crossed_17 : decode cX11_crossed 17 = .ok (.iload_n 3, 1) := by decide +kernel
theorem dX11_crossed_18 : decode cX11_crossed 18 = .ok (.aload_n 0, 1) := by decide +kernel
theorem dX11_crossed_19 : decode cX11_crossed 19 = .ok (.getfield 10, 3) := by decide +kernel
theorem dX11_crossed_22 : decode cX11_crossed 22 = .ok (.getfield 195, 3) := by decide +kernel
theorem dX11_crossed_25 : decode cX11_crossed 25 = .ok (.if_icmp .ge 62, 3) := by decide +kernel
theorem dX11_crossed_28 : decode cX11_crossed 28 = .ok (.aload_n 0, 1) := by decide +kernel
theorem dX11_crossed_29 : decode cX11_crossed 29 = .ok (.getfield 10, 3) := by decide +kernel
theorem dX11_crossed_32 : decode cX11_crossed 32 = .ok (.getfield 201, 3) := by decide +kernel
theorem dX11_crossed_35 : decode cX11_crossed 35 = .ok (.iload_n 2, 1) := by decide +kernel
theorem dX11_crossed_36 : decode cX11_crossed 36 = .ok (.aaload, 1) := by decide +kernel
theorem dX11_crossed_37 : decode cX11_crossed 37 = .ok (.iconst 2, 1) := by decide +kernel
theorem dX11_crossed_38 : decode cX11_crossed 38 = .ok (.iaload, 1) := by decide +kernel
theorem dX11_crossed_39 : decode cX11_crossed 39 = .ok (.aload_n 0, 1) := by decide +kernel
theorem dX11_crossed_40 : decode cX11_crossed 40 = .ok (.getfield 10, 3) := by decide +kernel
theorem dX11_crossed_43 : decode cX11_crossed 43 = .ok (.getfield 201, 3) := by decide +kernel
theorem dX11_crossed_46 : decode cX11_crossed 46 = .ok (.iload_n 3, 1) := by decide +kernel
theorem dX11_crossed_47 : decode cX11_crossed 47 = .ok (.aaload, 1) := by decide +kernel
theorem dX11_crossed_48 : decode cX11_crossed 48 = .ok (.iconst 2, 1) := by decide +kernel
theorem dX11_crossed_49 : decode cX11_crossed 49 = .ok (.iaload, 1) := by decide +kernel
theorem dX11_crossed_50 : decode cX11_crossed 50 = .ok (.if_icmp .ge 31, 3) := by decide +kernel
theorem dX11_crossed_53 : decode cX11_crossed 53 = .ok (.aload_n 0, 1) := by decide +kernel
theorem dX11_crossed_54 : decode cX11_crossed 54 = .ok (.getfield 10, 3) := by decide +kernel
theorem dX11_crossed_57 : decode cX11_crossed 57 = .ok (.getfield 201, 3) := by decide +kernel
theorem dX11_crossed_60 : decode cX11_crossed 60 = .ok (.iload_n 2, 1) := by decide +kernel
theorem dX11_crossed_61 : decode cX11_crossed 61 = .ok (.aaload, 1) := by decide +kernel
theorem dX11_crossed_62 : decode cX11_crossed 62 = .ok (.iconst 3, 1) := by decide +kernel
theorem dX11_crossed_63 : decode cX11_crossed 63 = .ok (.iaload, 1) := by decide +kernel
theorem dX11_crossed_64 : decode cX11_crossed 64 = .ok (.aload_n 0, 1) := by decide +kernel
theorem dX11_crossed_65 : decode cX11_crossed 65 = .ok (.getfield 10, 3) := by decide +kernel
theorem dX11_crossed_68 : decode cX11_crossed 68 = .ok (.getfield 201, 3) := by decide +kernel
theorem dX11_crossed_71 : decode cX11_crossed 71 = .ok (.iload_n 3, 1) := by decide +kernel
theorem dX11_crossed_72 : decode cX11_crossed 72 = .ok (.aaload, 1) := by decide +kernel
theorem dX11_crossed_73 : decode cX11_crossed 73 = .ok (.iconst 3, 1) := by decide +kernel
theorem dX11_crossed_74 : decode cX11_crossed 74 = .ok (.iaload, 1) := by decide +kernel
theorem dX11_crossed_75 : decode cX11_crossed 75 = .ok (.if_icmp .le 6, 3) := by decide +kernel
theorem dX11_crossed_78 : decode cX11_crossed 78 = .ok (.iinc 1 1, 3) := by decide +kernel
theorem dX11_crossed_81 : decode cX11_crossed 81 = .ok (.iinc 3 1, 3) := by decide +kernel
theorem dX11_crossed_84 : decode cX11_crossed 84 = .ok (.goto (-67), 3) := by decide +kernel
theorem dX11_crossed_87 : decode cX11_crossed 87 = .ok (.iinc 2 1, 3) := by decide +kernel
theorem dX11_crossed_90 : decode cX11_crossed 90 = .ok (.goto (-86), 3) := by decide +kernel
theorem dX11_crossed_93 : decode cX11_crossed 93 = .ok (.iload_n 1, 1) := by decide +kernel
theorem dX11_crossed_94 : decode cX11_crossed 94 = .ok (.ireturn, 1) := by decide +kernel
theorem dX11_atOnce_0 : decode cX11_atOnce 0 = .ok (.iload_n 1, 1) := by decide +kernel
theorem dX11_atOnce_1 : decode cX11_atOnce 1 = .ok (.bipush 6, 2) := by decide +kernel
theorem dX11_atOnce_3 : decode cX11_atOnce 3 = .ok (.invokestatic 93, 3) := by decide +kernel
theorem dX11_atOnce_6 : decode cX11_atOnce 6 = .ok (.ifCond .eq 11, 3) := by decide +kernel
theorem dX11_atOnce_9 : decode cX11_atOnce 9 = .ok (.iload_n 2, 1) := by decide +kernel
theorem dX11_atOnce_10 : decode cX11_atOnce 10 = .ok (.iconst 1, 1) := by decide +kernel
theorem dX11_atOnce_11 : decode cX11_atOnce 11 = .ok (.invokestatic 93, 3) := by decide +kernel
theorem dX11_atOnce_14 : decode cX11_atOnce 14 = .ok (.ifCond .ne 9, 3) := by decide +kernel
theorem dX11_atOnce_17 : decode cX11_atOnce 17 = .ok (.aload_n 0, 1) := by decide +kernel
theorem dX11_atOnce_18 : decode cX11_atOnce 18 = .ok (.iconst 1, 1) := by decide +kernel
theorem dX11_atOnce_19 : decode cX11_atOnce 19 = .ok (.invokevirtual 86, 3) := by decide +kernel
theorem dX11_atOnce_22 : decode cX11_atOnce 22 = .ok (.ireturn, 1) := by decide +kernel
theorem dX11_atOnce_23 : decode cX11_atOnce 23 = .ok (.bipush 63, 2) := by decide +kernel
theorem dX11_atOnce_25 : decode cX11_atOnce 25 = .ok (.istore_n 3, 1) := by decide +kernel
theorem dX11_atOnce_26 : decode cX11_atOnce 26 = .ok (.iconst 0, 1) := by decide +kernel
theorem dX11_atOnce_27 : decode cX11_atOnce 27 = .ok (.istore 4, 2) := by decide +kernel
theorem dX11_atOnce_29 : decode cX11_atOnce 29 = .ok (.iload 4, 2) := by decide +kernel
theorem dX11_atOnce_31 : decode cX11_atOnce 31 = .ok (.bipush 64, 2) := by decide +kernel
theorem dX11_atOnce_33 : decode cX11_atOnce 33 = .ok (.if_icmp .ge 34, 3) := by decide +kernel
theorem dX11_atOnce_36 : decode cX11_atOnce 36 = .ok (.iload 4, 2) := by decide +kernel
theorem dX11_atOnce_38 : decode cX11_atOnce 38 = .ok (.invokestatic 248, 3) := by decide +kernel
theorem dX11_atOnce_41 : decode cX11_atOnce 41 = .ok (.iload_n 3, 1) := by decide +kernel
theorem dX11_atOnce_42 : decode cX11_atOnce 42 = .ok (.invokestatic 248, 3) := by decide +kernel
theorem dX11_atOnce_45 : decode cX11_atOnce 45 = .ok (.if_icmp .ge 16, 3) := by decide +kernel
theorem dX11_atOnce_48 : decode cX11_atOnce 48 = .ok (.aload_n 0, 1) := by decide +kernel
theorem dX11_atOnce_49 : decode cX11_atOnce 49 = .ok (.iload 4, 2) := by decide +kernel
theorem dX11_atOnce_51 : decode cX11_atOnce 51 = .ok (.invokevirtual 253, 3) := by decide +kernel
theorem dX11_atOnce_54 : decode cX11_atOnce 54 = .ok (.iload_n 1, 1) := by decide +kernel
theorem dX11_atOnce_55 : decode cX11_atOnce 55 = .ok (.if_icmp .gt 6, 3) := by decide +kernel
theorem dX11_atOnce_58 : decode cX11_atOnce 58 = .ok (.iload 4, 2) := by decide +kernel
theorem dX11_atOnce_60 : decode cX11_atOnce 60 = .ok (.istore_n 3, 1) := by decide +kernel
theorem dX11_atOnce_61 : decode cX11_atOnce 61 = .ok (.iinc 4 1, 3) := by decide +kernel
theorem dX11_atOnce_64 : decode cX11_atOnce 64 = .ok (.goto (-35), 3) := by decide +kernel
theorem dX11_atOnce_67 : decode cX11_atOnce 67 = .ok (.iload_n 2, 1) := by decide +kernel
theorem dX11_atOnce_68 : decode cX11_atOnce 68 = .ok (.ifCond .ne 10, 3) := by decide +kernel
theorem dX11_atOnce_71 : decode cX11_atOnce 71 = .ok (.iload_n 3, 1) := by decide +kernel
theorem dX11_atOnce_72 : decode cX11_atOnce 72 = .ok (.invokestatic 248, 3) := by decide +kernel
theorem dX11_atOnce_75 : decode cX11_atOnce 75 = .ok (.goto 4, 3) := by decide +kernel
theorem dX11_atOnce_78 : decode cX11_atOnce 78 = .ok (.iload_n 3, 1) := by decide +kernel
theorem dX11_atOnce_79 : decode cX11_atOnce 79 = .ok (.ireturn, 1) := by decide +kernel
theorem dX11_together_0 : decode cX11_together 0 = .ok (.iconst 0, 1) := by decide +kernel
theorem dX11_together_1 : decode cX11_together 1 = .ok (.istore_n 1, 1) := by decide +kernel
theorem dX11_together_2 : decode cX11_together 2 = .ok (.iconst 0, 1) := by decide +kernel
theorem dX11_together_3 : decode cX11_together 3 = .ok (.istore_n 2, 1) := by decide +kernel
theorem dX11_together_4 : decode cX11_together 4 = .ok (.iload_n 2, 1) := by decide +kernel
theorem dX11_together_5 : decode cX11_together 5 = .ok (.bipush 6, 2) := by decide +kernel
theorem dX11_together_7 : decode cX11_together 7 = .ok (.if_icmp .ge 24, 3) := by decide +kernel
theorem dX11_together_10 : decode cX11_together 10 = .ok (.aload_n 0, 1) := by decide +kernel
theorem dX11_together_11 : decode cX11_together 11 = .ok (.iload_n 2, 1) := by decide +kernel
theorem dX11_together_12 : decode cX11_together 12 = .ok (.invokevirtual 256, 3) := by decide +kernel
theorem dX11_together_15 : decode cX11_together 15 = .ok (.iconst 2, 1) := by decide +kernel
theorem dX11_together_16 : decode cX11_together 16 = .ok (.if_icmp .lt 9, 3) := by decide +kernel
theorem dX11_together_19 : decode cX11_together 19 = .ok (.iload_n 1, 1) := by decide +kernel
theorem dX11_together_20 : decode cX11_together 20 = .ok (.iconst 1, 1) := by decide +kernel
theorem dX11_together_21 : decode cX11_together 21 = .ok (.iload_n 2, 1) := by decide +kernel
theorem dX11_together_22 : decode cX11_together 22 = .ok (.ishl, 1) := by decide +kernel
theorem dX11_together_23 : decode cX11_together 23 = .ok (.ior, 1) := by decide +kernel
theorem dX11_together_24 : decode cX11_together 24 = .ok (.istore_n 1, 1) := by decide +kernel
theorem dX11_together_25 : decode cX11_together 25 = .ok (.iinc 2 1, 3) := by decide +kernel
theorem dX11_together_28 : decode cX11_together 28 = .ok (.goto (-24), 3) := by decide +kernel
theorem dX11_together_31 : decode cX11_together 31 = .ok (.iload_n 1, 1) := by decide +kernel
theorem dX11_together_32 : decode cX11_together 32 = .ok (.ireturn, 1) := by decide +kernel
theorem dX11_waitFor_0 : decode cX11_waitFor 0 = .ok (.iconst (-1), 1) := by decide +kernel
theorem dX11_waitFor_1 : decode cX11_waitFor 1 = .ok (.istore_n 1, 1) := by decide +kernel
theorem dX11_waitFor_2 : decode cX11_waitFor 2 = .ok (.iconst 0, 1) := by decide +kernel
theorem dX11_waitFor_3 : decode cX11_waitFor 3 = .ok (.istore_n 2, 1) := by decide +kernel
theorem dX11_waitFor_4 : decode cX11_waitFor 4 = .ok (.iload_n 2, 1) := by decide +kernel
theorem dX11_waitFor_5 : decode cX11_waitFor 5 = .ok (.aload_n 0, 1) := by decide +kernel
theorem dX11_waitFor_6 : decode cX11_waitFor 6 = .ok (.getfield 10, 3) := by decide +kernel
theorem dX11_waitFor_9 : decode cX11_waitFor 9 = .ok (.getfield 195, 3) := by decide +kernel
theorem dX11_waitFor_12 : decode cX11_waitFor 12 = .ok (.if_icmp .ge 56, 3) := by decide +kernel
theorem dX11_waitFor_15 : decode cX11_waitFor 15 = .ok (.aload_n 0, 1) := by decide +kernel
theorem dX11_waitFor_16 : decode cX11_waitFor 16 = .ok (.getfield 10, 3) := by decide +kernel
theorem dX11_waitFor_19 : decode cX11_waitFor 19 = .ok (.getfield 201, 3) := by decide +kernel
theorem dX11_waitFor_22 : decode cX11_waitFor 22 = .ok (.iload_n 2, 1) := by decide +kernel
theorem dX11_waitFor_23 : decode cX11_waitFor 23 = .ok (.aaload, 1) := by decide +kernel
theorem dX11_waitFor_24 : decode cX11_waitFor 24 = .ok (.astore_n 3, 1) := by decide +kernel
theorem dX11_waitFor_25 : decode cX11_waitFor 25 = .ok (.aload_n 3, 1) := by decide +kernel
theorem dX11_waitFor_26 : decode cX11_waitFor 26 = .ok (.iconst 3, 1) := by decide +kernel
theorem dX11_waitFor_27 : decode cX11_waitFor 27 = .ok (.iaload, 1) := by decide +kernel
theorem dX11_waitFor_28 : decode cX11_waitFor 28 = .ok (.aload_n 0, 1) := by decide +kernel
theorem dX11_waitFor_29 : decode cX11_waitFor 29 = .ok (.getfield 10, 3) := by decide +kernel
theorem dX11_waitFor_32 : decode cX11_waitFor 32 = .ok (.getfield 110, 3) := by decide +kernel
theorem dX11_waitFor_35 : decode cX11_waitFor 35 = .ok (.isub, 1) := by decide +kernel
theorem dX11_waitFor_36 : decode cX11_waitFor 36 = .ok (.istore 4, 2) := by decide +kernel
theorem dX11_waitFor_38 : decode cX11_waitFor 38 = .ok (.aload_n 3, 1) := by decide +kernel
theorem dX11_waitFor_39 : decode cX11_waitFor 39 = .ok (.iconst 5, 1) := by decide +kernel
theorem dX11_waitFor_40 : decode cX11_waitFor 40 = .ok (.iaload, 1) := by decide +kernel
theorem dX11_waitFor_41 : decode cX11_waitFor 41 = .ok (.ifCond .ne 21, 3) := by decide +kernel
theorem dX11_waitFor_44 : decode cX11_waitFor 44 = .ok (.iload 4, 2) := by decide +kernel
theorem dX11_waitFor_46 : decode cX11_waitFor 46 = .ok (.ifCond .le 16, 3) := by decide +kernel
theorem dX11_waitFor_49 : decode cX11_waitFor 49 = .ok (.iload_n 1, 1) := by decide +kernel
theorem dX11_waitFor_50 : decode cX11_waitFor 50 = .ok (.ifCond .lt 9, 3) := by decide +kernel
theorem dX11_waitFor_53 : decode cX11_waitFor 53 = .ok (.iload 4, 2) := by decide +kernel
theorem dX11_waitFor_55 : decode cX11_waitFor 55 = .ok (.iload_n 1, 1) := by decide +kernel
theorem dX11_waitFor_56 : decode cX11_waitFor 56 = .ok (.if_icmp .ge 6, 3) := by decide +kernel
theorem dX11_waitFor_59 : decode cX11_waitFor 59 = .ok (.iload 4, 2) := by decide +kernel
theorem dX11_waitFor_61 : decode cX11_waitFor 61 = .ok (.istore_n 1, 1) := by decide +kernel
theorem dX11_waitFor_62 : decode cX11_waitFor 62 = .ok (.iinc 2 1, 3) := by decide +kernel
theorem dX11_waitFor_65 : decode cX11_waitFor 65 = .ok (.goto (-61), 3) := by decide +kernel
theorem dX11_waitFor_68 : decode cX11_waitFor 68 = .ok (.iload_n 1, 1) := by decide +kernel
theorem dX11_waitFor_69 : decode cX11_waitFor 69 = .ok (.ifCond .ge 11, 3) := by decide +kernel
theorem dX11_waitFor_72 : decode cX11_waitFor 72 = .ok (.aload_n 0, 1) := by decide +kernel
theorem dX11_waitFor_73 : decode cX11_waitFor 73 = .ok (.iconst 2, 1) := by decide +kernel
theorem dX11_waitFor_74 : decode cX11_waitFor 74 = .ok (.invokevirtual 86, 3) := by decide +kernel
theorem dX11_waitFor_77 : decode cX11_waitFor 77 = .ok (.goto 4, 3) := by decide +kernel
theorem dX11_waitFor_80 : decode cX11_waitFor 80 = .ok (.iload_n 1, 1) := by decide +kernel
theorem dX11_waitFor_81 : decode cX11_waitFor 81 = .ok (.ireturn, 1) := by decide +kernel
theorem dX11_which_0 : decode cX11_which 0 = .ok (.aload_n 0, 1) := by decide +kernel
theorem dX11_which_1 : decode cX11_which 1 = .ok (.iload_n 1, 1) := by decide +kernel
theorem dX11_which_2 : decode cX11_which 2 = .ok (.invokevirtual 259, 3) := by decide +kernel
theorem dX11_which_5 : decode cX11_which 5 = .ok (.istore_n 2, 1) := by decide +kernel
theorem dX11_which_6 : decode cX11_which 6 = .ok (.iload_n 2, 1) := by decide +kernel
theorem dX11_which_7 : decode cX11_which 7 = .ok (.ifCond .eq 9, 3) := by decide +kernel
theorem dX11_which_10 : decode cX11_which 10 = .ok (.aload_n 0, 1) := by decide +kernel
theorem dX11_which_11 : decode cX11_which 11 = .ok (.iload_n 2, 1) := by decide +kernel
theorem dX11_which_12 : decode cX11_which 12 = .ok (.invokevirtual 86, 3) := by decide +kernel
theorem dX11_which_15 : decode cX11_which 15 = .ok (.ireturn, 1) := by decide +kernel
theorem dX11_which_16 : decode cX11_which 16 = .ok (.iconst 0, 1) := by decide +kernel
theorem dX11_which_17 : decode cX11_which 17 = .ok (.istore_n 3, 1) := by decide +kernel
theorem dX11_which_18 : decode cX11_which 18 = .ok (.iconst 0, 1) := by decide +kernel
theorem dX11_which_19 : decode cX11_which 19 = .ok (.istore 4, 2) := by decide +kernel
theorem dX11_which_21 : decode cX11_which 21 = .ok (.iload 4, 2) := by decide +kernel
theorem dX11_which_23 : decode cX11_which 23 = .ok (.aload_n 0, 1) := by decide +kernel
theorem dX11_which_24 : decode cX11_which 24 = .ok (.getfield 10, 3) := by decide +kernel
theorem dX11_which_27 : decode cX11_which 27 = .ok (.getfield 101, 3) := by decide +kernel
theorem dX11_which_30 : decode cX11_which 30 = .ok (.if_icmp .ge 35, 3) := by decide +kernel
theorem dX11_which_33 : decode cX11_which 33 = .ok (.aload_n 0, 1) := by decide +kernel
theorem dX11_which_34 : decode cX11_which 34 = .ok (.iload 4, 2) := by decide +kernel
theorem dX11_which_36 : decode cX11_which 36 = .ok (.invokevirtual 225, 3) := by decide +kernel
theorem dX11_which_39 : decode cX11_which 39 = .ok (.ifCond .ne 20, 3) := by decide +kernel
theorem dX11_which_42 : decode cX11_which 42 = .ok (.aload_n 0, 1) := by decide +kernel
theorem dX11_which_43 : decode cX11_which 43 = .ok (.iload_n 1, 1) := by decide +kernel
theorem dX11_which_44 : decode cX11_which 44 = .ok (.iload 4, 2) := by decide +kernel
theorem dX11_which_46 : decode cX11_which 46 = .ok (.invokevirtual 262, 3) := by decide +kernel
theorem dX11_which_49 : decode cX11_which 49 = .ok (.ifCond .eq 10, 3) := by decide +kernel
theorem dX11_which_52 : decode cX11_which 52 = .ok (.iload_n 3, 1) := by decide +kernel
theorem dX11_which_53 : decode cX11_which 53 = .ok (.iconst 1, 1) := by decide +kernel
theorem dX11_which_54 : decode cX11_which 54 = .ok (.iload 4, 2) := by decide +kernel
theorem dX11_which_56 : decode cX11_which 56 = .ok (.ishl, 1) := by decide +kernel
theorem dX11_which_57 : decode cX11_which 57 = .ok (.ior, 1) := by decide +kernel
theorem dX11_which_58 : decode cX11_which 58 = .ok (.istore_n 3, 1) := by decide +kernel
theorem dX11_which_59 : decode cX11_which 59 = .ok (.iinc 4 1, 3) := by decide +kernel
theorem dX11_which_62 : decode cX11_which 62 = .ok (.goto (-41), 3) := by decide +kernel
theorem dX11_which_65 : decode cX11_which 65 = .ok (.iload_n 3, 1) := by decide +kernel
theorem dX11_which_66 : decode cX11_which 66 = .ok (.ireturn, 1) := by decide +kernel
theorem dX11_guess_0 : decode cX11_guess 0 = .ok (.iload_n 1, 1) := by decide +kernel
theorem dX11_guess_1 : decode cX11_guess 1 = .ok (.iconst 1, 1) := by decide +kernel
theorem dX11_guess_2 : decode cX11_guess 2 = .ok (.invokestatic 93, 3) := by decide +kernel
theorem dX11_guess_5 : decode cX11_guess 5 = .ok (.ifCond .ne 9, 3) := by decide +kernel
theorem dX11_guess_8 : decode cX11_guess 8 = .ok (.aload_n 0, 1) := by decide +kernel
theorem dX11_guess_9 : decode cX11_guess 9 = .ok (.iconst 1, 1) := by decide +kernel
theorem dX11_guess_10 : decode cX11_guess 10 = .ok (.invokevirtual 86, 3) := by decide +kernel
theorem dX11_guess_13 : decode cX11_guess 13 = .ok (.ireturn, 1) := by decide +kernel
theorem dX11_guess_14 : decode cX11_guess 14 = .ok (.aload_n 0, 1) := by decide +kernel
theorem dX11_guess_15 : decode cX11_guess 15 = .ok (.getfield 10, 3) := by decide +kernel
theorem dX11_guess_18 : decode cX11_guess 18 = .ok (.getfield 90, 3) := by decide +kernel
theorem dX11_guess_21 : decode cX11_guess 21 = .ok (.iconst 2, 1) := by decide +kernel
theorem dX11_guess_22 : decode cX11_guess 22 = .ok (.iaload, 1) := by decide +kernel
theorem dX11_guess_23 : decode cX11_guess 23 = .ok (.aload_n 0, 1) := by decide +kernel
theorem dX11_guess_24 : decode cX11_guess 24 = .ok (.getfield 10, 3) := by decide +kernel
theorem dX11_guess_27 : decode cX11_guess 27 = .ok (.getfield 90, 3) := by decide +kernel
theorem dX11_guess_30 : decode cX11_guess 30 = .ok (.iconst 0, 1) := by decide +kernel
theorem dX11_guess_31 : decode cX11_guess 31 = .ok (.iaload, 1) := by decide +kernel
theorem dX11_guess_32 : decode cX11_guess 32 = .ok (.invokestatic 236, 3) := by decide +kernel
theorem dX11_guess_35 : decode cX11_guess 35 = .ok (.iload_n 1, 1) := by decide +kernel
theorem dX11_guess_36 : decode cX11_guess 36 = .ok (.invokestatic 265, 3) := by decide +kernel
theorem dX11_guess_39 : decode cX11_guess 39 = .ok (.ireturn, 1) := by decide +kernel
theorem dX11_odds_0 : decode cX11_odds 0 = .ok (.iload_n 2, 1) := by decide +kernel
theorem dX11_odds_1 : decode cX11_odds 1 = .ok (.iconst 1, 1) := by decide +kernel
theorem dX11_odds_2 : decode cX11_odds 2 = .ok (.invokestatic 93, 3) := by decide +kernel
theorem dX11_odds_5 : decode cX11_odds 5 = .ok (.ifCond .eq 11, 3) := by decide +kernel
theorem dX11_odds_8 : decode cX11_odds 8 = .ok (.aload_n 0, 1) := by decide +kernel
theorem dX11_odds_9 : decode cX11_odds 9 = .ok (.iload_n 1, 1) := by decide +kernel
theorem dX11_odds_10 : decode cX11_odds 10 = .ok (.invokevirtual 189, 3) := by decide +kernel
theorem dX11_odds_13 : decode cX11_odds 13 = .ok (.goto 4, 3) := by decide +kernel
theorem dX11_odds_16 : decode cX11_odds 16 = .ok (.iconst 1, 1) := by decide +kernel
theorem dX11_odds_17 : decode cX11_odds 17 = .ok (.istore_n 3, 1) := by decide +kernel
theorem dX11_odds_18 : decode cX11_odds 18 = .ok (.iload_n 3, 1) := by decide +kernel
theorem dX11_odds_19 : decode cX11_odds 19 = .ok (.ifCond .eq 9, 3) := by decide +kernel
theorem dX11_odds_22 : decode cX11_odds 22 = .ok (.aload_n 0, 1) := by decide +kernel
theorem dX11_odds_23 : decode cX11_odds 23 = .ok (.iload_n 3, 1) := by decide +kernel
theorem dX11_odds_24 : decode cX11_odds 24 = .ok (.invokevirtual 86, 3) := by decide +kernel
theorem dX11_odds_27 : decode cX11_odds 27 = .ok (.ireturn, 1) := by decide +kernel
theorem dX11_odds_28 : decode cX11_odds 28 = .ok (.aload_n 0, 1) := by decide +kernel
theorem dX11_odds_29 : decode cX11_odds 29 = .ok (.getfield 10, 3) := by decide +kernel
theorem dX11_odds_32 : decode cX11_odds 32 = .ok (.getfield 110, 3) := by decide +kernel
theorem dX11_odds_35 : decode cX11_odds 35 = .ok (.aload_n 0, 1) := by decide +kernel
theorem dX11_odds_36 : decode cX11_odds 36 = .ok (.getfield 10, 3) := by decide +kernel
theorem dX11_odds_39 : decode cX11_odds 39 = .ok (.getfield 110, 3) := by decide +kernel
theorem dX11_odds_42 : decode cX11_odds 42 = .ok (.bipush 60, 2) := by decide +kernel
theorem dX11_odds_44 : decode cX11_odds 44 = .ok (.irem, 1) := by decide +kernel
theorem dX11_odds_45 : decode cX11_odds 45 = .ok (.isub, 1) := by decide +kernel
theorem dX11_odds_46 : decode cX11_odds 46 = .ok (.istore 4, 2) := by decide +kernel
theorem dX11_odds_48 : decode cX11_odds 48 = .ok (.iconst 0, 1) := by decide +kernel
theorem dX11_odds_49 : decode cX11_odds 49 = .ok (.istore 5, 2) := by decide +kernel
theorem dX11_odds_51 : decode cX11_odds 51 = .ok (.iconst 0, 1) := by decide +kernel
theorem dX11_odds_52 : decode cX11_odds 52 = .ok (.istore 6, 2) := by decide +kernel
theorem dX11_odds_54 : decode cX11_odds 54 = .ok (.iload 6, 2) := by decide +kernel
theorem dX11_odds_56 : decode cX11_odds 56 = .ok (.bipush 60, 2) := by decide +kernel
theorem dX11_odds_58 : decode cX11_odds 58 = .ok (.if_icmp .ge 25, 3) := by decide +kernel
theorem dX11_odds_61 : decode cX11_odds 61 = .ok (.aload_n 0, 1) := by decide +kernel
theorem dX11_odds_62 : decode cX11_odds 62 = .ok (.iload_n 1, 1) := by decide +kernel
theorem dX11_odds_63 : decode cX11_odds 63 = .ok (.iload 4, 2) := by decide +kernel
theorem dX11_odds_65 : decode cX11_odds 65 = .ok (.iload 6, 2) := by decide +kernel
theorem dX11_odds_67 : decode cX11_odds 67 = .ok (.iadd, 1) := by decide +kernel
theorem dX11_odds_68 : decode cX11_odds 68 = .ok (.invokevirtual 242, 3) := by decide +kernel
theorem dX11_odds_71 : decode cX11_odds 71 = .ok (.ifCond .eq 6, 3) := by decide +kernel
theorem dX11_odds_74 : decode cX11_odds 74 = .ok (.iinc 5 1, 3) := by decide +kernel
theorem dX11_odds_77 : decode cX11_odds 77 = .ok (.iinc 6 1, 3) := by decide +kernel
theorem dX11_odds_80 : decode cX11_odds 80 = .ok (.goto (-26), 3) := by decide +kernel
theorem dX11_odds_83 : decode cX11_odds 83 = .ok (.iload 5, 2) := by decide +kernel
theorem dX11_odds_85 : decode cX11_odds 85 = .ok (.bipush 60, 2) := by decide +kernel
theorem dX11_odds_87 : decode cX11_odds 87 = .ok (.iload_n 2, 1) := by decide +kernel
theorem dX11_odds_88 : decode cX11_odds 88 = .ok (.invokestatic 265, 3) := by decide +kernel
theorem dX11_odds_91 : decode cX11_odds 91 = .ok (.ireturn, 1) := by decide +kernel
theorem dX11_secondsToEnter_0 : decode cX11_secondsToEnter 0 = .ok (.aload_n 0, 1) := by decide +kernel
theorem dX11_secondsToEnter_1 : decode cX11_secondsToEnter 1 = .ok (.getfield 10, 3) := by decide +kernel
theorem dX11_secondsToEnter_4 : decode cX11_secondsToEnter 4 = .ok (.getfield 104, 3) := by decide +kernel
theorem dX11_secondsToEnter_7 : decode cX11_secondsToEnter 7 = .ok (.iload_n 1, 1) := by decide +kernel
theorem dX11_secondsToEnter_8 : decode cX11_secondsToEnter 8 = .ok (.aaload, 1) := by decide +kernel
theorem dX11_secondsToEnter_9 : decode cX11_secondsToEnter 9 = .ok (.iconst 2, 1) := by decide +kernel
theorem dX11_secondsToEnter_10 : decode cX11_secondsToEnter 10 = .ok (.iaload, 1) := by decide +kernel
theorem dX11_secondsToEnter_11 : decode cX11_secondsToEnter 11 = .ok (.istore_n 3, 1) := by decide +kernel
theorem dX11_secondsToEnter_12 : decode cX11_secondsToEnter 12 = .ok (.iload_n 3, 1) := by decide +kernel
theorem dX11_secondsToEnter_13 : decode cX11_secondsToEnter 13 = .ok (.iload_n 3, 1) := by decide +kernel
theorem dX11_secondsToEnter_14 : decode cX11_secondsToEnter 14 = .ok (.iadd, 1) := by decide +kernel
theorem dX11_secondsToEnter_15 : decode cX11_secondsToEnter 15 = .ok (.aload_n 0, 1) := by decide +kernel
theorem dX11_secondsToEnter_16 : decode cX11_secondsToEnter 16 = .ok (.iload_n 1, 1) := by decide +kernel
theorem dX11_secondsToEnter_17 : decode cX11_secondsToEnter 17 = .ok (.iload_n 2, 1) := by decide +kernel
theorem dX11_secondsToEnter_18 : decode cX11_secondsToEnter 18 = .ok (.invokevirtual 113, 3) := by decide +kernel
theorem dX11_secondsToEnter_21 : decode cX11_secondsToEnter 21 = .ok (.iload_n 3, 1) := by decide +kernel
theorem dX11_secondsToEnter_22 : decode cX11_secondsToEnter 22 = .ok (.iadd, 1) := by decide +kernel
theorem dX11_secondsToEnter_23 : decode cX11_secondsToEnter 23 = .ok (.invokestatic 186, 3) := by decide +kernel
theorem dX11_secondsToEnter_26 : decode cX11_secondsToEnter 26 = .ok (.iconst 2, 1) := by decide +kernel
theorem dX11_secondsToEnter_27 : decode cX11_secondsToEnter 27 = .ok (.iadd, 1) := by decide +kernel
theorem dX11_secondsToEnter_28 : decode cX11_secondsToEnter 28 = .ok (.ireturn, 1) := by decide +kernel
theorem dX11_isEntered_0 : decode cX11_isEntered 0 = .ok (.iload_n 2, 1) := by decide +kernel
theorem dX11_isEntered_1 : decode cX11_isEntered 1 = .ok (.iconst 2, 1) := by decide +kernel
theorem dX11_isEntered_2 : decode cX11_isEntered 2 = .ok (.isub, 1) := by decide +kernel
theorem dX11_isEntered_3 : decode cX11_isEntered 3 = .ok (.aload_n 0, 1) := by decide +kernel
theorem dX11_isEntered_4 : decode cX11_isEntered 4 = .ok (.getfield 10, 3) := by decide +kernel
theorem dX11_isEntered_7 : decode cX11_isEntered 7 = .ok (.getfield 205, 3) := by decide +kernel
theorem dX11_isEntered_10 : decode cX11_isEntered 10 = .ok (.if_icmp .lt 42, 3) := by decide +kernel
theorem dX11_isEntered_13 : decode cX11_isEntered 13 = .ok (.aload_n 0, 1) := by decide +kernel
theorem dX11_isEntered_14 : decode cX11_isEntered 14 = .ok (.iconst 1, 1) := by decide +kernel
theorem dX11_isEntered_15 : decode cX11_isEntered 15 = .ok (.aload_n 0, 1) := by decide +kernel
theorem dX11_isEntered_16 : decode cX11_isEntered 16 = .ok (.getfield 10, 3) := by decide +kernel
theorem dX11_isEntered_19 : decode cX11_isEntered 19 = .ok (.getfield 104, 3) := by decide +kernel
theorem dX11_isEntered_22 : decode cX11_isEntered 22 = .ok (.iload_n 1, 1) := by decide +kernel
theorem dX11_isEntered_23 : decode cX11_isEntered 23 = .ok (.aaload, 1) := by decide +kernel
theorem dX11_isEntered_24 : decode cX11_isEntered 24 = .ok (.iconst 2, 1) := by decide +kernel
theorem dX11_isEntered_25 : decode cX11_isEntered 25 = .ok (.iaload, 1) := by decide +kernel
theorem dX11_isEntered_26 : decode cX11_isEntered 26 = .ok (.aload_n 0, 1) := by decide +kernel
theorem dX11_isEntered_27 : decode cX11_isEntered 27 = .ok (.getfield 10, 3) := by decide +kernel
theorem dX11_isEntered_30 : decode cX11_isEntered 30 = .ok (.getfield 90, 3) := by decide +kernel
theorem dX11_isEntered_33 : decode cX11_isEntered 33 = .ok (.iconst 0, 1) := by decide +kernel
theorem dX11_isEntered_34 : decode cX11_isEntered 34 = .ok (.iaload, 1) := by decide +kernel
theorem dX11_isEntered_35 : decode cX11_isEntered 35 = .ok (.aload_n 0, 1) := by decide +kernel
theorem dX11_isEntered_36 : decode cX11_isEntered 36 = .ok (.getfield 10, 3) := by decide +kernel
theorem dX11_isEntered_39 : decode cX11_isEntered 39 = .ok (.getfield 214, 3) := by decide +kernel
theorem dX11_isEntered_42 : decode cX11_isEntered 42 = .ok (.invokevirtual 129, 3) := by decide +kernel
theorem dX11_isEntered_45 : decode cX11_isEntered 45 = .ok (.ifCond .ne 7, 3) := by decide +kernel
theorem dX11_isEntered_48 : decode cX11_isEntered 48 = .ok (.iconst 1, 1) := by decide +kernel
theorem dX11_isEntered_49 : decode cX11_isEntered 49 = .ok (.goto 4, 3) := by decide +kernel
theorem dX11_isEntered_52 : decode cX11_isEntered 52 = .ok (.iconst 0, 1) := by decide +kernel
theorem dX11_isEntered_53 : decode cX11_isEntered 53 = .ok (.ireturn, 1) := by decide +kernel
theorem dX11_getsIn_0 : decode cX11_getsIn 0 = .ok (.aload_n 0, 1) := by decide +kernel
theorem dX11_getsIn_1 : decode cX11_getsIn 1 = .ok (.iload_n 1, 1) := by decide +kernel
theorem dX11_getsIn_2 : decode cX11_getsIn 2 = .ok (.iload_n 2, 1) := by decide +kernel
theorem dX11_getsIn_3 : decode cX11_getsIn 3 = .ok (.invokevirtual 239, 3) := by decide +kernel
theorem dX11_getsIn_6 : decode cX11_getsIn 6 = .ok (.istore_n 3, 1) := by decide +kernel
theorem dX11_getsIn_7 : decode cX11_getsIn 7 = .ok (.iload_n 3, 1) := by decide +kernel
theorem dX11_getsIn_8 : decode cX11_getsIn 8 = .ok (.aload_n 0, 1) := by decide +kernel
theorem dX11_getsIn_9 : decode cX11_getsIn 9 = .ok (.iload_n 1, 1) := by decide +kernel
theorem dX11_getsIn_10 : decode cX11_getsIn 10 = .ok (.aload_n 0, 1) := by decide +kernel
theorem dX11_getsIn_11 : decode cX11_getsIn 11 = .ok (.getfield 10, 3) := by decide +kernel
theorem dX11_getsIn_14 : decode cX11_getsIn 14 = .ok (.getfield 90, 3) := by decide +kernel
theorem dX11_getsIn_17 : decode cX11_getsIn 17 = .ok (.iconst 1, 1) := by decide +kernel
theorem dX11_getsIn_18 : decode cX11_getsIn 18 = .ok (.iaload, 1) := by decide +kernel
theorem dX11_getsIn_19 : decode cX11_getsIn 19 = .ok (.invokevirtual 117, 3) := by decide +kernel
theorem dX11_getsIn_22 : decode cX11_getsIn 22 = .ok (.if_icmp .gt 18, 3) := by decide +kernel
theorem dX11_getsIn_25 : decode cX11_getsIn 25 = .ok (.aload_n 0, 1) := by decide +kernel
theorem dX11_getsIn_26 : decode cX11_getsIn 26 = .ok (.iload_n 1, 1) := by decide +kernel
theorem dX11_getsIn_27 : decode cX11_getsIn 27 = .ok (.iload_n 2, 1) := by decide +kernel
theorem dX11_getsIn_28 : decode cX11_getsIn 28 = .ok (.iload_n 3, 1) := by decide +kernel
theorem dX11_getsIn_29 : decode cX11_getsIn 29 = .ok (.iadd, 1) := by decide +kernel
theorem dX11_getsIn_30 : decode cX11_getsIn 30 = .ok (.invokevirtual 245, 3) := by decide +kernel
theorem dX11_getsIn_33 : decode cX11_getsIn 33 = .ok (.ifCond .eq 7, 3) := by decide +kernel
theorem dX11_getsIn_36 : decode cX11_getsIn 36 = .ok (.iconst 1, 1) := by decide +kernel
theorem dX11_getsIn_37 : decode cX11_getsIn 37 = .ok (.goto 4, 3) := by decide +kernel
theorem dX11_getsIn_40 : decode cX11_getsIn 40 = .ok (.iconst 0, 1) := by decide +kernel
theorem dX11_getsIn_41 : decode cX11_getsIn 41 = .ok (.ireturn, 1) := by decide +kernel
theorem dX11_leftWithout_0 : decode cX11_leftWithout 0 = .ok (.iconst 0, 1) := by decide +kernel
theorem dX11_leftWithout_1 : decode cX11_leftWithout 1 = .ok (.istore_n 2, 1) := by decide +kernel
theorem dX11_leftWithout_2 : decode cX11_leftWithout 2 = .ok (.iconst 0, 1) := by decide +kernel
theorem dX11_leftWithout_3 : decode cX11_leftWithout 3 = .ok (.istore_n 3, 1) := by decide +kernel
theorem dX11_leftWithout_4 : decode cX11_leftWithout 4 = .ok (.iload_n 3, 1) := by decide +kernel
theorem dX11_leftWithout_5 : decode cX11_leftWithout 5 = .ok (.bipush 6, 2) := by decide +kernel
theorem dX11_leftWithout_7 : decode cX11_leftWithout 7 = .ok (.if_icmp .ge 25, 3) := by decide +kernel
theorem dX11_leftWithout_10 : decode cX11_leftWithout 10 = .ok (.iload_n 1, 1) := by decide +kernel
theorem dX11_leftWithout_11 : decode cX11_leftWithout 11 = .ok (.iload_n 3, 1) := by decide +kernel
theorem dX11_leftWithout_12 : decode cX11_leftWithout 12 = .ok (.ishr, 1) := by decide +kernel
theorem dX11_leftWithout_13 : decode cX11_leftWithout 13 = .ok (.iconst 1, 1) := by decide +kernel
theorem dX11_leftWithout_14 : decode cX11_leftWithout 14 = .ok (.iand, 1) := by decide +kernel
theorem dX11_leftWithout_15 : decode cX11_leftWithout 15 = .ok (.ifCond .ne 11, 3) := by decide +kernel
theorem dX11_leftWithout_18 : decode cX11_leftWithout 18 = .ok (.iload_n 2, 1) := by decide +kernel
theorem dX11_leftWithout_19 : decode cX11_leftWithout 19 = .ok (.aload_n 0, 1) := by decide +kernel
theorem dX11_leftWithout_20 : decode cX11_leftWithout 20 = .ok (.iload_n 3, 1) := by decide +kernel
theorem dX11_leftWithout_21 : decode cX11_leftWithout 21 = .ok (.invokevirtual 256, 3) := by decide +kernel
theorem dX11_leftWithout_24 : decode cX11_leftWithout 24 = .ok (.iadd, 1) := by decide +kernel
theorem dX11_leftWithout_25 : decode cX11_leftWithout 25 = .ok (.istore_n 2, 1) := by decide +kernel
theorem dX11_leftWithout_26 : decode cX11_leftWithout 26 = .ok (.iinc 3 1, 3) := by decide +kernel
theorem dX11_leftWithout_29 : decode cX11_leftWithout 29 = .ok (.goto (-25), 3) := by decide +kernel
theorem dX11_leftWithout_32 : decode cX11_leftWithout 32 = .ok (.iload_n 2, 1) := by decide +kernel
theorem dX11_leftWithout_33 : decode cX11_leftWithout 33 = .ok (.ireturn, 1) := by decide +kernel
theorem dX11_waysAt_0 : decode cX11_waysAt 0 = .ok (.iconst 0, 1) := by decide +kernel
theorem dX11_waysAt_1 : decode cX11_waysAt 1 = .ok (.istore_n 2, 1) := by decide +kernel
theorem dX11_waysAt_2 : decode cX11_waysAt 2 = .ok (.iconst 0, 1) := by decide +kernel
theorem dX11_waysAt_3 : decode cX11_waysAt 3 = .ok (.istore_n 3, 1) := by decide +kernel
theorem dX11_waysAt_4 : decode cX11_waysAt 4 = .ok (.iload_n 3, 1) := by decide +kernel
theorem dX11_waysAt_5 : decode cX11_waysAt 5 = .ok (.aload_n 0, 1) := by decide +kernel
theorem dX11_waysAt_6 : decode cX11_waysAt 6 = .ok (.getfield 10, 3) := by decide +kernel
theorem dX11_waysAt_9 : decode cX11_waysAt 9 = .ok (.getfield 101, 3) := by decide +kernel
theorem dX11_waysAt_12 : decode cX11_waysAt 12 = .ok (.if_icmp .ge 35, 3) := by decide +kernel
theorem dX11_waysAt_15 : decode cX11_waysAt 15 = .ok (.aload_n 0, 1) := by decide +kernel
theorem dX11_waysAt_16 : decode cX11_waysAt 16 = .ok (.iload_n 3, 1) := by decide +kernel
theorem dX11_waysAt_17 : decode cX11_waysAt 17 = .ok (.invokevirtual 225, 3) := by decide +kernel
theorem dX11_waysAt_20 : decode cX11_waysAt 20 = .ok (.ifCond .ne 21, 3) := by decide +kernel
theorem dX11_waysAt_23 : decode cX11_waysAt 23 = .ok (.aload_n 0, 1) := by decide +kernel
theorem dX11_waysAt_24 : decode cX11_waysAt 24 = .ok (.getfield 10, 3) := by decide +kernel
theorem dX11_waysAt_27 : decode cX11_waysAt 27 = .ok (.getfield 104, 3) := by decide +kernel
theorem dX11_waysAt_30 : decode cX11_waysAt 30 = .ok (.iload_n 3, 1) := by decide +kernel
theorem dX11_waysAt_31 : decode cX11_waysAt 31 = .ok (.aaload, 1) := by decide +kernel
theorem dX11_waysAt_32 : decode cX11_waysAt 32 = .ok (.iconst 3, 1) := by decide +kernel
theorem dX11_waysAt_33 : decode cX11_waysAt 33 = .ok (.iaload, 1) := by decide +kernel
theorem dX11_waysAt_34 : decode cX11_waysAt 34 = .ok (.iload_n 1, 1) := by decide +kernel
theorem dX11_waysAt_35 : decode cX11_waysAt 35 = .ok (.if_icmp .ne 6, 3) := by decide +kernel
theorem dX11_waysAt_38 : decode cX11_waysAt 38 = .ok (.iinc 2 1, 3) := by decide +kernel
theorem dX11_waysAt_41 : decode cX11_waysAt 41 = .ok (.iinc 3 1, 3) := by decide +kernel
theorem dX11_waysAt_44 : decode cX11_waysAt 44 = .ok (.goto (-40), 3) := by decide +kernel
theorem dX11_waysAt_47 : decode cX11_waysAt 47 = .ok (.iload_n 2, 1) := by decide +kernel
theorem dX11_waysAt_48 : decode cX11_waysAt 48 = .ok (.ireturn, 1) := by decide +kernel
theorem dX11_tellsLateOf_0 : decode cX11_tellsLateOf 0 = .ok (.iconst 0, 1) := by decide +kernel
theorem dX11_tellsLateOf_1 : decode cX11_tellsLateOf 1 = .ok (.istore_n 3, 1) := by decide +kernel
theorem dX11_tellsLateOf_2 : decode cX11_tellsLateOf 2 = .ok (.iload_n 3, 1) := by decide +kernel
theorem dX11_tellsLateOf_3 : decode cX11_tellsLateOf 3 = .ok (.aload_n 0, 1) := by decide +kernel
theorem dX11_tellsLateOf_4 : decode cX11_tellsLateOf 4 = .ok (.getfield 77, 3) := by decide +kernel
theorem dX11_tellsLateOf_7 : decode cX11_tellsLateOf 7 = .ok (.iload_n 1, 1) := by decide +kernel
theorem dX11_tellsLateOf_8 : decode cX11_tellsLateOf 8 = .ok (.iaload, 1) := by decide +kernel
theorem dX11_tellsLateOf_9 : decode cX11_tellsLateOf 9 = .ok (.if_icmp .ge 36, 3) := by decide +kernel
theorem dX11_tellsLateOf_12 : decode cX11_tellsLateOf 12 = .ok (.aload_n 0, 1) := by decide +kernel
theorem dX11_tellsLateOf_13 : decode cX11_tellsLateOf 13 = .ok (.getfield 71, 3) := by decide +kernel
theorem dX11_tellsLateOf_16 : decode cX11_tellsLateOf 16 = .ok (.iload_n 1, 1) := by decide +kernel
theorem dX11_tellsLateOf_17 : decode cX11_tellsLateOf 17 = .ok (.aaload, 1) := by decide +kernel
theorem dX11_tellsLateOf_18 : decode cX11_tellsLateOf 18 = .ok (.iload_n 3, 1) := by decide +kernel
theorem dX11_tellsLateOf_19 : decode cX11_tellsLateOf 19 = .ok (.iaload, 1) := by decide +kernel
theorem dX11_tellsLateOf_20 : decode cX11_tellsLateOf 20 = .ok (.aload_n 0, 1) := by decide +kernel
theorem dX11_tellsLateOf_21 : decode cX11_tellsLateOf 21 = .ok (.iload_n 2, 1) := by decide +kernel
theorem dX11_tellsLateOf_22 : decode cX11_tellsLateOf 22 = .ok (.aload_n 0, 1) := by decide +kernel
theorem dX11_tellsLateOf_23 : decode cX11_tellsLateOf 23 = .ok (.getfield 10, 3) := by decide +kernel
theorem dX11_tellsLateOf_26 : decode cX11_tellsLateOf 26 = .ok (.getfield 110, 3) := by decide +kernel
theorem dX11_tellsLateOf_29 : decode cX11_tellsLateOf 29 = .ok (.iload_n 3, 1) := by decide +kernel
theorem dX11_tellsLateOf_30 : decode cX11_tellsLateOf 30 = .ok (.iadd, 1) := by decide +kernel
theorem dX11_tellsLateOf_31 : decode cX11_tellsLateOf 31 = .ok (.invokevirtual 113, 3) := by decide +kernel
theorem dX11_tellsLateOf_34 : decode cX11_tellsLateOf 34 = .ok (.if_icmp .eq 5, 3) := by decide +kernel
theorem dX11_tellsLateOf_37 : decode cX11_tellsLateOf 37 = .ok (.iconst 0, 1) := by decide +kernel
theorem dX11_tellsLateOf_38 : decode cX11_tellsLateOf 38 = .ok (.ireturn, 1) := by decide +kernel
theorem dX11_tellsLateOf_39 : decode cX11_tellsLateOf 39 = .ok (.iinc 3 1, 3) := by decide +kernel
theorem dX11_tellsLateOf_42 : decode cX11_tellsLateOf 42 = .ok (.goto (-40), 3) := by decide +kernel
theorem dX11_tellsLateOf_45 : decode cX11_tellsLateOf 45 = .ok (.iconst 1, 1) := by decide +kernel
theorem dX11_tellsLateOf_46 : decode cX11_tellsLateOf 46 = .ok (.ireturn, 1) := by decide +kernel
theorem dX11_partOfFraction_0 : decode cX11_partOfFraction 0 = .ok (.iload_n 1, 1) := by decide +kernel
theorem dX11_partOfFraction_1 : decode cX11_partOfFraction 1 = .ok (.istore_n 3, 1) := by decide +kernel
theorem dX11_partOfFraction_2 : decode cX11_partOfFraction 2 = .ok (.iload_n 0, 1) := by decide +kernel
theorem dX11_partOfFraction_3 : decode cX11_partOfFraction 3 = .ok (.istore 4, 2) := by decide +kernel
theorem dX11_partOfFraction_5 : decode cX11_partOfFraction 5 = .ok (.iconst 0, 1) := by decide +kernel
theorem dX11_partOfFraction_6 : decode cX11_partOfFraction 6 = .ok (.istore 5, 2) := by decide +kernel
theorem dX11_partOfFraction_8 : decode cX11_partOfFraction 8 = .ok (.iload 5, 2) := by decide +kernel
theorem dX11_partOfFraction_10 : decode cX11_partOfFraction 10 = .ok (.bipush 64, 2) := by decide +kernel
theorem dX11_partOfFraction_12 : decode cX11_partOfFraction 12 = .ok (.if_icmp .ge 27, 3) := by decide +kernel
theorem dX11_partOfFraction_15 : decode cX11_partOfFraction 15 = .ok (.iload 4, 2) := by decide +kernel
theorem dX11_partOfFraction_17 : decode cX11_partOfFraction 17 = .ok (.ifCond .eq 22, 3) := by decide +kernel
theorem dX11_partOfFraction_20 : decode cX11_partOfFraction 20 = .ok (.iload_n 3, 1) := by decide +kernel
theorem dX11_partOfFraction_21 : decode cX11_partOfFraction 21 = .ok (.iload 4, 2) := by decide +kernel
theorem dX11_partOfFraction_23 : decode cX11_partOfFraction 23 = .ok (.irem, 1) := by decide +kernel
theorem dX11_partOfFraction_24 : decode cX11_partOfFraction 24 = .ok (.istore 6, 2) := by decide +kernel
theorem dX11_partOfFraction_26 : decode cX11_partOfFraction 26 = .ok (.iload 4, 2) := by decide +kernel
theorem dX11_partOfFraction_28 : decode cX11_partOfFraction 28 = .ok (.istore_n 3, 1) := by decide +kernel
theorem dX11_partOfFraction_29 : decode cX11_partOfFraction 29 = .ok (.iload 6, 2) := by decide +kernel
theorem dX11_partOfFraction_31 : decode cX11_partOfFraction 31 = .ok (.istore 4, 2) := by decide +kernel
theorem dX11_partOfFraction_33 : decode cX11_partOfFraction 33 = .ok (.iinc 5 1, 3) := by decide +kernel
theorem dX11_partOfFraction_36 : decode cX11_partOfFraction 36 = .ok (.goto (-28), 3) := by decide +kernel
theorem dX11_partOfFraction_39 : decode cX11_partOfFraction 39 = .ok (.iload_n 2, 1) := by decide +kernel
theorem dX11_partOfFraction_40 : decode cX11_partOfFraction 40 = .ok (.ifCond .ne 7, 3) := by decide +kernel
theorem dX11_partOfFraction_43 : decode cX11_partOfFraction 43 = .ok (.iload_n 0, 1) := by decide +kernel
theorem dX11_partOfFraction_44 : decode cX11_partOfFraction 44 = .ok (.goto 4, 3) := by decide +kernel
theorem dX11_partOfFraction_47 : decode cX11_partOfFraction 47 = .ok (.iload_n 1, 1) := by decide +kernel
theorem dX11_partOfFraction_48 : decode cX11_partOfFraction 48 = .ok (.istore 5, 2) := by decide +kernel
theorem dX11_partOfFraction_50 : decode cX11_partOfFraction 50 = .ok (.iload_n 3, 1) := by decide +kernel
theorem dX11_partOfFraction_51 : decode cX11_partOfFraction 51 = .ok (.ifCond .ne 8, 3) := by decide +kernel
theorem dX11_partOfFraction_54 : decode cX11_partOfFraction 54 = .ok (.iload 5, 2) := by decide +kernel
theorem dX11_partOfFraction_56 : decode cX11_partOfFraction 56 = .ok (.goto 7, 3) := by decide +kernel
theorem dX11_partOfFraction_59 : decode cX11_partOfFraction 59 = .ok (.iload 5, 2) := by decide +kernel
theorem dX11_partOfFraction_61 : decode cX11_partOfFraction 61 = .ok (.iload_n 3, 1) := by decide +kernel
theorem dX11_partOfFraction_62 : decode cX11_partOfFraction 62 = .ok (.idiv, 1) := by decide +kernel
theorem dX11_partOfFraction_63 : decode cX11_partOfFraction 63 = .ok (.ireturn, 1) := by decide +kernel
theorem dX11_seed_0 : decode cX11_seed 0 = .ok (.aload_n 0, 1) := by decide +kernel
theorem dX11_seed_1 : decode cX11_seed 1 = .ok (.getfield 10, 3) := by decide +kernel
theorem dX11_seed_4 : decode cX11_seed 4 = .ok (.getfield 228, 3) := by decide +kernel
theorem dX11_seed_7 : decode cX11_seed 7 = .ok (.istore_n 2, 1) := by decide +kernel
theorem dX11_seed_8 : decode cX11_seed 8 = .ok (.aload_n 0, 1) := by decide +kernel
theorem dX11_seed_9 : decode cX11_seed 9 = .ok (.getfield 10, 3) := by decide +kernel
theorem dX11_seed_12 : decode cX11_seed 12 = .ok (.iload_n 1, 1) := by decide +kernel
theorem dX11_seed_13 : decode cX11_seed 13 = .ok (.putfield 228, 3) := by decide +kernel
theorem dX11_seed_16 : decode cX11_seed 16 = .ok (.iload_n 2, 1) := by decide +kernel
theorem dX11_seed_17 : decode cX11_seed 17 = .ok (.ireturn, 1) := by decide +kernel
theorem dX11_voice_0 : decode cX11_voice 0 = .ok (.aload_n 0, 1) := by decide +kernel
theorem dX11_voice_1 : decode cX11_voice 1 = .ok (.iload_n 1, 1) := by decide +kernel
theorem dX11_voice_2 : decode cX11_voice 2 = .ok (.invokevirtual 107, 3) := by decide +kernel
theorem dX11_voice_5 : decode cX11_voice 5 = .ok (.ifCond .eq 11, 3) := by decide +kernel
theorem dX11_voice_8 : decode cX11_voice 8 = .ok (.iload_n 2, 1) := by decide +kernel
theorem dX11_voice_9 : decode cX11_voice 9 = .ok (.iconst 3, 1) := by decide +kernel
theorem dX11_voice_10 : decode cX11_voice 10 = .ok (.invokestatic 93, 3) := by decide +kernel
theorem dX11_voice_13 : decode cX11_voice 13 = .ok (.ifCond .ne 9, 3) := by decide +kernel
theorem dX11_voice_16 : decode cX11_voice 16 = .ok (.aload_n 0, 1) := by decide +kernel
theorem dX11_voice_17 : decode cX11_voice 17 = .ok (.iconst 1, 1) := by decide +kernel
theorem dX11_voice_18 : decode cX11_voice 18 = .ok (.invokevirtual 86, 3) := by decide +kernel
theorem dX11_voice_21 : decode cX11_voice 21 = .ok (.ireturn, 1) := by decide +kernel
theorem dX11_voice_22 : decode cX11_voice 22 = .ok (.aload_n 0, 1) := by decide +kernel
theorem dX11_voice_23 : decode cX11_voice 23 = .ok (.getfield 65, 3) := by decide +kernel
theorem dX11_voice_26 : decode cX11_voice 26 = .ok (.iload_n 1, 1) := by decide +kernel
theorem dX11_voice_27 : decode cX11_voice 27 = .ok (.aload_n 0, 1) := by decide +kernel
theorem dX11_voice_28 : decode cX11_voice 28 = .ok (.getfield 10, 3) := by decide +kernel
theorem dX11_voice_31 : decode cX11_voice 31 = .ok (.getfield 104, 3) := by decide +kernel
theorem dX11_voice_34 : decode cX11_voice 34 = .ok (.iload_n 1, 1) := by decide +kernel
theorem dX11_voice_35 : decode cX11_voice 35 = .ok (.aaload, 1) := by decide +kernel
theorem dX11_voice_36 : decode cX11_voice 36 = .ok (.iconst 1, 1) := by decide +kernel
theorem dX11_voice_37 : decode cX11_voice 37 = .ok (.iaload, 1) := by decide +kernel
theorem dX11_voice_38 : decode cX11_voice 38 = .ok (.invokevirtual 269, 3) := by decide +kernel
theorem dX11_voice_41 : decode cX11_voice 41 = .ok (.aload_n 0, 1) := by decide +kernel
theorem dX11_voice_42 : decode cX11_voice 42 = .ok (.getfield 48, 3) := by decide +kernel
theorem dX11_voice_45 : decode cX11_voice 45 = .ok (.aload_n 0, 1) := by decide +kernel
theorem dX11_voice_46 : decode cX11_voice 46 = .ok (.getfield 10, 3) := by decide +kernel
theorem dX11_voice_49 : decode cX11_voice 49 = .ok (.getfield 104, 3) := by decide +kernel
theorem dX11_voice_52 : decode cX11_voice 52 = .ok (.iload_n 1, 1) := by decide +kernel
theorem dX11_voice_53 : decode cX11_voice 53 = .ok (.aaload, 1) := by decide +kernel
theorem dX11_voice_54 : decode cX11_voice 54 = .ok (.iconst 0, 1) := by decide +kernel
theorem dX11_voice_55 : decode cX11_voice 55 = .ok (.iaload, 1) := by decide +kernel
theorem dX11_voice_56 : decode cX11_voice 56 = .ok (.aaload, 1) := by decide +kernel
theorem dX11_voice_57 : decode cX11_voice 57 = .ok (.astore 4, 2) := by decide +kernel
theorem dX11_voice_59 : decode cX11_voice 59 = .ok (.iload_n 2, 1) := by decide +kernel
theorem dX11_voice_60 : decode cX11_voice 60 = .ok (.tableswitch 61 0 2 #[28, 39, 50], 28) := by decide +kernel
theorem dX11_voice_88 : decode cX11_voice 88 = .ok (.aload 4, 2) := by decide +kernel
theorem dX11_voice_90 : decode cX11_voice 90 = .ok (.aload_n 0, 1) := by decide +kernel
theorem dX11_voice_91 : decode cX11_voice 91 = .ok (.getfield 65, 3) := by decide +kernel
theorem dX11_voice_94 : decode cX11_voice 94 = .ok (.iload_n 3, 1) := by decide +kernel
theorem dX11_voice_95 : decode cX11_voice 95 = .ok (.invokevirtual 273, 3) := by decide +kernel
theorem dX11_voice_98 : decode cX11_voice 98 = .ok (.ireturn, 1) := by decide +kernel
theorem dX11_voice_99 : decode cX11_voice 99 = .ok (.aload 4, 2) := by decide +kernel
theorem dX11_voice_101 : decode cX11_voice 101 = .ok (.aload_n 0, 1) := by decide +kernel
theorem dX11_voice_102 : decode cX11_voice 102 = .ok (.getfield 65, 3) := by decide +kernel
theorem dX11_voice_105 : decode cX11_voice 105 = .ok (.iload_n 3, 1) := by decide +kernel
theorem dX11_voice_106 : decode cX11_voice 106 = .ok (.invokevirtual 277, 3) := by decide +kernel
theorem dX11_voice_109 : decode cX11_voice 109 = .ok (.ireturn, 1) := by decide +kernel
theorem dX11_voice_110 : decode cX11_voice 110 = .ok (.aload 4, 2) := by decide +kernel
theorem dX11_voice_112 : decode cX11_voice 112 = .ok (.aload_n 0, 1) := by decide +kernel
theorem dX11_voice_113 : decode cX11_voice 113 = .ok (.getfield 65, 3) := by decide +kernel
theorem dX11_voice_116 : decode cX11_voice 116 = .ok (.iload_n 3, 1) := by decide +kernel
theorem dX11_voice_117 : decode cX11_voice 117 = .ok (.invokevirtual 280, 3) := by decide +kernel
theorem dX11_voice_120 : decode cX11_voice 120 = .ok (.ireturn, 1) := by decide +kernel
theorem dX11_voice_121 : decode cX11_voice 121 = .ok (.aload 4, 2) := by decide +kernel
theorem dX11_voice_123 : decode cX11_voice 123 = .ok (.aload_n 0, 1) := by decide +kernel
theorem dX11_voice_124 : decode cX11_voice 124 = .ok (.getfield 65, 3) := by decide +kernel
theorem dX11_voice_127 : decode cX11_voice 127 = .ok (.iload_n 3, 1) := by decide +kernel
theorem dX11_voice_128 : decode cX11_voice 128 = .ok (.invokevirtual 283, 3) := by decide +kernel
theorem dX11_voice_131 : decode cX11_voice 131 = .ok (.ireturn, 1) := by decide +kernel
theorem dX11_trace_0 : decode cX11_trace 0 = .ok (.iload_n 1, 1) := by decide +kernel
theorem dX11_trace_1 : decode cX11_trace 1 = .ok (.ifCond .lt 26, 3) := by decide +kernel
theorem dX11_trace_4 : decode cX11_trace 4 = .ok (.iload_n 1, 1) := by decide +kernel
theorem dX11_trace_5 : decode cX11_trace 5 = .ok (.aload_n 0, 1) := by decide +kernel
theorem dX11_trace_6 : decode cX11_trace 6 = .ok (.getfield 65, 3) := by decide +kernel
theorem dX11_trace_9 : decode cX11_trace 9 = .ok (.getfield 286, 3) := by decide +kernel
theorem dX11_trace_12 : decode cX11_trace 12 = .ok (.if_icmp .ge 15, 3) := by decide +kernel
theorem dX11_trace_15 : decode cX11_trace 15 = .ok (.aload_n 0, 1) := by decide +kernel
theorem dX11_trace_16 : decode cX11_trace 16 = .ok (.getfield 65, 3) := by decide +kernel
theorem dX11_trace_19 : decode cX11_trace 19 = .ok (.getfield 287, 3) := by decide +kernel
theorem dX11_trace_22 : decode cX11_trace 22 = .ok (.iload_n 1, 1) := by decide +kernel
theorem dX11_trace_23 : decode cX11_trace 23 = .ok (.iaload, 1) := by decide +kernel
theorem dX11_trace_24 : decode cX11_trace 24 = .ok (.goto 8, 3) := by decide +kernel
theorem dX11_trace_27 : decode cX11_trace 27 = .ok (.aload_n 0, 1) := by decide +kernel
theorem dX11_trace_28 : decode cX11_trace 28 = .ok (.iconst 2, 1) := by decide +kernel
theorem dX11_trace_29 : decode cX11_trace 29 = .ok (.invokevirtual 86, 3) := by decide +kernel
theorem dX11_trace_32 : decode cX11_trace 32 = .ok (.ireturn, 1) := by decide +kernel
theorem dX11_sheet_0 : decode cX11_sheet 0 = .ok (.iload_n 1, 1) := by decide +kernel
theorem dX11_sheet_1 : decode cX11_sheet 1 = .ok (.invokestatic 290, 3) := by decide +kernel
theorem dX11_sheet_4 : decode cX11_sheet 4 = .ok (.ifCond .eq 25, 3) := by decide +kernel
theorem dX11_sheet_7 : decode cX11_sheet 7 = .ok (.iload_n 2, 1) := by decide +kernel
theorem dX11_sheet_8 : decode cX11_sheet 8 = .ok (.ifCond .eq 27, 3) := by decide +kernel
theorem dX11_sheet_11 : decode cX11_sheet 11 = .ok (.iload_n 2, 1) := by decide +kernel
theorem dX11_sheet_12 : decode cX11_sheet 12 = .ok (.bipush 8, 2) := by decide +kernel
theorem dX11_sheet_14 : decode cX11_sheet 14 = .ok (.if_icmp .eq 21, 3) := by decide +kernel
theorem dX11_sheet_17 : decode cX11_sheet 17 = .ok (.iload_n 2, 1) := by decide +kernel
theorem dX11_sheet_18 : decode cX11_sheet 18 = .ok (.bipush 16, 2) := by decide +kernel
theorem dX11_sheet_20 : decode cX11_sheet 20 = .ok (.if_icmp .eq 15, 3) := by decide +kernel
theorem dX11_sheet_23 : decode cX11_sheet 23 = .ok (.iload_n 2, 1) := by decide +kernel
theorem dX11_sheet_24 : decode cX11_sheet 24 = .ok (.bipush 32, 2) := by decide +kernel
theorem dX11_sheet_26 : decode cX11_sheet 26 = .ok (.if_icmp .eq 9, 3) := by decide +kernel
theorem dX11_sheet_29 : decode cX11_sheet 29 = .ok (.aload_n 0, 1) := by decide +kernel
theorem dX11_sheet_30 : decode cX11_sheet 30 = .ok (.iconst 1, 1) := by decide +kernel
theorem dX11_sheet_31 : decode cX11_sheet 31 = .ok (.invokevirtual 86, 3) := by decide +kernel
theorem dX11_sheet_34 : decode cX11_sheet 34 = .ok (.ireturn, 1) := by decide +kernel
theorem dX11_sheet_35 : decode cX11_sheet 35 = .ok (.iload_n 2, 1) := by decide +kernel
theorem dX11_sheet_36 : decode cX11_sheet 36 = .ok (.ifCond .eq 13, 3) := by decide +kernel
theorem dX11_sheet_39 : decode cX11_sheet 39 = .ok (.iload_n 3, 1) := by decide +kernel
theorem dX11_sheet_40 : decode cX11_sheet 40 = .ok (.ifCond .ge 9, 3) := by decide +kernel
theorem dX11_sheet_43 : decode cX11_sheet 43 = .ok (.aload_n 0, 1) := by decide +kernel
theorem dX11_sheet_44 : decode cX11_sheet 44 = .ok (.iconst 3, 1) := by decide +kernel
theorem dX11_sheet_45 : decode cX11_sheet 45 = .ok (.invokevirtual 86, 3) := by decide +kernel
theorem dX11_sheet_48 : decode cX11_sheet 48 = .ok (.ireturn, 1) := by decide +kernel
theorem dX11_sheet_49 : decode cX11_sheet 49 = .ok (.iload_n 2, 1) := by decide +kernel
theorem dX11_sheet_50 : decode cX11_sheet 50 = .ok (.ifCond .eq 15, 3) := by decide +kernel
theorem dX11_sheet_53 : decode cX11_sheet 53 = .ok (.iload_n 3, 1) := by decide +kernel
theorem dX11_sheet_54 : decode cX11_sheet 54 = .ok (.bipush 40, 2) := by decide +kernel
theorem dX11_sheet_56 : decode cX11_sheet 56 = .ok (.if_icmp .le 9, 3) := by decide +kernel
theorem dX11_sheet_59 : decode cX11_sheet 59 = .ok (.aload_n 0, 1) := by decide +kernel
theorem dX11_sheet_60 : decode cX11_sheet 60 = .ok (.iconst 1, 1) := by decide +kernel
theorem dX11_sheet_61 : decode cX11_sheet 61 = .ok (.invokevirtual 86, 3) := by decide +kernel
theorem dX11_sheet_64 : decode cX11_sheet 64 = .ok (.ireturn, 1) := by decide +kernel
theorem dX11_sheet_65 : decode cX11_sheet 65 = .ok (.aload_n 0, 1) := by decide +kernel
theorem dX11_sheet_66 : decode cX11_sheet 66 = .ok (.getfield 74, 3) := by decide +kernel
theorem dX11_sheet_69 : decode cX11_sheet 69 = .ok (.iload_n 1, 1) := by decide +kernel
theorem dX11_sheet_70 : decode cX11_sheet 70 = .ok (.iload_n 2, 1) := by decide +kernel
theorem dX11_sheet_71 : decode cX11_sheet 71 = .ok (.iastore, 1) := by decide +kernel
theorem dX11_sheet_72 : decode cX11_sheet 72 = .ok (.aload_n 0, 1) := by decide +kernel
theorem dX11_sheet_73 : decode cX11_sheet 73 = .ok (.getfield 77, 3) := by decide +kernel
theorem dX11_sheet_76 : decode cX11_sheet 76 = .ok (.iload_n 1, 1) := by decide +kernel
theorem dX11_sheet_77 : decode cX11_sheet 77 = .ok (.iload_n 2, 1) := by decide +kernel
theorem dX11_sheet_78 : decode cX11_sheet 78 = .ok (.ifCond .ne 7, 3) := by decide +kernel
theorem dX11_sheet_81 : decode cX11_sheet 81 = .ok (.iconst 0, 1) := by decide +kernel
theorem dX11_sheet_82 : decode cX11_sheet 82 = .ok (.goto 4, 3) := by decide +kernel
theorem dX11_sheet_85 : decode cX11_sheet 85 = .ok (.iload_n 3, 1) := by decide +kernel
theorem dX11_sheet_86 : decode cX11_sheet 86 = .ok (.iastore, 1) := by decide +kernel
theorem dX11_sheet_87 : decode cX11_sheet 87 = .ok (.iconst 0, 1) := by decide +kernel
theorem dX11_sheet_88 : decode cX11_sheet 88 = .ok (.istore 4, 2) := by decide +kernel
theorem dX11_sheet_90 : decode cX11_sheet 90 = .ok (.iload 4, 2) := by decide +kernel
theorem dX11_sheet_92 : decode cX11_sheet 92 = .ok (.bipush 40, 2) := by decide +kernel
theorem dX11_sheet_94 : decode cX11_sheet 94 = .ok (.if_icmp .ge 19, 3) := by decide +kernel
theorem dX11_sheet_97 : decode cX11_sheet 97 = .ok (.aload_n 0, 1) := by decide +kernel
theorem dX11_sheet_98 : decode cX11_sheet 98 = .ok (.getfield 71, 3) := by decide +kernel
theorem dX11_sheet_101 : decode cX11_sheet 101 = .ok (.iload_n 1, 1) := by decide +kernel
theorem dX11_sheet_102 : decode cX11_sheet 102 = .ok (.aaload, 1) := by decide +kernel
theorem dX11_sheet_103 : decode cX11_sheet 103 = .ok (.iload 4, 2) := by decide +kernel
theorem dX11_sheet_105 : decode cX11_sheet 105 = .ok (.iconst 0, 1) := by decide +kernel
theorem dX11_sheet_106 : decode cX11_sheet 106 = .ok (.iastore, 1) := by decide +kernel
theorem dX11_sheet_107 : decode cX11_sheet 107 = .ok (.iinc 4 1, 3) := by decide +kernel
theorem dX11_sheet_110 : decode cX11_sheet 110 = .ok (.goto (-20), 3) := by decide +kernel
theorem dX11_sheet_113 : decode cX11_sheet 113 = .ok (.iconst 1, 1) := by decide +kernel
theorem dX11_sheet_114 : decode cX11_sheet 114 = .ok (.ireturn, 1) := by decide +kernel
theorem dX11_put_0 : decode cX11_put 0 = .ok (.aload_n 0, 1) := by decide +kernel
theorem dX11_put_1 : decode cX11_put 1 = .ok (.iload_n 1, 1) := by decide +kernel
theorem dX11_put_2 : decode cX11_put 2 = .ok (.invokevirtual 259, 3) := by decide +kernel
theorem dX11_put_5 : decode cX11_put 5 = .ok (.istore 4, 2) := by decide +kernel
theorem dX11_put_7 : decode cX11_put 7 = .ok (.iload 4, 2) := by decide +kernel
theorem dX11_put_9 : decode cX11_put 9 = .ok (.ifCond .eq 10, 3) := by decide +kernel
theorem dX11_put_12 : decode cX11_put 12 = .ok (.aload_n 0, 1) := by decide +kernel
theorem dX11_put_13 : decode cX11_put 13 = .ok (.iload 4, 2) := by decide +kernel
theorem dX11_put_15 : decode cX11_put 15 = .ok (.invokevirtual 86, 3) := by decide +kernel
theorem dX11_put_18 : decode cX11_put 18 = .ok (.ireturn, 1) := by decide +kernel
theorem dX11_put_19 : decode cX11_put 19 = .ok (.iload_n 2, 1) := by decide +kernel
theorem dX11_put_20 : decode cX11_put 20 = .ok (.ifCond .lt 13, 3) := by decide +kernel
theorem dX11_put_23 : decode cX11_put 23 = .ok (.iload_n 2, 1) := by decide +kernel
theorem dX11_put_24 : decode cX11_put 24 = .ok (.aload_n 0, 1) := by decide +kernel
theorem dX11_put_25 : decode cX11_put 25 = .ok (.getfield 77, 3) := by decide +kernel
theorem dX11_put_28 : decode cX11_put 28 = .ok (.iload_n 1, 1) := by decide +kernel
theorem dX11_put_29 : decode cX11_put 29 = .ok (.iaload, 1) := by decide +kernel
theorem dX11_put_30 : decode cX11_put 30 = .ok (.if_icmp .lt 9, 3) := by decide +kernel
theorem dX11_put_33 : decode cX11_put 33 = .ok (.aload_n 0, 1) := by decide +kernel
theorem dX11_put_34 : decode cX11_put 34 = .ok (.iconst 1, 1) := by decide +kernel
theorem dX11_put_35 : decode cX11_put 35 = .ok (.invokevirtual 86, 3) := by decide +kernel
theorem dX11_put_38 : decode cX11_put 38 = .ok (.ireturn, 1) := by decide +kernel
theorem dX11_put_39 : decode cX11_put 39 = .ok (.aload_n 0, 1) := by decide +kernel
theorem dX11_put_40 : decode cX11_put 40 = .ok (.getfield 71, 3) := by decide +kernel
theorem dX11_put_43 : decode cX11_put 43 = .ok (.iload_n 1, 1) := by decide +kernel
theorem dX11_put_44 : decode cX11_put 44 = .ok (.aaload, 1) := by decide +kernel
theorem dX11_put_45 : decode cX11_put 45 = .ok (.iload_n 2, 1) := by decide +kernel
theorem dX11_put_46 : decode cX11_put 46 = .ok (.iload_n 3, 1) := by decide +kernel
theorem dX11_put_47 : decode cX11_put 47 = .ok (.aload_n 0, 1) := by decide +kernel
theorem dX11_put_48 : decode cX11_put 48 = .ok (.getfield 74, 3) := by decide +kernel
theorem dX11_put_51 : decode cX11_put 51 = .ok (.iload_n 1, 1) := by decide +kernel
theorem dX11_put_52 : decode cX11_put 52 = .ok (.iaload, 1) := by decide +kernel
theorem dX11_put_53 : decode cX11_put 53 = .ok (.invokestatic 293, 3) := by decide +kernel
theorem dX11_put_56 : decode cX11_put 56 = .ok (.iastore, 1) := by decide +kernel
theorem dX11_put_57 : decode cX11_put 57 = .ok (.iconst 1, 1) := by decide +kernel
theorem dX11_put_58 : decode cX11_put 58 = .ok (.ireturn, 1) := by decide +kernel
theorem dX11_move_0 : decode cX11_move 0 = .ok (.iload_n 1, 1) := by decide +kernel
theorem dX11_move_1 : decode cX11_move 1 = .ok (.invokestatic 290, 3) := by decide +kernel
theorem dX11_move_4 : decode cX11_move 4 = .ok (.ifCond .eq 10, 3) := by decide +kernel
theorem dX11_move_7 : decode cX11_move 7 = .ok (.iload_n 3, 1) := by decide +kernel
theorem dX11_move_8 : decode cX11_move 8 = .ok (.invokestatic 290, 3) := by decide +kernel
theorem dX11_move_11 : decode cX11_move 11 = .ok (.ifCond .ne 9, 3) := by decide +kernel
theorem dX11_move_14 : decode cX11_move 14 = .ok (.aload_n 0, 1) := by decide +kernel
theorem dX11_move_15 : decode cX11_move 15 = .ok (.iconst 1, 1) := by decide +kernel
theorem dX11_move_16 : decode cX11_move 16 = .ok (.invokevirtual 86, 3) := by decide +kernel
theorem dX11_move_19 : decode cX11_move 19 = .ok (.ireturn, 1) := by decide +kernel
theorem dX11_move_20 : decode cX11_move 20 = .ok (.aload_n 0, 1) := by decide +kernel
theorem dX11_move_21 : decode cX11_move 21 = .ok (.iload_n 1, 1) := by decide +kernel
theorem dX11_move_22 : decode cX11_move 22 = .ok (.invokevirtual 296, 3) := by decide +kernel
theorem dX11_move_25 : decode cX11_move 25 = .ok (.ifCond .ne 11, 3) := by decide +kernel
theorem dX11_move_28 : decode cX11_move 28 = .ok (.aload_n 0, 1) := by decide +kernel
theorem dX11_move_29 : decode cX11_move 29 = .ok (.iload_n 3, 1) := by decide +kernel
theorem dX11_move_30 : decode cX11_move 30 = .ok (.invokevirtual 296, 3) := by decide +kernel
theorem dX11_move_33 : decode cX11_move 33 = .ok (.ifCond .eq 9, 3) := by decide +kernel
theorem dX11_move_36 : decode cX11_move 36 = .ok (.aload_n 0, 1) := by decide +kernel
theorem dX11_move_37 : decode cX11_move 37 = .ok (.iconst 2, 1) := by decide +kernel
theorem dX11_move_38 : decode cX11_move 38 = .ok (.invokevirtual 86, 3) := by decide +kernel
theorem dX11_move_41 : decode cX11_move 41 = .ok (.ireturn, 1) := by decide +kernel
theorem dX11_move_42 : decode cX11_move 42 = .ok (.aload_n 0, 1) := by decide +kernel
theorem dX11_move_43 : decode cX11_move 43 = .ok (.getfield 74, 3) := by decide +kernel
theorem dX11_move_46 : decode cX11_move 46 = .ok (.iload_n 1, 1) := by decide +kernel
theorem dX11_move_47 : decode cX11_move 47 = .ok (.iaload, 1) := by decide +kernel
theorem dX11_move_48 : decode cX11_move 48 = .ok (.aload_n 0, 1) := by decide +kernel
theorem dX11_move_49 : decode cX11_move 49 = .ok (.getfield 74, 3) := by decide +kernel
theorem dX11_move_52 : decode cX11_move 52 = .ok (.iload_n 3, 1) := by decide +kernel
theorem dX11_move_53 : decode cX11_move 53 = .ok (.iaload, 1) := by decide +kernel
theorem dX11_move_54 : decode cX11_move 54 = .ok (.if_icmp .eq 9, 3) := by decide +kernel
theorem dX11_move_57 : decode cX11_move 57 = .ok (.aload_n 0, 1) := by decide +kernel
theorem dX11_move_58 : decode cX11_move 58 = .ok (.iconst 5, 1) := by decide +kernel
theorem dX11_move_59 : decode cX11_move 59 = .ok (.invokevirtual 86, 3) := by decide +kernel
theorem dX11_move_62 : decode cX11_move 62 = .ok (.ireturn, 1) := by decide +kernel
theorem dX11_move_63 : decode cX11_move 63 = .ok (.aload_n 0, 1) := by decide +kernel
theorem dX11_move_64 : decode cX11_move 64 = .ok (.iload_n 1, 1) := by decide +kernel
theorem dX11_move_65 : decode cX11_move 65 = .ok (.iload_n 2, 1) := by decide +kernel
theorem dX11_move_66 : decode cX11_move 66 = .ok (.iload 5, 2) := by decide +kernel
theorem dX11_move_68 : decode cX11_move 68 = .ok (.invokevirtual 299, 3) := by decide +kernel
theorem dX11_move_71 : decode cX11_move 71 = .ok (.ifCond .eq 15, 3) := by decide +kernel
theorem dX11_move_74 : decode cX11_move 74 = .ok (.aload_n 0, 1) := by decide +kernel
theorem dX11_move_75 : decode cX11_move 75 = .ok (.iload_n 3, 1) := by decide +kernel
theorem dX11_move_76 : decode cX11_move 76 = .ok (.iload 4, 2) := by decide +kernel
theorem dX11_move_78 : decode cX11_move 78 = .ok (.iload 5, 2) := by decide +kernel
theorem dX11_move_80 : decode cX11_move 80 = .ok (.invokevirtual 299, 3) := by decide +kernel
theorem dX11_move_83 : decode cX11_move 83 = .ok (.ifCond .ne 9, 3) := by decide +kernel
theorem dX11_move_86 : decode cX11_move 86 = .ok (.aload_n 0, 1) := by decide +kernel
theorem dX11_move_87 : decode cX11_move 87 = .ok (.iconst 1, 1) := by decide +kernel
theorem dX11_move_88 : decode cX11_move 88 = .ok (.invokevirtual 86, 3) := by decide +kernel
theorem dX11_move_91 : decode cX11_move 91 = .ok (.ireturn, 1) := by decide +kernel
theorem dX11_move_92 : decode cX11_move 92 = .ok (.aload_n 0, 1) := by decide +kernel
theorem dX11_move_93 : decode cX11_move 93 = .ok (.getfield 71, 3) := by decide +kernel
theorem dX11_move_96 : decode cX11_move 96 = .ok (.iload_n 1, 1) := by decide +kernel
theorem dX11_move_97 : decode cX11_move 97 = .ok (.aaload, 1) := by decide +kernel
theorem dX11_move_98 : decode cX11_move 98 = .ok (.iload_n 2, 1) := by decide +kernel
theorem dX11_move_99 : decode cX11_move 99 = .ok (.aload_n 0, 1) := by decide +kernel
theorem dX11_move_100 : decode cX11_move 100 = .ok (.getfield 71, 3) := by decide +kernel
theorem dX11_move_103 : decode cX11_move 103 = .ok (.iload_n 3, 1) := by decide +kernel
theorem dX11_move_104 : decode cX11_move 104 = .ok (.aaload, 1) := by decide +kernel
theorem dX11_move_105 : decode cX11_move 105 = .ok (.iload 4, 2) := by decide +kernel
theorem dX11_move_107 : decode cX11_move 107 = .ok (.iload 5, 2) := by decide +kernel
theorem dX11_move_109 : decode cX11_move 109 = .ok (.invokestatic 303, 3) := by decide +kernel
theorem dX11_move_112 : decode cX11_move 112 = .ok (.iload 5, 2) := by decide +kernel
theorem dX11_move_114 : decode cX11_move 114 = .ok (.ireturn, 1) := by decide +kernel
theorem dX11_fars_0 : decode cX11_fars 0 = .ok (.aload_n 0, 1) := by decide +kernel
theorem dX11_fars_1 : decode cX11_fars 1 = .ok (.iload_n 1, 1) := by decide +kernel
theorem dX11_fars_2 : decode cX11_fars 2 = .ok (.invokevirtual 259, 3) := by decide +kernel
theorem dX11_fars_5 : decode cX11_fars 5 = .ok (.istore_n 2, 1) := by decide +kernel
theorem dX11_fars_6 : decode cX11_fars 6 = .ok (.iload_n 2, 1) := by decide +kernel
theorem dX11_fars_7 : decode cX11_fars 7 = .ok (.ifCond .eq 9, 3) := by decide +kernel
theorem dX11_fars_10 : decode cX11_fars 10 = .ok (.aload_n 0, 1) := by decide +kernel
theorem dX11_fars_11 : decode cX11_fars 11 = .ok (.iload_n 2, 1) := by decide +kernel
theorem dX11_fars_12 : decode cX11_fars 12 = .ok (.invokevirtual 86, 3) := by decide +kernel
theorem dX11_fars_15 : decode cX11_fars 15 = .ok (.ireturn, 1) := by decide +kernel
theorem dX11_fars_16 : decode cX11_fars 16 = .ok (.aload_n 0, 1) := by decide +kernel
theorem dX11_fars_17 : decode cX11_fars 17 = .ok (.getfield 77, 3) := by decide +kernel
theorem dX11_fars_20 : decode cX11_fars 20 = .ok (.iload_n 1, 1) := by decide +kernel
theorem dX11_fars_21 : decode cX11_fars 21 = .ok (.iaload, 1) := by decide +kernel
theorem dX11_fars_22 : decode cX11_fars 22 = .ok (.aload_n 0, 1) := by decide +kernel
theorem dX11_fars_23 : decode cX11_fars 23 = .ok (.getfield 10, 3) := by decide +kernel
theorem dX11_fars_26 : decode cX11_fars 26 = .ok (.getfield 101, 3) := by decide +kernel
theorem dX11_fars_29 : decode cX11_fars 29 = .ok (.invokestatic 181, 3) := by decide +kernel
theorem dX11_fars_32 : decode cX11_fars 32 = .ok (.istore_n 3, 1) := by decide +kernel
theorem dX11_fars_33 : decode cX11_fars 33 = .ok (.iconst 0, 1) := by decide +kernel
theorem dX11_fars_34 : decode cX11_fars 34 = .ok (.istore 4, 2) := by decide +kernel
theorem dX11_fars_36 : decode cX11_fars 36 = .ok (.iload 4, 2) := by decide +kernel
theorem dX11_fars_38 : decode cX11_fars 38 = .ok (.iload_n 3, 1) := by decide +kernel
theorem dX11_fars_39 : decode cX11_fars 39 = .ok (.if_icmp .ge 50, 3) := by decide +kernel
theorem dX11_fars_42 : decode cX11_fars 42 = .ok (.aload_n 0, 1) := by decide +kernel
theorem dX11_fars_43 : decode cX11_fars 43 = .ok (.getfield 71, 3) := by decide +kernel
theorem dX11_fars_46 : decode cX11_fars 46 = .ok (.iload_n 1, 1) := by decide +kernel
theorem dX11_fars_47 : decode cX11_fars 47 = .ok (.aaload, 1) := by decide +kernel
theorem dX11_fars_48 : decode cX11_fars 48 = .ok (.iload 4, 2) := by decide +kernel
theorem dX11_fars_50 : decode cX11_fars 50 = .ok (.iaload, 1) := by decide +kernel
theorem dX11_fars_51 : decode cX11_fars 51 = .ok (.bipush 99, 2) := by decide +kernel
theorem dX11_fars_53 : decode cX11_fars 53 = .ok (.invokestatic 93, 3) := by decide +kernel
theorem dX11_fars_56 : decode cX11_fars 56 = .ok (.ifCond .ne 6, 3) := by decide +kernel
theorem dX11_fars_59 : decode cX11_fars 59 = .ok (.iload 4, 2) := by decide +kernel
theorem dX11_fars_61 : decode cX11_fars 61 = .ok (.ireturn, 1) := by decide +kernel
theorem dX11_fars_62 : decode cX11_fars 62 = .ok (.aload_n 0, 1) := by decide +kernel
theorem dX11_fars_63 : decode cX11_fars 63 = .ok (.getfield 10, 3) := by decide +kernel
theorem dX11_fars_66 : decode cX11_fars 66 = .ok (.getfield 104, 3) := by decide +kernel
theorem dX11_fars_69 : decode cX11_fars 69 = .ok (.iload 4, 2) := by decide +kernel
theorem dX11_fars_71 : decode cX11_fars 71 = .ok (.aaload, 1) := by decide +kernel
theorem dX11_fars_72 : decode cX11_fars 72 = .ok (.iconst 2, 1) := by decide +kernel
theorem dX11_fars_73 : decode cX11_fars 73 = .ok (.aload_n 0, 1) := by decide +kernel
theorem dX11_fars_74 : decode cX11_fars 74 = .ok (.getfield 71, 3) := by decide +kernel
theorem dX11_fars_77 : decode cX11_fars 77 = .ok (.iload_n 1, 1) := by decide +kernel
theorem dX11_fars_78 : decode cX11_fars 78 = .ok (.aaload, 1) := by decide +kernel
theorem dX11_fars_79 : decode cX11_fars 79 = .ok (.iload 4, 2) := by decide +kernel
theorem dX11_fars_81 : decode cX11_fars 81 = .ok (.iaload, 1) := by decide +kernel
theorem dX11_fars_82 : decode cX11_fars 82 = .ok (.iastore, 1) := by decide +kernel
theorem dX11_fars_83 : decode cX11_fars 83 = .ok (.iinc 4 1, 3) := by decide +kernel
theorem dX11_fars_86 : decode cX11_fars 86 = .ok (.goto (-50), 3) := by decide +kernel
theorem dX11_fars_89 : decode cX11_fars 89 = .ok (.iload_n 3, 1) := by decide +kernel
theorem dX11_fars_90 : decode cX11_fars 90 = .ok (.ireturn, 1) := by decide +kernel
theorem dX11_judge_0 : decode cX11_judge 0 = .ok (.aload_n 0, 1) := by decide +kernel
theorem dX11_judge_1 : decode cX11_judge 1 = .ok (.iload_n 1, 1) := by decide +kernel
theorem dX11_judge_2 : decode cX11_judge 2 = .ok (.invokevirtual 259, 3) := by decide +kernel
theorem dX11_judge_5 : decode cX11_judge 5 = .ok (.istore_n 2, 1) := by decide +kernel
theorem dX11_judge_6 : decode cX11_judge 6 = .ok (.iload_n 2, 1) := by decide +kernel
theorem dX11_judge_7 : decode cX11_judge 7 = .ok (.ifCond .eq 9, 3) := by decide +kernel
theorem dX11_judge_10 : decode cX11_judge 10 = .ok (.aload_n 0, 1) := by decide +kernel
theorem dX11_judge_11 : decode cX11_judge 11 = .ok (.iload_n 2, 1) := by decide +kernel
theorem dX11_judge_12 : decode cX11_judge 12 = .ok (.invokevirtual 86, 3) := by decide +kernel
theorem dX11_judge_15 : decode cX11_judge 15 = .ok (.ireturn, 1) := by decide +kernel
theorem dX11_judge_16 : decode cX11_judge 16 = .ok (.aload_n 0, 1) := by decide +kernel
theorem dX11_judge_17 : decode cX11_judge 17 = .ok (.getfield 77, 3) := by decide +kernel
theorem dX11_judge_20 : decode cX11_judge 20 = .ok (.iload_n 1, 1) := by decide +kernel
theorem dX11_judge_21 : decode cX11_judge 21 = .ok (.iaload, 1) := by decide +kernel
theorem dX11_judge_22 : decode cX11_judge 22 = .ok (.aload_n 0, 1) := by decide +kernel
theorem dX11_judge_23 : decode cX11_judge 23 = .ok (.getfield 10, 3) := by decide +kernel
theorem dX11_judge_26 : decode cX11_judge 26 = .ok (.getfield 101, 3) := by decide +kernel
theorem dX11_judge_29 : decode cX11_judge 29 = .ok (.invokestatic 181, 3) := by decide +kernel
theorem dX11_judge_32 : decode cX11_judge 32 = .ok (.istore_n 3, 1) := by decide +kernel
theorem dX11_judge_33 : decode cX11_judge 33 = .ok (.iconst 0, 1) := by decide +kernel
theorem dX11_judge_34 : decode cX11_judge 34 = .ok (.istore 4, 2) := by decide +kernel
theorem dX11_judge_36 : decode cX11_judge 36 = .ok (.iload 4, 2) := by decide +kernel
theorem dX11_judge_38 : decode cX11_judge 38 = .ok (.iload_n 3, 1) := by decide +kernel
theorem dX11_judge_39 : decode cX11_judge 39 = .ok (.if_icmp .ge 36, 3) := by decide +kernel
theorem dX11_judge_42 : decode cX11_judge 42 = .ok (.aload_n 0, 1) := by decide +kernel
theorem dX11_judge_43 : decode cX11_judge 43 = .ok (.getfield 71, 3) := by decide +kernel
theorem dX11_judge_46 : decode cX11_judge 46 = .ok (.iload_n 1, 1) := by decide +kernel
theorem dX11_judge_47 : decode cX11_judge 47 = .ok (.aaload, 1) := by decide +kernel
theorem dX11_judge_48 : decode cX11_judge 48 = .ok (.iload 4, 2) := by decide +kernel
theorem dX11_judge_50 : decode cX11_judge 50 = .ok (.iaload, 1) := by decide +kernel
theorem dX11_judge_51 : decode cX11_judge 51 = .ok (.aload_n 0, 1) := by decide +kernel
theorem dX11_judge_52 : decode cX11_judge 52 = .ok (.getfield 10, 3) := by decide +kernel
theorem dX11_judge_55 : decode cX11_judge 55 = .ok (.getfield 104, 3) := by decide +kernel
theorem dX11_judge_58 : decode cX11_judge 58 = .ok (.iload 4, 2) := by decide +kernel
theorem dX11_judge_60 : decode cX11_judge 60 = .ok (.aaload, 1) := by decide +kernel
theorem dX11_judge_61 : decode cX11_judge 61 = .ok (.iconst 3, 1) := by decide +kernel
theorem dX11_judge_62 : decode cX11_judge 62 = .ok (.iaload, 1) := by decide +kernel
theorem dX11_judge_63 : decode cX11_judge 63 = .ok (.if_icmp .eq 6, 3) := by decide +kernel
theorem dX11_judge_66 : decode cX11_judge 66 = .ok (.iload 4, 2) := by decide +kernel
theorem dX11_judge_68 : decode cX11_judge 68 = .ok (.ireturn, 1) := by decide +kernel
theorem dX11_judge_69 : decode cX11_judge 69 = .ok (.iinc 4 1, 3) := by decide +kernel
theorem dX11_judge_72 : decode cX11_judge 72 = .ok (.goto (-36), 3) := by decide +kernel
theorem dX11_judge_75 : decode cX11_judge 75 = .ok (.aload_n 0, 1) := by decide +kernel
theorem dX11_judge_76 : decode cX11_judge 76 = .ok (.getfield 77, 3) := by decide +kernel
theorem dX11_judge_79 : decode cX11_judge 79 = .ok (.iload_n 1, 1) := by decide +kernel
theorem dX11_judge_80 : decode cX11_judge 80 = .ok (.iaload, 1) := by decide +kernel
theorem dX11_judge_81 : decode cX11_judge 81 = .ok (.aload_n 0, 1) := by decide +kernel
theorem dX11_judge_82 : decode cX11_judge 82 = .ok (.getfield 10, 3) := by decide +kernel
theorem dX11_judge_85 : decode cX11_judge 85 = .ok (.getfield 101, 3) := by decide +kernel
theorem dX11_judge_88 : decode cX11_judge 88 = .ok (.if_icmp .ne 7, 3) := by decide +kernel
theorem dX11_judge_91 : decode cX11_judge 91 = .ok (.iconst (-1), 1) := by decide +kernel
theorem dX11_judge_92 : decode cX11_judge 92 = .ok (.goto 4, 3) := by decide +kernel
theorem dX11_judge_95 : decode cX11_judge 95 = .ok (.iload_n 3, 1) := by decide +kernel
theorem dX11_judge_96 : decode cX11_judge 96 = .ok (.ireturn, 1) := by decide +kernel
theorem dX11_image_0 : decode cX11_image 0 = .ok (.aload_n 0, 1) := by decide +kernel
theorem dX11_image_1 : decode cX11_image 1 = .ok (.getfield 16, 3) := by decide +kernel
theorem dX11_image_4 : decode cX11_image 4 = .ok (.ifnonnull 14, 3) := by decide +kernel
theorem dX11_image_7 : decode cX11_image 7 = .ok (.aload_n 0, 1) := by decide +kernel
theorem dX11_image_8 : decode cX11_image 8 = .ok (.new 7, 3) := by decide +kernel
theorem dX11_image_11 : decode cX11_image 11 = .ok (.dup, 1) := by decide +kernel
theorem dX11_image_12 : decode cX11_image 12 = .ok (.invokespecial 9, 3) := by decide +kernel
theorem dX11_image_15 : decode cX11_image 15 = .ok (.putfield 16, 3) := by decide +kernel
theorem dX11_image_18 : decode cX11_image 18 = .ok (.aload_n 0, 1) := by decide +kernel
theorem dX11_image_19 : decode cX11_image 19 = .ok (.getfield 16, 3) := by decide +kernel
theorem dX11_image_22 : decode cX11_image 22 = .ok (.aload_n 0, 1) := by decide +kernel
theorem dX11_image_23 : decode cX11_image 23 = .ok (.getfield 10, 3) := by decide +kernel
theorem dX11_image_26 : decode cX11_image 26 = .ok (.invokevirtual 309, 3) := by decide +kernel
theorem dX11_image_29 : decode cX11_image 29 = .ok (.aload_n 0, 1) := by decide +kernel
theorem dX11_image_30 : decode cX11_image 30 = .ok (.dup, 1) := by decide +kernel
theorem dX11_image_31 : decode cX11_image 31 = .ok (.getfield 19, 3) := by decide +kernel
theorem dX11_image_34 : decode cX11_image 34 = .ok (.iconst 1, 1) := by decide +kernel
theorem dX11_image_35 : decode cX11_image 35 = .ok (.iadd, 1) := by decide +kernel
theorem dX11_image_36 : decode cX11_image 36 = .ok (.putfield 19, 3) := by decide +kernel
theorem dX11_image_39 : decode cX11_image 39 = .ok (.aload_n 0, 1) := by decide +kernel
theorem dX11_image_40 : decode cX11_image 40 = .ok (.getfield 19, 3) := by decide +kernel
theorem dX11_image_43 : decode cX11_image 43 = .ok (.ireturn, 1) := by decide +kernel
theorem dX11_restore_0 : decode cX11_restore 0 = .ok (.aload_n 0, 1) := by decide +kernel
theorem dX11_restore_1 : decode cX11_restore 1 = .ok (.getfield 16, 3) := by decide +kernel
theorem dX11_restore_4 : decode cX11_restore 4 = .ok (.ifnonnull 9, 3) := by decide +kernel
theorem dX11_restore_7 : decode cX11_restore 7 = .ok (.aload_n 0, 1) := by decide +kernel
theorem dX11_restore_8 : decode cX11_restore 8 = .ok (.iconst 2, 1) := by decide +kernel
theorem dX11_restore_9 : decode cX11_restore 9 = .ok (.invokevirtual 86, 3) := by decide +kernel
theorem dX11_restore_12 : decode cX11_restore 12 = .ok (.ireturn, 1) := by decide +kernel
theorem dX11_restore_13 : decode cX11_restore 13 = .ok (.aload_n 0, 1) := by decide +kernel
theorem dX11_restore_14 : decode cX11_restore 14 = .ok (.getfield 10, 3) := by decide +kernel
theorem dX11_restore_17 : decode cX11_restore 17 = .ok (.aload_n 0, 1) := by decide +kernel
theorem dX11_restore_18 : decode cX11_restore 18 = .ok (.getfield 16, 3) := by decide +kernel
theorem dX11_restore_21 : decode cX11_restore 21 = .ok (.invokevirtual 309, 3) := by decide +kernel
theorem dX11_restore_24 : decode cX11_restore 24 = .ok (.aload_n 0, 1) := by decide +kernel
theorem dX11_restore_25 : decode cX11_restore 25 = .ok (.getfield 10, 3) := by decide +kernel
theorem dX11_restore_28 : decode cX11_restore 28 = .ok (.getfield 110, 3) := by decide +kernel
theorem dX11_restore_31 : decode cX11_restore 31 = .ok (.ireturn, 1) := by decide +kernel
theorem dX11_tell_0 : decode cX11_tell 0 = .ok (.aload_n 0, 1) := by decide +kernel
theorem dX11_tell_1 : decode cX11_tell 1 = .ok (.getfield 10, 3) := by decide +kernel
theorem dX11_tell_4 : decode cX11_tell 4 = .ok (.getfield 312, 3) := by decide +kernel
theorem dX11_tell_7 : decode cX11_tell 7 = .ok (.bipush 20, 2) := by decide +kernel
theorem dX11_tell_9 : decode cX11_tell 9 = .ok (.if_icmp .lt 9, 3) := by decide +kernel
theorem dX11_tell_12 : decode cX11_tell 12 = .ok (.aload_n 0, 1) := by decide +kernel
theorem dX11_tell_13 : decode cX11_tell 13 = .ok (.iconst 4, 1) := by decide +kernel
theorem dX11_tell_14 : decode cX11_tell 14 = .ok (.invokevirtual 86, 3) := by decide +kernel
theorem dX11_tell_17 : decode cX11_tell 17 = .ok (.ireturn, 1) := by decide +kernel
theorem dX11_tell_18 : decode cX11_tell 18 = .ok (.aload_n 0, 1) := by decide +kernel
theorem dX11_tell_19 : decode cX11_tell 19 = .ok (.getfield 10, 3) := by decide +kernel
theorem dX11_tell_22 : decode cX11_tell 22 = .ok (.getfield 315, 3) := by decide +kernel
theorem dX11_tell_25 : decode cX11_tell 25 = .ok (.aload_n 0, 1) := by decide +kernel
theorem dX11_tell_26 : decode cX11_tell 26 = .ok (.getfield 10, 3) := by decide +kernel
theorem dX11_tell_29 : decode cX11_tell 29 = .ok (.getfield 312, 3) := by decide +kernel
theorem dX11_tell_32 : decode cX11_tell 32 = .ok (.iload_n 1, 1) := by decide +kernel
theorem dX11_tell_33 : decode cX11_tell 33 = .ok (.iastore, 1) := by decide +kernel
theorem dX11_tell_34 : decode cX11_tell 34 = .ok (.aload_n 0, 1) := by decide +kernel
theorem dX11_tell_35 : decode cX11_tell 35 = .ok (.getfield 10, 3) := by decide +kernel
theorem dX11_tell_38 : decode cX11_tell 38 = .ok (.dup, 1) := by decide +kernel
theorem dX11_tell_39 : decode cX11_tell 39 = .ok (.getfield 312, 3) := by decide +kernel
theorem dX11_tell_42 : decode cX11_tell 42 = .ok (.iconst 1, 1) := by decide +kernel
theorem dX11_tell_43 : decode cX11_tell 43 = .ok (.iadd, 1) := by decide +kernel
theorem dX11_tell_44 : decode cX11_tell 44 = .ok (.putfield 312, 3) := by decide +kernel
theorem dX11_tell_47 : decode cX11_tell 47 = .ok (.aload_n 0, 1) := by decide +kernel
theorem dX11_tell_48 : decode cX11_tell 48 = .ok (.getfield 10, 3) := by decide +kernel
theorem dX11_tell_51 : decode cX11_tell 51 = .ok (.getfield 312, 3) := by decide +kernel
theorem dX11_tell_54 : decode cX11_tell 54 = .ok (.ireturn, 1) := by decide +kernel
theorem dX11_check_0 : decode cX11_check 0 = .ok (.aload_n 0, 1) := by decide +kernel
theorem dX11_check_1 : decode cX11_check 1 = .ok (.getfield 10, 3) := by decide +kernel
theorem dX11_check_4 : decode cX11_check 4 = .ok (.getfield 312, 3) := by decide +kernel
theorem dX11_check_7 : decode cX11_check 7 = .ok (.istore_n 1, 1) := by decide +kernel
theorem dX11_check_8 : decode cX11_check 8 = .ok (.aload_n 0, 1) := by decide +kernel
theorem dX11_check_9 : decode cX11_check 9 = .ok (.getfield 10, 3) := by decide +kernel
theorem dX11_check_12 : decode cX11_check 12 = .ok (.iconst 0, 1) := by decide +kernel
theorem dX11_check_13 : decode cX11_check 13 = .ok (.putfield 312, 3) := by decide +kernel
theorem dX11_check_16 : decode cX11_check 16 = .ok (.iconst 0, 1) := by decide +kernel
theorem dX11_check_17 : decode cX11_check 17 = .ok (.istore_n 2, 1) := by decide +kernel
theorem dX11_check_18 : decode cX11_check 18 = .ok (.iload_n 2, 1) := by decide +kernel
theorem dX11_check_19 : decode cX11_check 19 = .ok (.iload_n 1, 1) := by decide +kernel
theorem dX11_check_20 : decode cX11_check 20 = .ok (.if_icmp .ge 51, 3) := by decide +kernel
theorem dX11_check_23 : decode cX11_check 23 = .ok (.aload_n 0, 1) := by decide +kernel
theorem dX11_check_24 : decode cX11_check 24 = .ok (.getfield 10, 3) := by decide +kernel
theorem dX11_check_27 : decode cX11_check 27 = .ok (.getfield 101, 3) := by decide +kernel
theorem dX11_check_30 : decode cX11_check 30 = .ok (.ifCond .eq 31, 3) := by decide +kernel
theorem dX11_check_33 : decode cX11_check 33 = .ok (.aload_n 0, 1) := by decide +kernel
theorem dX11_check_34 : decode cX11_check 34 = .ok (.getfield 10, 3) := by decide +kernel
theorem dX11_check_37 : decode cX11_check 37 = .ok (.getfield 315, 3) := by decide +kernel
theorem dX11_check_40 : decode cX11_check 40 = .ok (.iload_n 2, 1) := by decide +kernel
theorem dX11_check_41 : decode cX11_check 41 = .ok (.iaload, 1) := by decide +kernel
theorem dX11_check_42 : decode cX11_check 42 = .ok (.aload_n 0, 1) := by decide +kernel
theorem dX11_check_43 : decode cX11_check 43 = .ok (.iconst 0, 1) := by decide +kernel
theorem dX11_check_44 : decode cX11_check 44 = .ok (.aload_n 0, 1) := by decide +kernel
theorem dX11_check_45 : decode cX11_check 45 = .ok (.getfield 10, 3) := by decide +kernel
theorem dX11_check_48 : decode cX11_check 48 = .ok (.getfield 110, 3) := by decide +kernel
theorem dX11_check_51 : decode cX11_check 51 = .ok (.iconst 1, 1) := by decide +kernel
theorem dX11_check_52 : decode cX11_check 52 = .ok (.iadd, 1) := by decide +kernel
theorem dX11_check_53 : decode cX11_check 53 = .ok (.iload_n 2, 1) := by decide +kernel
theorem dX11_check_54 : decode cX11_check 54 = .ok (.iadd, 1) := by decide +kernel
theorem dX11_check_55 : decode cX11_check 55 = .ok (.invokevirtual 113, 3) := by decide +kernel
theorem dX11_check_58 : decode cX11_check 58 = .ok (.if_icmp .eq 7, 3) := by decide +kernel
theorem dX11_check_61 : decode cX11_check 61 = .ok (.iconst 1, 1) := by decide +kernel
theorem dX11_check_62 : decode cX11_check 62 = .ok (.iload_n 2, 1) := by decide +kernel
theorem dX11_check_63 : decode cX11_check 63 = .ok (.iadd, 1) := by decide +kernel
theorem dX11_check_64 : decode cX11_check 64 = .ok (.ireturn, 1) := by decide +kernel
theorem dX11_check_65 : decode cX11_check 65 = .ok (.iinc 2 1, 3) := by decide +kernel
theorem dX11_check_68 : decode cX11_check 68 = .ok (.goto (-50), 3) := by decide +kernel
theorem dX11_check_71 : decode cX11_check 71 = .ok (.iconst 0, 1) := by decide +kernel
theorem dX11_check_72 : decode cX11_check 72 = .ok (.ireturn, 1) := by decide +kernel
theorem dX11_count_0 : decode cX11_count 0 = .ok (.iload_n 1, 1) := by decide +kernel
theorem dX11_count_1 : decode cX11_count 1 = .ok (.tableswitch 168 0 14 #[75, 83, 91, 99, 107, 115, 123, 123, 123, 123, 123, 136, 144, 152, 160], 75) := by decide +kernel
theorem dX11_count_76 : decode cX11_count 76 = .ok (.aload_n 0, 1) := by decide +kernel
theorem dX11_count_77 : decode cX11_count 77 = .ok (.getfield 10, 3) := by decide +kernel
theorem dX11_count_80 : decode cX11_count 80 = .ok (.getfield 101, 3) := by decide +kernel
theorem dX11_count_83 : decode cX11_count 83 = .ok (.ireturn, 1) := by decide +kernel
theorem dX11_count_84 : decode cX11_count 84 = .ok (.aload_n 0, 1) := by decide +kernel
theorem dX11_count_85 : decode cX11_count 85 = .ok (.getfield 10, 3) := by decide +kernel
theorem dX11_count_88 : decode cX11_count 88 = .ok (.getfield 195, 3) := by decide +kernel
theorem dX11_count_91 : decode cX11_count 91 = .ok (.ireturn, 1) := by decide +kernel
theorem dX11_count_92 : decode cX11_count 92 = .ok (.aload_n 0, 1) := by decide +kernel
theorem dX11_count_93 : decode cX11_count 93 = .ok (.getfield 10, 3) := by decide +kernel
theorem dX11_count_96 : decode cX11_count 96 = .ok (.getfield 110, 3) := by decide +kernel
theorem dX11_count_99 : decode cX11_count 99 = .ok (.ireturn, 1) := by decide +kernel
theorem dX11_count_100 : decode cX11_count 100 = .ok (.aload_n 0, 1) := by decide +kernel
theorem dX11_count_101 : decode cX11_count 101 = .ok (.getfield 10, 3) := by decide +kernel
theorem dX11_count_104 : decode cX11_count 104 = .ok (.getfield 214, 3) := by decide +kernel
theorem dX11_count_107 : decode cX11_count 107 = .ok (.ireturn, 1) := by decide +kernel
theorem dX11_count_108 : decode cX11_count 108 = .ok (.aload_n 0, 1) := by decide +kernel
theorem dX11_count_109 : decode cX11_count 109 = .ok (.getfield 10, 3) := by decide +kernel
theorem dX11_count_112 : decode cX11_count 112 = .ok (.getfield 205, 3) := by decide +kernel
theorem dX11_count_115 : decode cX11_count 115 = .ok (.ireturn, 1) := by decide +kernel
theorem dX11_count_116 : decode cX11_count 116 = .ok (.aload_n 0, 1) := by decide +kernel
theorem dX11_count_117 : decode cX11_count 117 = .ok (.getfield 10, 3) := by decide +kernel
theorem dX11_count_120 : decode cX11_count 120 = .ok (.getfield 211, 3) := by decide +kernel
theorem dX11_count_123 : decode cX11_count 123 = .ok (.ireturn, 1) := by decide +kernel
theorem dX11_count_124 : decode cX11_count 124 = .ok (.aload_n 0, 1) := by decide +kernel
theorem dX11_count_125 : decode cX11_count 125 = .ok (.getfield 10, 3) := by decide +kernel
theorem dX11_count_128 : decode cX11_count 128 = .ok (.getfield 90, 3) := by decide +kernel
theorem dX11_count_131 : decode cX11_count 131 = .ok (.iload_n 1, 1) := by decide +kernel
theorem dX11_count_132 : decode cX11_count 132 = .ok (.bipush 6, 2) := by decide +kernel
theorem dX11_count_134 : decode cX11_count 134 = .ok (.isub, 1) := by decide +kernel
theorem dX11_count_135 : decode cX11_count 135 = .ok (.iaload, 1) := by decide +kernel
theorem dX11_count_136 : decode cX11_count 136 = .ok (.ireturn, 1) := by decide +kernel
theorem dX11_count_137 : decode cX11_count 137 = .ok (.aload_n 0, 1) := by decide +kernel
theorem dX11_count_138 : decode cX11_count 138 = .ok (.getfield 10, 3) := by decide +kernel
theorem dX11_count_141 : decode cX11_count 141 = .ok (.getfield 140, 3) := by decide +kernel
theorem dX11_count_144 : decode cX11_count 144 = .ok (.ireturn, 1) := by decide +kernel
theorem dX11_count_145 : decode cX11_count 145 = .ok (.aload_n 0, 1) := by decide +kernel
theorem dX11_count_146 : decode cX11_count 146 = .ok (.getfield 10, 3) := by decide +kernel
theorem dX11_count_149 : decode cX11_count 149 = .ok (.getfield 312, 3) := by decide +kernel
theorem dX11_count_152 : decode cX11_count 152 = .ok (.ireturn, 1) := by decide +kernel
theorem dX11_count_153 : decode cX11_count 153 = .ok (.aload_n 0, 1) := by decide +kernel
theorem dX11_count_154 : decode cX11_count 154 = .ok (.getfield 65, 3) := by decide +kernel
theorem dX11_count_157 : decode cX11_count 157 = .ok (.getfield 286, 3) := by decide +kernel
theorem dX11_count_160 : decode cX11_count 160 = .ok (.ireturn, 1) := by decide +kernel
theorem dX11_count_161 : decode cX11_count 161 = .ok (.aload_n 0, 1) := by decide +kernel
theorem dX11_count_162 : decode cX11_count 162 = .ok (.getfield 10, 3) := by decide +kernel
theorem dX11_count_165 : decode cX11_count 165 = .ok (.getfield 228, 3) := by decide +kernel
theorem dX11_count_168 : decode cX11_count 168 = .ok (.ireturn, 1) := by decide +kernel
theorem dX11_count_169 : decode cX11_count 169 = .ok (.aload_n 0, 1) := by decide +kernel
theorem dX11_count_170 : decode cX11_count 170 = .ok (.iconst 1, 1) := by decide +kernel
theorem dX11_count_171 : decode cX11_count 171 = .ok (.invokevirtual 86, 3) := by decide +kernel
theorem dX11_count_174 : decode cX11_count 174 = .ok (.ireturn, 1) := by decide +kernel
theorem dX11_told_0 : decode cX11_told 0 = .ok (.iload_n 1, 1) := by decide +kernel
theorem dX11_told_1 : decode cX11_told 1 = .ok (.iconst 1, 1) := by decide +kernel
theorem dX11_told_2 : decode cX11_told 2 = .ok (.if_icmp .lt 17, 3) := by decide +kernel
theorem dX11_told_5 : decode cX11_told 5 = .ok (.iload_n 1, 1) := by decide +kernel
theorem dX11_told_6 : decode cX11_told 6 = .ok (.iconst 5, 1) := by decide +kernel
theorem dX11_told_7 : decode cX11_told 7 = .ok (.if_icmp .gt 12, 3) := by decide +kernel
theorem dX11_told_10 : decode cX11_told 10 = .ok (.aload_n 0, 1) := by decide +kernel
theorem dX11_told_11 : decode cX11_told 11 = .ok (.getfield 23, 3) := by decide +kernel
theorem dX11_told_14 : decode cX11_told 14 = .ok (.iload_n 1, 1) := by decide +kernel
theorem dX11_told_15 : decode cX11_told 15 = .ok (.iaload, 1) := by decide +kernel
theorem dX11_told_16 : decode cX11_told 16 = .ok (.goto 8, 3) := by decide +kernel
theorem dX11_told_19 : decode cX11_told 19 = .ok (.aload_n 0, 1) := by decide +kernel
theorem dX11_told_20 : decode cX11_told 20 = .ok (.iconst 1, 1) := by decide +kernel
theorem dX11_told_21 : decode cX11_told 21 = .ok (.invokevirtual 86, 3) := by decide +kernel
theorem dX11_told_24 : decode cX11_told 24 = .ok (.ireturn, 1) := by decide +kernel
theorem dX11_isSheet_0 : decode cX11_isSheet 0 = .ok (.iload_n 0, 1) := by decide +kernel
theorem dX11_isSheet_1 : decode cX11_isSheet 1 = .ok (.iconst 3, 1) := by decide +kernel
theorem dX11_isSheet_2 : decode cX11_isSheet 2 = .ok (.invokestatic 93, 3) := by decide +kernel
theorem dX11_isSheet_5 : decode cX11_isSheet 5 = .ok (.ireturn, 1) := by decide +kernel
theorem dX11_isMissing_0 : decode cX11_isMissing 0 = .ok (.aload_n 0, 1) := by decide +kernel
theorem dX11_isMissing_1 : decode cX11_isMissing 1 = .ok (.getfield 74, 3) := by decide +kernel
theorem dX11_isMissing_4 : decode cX11_isMissing 4 = .ok (.iload_n 1, 1) := by decide +kernel
theorem dX11_isMissing_5 : decode cX11_isMissing 5 = .ok (.iaload, 1) := by decide +kernel
theorem dX11_isMissing_6 : decode cX11_isMissing 6 = .ok (.ifCond .ne 7, 3) := by decide +kernel
theorem dX11_isMissing_9 : decode cX11_isMissing 9 = .ok (.iconst 1, 1) := by decide +kernel
theorem dX11_isMissing_10 : decode cX11_isMissing 10 = .ok (.goto 4, 3) := by decide +kernel
theorem dX11_isMissing_13 : decode cX11_isMissing 13 = .ok (.iconst 0, 1) := by decide +kernel
theorem dX11_isMissing_14 : decode cX11_isMissing 14 = .ok (.ireturn, 1) := by decide +kernel
theorem dX11_refusalOfSheet_0 : decode cX11_refusalOfSheet 0 = .ok (.iload_n 1, 1) := by decide +kernel
theorem dX11_refusalOfSheet_1 : decode cX11_refusalOfSheet 1 = .ok (.invokestatic 290, 3) := by decide +kernel
theorem dX11_refusalOfSheet_4 : decode cX11_refusalOfSheet 4 = .ok (.ifCond .ne 5, 3) := by decide +kernel
theorem dX11_refusalOfSheet_7 : decode cX11_refusalOfSheet 7 = .ok (.iconst 1, 1) := by decide +kernel
theorem dX11_refusalOfSheet_8 : decode cX11_refusalOfSheet 8 = .ok (.ireturn, 1) := by decide +kernel
theorem dX11_refusalOfSheet_9 : decode cX11_refusalOfSheet 9 = .ok (.aload_n 0, 1) := by decide +kernel
theorem dX11_refusalOfSheet_10 : decode cX11_refusalOfSheet 10 = .ok (.iload_n 1, 1) := by decide +kernel
theorem dX11_refusalOfSheet_11 : decode cX11_refusalOfSheet 11 = .ok (.invokevirtual 296, 3) := by decide +kernel
theorem dX11_refusalOfSheet_14 : decode cX11_refusalOfSheet 14 = .ok (.ifCond .eq 7, 3) := by decide +kernel
theorem dX11_refusalOfSheet_17 : decode cX11_refusalOfSheet 17 = .ok (.iconst 2, 1) := by decide +kernel
theorem dX11_refusalOfSheet_18 : decode cX11_refusalOfSheet 18 = .ok (.goto 4, 3) := by decide +kernel
theorem dX11_refusalOfSheet_21 : decode cX11_refusalOfSheet 21 = .ok (.iconst 0, 1) := by decide +kernel
theorem dX11_refusalOfSheet_22 : decode cX11_refusalOfSheet 22 = .ok (.ireturn, 1) := by decide +kernel
theorem dX11_lowestBits_0 : decode cX11_lowestBits 0 = .ok (.iload_n 1, 1) := by decide +kernel
theorem dX11_lowestBits_1 : decode cX11_lowestBits 1 = .ok (.bipush 8, 2) := by decide +kernel
theorem dX11_lowestBits_3 : decode cX11_lowestBits 3 = .ok (.if_icmp .ne 6, 3) := by decide +kernel
theorem dX11_lowestBits_6 : decode cX11_lowestBits 6 = .ok (.iload_n 0, 1) := by decide +kernel
theorem dX11_lowestBits_7 : decode cX11_lowestBits 7 = .ok (.i2b, 1) := by decide +kernel
theorem dX11_lowestBits_8 : decode cX11_lowestBits 8 = .ok (.ireturn, 1) := by decide +kernel
theorem dX11_lowestBits_9 : decode cX11_lowestBits 9 = .ok (.iload_n 1, 1) := by decide +kernel
theorem dX11_lowestBits_10 : decode cX11_lowestBits 10 = .ok (.bipush 16, 2) := by decide +kernel
theorem dX11_lowestBits_12 : decode cX11_lowestBits 12 = .ok (.if_icmp .ne 8, 3) := by decide +kernel
theorem dX11_lowestBits_15 : decode cX11_lowestBits 15 = .ok (.iload_n 0, 1) := by decide +kernel
theorem dX11_lowestBits_16 : decode cX11_lowestBits 16 = .ok (.i2s, 1) := by decide +kernel
theorem dX11_lowestBits_17 : decode cX11_lowestBits 17 = .ok (.goto 4, 3) := by decide +kernel
theorem dX11_lowestBits_20 : decode cX11_lowestBits 20 = .ok (.iload_n 0, 1) := by decide +kernel
theorem dX11_lowestBits_21 : decode cX11_lowestBits 21 = .ok (.ireturn, 1) := by decide +kernel
theorem dX11_standThere_0 : decode cX11_standThere 0 = .ok (.iload_n 3, 1) := by decide +kernel
theorem dX11_standThere_1 : decode cX11_standThere 1 = .ok (.ifCond .lt 33, 3) := by decide +kernel
theorem dX11_standThere_4 : decode cX11_standThere 4 = .ok (.iload_n 2, 1) := by decide +kernel
theorem dX11_standThere_5 : decode cX11_standThere 5 = .ok (.ifCond .lt 29, 3) := by decide +kernel
theorem dX11_standThere_8 : decode cX11_standThere 8 = .ok (.iload_n 3, 1) := by decide +kernel
theorem dX11_standThere_9 : decode cX11_standThere 9 = .ok (.aload_n 0, 1) := by decide +kernel
theorem dX11_standThere_10 : decode cX11_standThere 10 = .ok (.getfield 77, 3) := by decide +kernel
theorem dX11_standThere_13 : decode cX11_standThere 13 = .ok (.iload_n 1, 1) := by decide +kernel
theorem dX11_standThere_14 : decode cX11_standThere 14 = .ok (.iaload, 1) := by decide +kernel
theorem dX11_standThere_15 : decode cX11_standThere 15 = .ok (.if_icmp .gt 19, 3) := by decide +kernel
theorem dX11_standThere_18 : decode cX11_standThere 18 = .ok (.iload_n 2, 1) := by decide +kernel
theorem dX11_standThere_19 : decode cX11_standThere 19 = .ok (.aload_n 0, 1) := by decide +kernel
theorem dX11_standThere_20 : decode cX11_standThere 20 = .ok (.getfield 77, 3) := by decide +kernel
theorem dX11_standThere_23 : decode cX11_standThere 23 = .ok (.iload_n 1, 1) := by decide +kernel
theorem dX11_standThere_24 : decode cX11_standThere 24 = .ok (.iaload, 1) := by decide +kernel
theorem dX11_standThere_25 : decode cX11_standThere 25 = .ok (.iload_n 3, 1) := by decide +kernel
theorem dX11_standThere_26 : decode cX11_standThere 26 = .ok (.isub, 1) := by decide +kernel
theorem dX11_standThere_27 : decode cX11_standThere 27 = .ok (.if_icmp .gt 7, 3) := by decide +kernel
theorem dX11_standThere_30 : decode cX11_standThere 30 = .ok (.iconst 1, 1) := by decide +kernel
theorem dX11_standThere_31 : decode cX11_standThere 31 = .ok (.goto 4, 3) := by decide +kernel
theorem dX11_standThere_34 : decode cX11_standThere 34 = .ok (.iconst 0, 1) := by decide +kernel
theorem dX11_standThere_35 : decode cX11_standThere 35 = .ok (.ireturn, 1) := by decide +kernel
