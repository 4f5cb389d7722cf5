theorem dX12_init_0 : decode cX12_init 0 = .ok (.aload_n 0, 1) := by decide +kernel
theorem dX12_init_1 : decode cX12_init 1 = .ok (.invokespecial 1, 3) := by decide +kernel
theorem dX12_init_4 : decode cX12_init 4 = .ok (.aload_n 0, 1) := by decide +kernel
theorem dX12_init_5 : decode cX12_init 5 = .ok (.sipush 276, 3) := by decide +kernel
theorem dX12_init_8 : decode cX12_init 8 = .ok (.newarray .int, 2) := by decide +kernel
theorem dX12_init_10 : decode cX12_init 10 = .ok (.putfield 7, 3) := by decide +kernel
theorem dX12_init_13 : decode cX12_init 13 = .ok (.aload_n 0, 1) := by decide +kernel
theorem dX12_init_14 : decode cX12_init 14 = .ok (.sipush 276, 3) := by decide +kernel
theorem dX12_init_17 : decode cX12_init 17 = .ok (.newarray .int, 2) := by decide +kernel
theorem dX12_init_19 : decode cX12_init 19 = .ok (.putfield 13, 3) := by decide +kernel
theorem dX12_init_22 : decode cX12_init 22 = .ok (.aload_n 0, 1) := by decide +kernel
theorem dX12_init_23 : decode cX12_init 23 = .ok (.sipush 276, 3) := by decide +kernel
theorem dX12_init_26 : decode cX12_init 26 = .ok (.newarray .int, 2) := by decide +kernel
theorem dX12_init_28 : decode cX12_init 28 = .ok (.putfield 16, 3) := by decide +kernel
theorem dX12_init_31 : decode cX12_init 31 = .ok (.aload_n 0, 1) := by decide +kernel
theorem dX12_init_32 : decode cX12_init 32 = .ok (.bipush 6, 2) := by decide +kernel
theorem dX12_init_34 : decode cX12_init 34 = .ok (.newarray .int, 2) := by decide +kernel
theorem dX12_init_36 : decode cX12_init 36 = .ok (.putfield 19, 3) := by decide +kernel
theorem dX12_init_39 : decode cX12_init 39 = .ok (.aload_n 0, 1) := by decide +kernel
theorem dX12_init_40 : decode cX12_init 40 = .ok (.iconst 4, 1) := by decide +kernel
theorem dX12_init_41 : decode cX12_init 41 = .ok (.newarray .int, 2) := by decide +kernel
theorem dX12_init_43 : decode cX12_init 43 = .ok (.putfield 22, 3) := by decide +kernel
theorem dX12_init_46 : decode cX12_init 46 = .ok (.aload_n 0, 1) := by decide +kernel
theorem dX12_init_47 : decode cX12_init 47 = .ok (.iconst 4, 1) := by decide +kernel
theorem dX12_init_48 : decode cX12_init 48 = .ok (.newarray .int, 2) := by decide +kernel
theorem dX12_init_50 : decode cX12_init 50 = .ok (.putfield 25, 3) := by decide +kernel
theorem dX12_init_53 : decode cX12_init 53 = .ok (.aload_n 0, 1) := by decide +kernel
theorem dX12_init_54 : decode cX12_init 54 = .ok (.sipush 160, 3) := by decide +kernel
theorem dX12_init_57 : decode cX12_init 57 = .ok (.newarray .int, 2) := by decide +kernel
theorem dX12_init_59 : decode cX12_init 59 = .ok (.putfield 28, 3) := by decide +kernel
theorem dX12_init_62 : decode cX12_init 62 = .ok (.aload_n 0, 1) := by decide +kernel
theorem dX12_init_63 : decode cX12_init 63 = .ok (.bipush 40, 2) := by decide +kernel
theorem dX12_init_65 : decode cX12_init 65 = .ok (.newarray .int, 2) := by decide +kernel
theorem dX12_init_67 : decode cX12_init 67 = .ok (.putfield 31, 3) := by decide +kernel
theorem dX12_init_70 : decode cX12_init 70 = .ok (.aload_n 0, 1) := by decide +kernel
theorem dX12_init_71 : decode cX12_init 71 = .ok (.bipush 40, 2) := by decide +kernel
theorem dX12_init_73 : decode cX12_init 73 = .ok (.newarray .int, 2) := by decide +kernel
theorem dX12_init_75 : decode cX12_init 75 = .ok (.putfield 34, 3) := by decide +kernel
theorem dX12_init_78 : decode cX12_init 78 = .ok (.aload_n 0, 1) := by decide +kernel
theorem dX12_init_79 : decode cX12_init 79 = .ok (.getfield 7, 3) := by decide +kernel
theorem dX12_init_82 : decode cX12_init 82 = .ok (.iconst 1, 1) := by decide +kernel
theorem dX12_init_83 : decode cX12_init 83 = .ok (.iconst 1, 1) := by decide +kernel
theorem dX12_init_84 : decode cX12_init 84 = .ok (.iastore, 1) := by decide +kernel
theorem dX12_init_85 : decode cX12_init 85 = .ok (.aload_n 0, 1) := by decide +kernel
theorem dX12_init_86 : decode cX12_init 86 = .ok (.getfield 7, 3) := by decide +kernel
theorem dX12_init_89 : decode cX12_init 89 = .ok (.iconst 5, 1) := by decide +kernel
theorem dX12_init_90 : decode cX12_init 90 = .ok (.iconst (-1), 1) := by decide +kernel
theorem dX12_init_91 : decode cX12_init 91 = .ok (.iastore, 1) := by decide +kernel
theorem dX12_init_92 : decode cX12_init 92 = .ok (.aload_n 0, 1) := by decide +kernel
theorem dX12_init_93 : decode cX12_init 93 = .ok (.getfield 7, 3) := by decide +kernel
theorem dX12_init_96 : decode cX12_init 96 = .ok (.bipush 6, 2) := by decide +kernel
theorem dX12_init_98 : decode cX12_init 98 = .ok (.iconst (-1), 1) := by decide +kernel
theorem dX12_init_99 : decode cX12_init 99 = .ok (.iastore, 1) := by decide +kernel
theorem dX12_init_100 : decode cX12_init 100 = .ok (.aload_n 0, 1) := by decide +kernel
theorem dX12_init_101 : decode cX12_init 101 = .ok (.getfield 7, 3) := by decide +kernel
theorem dX12_init_104 : decode cX12_init 104 = .ok (.bipush 8, 2) := by decide +kernel
theorem dX12_init_106 : decode cX12_init 106 = .ok (.bipush 6, 2) := by decide +kernel
theorem dX12_init_108 : decode cX12_init 108 = .ok (.iastore, 1) := by decide +kernel
theorem dX12_init_109 : decode cX12_init 109 = .ok (.aload_n 0, 1) := by decide +kernel
theorem dX12_init_110 : decode cX12_init 110 = .ok (.getfield 7, 3) := by decide +kernel
theorem dX12_init_113 : decode cX12_init 113 = .ok (.bipush 9, 2) := by decide +kernel
theorem dX12_init_115 : decode cX12_init 115 = .ok (.bipush 30, 2) := by decide +kernel
theorem dX12_init_117 : decode cX12_init 117 = .ok (.iastore, 1) := by decide +kernel
theorem dX12_init_118 : decode cX12_init 118 = .ok (.aload_n 0, 1) := by decide +kernel
theorem dX12_init_119 : decode cX12_init 119 = .ok (.getfield 7, 3) := by decide +kernel
theorem dX12_init_122 : decode cX12_init 122 = .ok (.bipush 10, 2) := by decide +kernel
theorem dX12_init_124 : decode cX12_init 124 = .ok (.iconst 3, 1) := by decide +kernel
theorem dX12_init_125 : decode cX12_init 125 = .ok (.iastore, 1) := by decide +kernel
theorem dX12_init_126 : decode cX12_init 126 = .ok (.aload_n 0, 1) := by decide +kernel
theorem dX12_init_127 : decode cX12_init 127 = .ok (.getfield 7, 3) := by decide +kernel
theorem dX12_init_130 : decode cX12_init 130 = .ok (.bipush 11, 2) := by decide +kernel
theorem dX12_init_132 : decode cX12_init 132 = .ok (.sipush 3600, 3) := by decide +kernel
theorem dX12_init_135 : decode cX12_init 135 = .ok (.iastore, 1) := by decide +kernel
theorem dX12_init_136 : decode cX12_init 136 = .ok (.return_, 1) := by decide +kernel
theorem dX12_in_0 : decode cX12_in 0 = .ok (.iload_n 0, 1) := by decide +kernel
theorem dX12_in_1 : decode cX12_in 1 = .ok (.iload_n 1, 1) := by decide +kernel
theorem dX12_in_2 : decode cX12_in 2 = .ok (.if_icmp .lt 12, 3) := by decide +kernel
theorem dX12_in_5 : decode cX12_in 5 = .ok (.iload_n 0, 1) := by decide +kernel
theorem dX12_in_6 : decode cX12_in 6 = .ok (.iload_n 2, 1) := by decide +kernel
theorem dX12_in_7 : decode cX12_in 7 = .ok (.if_icmp .gt 7, 3) := by decide +kernel
theorem dX12_in_10 : decode cX12_in 10 = .ok (.iconst 1, 1) := by decide +kernel
theorem dX12_in_11 : decode cX12_in 11 = .ok (.goto 4, 3) := by decide +kernel
theorem dX12_in_14 : decode cX12_in 14 = .ok (.iconst 0, 1) := by decide +kernel
theorem dX12_in_15 : decode cX12_in 15 = .ok (.ireturn, 1) := by decide +kernel
theorem dX12_errs_0 : decode cX12_errs 0 = .ok (.aload_n 0, 1) := by decide +kernel
theorem dX12_errs_1 : decode cX12_errs 1 = .ok (.getfield 19, 3) := by decide +kernel
theorem dX12_errs_4 : decode cX12_errs 4 = .ok (.ldc 37, 2) := by decide +kernel
theorem dX12_errs_6 : decode cX12_errs 6 = .ok (.iload_n 1, 1) := by decide +kernel
theorem dX12_errs_7 : decode cX12_errs 7 = .ok (.isub, 1) := by decide +kernel
theorem dX12_errs_8 : decode cX12_errs 8 = .ok (.dup2, 1) := by decide +kernel
theorem dX12_errs_9 : decode cX12_errs 9 = .ok (.iaload, 1) := by decide +kernel
theorem dX12_errs_10 : decode cX12_errs 10 = .ok (.iconst 1, 1) := by decide +kernel
theorem dX12_errs_11 : decode cX12_errs 11 = .ok (.iadd, 1) := by decide +kernel
theorem dX12_errs_12 : decode cX12_errs 12 = .ok (.iastore, 1) := by decide +kernel
theorem dX12_errs_13 : decode cX12_errs 13 = .ok (.iload_n 1, 1) := by decide +kernel
theorem dX12_errs_14 : decode cX12_errs 14 = .ok (.ireturn, 1) := by decide +kernel
theorem dX12_held_0 : decode cX12_held 0 = .ok (.iload_n 0, 1) := by decide +kernel
theorem dX12_held_1 : decode cX12_held 1 = .ok (.iload_n 1, 1) := by decide +kernel
theorem dX12_held_2 : decode cX12_held 2 = .ok (.if_icmp .ge 7, 3) := by decide +kernel
theorem dX12_held_5 : decode cX12_held 5 = .ok (.iload_n 1, 1) := by decide +kernel
theorem dX12_held_6 : decode cX12_held 6 = .ok (.goto 13, 3) := by decide +kernel
theorem dX12_held_9 : decode cX12_held 9 = .ok (.iload_n 0, 1) := by decide +kernel
theorem dX12_held_10 : decode cX12_held 10 = .ok (.iload_n 2, 1) := by decide +kernel
theorem dX12_held_11 : decode cX12_held 11 = .ok (.if_icmp .le 7, 3) := by decide +kernel
theorem dX12_held_14 : decode cX12_held 14 = .ok (.iload_n 2, 1) := by decide +kernel
theorem dX12_held_15 : decode cX12_held 15 = .ok (.goto 4, 3) := by decide +kernel
theorem dX12_held_18 : decode cX12_held 18 = .ok (.iload_n 0, 1) := by decide +kernel
theorem dX12_held_19 : decode cX12_held 19 = .ok (.ireturn, 1) := by decide +kernel
theorem dX12_moveAll_0 : decode cX12_moveAll 0 = .ok (.iconst 0, 1) := by decide +kernel
theorem dX12_moveAll_1 : decode cX12_moveAll 1 = .ok (.istore_n 3, 1) := by decide +kernel
theorem dX12_moveAll_2 : decode cX12_moveAll 2 = .ok (.iload_n 3, 1) := by decide +kernel
theorem dX12_moveAll_3 : decode cX12_moveAll 3 = .ok (.sipush 276, 3) := by decide +kernel
theorem dX12_moveAll_6 : decode cX12_moveAll 6 = .ok (.if_icmp .ge 15, 3) := by decide +kernel
theorem dX12_moveAll_9 : decode cX12_moveAll 9 = .ok (.aload_n 2, 1) := by decide +kernel
theorem dX12_moveAll_10 : decode cX12_moveAll 10 = .ok (.iload_n 3, 1) := by decide +kernel
theorem dX12_moveAll_11 : decode cX12_moveAll 11 = .ok (.aload_n 1, 1) := by decide +kernel
theorem dX12_moveAll_12 : decode cX12_moveAll 12 = .ok (.iload_n 3, 1) := by decide +kernel
theorem dX12_moveAll_13 : decode cX12_moveAll 13 = .ok (.iaload, 1) := by decide +kernel
theorem dX12_moveAll_14 : decode cX12_moveAll 14 = .ok (.iastore, 1) := by decide +kernel
theorem dX12_moveAll_15 : decode cX12_moveAll 15 = .ok (.iinc 3 1, 3) := by decide +kernel
theorem dX12_moveAll_18 : decode cX12_moveAll 18 = .ok (.goto (-16), 3) := by decide +kernel
theorem dX12_moveAll_21 : decode cX12_moveAll 21 = .ok (.return_, 1) := by decide +kernel
theorem dX12_bits_0 : decode cX12_bits 0 = .ok (.iconst 0, 1) := by decide +kernel
theorem dX12_bits_1 : decode cX12_bits 1 = .ok (.istore_n 1, 1) := by decide +kernel
theorem dX12_bits_2 : decode cX12_bits 2 = .ok (.iload_n 0, 1) := by decide +kernel
theorem dX12_bits_3 : decode cX12_bits 3 = .ok (.istore_n 2, 1) := by decide +kernel
theorem dX12_bits_4 : decode cX12_bits 4 = .ok (.iload_n 2, 1) := by decide +kernel
theorem dX12_bits_5 : decode cX12_bits 5 = .ok (.ifCond .eq 15, 3) := by decide +kernel
theorem dX12_bits_8 : decode cX12_bits 8 = .ok (.iinc 1 1, 3) := by decide +kernel
theorem dX12_bits_11 : decode cX12_bits 11 = .ok (.iload_n 2, 1) := by decide +kernel
theorem dX12_bits_12 : decode cX12_bits 12 = .ok (.iload_n 2, 1) := by decide +kernel
theorem dX12_bits_13 : decode cX12_bits 13 = .ok (.iconst 1, 1) := by decide +kernel
theorem dX12_bits_14 : decode cX12_bits 14 = .ok (.isub, 1) := by decide +kernel
theorem dX12_bits_15 : decode cX12_bits 15 = .ok (.iand, 1) := by decide +kernel
theorem dX12_bits_16 : decode cX12_bits 16 = .ok (.istore_n 2, 1) := by decide +kernel
theorem dX12_bits_17 : decode cX12_bits 17 = .ok (.goto (-13), 3) := by decide +kernel
theorem dX12_bits_20 : decode cX12_bits 20 = .ok (.iload_n 1, 1) := by decide +kernel
theorem dX12_bits_21 : decode cX12_bits 21 = .ok (.ireturn, 1) := by decide +kernel
theorem dX12_its_0 : decode cX12_its 0 = .ok (.aload_n 0, 1) := by decide +kernel
theorem dX12_its_1 : decode cX12_its 1 = .ok (.getfield 7, 3) := by decide +kernel
theorem dX12_its_4 : decode cX12_its 4 = .ok (.bipush 16, 2) := by decide +kernel
theorem dX12_its_6 : decode cX12_its 6 = .ok (.iconst 5, 1) := by decide +kernel
theorem dX12_its_7 : decode cX12_its 7 = .ok (.iload_n 1, 1) := by decide +kernel
theorem dX12_its_8 : decode cX12_its 8 = .ok (.imul, 1) := by decide +kernel
theorem dX12_its_9 : decode cX12_its 9 = .ok (.iadd, 1) := by decide +kernel
theorem dX12_its_10 : decode cX12_its 10 = .ok (.iload_n 2, 1) := by decide +kernel
theorem dX12_its_11 : decode cX12_its 11 = .ok (.iadd, 1) := by decide +kernel
theorem dX12_its_12 : decode cX12_its 12 = .ok (.iaload, 1) := by decide +kernel
theorem dX12_its_13 : decode cX12_its 13 = .ok (.ireturn, 1) := by decide +kernel
theorem dX12_gets_0 : decode cX12_gets 0 = .ok (.aload_n 0, 1) := by decide +kernel
theorem dX12_gets_1 : decode cX12_gets 1 = .ok (.getfield 7, 3) := by decide +kernel
theorem dX12_gets_4 : decode cX12_gets 4 = .ok (.bipush 16, 2) := by decide +kernel
theorem dX12_gets_6 : decode cX12_gets 6 = .ok (.iconst 5, 1) := by decide +kernel
theorem dX12_gets_7 : decode cX12_gets 7 = .ok (.iload_n 1, 1) := by decide +kernel
theorem dX12_gets_8 : decode cX12_gets 8 = .ok (.imul, 1) := by decide +kernel
theorem dX12_gets_9 : decode cX12_gets 9 = .ok (.iadd, 1) := by decide +kernel
theorem dX12_gets_10 : decode cX12_gets 10 = .ok (.iload_n 2, 1) := by decide +kernel
theorem dX12_gets_11 : decode cX12_gets 11 = .ok (.iadd, 1) := by decide +kernel
theorem dX12_gets_12 : decode cX12_gets 12 = .ok (.iload_n 3, 1) := by decide +kernel
theorem dX12_gets_13 : decode cX12_gets 13 = .ok (.iastore, 1) := by decide +kernel
theorem dX12_gets_14 : decode cX12_gets 14 = .ok (.return_, 1) := by decide +kernel
theorem dX12_of_0 : decode cX12_of 0 = .ok (.aload_n 0, 1) := by decide +kernel
theorem dX12_of_1 : decode cX12_of 1 = .ok (.getfield 7, 3) := by decide +kernel
theorem dX12_of_4 : decode cX12_of 4 = .ok (.bipush 46, 2) := by decide +kernel
theorem dX12_of_6 : decode cX12_of 6 = .ok (.bipush 6, 2) := by decide +kernel
theorem dX12_of_8 : decode cX12_of 8 = .ok (.iload_n 1, 1) := by decide +kernel
theorem dX12_of_9 : decode cX12_of 9 = .ok (.imul, 1) := by decide +kernel
theorem dX12_of_10 : decode cX12_of 10 = .ok (.iadd, 1) := by decide +kernel
theorem dX12_of_11 : decode cX12_of 11 = .ok (.iload_n 2, 1) := by decide +kernel
theorem dX12_of_12 : decode cX12_of 12 = .ok (.iadd, 1) := by decide +kernel
theorem dX12_of_13 : decode cX12_of 13 = .ok (.iaload, 1) := by decide +kernel
theorem dX12_of_14 : decode cX12_of 14 = .ok (.ireturn, 1) := by decide +kernel
theorem dX12_isWay_0 : decode cX12_isWay 0 = .ok (.iload_n 1, 1) := by decide +kernel
theorem dX12_isWay_1 : decode cX12_isWay 1 = .ok (.iconst 0, 1) := by decide +kernel
theorem dX12_isWay_2 : decode cX12_isWay 2 = .ok (.aload_n 0, 1) := by decide +kernel
theorem dX12_isWay_3 : decode cX12_isWay 3 = .ok (.getfield 7, 3) := by decide +kernel
theorem dX12_isWay_6 : decode cX12_isWay 6 = .ok (.iconst 2, 1) := by decide +kernel
theorem dX12_isWay_7 : decode cX12_isWay 7 = .ok (.iaload, 1) := by decide +kernel
theorem dX12_isWay_8 : decode cX12_isWay 8 = .ok (.iconst 1, 1) := by decide +kernel
theorem dX12_isWay_9 : decode cX12_isWay 9 = .ok (.isub, 1) := by decide +kernel
theorem dX12_isWay_10 : decode cX12_isWay 10 = .ok (.invokestatic 38, 3) := by decide +kernel
theorem dX12_isWay_13 : decode cX12_isWay 13 = .ok (.ireturn, 1) := by decide +kernel
theorem dX12_isCode_0 : decode cX12_isCode 0 = .ok (.iload_n 1, 1) := by decide +kernel
theorem dX12_isCode_1 : decode cX12_isCode 1 = .ok (.iconst 0, 1) := by decide +kernel
theorem dX12_isCode_2 : decode cX12_isCode 2 = .ok (.aload_n 0, 1) := by decide +kernel
theorem dX12_isCode_3 : decode cX12_isCode 3 = .ok (.getfield 7, 3) := by decide +kernel
theorem dX12_isCode_6 : decode cX12_isCode 6 = .ok (.bipush 7, 2) := by decide +kernel
theorem dX12_isCode_8 : decode cX12_isCode 8 = .ok (.iaload, 1) := by decide +kernel
theorem dX12_isCode_9 : decode cX12_isCode 9 = .ok (.iconst 1, 1) := by decide +kernel
theorem dX12_isCode_10 : decode cX12_isCode 10 = .ok (.isub, 1) := by decide +kernel
theorem dX12_isCode_11 : decode cX12_isCode 11 = .ok (.invokestatic 38, 3) := by decide +kernel
theorem dX12_isCode_14 : decode cX12_isCode 14 = .ok (.ireturn, 1) := by decide +kernel
theorem dX12_becomes_0 : decode cX12_becomes 0 = .ok (.aload_n 0, 1) := by decide +kernel
theorem dX12_becomes_1 : decode cX12_becomes 1 = .ok (.getfield 7, 3) := by decide +kernel
theorem dX12_becomes_4 : decode cX12_becomes 4 = .ok (.iload_n 1, 1) := by decide +kernel
theorem dX12_becomes_5 : decode cX12_becomes 5 = .ok (.iaload, 1) := by decide +kernel
theorem dX12_becomes_6 : decode cX12_becomes 6 = .ok (.istore_n 3, 1) := by decide +kernel
theorem dX12_becomes_7 : decode cX12_becomes 7 = .ok (.aload_n 0, 1) := by decide +kernel
theorem dX12_becomes_8 : decode cX12_becomes 8 = .ok (.getfield 7, 3) := by decide +kernel
theorem dX12_becomes_11 : decode cX12_becomes 11 = .ok (.iload_n 1, 1) := by decide +kernel
theorem dX12_becomes_12 : decode cX12_becomes 12 = .ok (.iload_n 2, 1) := by decide +kernel
theorem dX12_becomes_13 : decode cX12_becomes 13 = .ok (.iastore, 1) := by decide +kernel
theorem dX12_becomes_14 : decode cX12_becomes 14 = .ok (.iload_n 3, 1) := by decide +kernel
theorem dX12_becomes_15 : decode cX12_becomes 15 = .ok (.ireturn, 1) := by decide +kernel
theorem dX12_isRule_0 : decode cX12_isRule 0 = .ok (.iload_n 0, 1) := by decide +kernel
theorem dX12_isRule_1 : decode cX12_isRule 1 = .ok (.tableswitch 65 0 3 #[31, 39, 48, 56], 31) := by decide +kernel
theorem dX12_isRule_32 : decode cX12_isRule 32 = .ok (.iload_n 1, 1) := by decide +kernel
theorem dX12_isRule_33 : decode cX12_isRule 33 = .ok (.iconst 1, 1) := by decide +kernel
theorem dX12_isRule_34 : decode cX12_isRule 34 = .ok (.bipush 6, 2) := by decide +kernel
theorem dX12_isRule_36 : decode cX12_isRule 36 = .ok (.invokestatic 38, 3) := by decide +kernel
theorem dX12_isRule_39 : decode cX12_isRule 39 = .ok (.ireturn, 1) := by decide +kernel
theorem dX12_isRule_40 : decode cX12_isRule 40 = .ok (.iload_n 1, 1) := by decide +kernel
theorem dX12_isRule_41 : decode cX12_isRule 41 = .ok (.iconst 1, 1) := by decide +kernel
theorem dX12_isRule_42 : decode cX12_isRule 42 = .ok (.sipush 300, 3) := by decide +kernel
theorem dX12_isRule_45 : decode cX12_isRule 45 = .ok (.invokestatic 38, 3) := by decide +kernel
theorem dX12_isRule_48 : decode cX12_isRule 48 = .ok (.ireturn, 1) := by decide +kernel
theorem dX12_isRule_49 : decode cX12_isRule 49 = .ok (.iload_n 1, 1) := by decide +kernel
theorem dX12_isRule_50 : decode cX12_isRule 50 = .ok (.iconst 1, 1) := by decide +kernel
theorem dX12_isRule_51 : decode cX12_isRule 51 = .ok (.bipush 9, 2) := by decide +kernel
theorem dX12_isRule_53 : decode cX12_isRule 53 = .ok (.invokestatic 38, 3) := by decide +kernel
theorem dX12_isRule_56 : decode cX12_isRule 56 = .ok (.ireturn, 1) := by decide +kernel
theorem dX12_isRule_57 : decode cX12_isRule 57 = .ok (.iload_n 1, 1) := by decide +kernel
theorem dX12_isRule_58 : decode cX12_isRule 58 = .ok (.iconst 1, 1) := by decide +kernel
theorem dX12_isRule_59 : decode cX12_isRule 59 = .ok (.sipush 9999, 3) := by decide +kernel
theorem dX12_isRule_62 : decode cX12_isRule 62 = .ok (.invokestatic 38, 3) := by decide +kernel
theorem dX12_isRule_65 : decode cX12_isRule 65 = .ok (.ireturn, 1) := by decide +kernel
theorem dX12_isRule_66 : decode cX12_isRule 66 = .ok (.iload_n 0, 1) := by decide +kernel
theorem dX12_isRule_67 : decode cX12_isRule 67 = .ok (.iconst 4, 1) := by decide +kernel
theorem dX12_isRule_68 : decode cX12_isRule 68 = .ok (.if_icmp .ne 16, 3) := by decide +kernel
theorem dX12_isRule_71 : decode cX12_isRule 71 = .ok (.iload_n 1, 1) := by decide +kernel
theorem dX12_isRule_72 : decode cX12_isRule 72 = .ok (.iconst 0, 1) := by decide +kernel
theorem dX12_isRule_73 : decode cX12_isRule 73 = .ok (.iconst 1, 1) := by decide +kernel
theorem dX12_isRule_74 : decode cX12_isRule 74 = .ok (.invokestatic 38, 3) := by decide +kernel
theorem dX12_isRule_77 : decode cX12_isRule 77 = .ok (.ifCond .eq 7, 3) := by decide +kernel
theorem dX12_isRule_80 : decode cX12_isRule 80 = .ok (.iconst 1, 1) := by decide +kernel
theorem dX12_isRule_81 : decode cX12_isRule 81 = .ok (.goto 4, 3) := by decide +kernel
theorem dX12_isRule_84 : decode cX12_isRule 84 = .ok (.iconst 0, 1) := by decide +kernel
theorem dX12_isRule_85 : decode cX12_isRule 85 = .ok (.ireturn, 1) := by decide +kernel
theorem dX12_rule_0 : decode cX12_rule 0 = .ok (.iload_n 1, 1) := by decide +kernel
theorem dX12_rule_1 : decode cX12_rule 1 = .ok (.iload_n 2, 1) := by decide +kernel
theorem dX12_rule_2 : decode cX12_rule 2 = .ok (.invokestatic 42, 3) := by decide +kernel
theorem dX12_rule_5 : decode cX12_rule 5 = .ok (.ifCond .eq 15, 3) := by decide +kernel
theorem dX12_rule_8 : decode cX12_rule 8 = .ok (.aload_n 0, 1) := by decide +kernel
theorem dX12_rule_9 : decode cX12_rule 9 = .ok (.bipush 8, 2) := by decide +kernel
theorem dX12_rule_11 : decode cX12_rule 11 = .ok (.iload_n 1, 1) := by decide +kernel
theorem dX12_rule_12 : decode cX12_rule 12 = .ok (.iadd, 1) := by decide +kernel
theorem dX12_rule_13 : decode cX12_rule 13 = .ok (.iload_n 2, 1) := by decide +kernel
theorem dX12_rule_14 : decode cX12_rule 14 = .ok (.invokevirtual 46, 3) := by decide +kernel
theorem dX12_rule_17 : decode cX12_rule 17 = .ok (.goto 9, 3) := by decide +kernel
theorem dX12_rule_20 : decode cX12_rule 20 = .ok (.aload_n 0, 1) := by decide +kernel
theorem dX12_rule_21 : decode cX12_rule 21 = .ok (.ldc 50, 2) := by decide +kernel
theorem dX12_rule_23 : decode cX12_rule 23 = .ok (.invokevirtual 51, 3) := by decide +kernel
theorem dX12_rule_26 : decode cX12_rule 26 = .ok (.ireturn, 1) := by decide +kernel
theorem dX12_way_0 : decode cX12_way 0 = .ok (.iload_n 1, 1) := by decide +kernel
theorem dX12_way_1 : decode cX12_way 1 = .ok (.iconst 0, 1) := by decide +kernel
theorem dX12_way_2 : decode cX12_way 2 = .ok (.bipush 69, 2) := by decide +kernel
theorem dX12_way_4 : decode cX12_way 4 = .ok (.invokestatic 38, 3) := by decide +kernel
theorem dX12_way_7 : decode cX12_way 7 = .ok (.ifCond .eq 22, 3) := by decide +kernel
theorem dX12_way_10 : decode cX12_way 10 = .ok (.iload_n 2, 1) := by decide +kernel
theorem dX12_way_11 : decode cX12_way 11 = .ok (.iconst 0, 1) := by decide +kernel
theorem dX12_way_12 : decode cX12_way 12 = .ok (.bipush 99, 2) := by decide +kernel
theorem dX12_way_14 : decode cX12_way 14 = .ok (.invokestatic 38, 3) := by decide +kernel
theorem dX12_way_17 : decode cX12_way 17 = .ok (.ifCond .eq 12, 3) := by decide +kernel
theorem dX12_way_20 : decode cX12_way 20 = .ok (.iload_n 3, 1) := by decide +kernel
theorem dX12_way_21 : decode cX12_way 21 = .ok (.iconst 0, 1) := by decide +kernel
theorem dX12_way_22 : decode cX12_way 22 = .ok (.iconst 5, 1) := by decide +kernel
theorem dX12_way_23 : decode cX12_way 23 = .ok (.invokestatic 38, 3) := by decide +kernel
theorem dX12_way_26 : decode cX12_way 26 = .ok (.ifCond .ne 10, 3) := by decide +kernel
theorem dX12_way_29 : decode cX12_way 29 = .ok (.aload_n 0, 1) := by decide +kernel
theorem dX12_way_30 : decode cX12_way 30 = .ok (.ldc 50, 2) := by decide +kernel
theorem dX12_way_32 : decode cX12_way 32 = .ok (.invokevirtual 51, 3) := by decide +kernel
theorem dX12_way_35 : decode cX12_way 35 = .ok (.ireturn, 1) := by decide +kernel
theorem dX12_way_36 : decode cX12_way 36 = .ok (.aload_n 0, 1) := by decide +kernel
theorem dX12_way_37 : decode cX12_way 37 = .ok (.getfield 7, 3) := by decide +kernel
theorem dX12_way_40 : decode cX12_way 40 = .ok (.iconst 2, 1) := by decide +kernel
theorem dX12_way_41 : decode cX12_way 41 = .ok (.iaload, 1) := by decide +kernel
theorem dX12_way_42 : decode cX12_way 42 = .ok (.bipush 6, 2) := by decide +kernel
theorem dX12_way_44 : decode cX12_way 44 = .ok (.if_icmp .ne 10, 3) := by decide +kernel
theorem dX12_way_47 : decode cX12_way 47 = .ok (.aload_n 0, 1) := by decide +kernel
theorem dX12_way_48 : decode cX12_way 48 = .ok (.ldc 55, 2) := by decide +kernel
theorem dX12_way_50 : decode cX12_way 50 = .ok (.invokevirtual 51, 3) := by decide +kernel
theorem dX12_way_53 : decode cX12_way 53 = .ok (.ireturn, 1) := by decide +kernel
theorem dX12_way_54 : decode cX12_way 54 = .ok (.aload_n 0, 1) := by decide +kernel
theorem dX12_way_55 : decode cX12_way 55 = .ok (.getfield 7, 3) := by decide +kernel
theorem dX12_way_58 : decode cX12_way 58 = .ok (.iconst 2, 1) := by decide +kernel
theorem dX12_way_59 : decode cX12_way 59 = .ok (.iaload, 1) := by decide +kernel
theorem dX12_way_60 : decode cX12_way 60 = .ok (.istore 4, 2) := by decide +kernel
theorem dX12_way_62 : decode cX12_way 62 = .ok (.aload_n 0, 1) := by decide +kernel
theorem dX12_way_63 : decode cX12_way 63 = .ok (.iload 4, 2) := by decide +kernel
theorem dX12_way_65 : decode cX12_way 65 = .ok (.iconst 0, 1) := by decide +kernel
theorem dX12_way_66 : decode cX12_way 66 = .ok (.iload_n 1, 1) := by decide +kernel
theorem dX12_way_67 : decode cX12_way 67 = .ok (.bipush 10, 2) := by decide +kernel
theorem dX12_way_69 : decode cX12_way 69 = .ok (.idiv, 1) := by decide +kernel
theorem dX12_way_70 : decode cX12_way 70 = .ok (.invokevirtual 56, 3) := by decide +kernel
theorem dX12_way_73 : decode cX12_way 73 = .ok (.aload_n 0, 1) := by decide +kernel
theorem dX12_way_74 : decode cX12_way 74 = .ok (.iload 4, 2) := by decide +kernel
theorem dX12_way_76 : decode cX12_way 76 = .ok (.iconst 1, 1) := by decide +kernel
theorem dX12_way_77 : decode cX12_way 77 = .ok (.iload_n 1, 1) := by decide +kernel
theorem dX12_way_78 : decode cX12_way 78 = .ok (.bipush 10, 2) := by decide +kernel
theorem dX12_way_80 : decode cX12_way 80 = .ok (.irem, 1) := by decide +kernel
theorem dX12_way_81 : decode cX12_way 81 = .ok (.invokevirtual 56, 3) := by decide +kernel
theorem dX12_way_84 : decode cX12_way 84 = .ok (.aload_n 0, 1) := by decide +kernel
theorem dX12_way_85 : decode cX12_way 85 = .ok (.iload 4, 2) := by decide +kernel
theorem dX12_way_87 : decode cX12_way 87 = .ok (.iconst 2, 1) := by decide +kernel
theorem dX12_way_88 : decode cX12_way 88 = .ok (.iload_n 2, 1) := by decide +kernel
theorem dX12_way_89 : decode cX12_way 89 = .ok (.invokevirtual 56, 3) := by decide +kernel
theorem dX12_way_92 : decode cX12_way 92 = .ok (.aload_n 0, 1) := by decide +kernel
theorem dX12_way_93 : decode cX12_way 93 = .ok (.iload 4, 2) := by decide +kernel
theorem dX12_way_95 : decode cX12_way 95 = .ok (.iconst 3, 1) := by decide +kernel
theorem dX12_way_96 : decode cX12_way 96 = .ok (.iload_n 3, 1) := by decide +kernel
theorem dX12_way_97 : decode cX12_way 97 = .ok (.invokevirtual 56, 3) := by decide +kernel
theorem dX12_way_100 : decode cX12_way 100 = .ok (.aload_n 0, 1) := by decide +kernel
theorem dX12_way_101 : decode cX12_way 101 = .ok (.iload 4, 2) := by decide +kernel
theorem dX12_way_103 : decode cX12_way 103 = .ok (.iconst 4, 1) := by decide +kernel
theorem dX12_way_104 : decode cX12_way 104 = .ok (.iconst 0, 1) := by decide +kernel
theorem dX12_way_105 : decode cX12_way 105 = .ok (.invokevirtual 56, 3) := by decide +kernel
theorem dX12_way_108 : decode cX12_way 108 = .ok (.aload_n 0, 1) := by decide +kernel
theorem dX12_way_109 : decode cX12_way 109 = .ok (.getfield 7, 3) := by decide +kernel
theorem dX12_way_112 : decode cX12_way 112 = .ok (.iconst 2, 1) := by decide +kernel
theorem dX12_way_113 : decode cX12_way 113 = .ok (.dup2, 1) := by decide +kernel
theorem dX12_way_114 : decode cX12_way 114 = .ok (.iaload, 1) := by decide +kernel
theorem dX12_way_115 : decode cX12_way 115 = .ok (.iconst 1, 1) := by decide +kernel
theorem dX12_way_116 : decode cX12_way 116 = .ok (.iadd, 1) := by decide +kernel
theorem dX12_way_117 : decode cX12_way 117 = .ok (.iastore, 1) := by decide +kernel
theorem dX12_way_118 : decode cX12_way 118 = .ok (.iload 4, 2) := by decide +kernel
theorem dX12_way_120 : decode cX12_way 120 = .ok (.ireturn, 1) := by decide +kernel
theorem dX12_ofWay_0 : decode cX12_ofWay 0 = .ok (.aload_n 0, 1) := by decide +kernel
theorem dX12_ofWay_1 : decode cX12_ofWay 1 = .ok (.iload_n 1, 1) := by decide +kernel
theorem dX12_ofWay_2 : decode cX12_ofWay 2 = .ok (.invokevirtual 60, 3) := by decide +kernel
theorem dX12_ofWay_5 : decode cX12_ofWay 5 = .ok (.ifCond .eq 13, 3) := by decide +kernel
theorem dX12_ofWay_8 : decode cX12_ofWay 8 = .ok (.iload_n 2, 1) := by decide +kernel
theorem dX12_ofWay_9 : decode cX12_ofWay 9 = .ok (.iconst 0, 1) := by decide +kernel
theorem dX12_ofWay_10 : decode cX12_ofWay 10 = .ok (.bipush 6, 2) := by decide +kernel
theorem dX12_ofWay_12 : decode cX12_ofWay 12 = .ok (.invokestatic 38, 3) := by decide +kernel
theorem dX12_ofWay_15 : decode cX12_ofWay 15 = .ok (.ifCond .ne 10, 3) := by decide +kernel
theorem dX12_ofWay_18 : decode cX12_ofWay 18 = .ok (.aload_n 0, 1) := by decide +kernel
theorem dX12_ofWay_19 : decode cX12_ofWay 19 = .ok (.ldc 50, 2) := by decide +kernel
theorem dX12_ofWay_21 : decode cX12_ofWay 21 = .ok (.invokevirtual 51, 3) := by decide +kernel
theorem dX12_ofWay_24 : decode cX12_ofWay 24 = .ok (.ireturn, 1) := by decide +kernel
theorem dX12_ofWay_25 : decode cX12_ofWay 25 = .ok (.iload_n 2, 1) := by decide +kernel
theorem dX12_ofWay_26 : decode cX12_ofWay 26 = .ok (.iconst 5, 1) := by decide +kernel
theorem dX12_ofWay_27 : decode cX12_ofWay 27 = .ok (.if_icmp .ge 12, 3) := by decide +kernel
theorem dX12_ofWay_30 : decode cX12_ofWay 30 = .ok (.aload_n 0, 1) := by decide +kernel
theorem dX12_ofWay_31 : decode cX12_ofWay 31 = .ok (.iload_n 1, 1) := by decide +kernel
theorem dX12_ofWay_32 : decode cX12_ofWay 32 = .ok (.iload_n 2, 1) := by decide +kernel
theorem dX12_ofWay_33 : decode cX12_ofWay 33 = .ok (.invokevirtual 64, 3) := by decide +kernel
theorem dX12_ofWay_36 : decode cX12_ofWay 36 = .ok (.goto 27, 3) := by decide +kernel
theorem dX12_ofWay_39 : decode cX12_ofWay 39 = .ok (.iload_n 2, 1) := by decide +kernel
theorem dX12_ofWay_40 : decode cX12_ofWay 40 = .ok (.iconst 5, 1) := by decide +kernel
theorem dX12_ofWay_41 : decode cX12_ofWay 41 = .ok (.if_icmp .ne 17, 3) := by decide +kernel
theorem dX12_ofWay_44 : decode cX12_ofWay 44 = .ok (.aload_n 0, 1) := by decide +kernel
theorem dX12_ofWay_45 : decode cX12_ofWay 45 = .ok (.iload_n 1, 1) := by decide +kernel
theorem dX12_ofWay_46 : decode cX12_ofWay 46 = .ok (.aload_n 0, 1) := by decide +kernel
theorem dX12_ofWay_47 : decode cX12_ofWay 47 = .ok (.getfield 7, 3) := by decide +kernel
theorem dX12_ofWay_50 : decode cX12_ofWay 50 = .ok (.iconst 0, 1) := by decide +kernel
theorem dX12_ofWay_51 : decode cX12_ofWay 51 = .ok (.iaload, 1) := by decide +kernel
theorem dX12_ofWay_52 : decode cX12_ofWay 52 = .ok (.invokevirtual 67, 3) := by decide +kernel
theorem dX12_ofWay_55 : decode cX12_ofWay 55 = .ok (.goto 8, 3) := by decide +kernel
theorem dX12_ofWay_58 : decode cX12_ofWay 58 = .ok (.aload_n 0, 1) := by decide +kernel
theorem dX12_ofWay_59 : decode cX12_ofWay 59 = .ok (.iload_n 1, 1) := by decide +kernel
theorem dX12_ofWay_60 : decode cX12_ofWay 60 = .ok (.invokevirtual 70, 3) := by decide +kernel
theorem dX12_ofWay_63 : decode cX12_ofWay 63 = .ok (.ireturn, 1) := by decide +kernel
theorem dX12_change_0 : decode cX12_change 0 = .ok (.iload_n 2, 1) := by decide +kernel
theorem dX12_change_1 : decode cX12_change 1 = .ok (.ifCond .ne 13, 3) := by decide +kernel
theorem dX12_change_4 : decode cX12_change 4 = .ok (.iload_n 3, 1) := by decide +kernel
theorem dX12_change_5 : decode cX12_change 5 = .ok (.iconst 0, 1) := by decide +kernel
theorem dX12_change_6 : decode cX12_change 6 = .ok (.bipush 99, 2) := by decide +kernel
theorem dX12_change_8 : decode cX12_change 8 = .ok (.invokestatic 38, 3) := by decide +kernel
theorem dX12_change_11 : decode cX12_change 11 = .ok (.goto 36, 3) := by decide +kernel
theorem dX12_change_14 : decode cX12_change 14 = .ok (.iload_n 2, 1) := by decide +kernel
theorem dX12_change_15 : decode cX12_change 15 = .ok (.iconst 1, 1) := by decide +kernel
theorem dX12_change_16 : decode cX12_change 16 = .ok (.if_icmp .ne 12, 3) := by decide +kernel
theorem dX12_change_19 : decode cX12_change 19 = .ok (.iload_n 3, 1) := by decide +kernel
theorem dX12_change_20 : decode cX12_change 20 = .ok (.iconst 0, 1) := by decide +kernel
theorem dX12_change_21 : decode cX12_change 21 = .ok (.iconst 5, 1) := by decide +kernel
theorem dX12_change_22 : decode cX12_change 22 = .ok (.invokestatic 38, 3) := by decide +kernel
theorem dX12_change_25 : decode cX12_change 25 = .ok (.goto 22, 3) := by decide +kernel
theorem dX12_change_28 : decode cX12_change 28 = .ok (.iload_n 2, 1) := by decide +kernel
theorem dX12_change_29 : decode cX12_change 29 = .ok (.iconst 2, 1) := by decide +kernel
theorem dX12_change_30 : decode cX12_change 30 = .ok (.if_icmp .ne 16, 3) := by decide +kernel
theorem dX12_change_33 : decode cX12_change 33 = .ok (.iload_n 3, 1) := by decide +kernel
theorem dX12_change_34 : decode cX12_change 34 = .ok (.iconst 0, 1) := by decide +kernel
theorem dX12_change_35 : decode cX12_change 35 = .ok (.iconst 1, 1) := by decide +kernel
theorem dX12_change_36 : decode cX12_change 36 = .ok (.invokestatic 38, 3) := by decide +kernel
theorem dX12_change_39 : decode cX12_change 39 = .ok (.ifCond .eq 7, 3) := by decide +kernel
theorem dX12_change_42 : decode cX12_change 42 = .ok (.iconst 1, 1) := by decide +kernel
theorem dX12_change_43 : decode cX12_change 43 = .ok (.goto 4, 3) := by decide +kernel
theorem dX12_change_46 : decode cX12_change 46 = .ok (.iconst 0, 1) := by decide +kernel
theorem dX12_change_47 : decode cX12_change 47 = .ok (.istore 4, 2) := by decide +kernel
theorem dX12_change_49 : decode cX12_change 49 = .ok (.aload_n 0, 1) := by decide +kernel
theorem dX12_change_50 : decode cX12_change 50 = .ok (.iload_n 1, 1) := by decide +kernel
theorem dX12_change_51 : decode cX12_change 51 = .ok (.invokevirtual 60, 3) := by decide +kernel
theorem dX12_change_54 : decode cX12_change 54 = .ok (.ifCond .eq 26, 3) := by decide +kernel
theorem dX12_change_57 : decode cX12_change 57 = .ok (.iload 4, 2) := by decide +kernel
theorem dX12_change_59 : decode cX12_change 59 = .ok (.ifCond .eq 21, 3) := by decide +kernel
theorem dX12_change_62 : decode cX12_change 62 = .ok (.aload_n 0, 1) := by decide +kernel
theorem dX12_change_63 : decode cX12_change 63 = .ok (.bipush 16, 2) := by decide +kernel
theorem dX12_change_65 : decode cX12_change 65 = .ok (.iconst 5, 1) := by decide +kernel
theorem dX12_change_66 : decode cX12_change 66 = .ok (.iload_n 1, 1) := by decide +kernel
theorem dX12_change_67 : decode cX12_change 67 = .ok (.imul, 1) := by decide +kernel
theorem dX12_change_68 : decode cX12_change 68 = .ok (.iadd, 1) := by decide +kernel
theorem dX12_change_69 : decode cX12_change 69 = .ok (.iconst 2, 1) := by decide +kernel
theorem dX12_change_70 : decode cX12_change 70 = .ok (.iadd, 1) := by decide +kernel
theorem dX12_change_71 : decode cX12_change 71 = .ok (.iload_n 2, 1) := by decide +kernel
theorem dX12_change_72 : decode cX12_change 72 = .ok (.iadd, 1) := by decide +kernel
theorem dX12_change_73 : decode cX12_change 73 = .ok (.iload_n 3, 1) := by decide +kernel
theorem dX12_change_74 : decode cX12_change 74 = .ok (.invokevirtual 46, 3) := by decide +kernel
theorem dX12_change_77 : decode cX12_change 77 = .ok (.goto 9, 3) := by decide +kernel
theorem dX12_change_80 : decode cX12_change 80 = .ok (.aload_n 0, 1) := by decide +kernel
theorem dX12_change_81 : decode cX12_change 81 = .ok (.ldc 50, 2) := by decide +kernel
theorem dX12_change_83 : decode cX12_change 83 = .ok (.invokevirtual 51, 3) := by decide +kernel
theorem dX12_change_86 : decode cX12_change 86 = .ok (.ireturn, 1) := by decide +kernel
theorem dX12_become_0 : decode cX12_become 0 = .ok (.aload_n 0, 1) := by decide +kernel
theorem dX12_become_1 : decode cX12_become 1 = .ok (.iload_n 1, 1) := by decide +kernel
theorem dX12_become_2 : decode cX12_become 2 = .ok (.invokevirtual 60, 3) := by decide +kernel
theorem dX12_become_5 : decode cX12_become 5 = .ok (.ifCond .eq 13, 3) := by decide +kernel
theorem dX12_become_8 : decode cX12_become 8 = .ok (.iload_n 2, 1) := by decide +kernel
theorem dX12_become_9 : decode cX12_become 9 = .ok (.iconst 0, 1) := by decide +kernel
theorem dX12_become_10 : decode cX12_become 10 = .ok (.bipush 69, 2) := by decide +kernel
theorem dX12_become_12 : decode cX12_become 12 = .ok (.invokestatic 38, 3) := by decide +kernel
theorem dX12_become_15 : decode cX12_become 15 = .ok (.ifCond .ne 10, 3) := by decide +kernel
theorem dX12_become_18 : decode cX12_become 18 = .ok (.aload_n 0, 1) := by decide +kernel
theorem dX12_become_19 : decode cX12_become 19 = .ok (.ldc 50, 2) := by decide +kernel
theorem dX12_become_21 : decode cX12_become 21 = .ok (.invokevirtual 51, 3) := by decide +kernel
theorem dX12_become_24 : decode cX12_become 24 = .ok (.ireturn, 1) := by decide +kernel
theorem dX12_become_25 : decode cX12_become 25 = .ok (.aload_n 0, 1) := by decide +kernel
theorem dX12_become_26 : decode cX12_become 26 = .ok (.iload_n 1, 1) := by decide +kernel
theorem dX12_become_27 : decode cX12_become 27 = .ok (.iconst 1, 1) := by decide +kernel
theorem dX12_become_28 : decode cX12_become 28 = .ok (.iload_n 2, 1) := by decide +kernel
theorem dX12_become_29 : decode cX12_become 29 = .ok (.bipush 10, 2) := by decide +kernel
theorem dX12_become_31 : decode cX12_become 31 = .ok (.irem, 1) := by decide +kernel
theorem dX12_become_32 : decode cX12_become 32 = .ok (.invokevirtual 56, 3) := by decide +kernel
theorem dX12_become_35 : decode cX12_become 35 = .ok (.aload_n 0, 1) := by decide +kernel
theorem dX12_become_36 : decode cX12_become 36 = .ok (.bipush 16, 2) := by decide +kernel
theorem dX12_become_38 : decode cX12_become 38 = .ok (.iconst 5, 1) := by decide +kernel
theorem dX12_become_39 : decode cX12_become 39 = .ok (.iload_n 1, 1) := by decide +kernel
theorem dX12_become_40 : decode cX12_become 40 = .ok (.imul, 1) := by decide +kernel
theorem dX12_become_41 : decode cX12_become 41 = .ok (.iadd, 1) := by decide +kernel
theorem dX12_become_42 : decode cX12_become 42 = .ok (.iload_n 2, 1) := by decide +kernel
theorem dX12_become_43 : decode cX12_become 43 = .ok (.bipush 10, 2) := by decide +kernel
theorem dX12_become_45 : decode cX12_become 45 = .ok (.idiv, 1) := by decide +kernel
theorem dX12_become_46 : decode cX12_become 46 = .ok (.invokevirtual 46, 3) := by decide +kernel
theorem dX12_become_49 : decode cX12_become 49 = .ok (.ireturn, 1) := by decide +kernel
theorem dX12_above_0 : decode cX12_above 0 = .ok (.iload_n 0, 1) := by decide +kernel
theorem dX12_above_1 : decode cX12_above 1 = .ok (.ifCond .ne 7, 3) := by decide +kernel
theorem dX12_above_4 : decode cX12_above 4 = .ok (.iconst (-1), 1) := by decide +kernel
theorem dX12_above_5 : decode cX12_above 5 = .ok (.goto 15, 3) := by decide +kernel
theorem dX12_above_8 : decode cX12_above 8 = .ok (.iload_n 0, 1) := by decide +kernel
theorem dX12_above_9 : decode cX12_above 9 = .ok (.iconst 3, 1) := by decide +kernel
theorem dX12_above_10 : decode cX12_above 10 = .ok (.if_icmp .le 9, 3) := by decide +kernel
theorem dX12_above_13 : decode cX12_above 13 = .ok (.iload_n 0, 1) := by decide +kernel
theorem dX12_above_14 : decode cX12_above 14 = .ok (.iconst 3, 1) := by decide +kernel
theorem dX12_above_15 : decode cX12_above 15 = .ok (.isub, 1) := by decide +kernel
theorem dX12_above_16 : decode cX12_above 16 = .ok (.goto 4, 3) := by decide +kernel
theorem dX12_above_19 : decode cX12_above 19 = .ok (.iconst 0, 1) := by decide +kernel
theorem dX12_above_20 : decode cX12_above 20 = .ok (.ireturn, 1) := by decide +kernel
theorem dX12_as_0 : decode cX12_as 0 = .ok (.aload_n 0, 1) := by decide +kernel
theorem dX12_as_1 : decode cX12_as 1 = .ok (.iload_n 1, 1) := by decide +kernel
theorem dX12_as_2 : decode cX12_as 2 = .ok (.invokevirtual 60, 3) := by decide +kernel
theorem dX12_as_5 : decode cX12_as 5 = .ok (.ifCond .eq 13, 3) := by decide +kernel
theorem dX12_as_8 : decode cX12_as 8 = .ok (.iload_n 2, 1) := by decide +kernel
theorem dX12_as_9 : decode cX12_as 9 = .ok (.iconst 0, 1) := by decide +kernel
theorem dX12_as_10 : decode cX12_as 10 = .ok (.bipush 6, 2) := by decide +kernel
theorem dX12_as_12 : decode cX12_as 12 = .ok (.invokestatic 38, 3) := by decide +kernel
theorem dX12_as_15 : decode cX12_as 15 = .ok (.ifCond .ne 10, 3) := by decide +kernel
theorem dX12_as_18 : decode cX12_as 18 = .ok (.aload_n 0, 1) := by decide +kernel
theorem dX12_as_19 : decode cX12_as 19 = .ok (.ldc 50, 2) := by decide +kernel
theorem dX12_as_21 : decode cX12_as 21 = .ok (.invokevirtual 51, 3) := by decide +kernel
theorem dX12_as_24 : decode cX12_as 24 = .ok (.ireturn, 1) := by decide +kernel
theorem dX12_as_25 : decode cX12_as 25 = .ok (.aload_n 0, 1) := by decide +kernel
theorem dX12_as_26 : decode cX12_as 26 = .ok (.iload_n 1, 1) := by decide +kernel
theorem dX12_as_27 : decode cX12_as 27 = .ok (.iconst 0, 1) := by decide +kernel
theorem dX12_as_28 : decode cX12_as 28 = .ok (.invokevirtual 64, 3) := by decide +kernel
theorem dX12_as_31 : decode cX12_as 31 = .ok (.istore_n 3, 1) := by decide +kernel
theorem dX12_as_32 : decode cX12_as 32 = .ok (.iload_n 3, 1) := by decide +kernel
theorem dX12_as_33 : decode cX12_as 33 = .ok (.ifCond .lt 16, 3) := by decide +kernel
theorem dX12_as_36 : decode cX12_as 36 = .ok (.iload_n 3, 1) := by decide +kernel
theorem dX12_as_37 : decode cX12_as 37 = .ok (.iload_n 2, 1) := by decide +kernel
theorem dX12_as_38 : decode cX12_as 38 = .ok (.if_icmp .eq 11, 3) := by decide +kernel
theorem dX12_as_41 : decode cX12_as 41 = .ok (.iload_n 3, 1) := by decide +kernel
theorem dX12_as_42 : decode cX12_as 42 = .ok (.invokestatic 73, 3) := by decide +kernel
theorem dX12_as_45 : decode cX12_as 45 = .ok (.istore_n 3, 1) := by decide +kernel
theorem dX12_as_46 : decode cX12_as 46 = .ok (.goto (-14), 3) := by decide +kernel
theorem dX12_as_49 : decode cX12_as 49 = .ok (.iload_n 3, 1) := by decide +kernel
theorem dX12_as_50 : decode cX12_as 50 = .ok (.ifCond .ge 12, 3) := by decide +kernel
theorem dX12_as_53 : decode cX12_as 53 = .ok (.aload_n 0, 1) := by decide +kernel
theorem dX12_as_54 : decode cX12_as 54 = .ok (.ldc 76, 2) := by decide +kernel
theorem dX12_as_56 : decode cX12_as 56 = .ok (.invokevirtual 51, 3) := by decide +kernel
theorem dX12_as_59 : decode cX12_as 59 = .ok (.goto 9, 3) := by decide +kernel
theorem dX12_as_62 : decode cX12_as 62 = .ok (.aload_n 0, 1) := by decide +kernel
theorem dX12_as_63 : decode cX12_as 63 = .ok (.iload_n 1, 1) := by decide +kernel
theorem dX12_as_64 : decode cX12_as 64 = .ok (.iconst 1, 1) := by decide +kernel
theorem dX12_as_65 : decode cX12_as 65 = .ok (.invokevirtual 64, 3) := by decide +kernel
theorem dX12_as_68 : decode cX12_as 68 = .ok (.ireturn, 1) := by decide +kernel
theorem dX12_byteAt_0 : decode cX12_byteAt 0 = .ok (.iload_n 1, 1) := by decide +kernel
theorem dX12_byteAt_1 : decode cX12_byteAt 1 = .ok (.aload_n 0, 1) := by decide +kernel
theorem dX12_byteAt_2 : decode cX12_byteAt 2 = .ok (.getfield 77, 3) := by decide +kernel
theorem dX12_byteAt_5 : decode cX12_byteAt 5 = .ok (.if_icmp .ge 24, 3) := by decide +kernel
theorem dX12_byteAt_8 : decode cX12_byteAt 8 = .ok (.aload_n 0, 1) := by decide +kernel
theorem dX12_byteAt_9 : decode cX12_byteAt 9 = .ok (.getfield 7, 3) := by decide +kernel
theorem dX12_byteAt_12 : decode cX12_byteAt 12 = .ok (.sipush 176, 3) := by decide +kernel
theorem dX12_byteAt_15 : decode cX12_byteAt 15 = .ok (.bipush 50, 2) := by decide +kernel
theorem dX12_byteAt_17 : decode cX12_byteAt 17 = .ok (.aload_n 0, 1) := by decide +kernel
theorem dX12_byteAt_18 : decode cX12_byteAt 18 = .ok (.getfield 81, 3) := by decide +kernel
theorem dX12_byteAt_21 : decode cX12_byteAt 21 = .ok (.imul, 1) := by decide +kernel
theorem dX12_byteAt_22 : decode cX12_byteAt 22 = .ok (.iadd, 1) := by decide +kernel
theorem dX12_byteAt_23 : decode cX12_byteAt 23 = .ok (.iload_n 1, 1) := by decide +kernel
theorem dX12_byteAt_24 : decode cX12_byteAt 24 = .ok (.iadd, 1) := by decide +kernel
theorem dX12_byteAt_25 : decode cX12_byteAt 25 = .ok (.iaload, 1) := by decide +kernel
theorem dX12_byteAt_26 : decode cX12_byteAt 26 = .ok (.goto 4, 3) := by decide +kernel
theorem dX12_byteAt_29 : decode cX12_byteAt 29 = .ok (.iconst (-1), 1) := by decide +kernel
theorem dX12_byteAt_30 : decode cX12_byteAt 30 = .ok (.ireturn, 1) := by decide +kernel
theorem dX12_isDigit_0 : decode cX12_isDigit 0 = .ok (.iload_n 0, 1) := by decide +kernel
theorem dX12_isDigit_1 : decode cX12_isDigit 1 = .ok (.bipush 48, 2) := by decide +kernel
theorem dX12_isDigit_3 : decode cX12_isDigit 3 = .ok (.bipush 57, 2) := by decide +kernel
theorem dX12_isDigit_5 : decode cX12_isDigit 5 = .ok (.invokestatic 38, 3) := by decide +kernel
theorem dX12_isDigit_8 : decode cX12_isDigit 8 = .ok (.ireturn, 1) := by decide +kernel
theorem dX12_fails_0 : decode cX12_fails 0 = .ok (.aload_n 0, 1) := by decide +kernel
theorem dX12_fails_1 : decode cX12_fails 1 = .ok (.iconst 0, 1) := by decide +kernel
theorem dX12_fails_2 : decode cX12_fails 2 = .ok (.putfield 84, 3) := by decide +kernel
theorem dX12_fails_5 : decode cX12_fails 5 = .ok (.iconst 0, 1) := by decide +kernel
theorem dX12_fails_6 : decode cX12_fails 6 = .ok (.ireturn, 1) := by decide +kernel
theorem dX12_number_0 : decode cX12_number 0 = .ok (.iconst 0, 1) := by decide +kernel
theorem dX12_number_1 : decode cX12_number 1 = .ok (.istore_n 1, 1) := by decide +kernel
theorem dX12_number_2 : decode cX12_number 2 = .ok (.iconst 0, 1) := by decide +kernel
theorem dX12_number_3 : decode cX12_number 3 = .ok (.istore_n 2, 1) := by decide +kernel
theorem dX12_number_4 : decode cX12_number 4 = .ok (.iload_n 2, 1) := by decide +kernel
theorem dX12_number_5 : decode cX12_number 5 = .ok (.iconst 4, 1) := by decide +kernel
theorem dX12_number_6 : decode cX12_number 6 = .ok (.if_icmp .ge 50, 3) := by decide +kernel
theorem dX12_number_9 : decode cX12_number 9 = .ok (.aload_n 0, 1) := by decide +kernel
theorem dX12_number_10 : decode cX12_number 10 = .ok (.aload_n 0, 1) := by decide +kernel
theorem dX12_number_11 : decode cX12_number 11 = .ok (.getfield 88, 3) := by decide +kernel
theorem dX12_number_14 : decode cX12_number 14 = .ok (.invokevirtual 91, 3) := by decide +kernel
theorem dX12_number_17 : decode cX12_number 17 = .ok (.invokestatic 94, 3) := by decide +kernel
theorem dX12_number_20 : decode cX12_number 20 = .ok (.ifCond .eq 36, 3) := by decide +kernel
theorem dX12_number_23 : decode cX12_number 23 = .ok (.bipush 10, 2) := by decide +kernel
theorem dX12_number_25 : decode cX12_number 25 = .ok (.iload_n 1, 1) := by decide +kernel
theorem dX12_number_26 : decode cX12_number 26 = .ok (.imul, 1) := by decide +kernel
theorem dX12_number_27 : decode cX12_number 27 = .ok (.aload_n 0, 1) := by decide +kernel
theorem dX12_number_28 : decode cX12_number 28 = .ok (.aload_n 0, 1) := by decide +kernel
theorem dX12_number_29 : decode cX12_number 29 = .ok (.getfield 88, 3) := by decide +kernel
theorem dX12_number_32 : decode cX12_number 32 = .ok (.invokevirtual 91, 3) := by decide +kernel
theorem dX12_number_35 : decode cX12_number 35 = .ok (.iadd, 1) := by decide +kernel
theorem dX12_number_36 : decode cX12_number 36 = .ok (.bipush 48, 2) := by decide +kernel
theorem dX12_number_38 : decode cX12_number 38 = .ok (.isub, 1) := by decide +kernel
theorem dX12_number_39 : decode cX12_number 39 = .ok (.istore_n 1, 1) := by decide +kernel
theorem dX12_number_40 : decode cX12_number 40 = .ok (.aload_n 0, 1) := by decide +kernel
theorem dX12_number_41 : decode cX12_number 41 = .ok (.dup, 1) := by decide +kernel
theorem dX12_number_42 : decode cX12_number 42 = .ok (.getfield 88, 3) := by decide +kernel
theorem dX12_number_45 : decode cX12_number 45 = .ok (.iconst 1, 1) := by decide +kernel
theorem dX12_number_46 : decode cX12_number 46 = .ok (.iadd, 1) := by decide +kernel
theorem dX12_number_47 : decode cX12_number 47 = .ok (.putfield 88, 3) := by decide +kernel
theorem dX12_number_50 : decode cX12_number 50 = .ok (.iinc 2 1, 3) := by decide +kernel
theorem dX12_number_53 : decode cX12_number 53 = .ok (.goto (-49), 3) := by decide +kernel
theorem dX12_number_56 : decode cX12_number 56 = .ok (.iload_n 1, 1) := by decide +kernel
theorem dX12_number_57 : decode cX12_number 57 = .ok (.ireturn, 1) := by decide +kernel
theorem dX12_named_0 : decode cX12_named 0 = .ok (.iload_n 1, 1) := by decide +kernel
theorem dX12_named_1 : decode cX12_named 1 = .ok (.aload_n 0, 1) := by decide +kernel
theorem dX12_named_2 : decode cX12_named 2 = .ok (.getfield 81, 3) := by decide +kernel
theorem dX12_named_5 : decode cX12_named 5 = .ok (.ifCond .ne 8, 3) := by decide +kernel
theorem dX12_named_8 : decode cX12_named 8 = .ok (.bipush 109, 2) := by decide +kernel
theorem dX12_named_10 : decode cX12_named 10 = .ok (.goto 5, 3) := by decide +kernel
theorem dX12_named_13 : decode cX12_named 13 = .ok (.bipush 102, 2) := by decide +kernel
theorem dX12_named_15 : decode cX12_named 15 = .ok (.if_icmp .ne 7, 3) := by decide +kernel
theorem dX12_named_18 : decode cX12_named 18 = .ok (.iconst 1, 1) := by decide +kernel
theorem dX12_named_19 : decode cX12_named 19 = .ok (.goto 4, 3) := by decide +kernel
theorem dX12_named_22 : decode cX12_named 22 = .ok (.iconst 0, 1) := by decide +kernel
theorem dX12_named_23 : decode cX12_named 23 = .ok (.istore_n 2, 1) := by decide +kernel
theorem dX12_named_24 : decode cX12_named 24 = .ok (.iload_n 1, 1) := by decide +kernel
theorem dX12_named_25 : decode cX12_named 25 = .ok (.aload_n 0, 1) := by decide +kernel
theorem dX12_named_26 : decode cX12_named 26 = .ok (.getfield 81, 3) := by decide +kernel
theorem dX12_named_29 : decode cX12_named 29 = .ok (.ifCond .ne 8, 3) := by decide +kernel
theorem dX12_named_32 : decode cX12_named 32 = .ok (.bipush 107, 2) := by decide +kernel
theorem dX12_named_34 : decode cX12_named 34 = .ok (.goto 5, 3) := by decide +kernel
theorem dX12_named_37 : decode cX12_named 37 = .ok (.bipush 103, 2) := by decide +kernel
theorem dX12_named_39 : decode cX12_named 39 = .ok (.if_icmp .ne 7, 3) := by decide +kernel
theorem dX12_named_42 : decode cX12_named 42 = .ok (.iconst 1, 1) := by decide +kernel
theorem dX12_named_43 : decode cX12_named 43 = .ok (.goto 4, 3) := by decide +kernel
theorem dX12_named_46 : decode cX12_named 46 = .ok (.iconst 0, 1) := by decide +kernel
theorem dX12_named_47 : decode cX12_named 47 = .ok (.istore_n 3, 1) := by decide +kernel
theorem dX12_named_48 : decode cX12_named 48 = .ok (.iload_n 1, 1) := by decide +kernel
theorem dX12_named_49 : decode cX12_named 49 = .ok (.aload_n 0, 1) := by decide +kernel
theorem dX12_named_50 : decode cX12_named 50 = .ok (.getfield 81, 3) := by decide +kernel
theorem dX12_named_53 : decode cX12_named 53 = .ok (.ifCond .ne 8, 3) := by decide +kernel
theorem dX12_named_56 : decode cX12_named 56 = .ok (.bipush 115, 2) := by decide +kernel
theorem dX12_named_58 : decode cX12_named 58 = .ok (.goto 5, 3) := by decide +kernel
theorem dX12_named_61 : decode cX12_named 61 = .ok (.bipush 119, 2) := by decide +kernel
theorem dX12_named_63 : decode cX12_named 63 = .ok (.if_icmp .ne 7, 3) := by decide +kernel
theorem dX12_named_66 : decode cX12_named 66 = .ok (.iconst 1, 1) := by decide +kernel
theorem dX12_named_67 : decode cX12_named 67 = .ok (.goto 4, 3) := by decide +kernel
theorem dX12_named_70 : decode cX12_named 70 = .ok (.iconst 0, 1) := by decide +kernel
theorem dX12_named_71 : decode cX12_named 71 = .ok (.istore 4, 2) := by decide +kernel
theorem dX12_named_73 : decode cX12_named 73 = .ok (.iload_n 2, 1) := by decide +kernel
theorem dX12_named_74 : decode cX12_named 74 = .ok (.ifCond .ne 17, 3) := by decide +kernel
theorem dX12_named_77 : decode cX12_named 77 = .ok (.iload_n 3, 1) := by decide +kernel
theorem dX12_named_78 : decode cX12_named 78 = .ok (.ifCond .ne 13, 3) := by decide +kernel
theorem dX12_named_81 : decode cX12_named 81 = .ok (.iload 4, 2) := by decide +kernel
theorem dX12_named_83 : decode cX12_named 83 = .ok (.ifCond .ne 8, 3) := by decide +kernel
theorem dX12_named_86 : decode cX12_named 86 = .ok (.aload_n 0, 1) := by decide +kernel
theorem dX12_named_87 : decode cX12_named 87 = .ok (.invokevirtual 97, 3) := by decide +kernel
theorem dX12_named_90 : decode cX12_named 90 = .ok (.ireturn, 1) := by decide +kernel
theorem dX12_named_91 : decode cX12_named 91 = .ok (.aload_n 0, 1) := by decide +kernel
theorem dX12_named_92 : decode cX12_named 92 = .ok (.dup, 1) := by decide +kernel
theorem dX12_named_93 : decode cX12_named 93 = .ok (.getfield 88, 3) := by decide +kernel
theorem dX12_named_96 : decode cX12_named 96 = .ok (.iconst 1, 1) := by decide +kernel
theorem dX12_named_97 : decode cX12_named 97 = .ok (.iadd, 1) := by decide +kernel
theorem dX12_named_98 : decode cX12_named 98 = .ok (.putfield 88, 3) := by decide +kernel
theorem dX12_named_101 : decode cX12_named 101 = .ok (.iload_n 2, 1) := by decide +kernel
theorem dX12_named_102 : decode cX12_named 102 = .ok (.ifCond .eq 10, 3) := by decide +kernel
theorem dX12_named_105 : decode cX12_named 105 = .ok (.aload_n 0, 1) := by decide +kernel
theorem dX12_named_106 : decode cX12_named 106 = .ok (.getfield 101, 3) := by decide +kernel
theorem dX12_named_109 : decode cX12_named 109 = .ok (.goto 18, 3) := by decide +kernel
theorem dX12_named_112 : decode cX12_named 112 = .ok (.iload_n 3, 1) := by decide +kernel
theorem dX12_named_113 : decode cX12_named 113 = .ok (.ifCond .eq 10, 3) := by decide +kernel
theorem dX12_named_116 : decode cX12_named 116 = .ok (.aload_n 0, 1) := by decide +kernel
theorem dX12_named_117 : decode cX12_named 117 = .ok (.getfield 104, 3) := by decide +kernel
theorem dX12_named_120 : decode cX12_named 120 = .ok (.goto 7, 3) := by decide +kernel
theorem dX12_named_123 : decode cX12_named 123 = .ok (.aload_n 0, 1) := by decide +kernel
theorem dX12_named_124 : decode cX12_named 124 = .ok (.getfield 107, 3) := by decide +kernel
theorem dX12_named_127 : decode cX12_named 127 = .ok (.ireturn, 1) := by decide +kernel
theorem dX12_factor_0 : decode cX12_factor 0 = .ok (.aload_n 0, 1) := by decide +kernel
theorem dX12_factor_1 : decode cX12_factor 1 = .ok (.aload_n 0, 1) := by decide +kernel
theorem dX12_factor_2 : decode cX12_factor 2 = .ok (.getfield 88, 3) := by decide +kernel
theorem dX12_factor_5 : decode cX12_factor 5 = .ok (.invokevirtual 91, 3) := by decide +kernel
theorem dX12_factor_8 : decode cX12_factor 8 = .ok (.istore_n 1, 1) := by decide +kernel
theorem dX12_factor_9 : decode cX12_factor 9 = .ok (.iload_n 1, 1) := by decide +kernel
theorem dX12_factor_10 : decode cX12_factor 10 = .ok (.invokestatic 94, 3) := by decide +kernel
theorem dX12_factor_13 : decode cX12_factor 13 = .ok (.ifCond .eq 8, 3) := by decide +kernel
theorem dX12_factor_16 : decode cX12_factor 16 = .ok (.aload_n 0, 1) := by decide +kernel
theorem dX12_factor_17 : decode cX12_factor 17 = .ok (.invokevirtual 110, 3) := by decide +kernel
theorem dX12_factor_20 : decode cX12_factor 20 = .ok (.ireturn, 1) := by decide +kernel
theorem dX12_factor_21 : decode cX12_factor 21 = .ok (.iload_n 1, 1) := by decide +kernel
theorem dX12_factor_22 : decode cX12_factor 22 = .ok (.bipush 33, 2) := by decide +kernel
theorem dX12_factor_24 : decode cX12_factor 24 = .ok (.if_icmp .eq 15, 3) := by decide +kernel
theorem dX12_factor_27 : decode cX12_factor 27 = .ok (.iload_n 1, 1) := by decide +kernel
theorem dX12_factor_28 : decode cX12_factor 28 = .ok (.bipush 40, 2) := by decide +kernel
theorem dX12_factor_30 : decode cX12_factor 30 = .ok (.if_icmp .eq 9, 3) := by decide +kernel
theorem dX12_factor_33 : decode cX12_factor 33 = .ok (.aload_n 0, 1) := by decide +kernel
theorem dX12_factor_34 : decode cX12_factor 34 = .ok (.iload_n 1, 1) := by decide +kernel
theorem dX12_factor_35 : decode cX12_factor 35 = .ok (.invokevirtual 113, 3) := by decide +kernel
theorem dX12_factor_38 : decode cX12_factor 38 = .ok (.ireturn, 1) := by decide +kernel
theorem dX12_factor_39 : decode cX12_factor 39 = .ok (.aload_n 0, 1) := by decide +kernel
theorem dX12_factor_40 : decode cX12_factor 40 = .ok (.getfield 116, 3) := by decide +kernel
theorem dX12_factor_43 : decode cX12_factor 43 = .ok (.iconst 5, 1) := by decide +kernel
theorem dX12_factor_44 : decode cX12_factor 44 = .ok (.if_icmp .ne 8, 3) := by decide +kernel
theorem dX12_factor_47 : decode cX12_factor 47 = .ok (.aload_n 0, 1) := by decide +kernel
theorem dX12_factor_48 : decode cX12_factor 48 = .ok (.invokevirtual 97, 3) := by decide +kernel
theorem dX12_factor_51 : decode cX12_factor 51 = .ok (.ireturn, 1) := by decide +kernel
theorem dX12_factor_52 : decode cX12_factor 52 = .ok (.aload_n 0, 1) := by decide +kernel
theorem dX12_factor_53 : decode cX12_factor 53 = .ok (.dup, 1) := by decide +kernel
theorem dX12_factor_54 : decode cX12_factor 54 = .ok (.getfield 116, 3) := by decide +kernel
theorem dX12_factor_57 : decode cX12_factor 57 = .ok (.iconst 1, 1) := by decide +kernel
theorem dX12_factor_58 : decode cX12_factor 58 = .ok (.iadd, 1) := by decide +kernel
theorem dX12_factor_59 : decode cX12_factor 59 = .ok (.putfield 116, 3) := by decide +kernel
theorem dX12_factor_62 : decode cX12_factor 62 = .ok (.aload_n 0, 1) := by decide +kernel
theorem dX12_factor_63 : decode cX12_factor 63 = .ok (.dup, 1) := by decide +kernel
theorem dX12_factor_64 : decode cX12_factor 64 = .ok (.getfield 88, 3) := by decide +kernel
theorem dX12_factor_67 : decode cX12_factor 67 = .ok (.iconst 1, 1) := by decide +kernel
theorem dX12_factor_68 : decode cX12_factor 68 = .ok (.iadd, 1) := by decide +kernel
theorem dX12_factor_69 : decode cX12_factor 69 = .ok (.putfield 88, 3) := by decide +kernel
theorem dX12_factor_72 : decode cX12_factor 72 = .ok (.iload_n 1, 1) := by decide +kernel
theorem dX12_factor_73 : decode cX12_factor 73 = .ok (.bipush 33, 2) := by decide +kernel
theorem dX12_factor_75 : decode cX12_factor 75 = .ok (.if_icmp .ne 10, 3) := by decide +kernel
theorem dX12_factor_78 : decode cX12_factor 78 = .ok (.aload_n 0, 1) := by decide +kernel
theorem dX12_factor_79 : decode cX12_factor 79 = .ok (.invokevirtual 119, 3) := by decide +kernel
theorem dX12_factor_82 : decode cX12_factor 82 = .ok (.goto 7, 3) := by decide +kernel
theorem dX12_factor_85 : decode cX12_factor 85 = .ok (.aload_n 0, 1) := by decide +kernel
theorem dX12_factor_86 : decode cX12_factor 86 = .ok (.invokevirtual 122, 3) := by decide +kernel
theorem dX12_factor_89 : decode cX12_factor 89 = .ok (.istore_n 2, 1) := by decide +kernel
theorem dX12_factor_90 : decode cX12_factor 90 = .ok (.aload_n 0, 1) := by decide +kernel
theorem dX12_factor_91 : decode cX12_factor 91 = .ok (.dup, 1) := by decide +kernel
theorem dX12_factor_92 : decode cX12_factor 92 = .ok (.getfield 116, 3) := by decide +kernel
theorem dX12_factor_95 : decode cX12_factor 95 = .ok (.iconst 1, 1) := by decide +kernel
theorem dX12_factor_96 : decode cX12_factor 96 = .ok (.isub, 1) := by decide +kernel
theorem dX12_factor_97 : decode cX12_factor 97 = .ok (.putfield 116, 3) := by decide +kernel
theorem dX12_factor_100 : decode cX12_factor 100 = .ok (.iload_n 1, 1) := by decide +kernel
theorem dX12_factor_101 : decode cX12_factor 101 = .ok (.bipush 33, 2) := by decide +kernel
theorem dX12_factor_103 : decode cX12_factor 103 = .ok (.if_icmp .ne 13, 3) := by decide +kernel
theorem dX12_factor_106 : decode cX12_factor 106 = .ok (.iload_n 2, 1) := by decide +kernel
theorem dX12_factor_107 : decode cX12_factor 107 = .ok (.ifCond .ne 7, 3) := by decide +kernel
theorem dX12_factor_110 : decode cX12_factor 110 = .ok (.iconst 1, 1) := by decide +kernel
theorem dX12_factor_111 : decode cX12_factor 111 = .ok (.goto 4, 3) := by decide +kernel
theorem dX12_factor_114 : decode cX12_factor 114 = .ok (.iconst 0, 1) := by decide +kernel
theorem dX12_factor_115 : decode cX12_factor 115 = .ok (.ireturn, 1) := by decide +kernel
theorem dX12_factor_116 : decode cX12_factor 116 = .ok (.aload_n 0, 1) := by decide +kernel
theorem dX12_factor_117 : decode cX12_factor 117 = .ok (.getfield 84, 3) := by decide +kernel
theorem dX12_factor_120 : decode cX12_factor 120 = .ok (.ifCond .eq 28, 3) := by decide +kernel
theorem dX12_factor_123 : decode cX12_factor 123 = .ok (.aload_n 0, 1) := by decide +kernel
theorem dX12_factor_124 : decode cX12_factor 124 = .ok (.aload_n 0, 1) := by decide +kernel
theorem dX12_factor_125 : decode cX12_factor 125 = .ok (.getfield 88, 3) := by decide +kernel
theorem dX12_factor_128 : decode cX12_factor 128 = .ok (.invokevirtual 91, 3) := by decide +kernel
theorem dX12_factor_131 : decode cX12_factor 131 = .ok (.bipush 41, 2) := by decide +kernel
theorem dX12_factor_133 : decode cX12_factor 133 = .ok (.if_icmp .ne 15, 3) := by decide +kernel
theorem dX12_factor_136 : decode cX12_factor 136 = .ok (.aload_n 0, 1) := by decide +kernel
theorem dX12_factor_137 : decode cX12_factor 137 = .ok (.dup, 1) := by decide +kernel
theorem dX12_factor_138 : decode cX12_factor 138 = .ok (.getfield 88, 3) := by decide +kernel
theorem dX12_factor_141 : decode cX12_factor 141 = .ok (.iconst 1, 1) := by decide +kernel
theorem dX12_factor_142 : decode cX12_factor 142 = .ok (.iadd, 1) := by decide +kernel
theorem dX12_factor_143 : decode cX12_factor 143 = .ok (.putfield 88, 3) := by decide +kernel
theorem dX12_factor_146 : decode cX12_factor 146 = .ok (.iload_n 2, 1) := by decide +kernel
theorem dX12_factor_147 : decode cX12_factor 147 = .ok (.ireturn, 1) := by decide +kernel
theorem dX12_factor_148 : decode cX12_factor 148 = .ok (.aload_n 0, 1) := by decide +kernel
theorem dX12_factor_149 : decode cX12_factor 149 = .ok (.invokevirtual 97, 3) := by decide +kernel
theorem dX12_factor_152 : decode cX12_factor 152 = .ok (.ireturn, 1) := by decide +kernel
theorem dX12_product_0 : decode cX12_product 0 = .ok (.aload_n 0, 1) := by decide +kernel
theorem dX12_product_1 : decode cX12_product 1 = .ok (.invokevirtual 119, 3) := by decide +kernel
theorem dX12_product_4 : decode cX12_product 4 = .ok (.istore_n 1, 1) := by decide +kernel
theorem dX12_product_5 : decode cX12_product 5 = .ok (.aload_n 0, 1) := by decide +kernel
theorem dX12_product_6 : decode cX12_product 6 = .ok (.getfield 84, 3) := by decide +kernel
theorem dX12_product_9 : decode cX12_product 9 = .ok (.ifCond .eq 105, 3) := by decide +kernel
theorem dX12_product_12 : decode cX12_product 12 = .ok (.aload_n 0, 1) := by decide +kernel
theorem dX12_product_13 : decode cX12_product 13 = .ok (.aload_n 0, 1) := by decide +kernel
theorem dX12_product_14 : decode cX12_product 14 = .ok (.getfield 88, 3) := by decide +kernel
theorem dX12_product_17 : decode cX12_product 17 = .ok (.invokevirtual 91, 3) := by decide +kernel
theorem dX12_product_20 : decode cX12_product 20 = .ok (.bipush 42, 2) := by decide +kernel
theorem dX12_product_22 : decode cX12_product 22 = .ok (.if_icmp .eq 29, 3) := by decide +kernel
theorem dX12_product_25 : decode cX12_product 25 = .ok (.aload_n 0, 1) := by decide +kernel
theorem dX12_product_26 : decode cX12_product 26 = .ok (.aload_n 0, 1) := by decide +kernel
theorem dX12_product_27 : decode cX12_product 27 = .ok (.getfield 88, 3) := by decide +kernel
theorem dX12_product_30 : decode cX12_product 30 = .ok (.invokevirtual 91, 3) := by decide +kernel
theorem dX12_product_33 : decode cX12_product 33 = .ok (.bipush 47, 2) := by decide +kernel
theorem dX12_product_35 : decode cX12_product 35 = .ok (.if_icmp .eq 16, 3) := by decide +kernel
theorem dX12_product_38 : decode cX12_product 38 = .ok (.aload_n 0, 1) := by decide +kernel
theorem dX12_product_39 : decode cX12_product 39 = .ok (.aload_n 0, 1) := by decide +kernel
theorem dX12_product_40 : decode cX12_product 40 = .ok (.getfield 88, 3) := by decide +kernel
theorem dX12_product_43 : decode cX12_product 43 = .ok (.invokevirtual 91, 3) := by decide +kernel
theorem dX12_product_46 : decode cX12_product 46 = .ok (.bipush 37, 2) := by decide +kernel
theorem dX12_product_48 : decode cX12_product 48 = .ok (.if_icmp .ne 66, 3) := by decide +kernel
theorem dX12_product_51 : decode cX12_product 51 = .ok (.aload_n 0, 1) := by decide +kernel
theorem dX12_product_52 : decode cX12_product 52 = .ok (.aload_n 0, 1) := by decide +kernel
theorem dX12_product_53 : decode cX12_product 53 = .ok (.getfield 88, 3) := by decide +kernel
theorem dX12_product_56 : decode cX12_product 56 = .ok (.invokevirtual 91, 3) := by decide +kernel
theorem dX12_product_59 : decode cX12_product 59 = .ok (.istore_n 2, 1) := by decide +kernel
theorem dX12_product_60 : decode cX12_product 60 = .ok (.aload_n 0, 1) := by decide +kernel
theorem dX12_product_61 : decode cX12_product 61 = .ok (.dup, 1) := by decide +kernel
theorem dX12_product_62 : decode cX12_product 62 = .ok (.getfield 88, 3) := by decide +kernel
theorem dX12_product_65 : decode cX12_product 65 = .ok (.iconst 1, 1) := by decide +kernel
theorem dX12_product_66 : decode cX12_product 66 = .ok (.iadd, 1) := by decide +kernel
theorem dX12_product_67 : decode cX12_product 67 = .ok (.putfield 88, 3) := by decide +kernel
theorem dX12_product_70 : decode cX12_product 70 = .ok (.aload_n 0, 1) := by decide +kernel
theorem dX12_product_71 : decode cX12_product 71 = .ok (.invokevirtual 119, 3) := by decide +kernel
theorem dX12_product_74 : decode cX12_product 74 = .ok (.istore_n 3, 1) := by decide +kernel
theorem dX12_product_75 : decode cX12_product 75 = .ok (.iload_n 2, 1) := by decide +kernel
theorem dX12_product_76 : decode cX12_product 76 = .ok (.bipush 42, 2) := by decide +kernel
theorem dX12_product_78 : decode cX12_product 78 = .ok (.if_icmp .ne 9, 3) := by decide +kernel
theorem dX12_product_81 : decode cX12_product 81 = .ok (.iload_n 1, 1) := by decide +kernel
theorem dX12_product_82 : decode cX12_product 82 = .ok (.iload_n 3, 1) := by decide +kernel
theorem dX12_product_83 : decode cX12_product 83 = .ok (.imul, 1) := by decide +kernel
theorem dX12_product_84 : decode cX12_product 84 = .ok (.goto 26, 3) := by decide +kernel
theorem dX12_product_87 : decode cX12_product 87 = .ok (.iload_n 3, 1) := by decide +kernel
theorem dX12_product_88 : decode cX12_product 88 = .ok (.ifCond .ne 7, 3) := by decide +kernel
theorem dX12_product_91 : decode cX12_product 91 = .ok (.iconst 0, 1) := by decide +kernel
theorem dX12_product_92 : decode cX12_product 92 = .ok (.goto 18, 3) := by decide +kernel
theorem dX12_product_95 : decode cX12_product 95 = .ok (.iload_n 2, 1) := by decide +kernel
theorem dX12_product_96 : decode cX12_product 96 = .ok (.bipush 47, 2) := by decide +kernel
theorem dX12_product_98 : decode cX12_product 98 = .ok (.if_icmp .ne 9, 3) := by decide +kernel
theorem dX12_product_101 : decode cX12_product 101 = .ok (.iload_n 1, 1) := by decide +kernel
theorem dX12_product_102 : decode cX12_product 102 = .ok (.iload_n 3, 1) := by decide +kernel
theorem dX12_product_103 : decode cX12_product 103 = .ok (.idiv, 1) := by decide +kernel
theorem dX12_product_104 : decode cX12_product 104 = .ok (.goto 6, 3) := by decide +kernel
theorem dX12_product_107 : decode cX12_product 107 = .ok (.iload_n 1, 1) := by decide +kernel
theorem dX12_product_108 : decode cX12_product 108 = .ok (.iload_n 3, 1) := by decide +kernel
theorem dX12_product_109 : decode cX12_product 109 = .ok (.irem, 1) := by decide +kernel
theorem dX12_product_110 : decode cX12_product 110 = .ok (.istore_n 1, 1) := by decide +kernel
theorem dX12_product_111 : decode cX12_product 111 = .ok (.goto (-106), 3) := by decide +kernel
theorem dX12_product_114 : decode cX12_product 114 = .ok (.iload_n 1, 1) := by decide +kernel
theorem dX12_product_115 : decode cX12_product 115 = .ok (.ireturn, 1) := by decide +kernel
theorem dX12_sum_0 : decode cX12_sum 0 = .ok (.aload_n 0, 1) := by decide +kernel
theorem dX12_sum_1 : decode cX12_sum 1 = .ok (.invokevirtual 125, 3) := by decide +kernel
theorem dX12_sum_4 : decode cX12_sum 4 = .ok (.istore_n 1, 1) := by decide +kernel
theorem dX12_sum_5 : decode cX12_sum 5 = .ok (.aload_n 0, 1) := by decide +kernel
theorem dX12_sum_6 : decode cX12_sum 6 = .ok (.getfield 84, 3) := by decide +kernel
theorem dX12_sum_9 : decode cX12_sum 9 = .ok (.ifCond .eq 72, 3) := by decide +kernel
theorem dX12_sum_12 : decode cX12_sum 12 = .ok (.aload_n 0, 1) := by decide +kernel
theorem dX12_sum_13 : decode cX12_sum 13 = .ok (.aload_n 0, 1) := by decide +kernel
theorem dX12_sum_14 : decode cX12_sum 14 = .ok (.getfield 88, 3) := by decide +kernel
theorem dX12_sum_17 : decode cX12_sum 17 = .ok (.invokevirtual 91, 3) := by decide +kernel
theorem dX12_sum_20 : decode cX12_sum 20 = .ok (.bipush 43, 2) := by decide +kernel
theorem dX12_sum_22 : decode cX12_sum 22 = .ok (.if_icmp .eq 16, 3) := by decide +kernel
theorem dX12_sum_25 : decode cX12_sum 25 = .ok (.aload_n 0, 1) := by decide +kernel
theorem dX12_sum_26 : decode cX12_sum 26 = .ok (.aload_n 0, 1) := by decide +kernel
theorem dX12_sum_27 : decode cX12_sum 27 = .ok (.getfield 88, 3) := by decide +kernel
theorem dX12_sum_30 : decode cX12_sum 30 = .ok (.invokevirtual 91, 3) := by decide +kernel
theorem dX12_sum_33 : decode cX12_sum 33 = .ok (.bipush 45, 2) := by decide +kernel
theorem dX12_sum_35 : decode cX12_sum 35 = .ok (.if_icmp .ne 46, 3) := by decide +kernel
theorem dX12_sum_38 : decode cX12_sum 38 = .ok (.aload_n 0, 1) := by decide +kernel
theorem dX12_sum_39 : decode cX12_sum 39 = .ok (.aload_n 0, 1) := by decide +kernel
theorem dX12_sum_40 : decode cX12_sum 40 = .ok (.getfield 88, 3) := by decide +kernel
theorem dX12_sum_43 : decode cX12_sum 43 = .ok (.invokevirtual 91, 3) := by decide +kernel
theorem dX12_sum_46 : decode cX12_sum 46 = .ok (.istore_n 2, 1) := by decide +kernel
theorem dX12_sum_47 : decode cX12_sum 47 = .ok (.aload_n 0, 1) := by decide +kernel
theorem dX12_sum_48 : decode cX12_sum 48 = .ok (.dup, 1) := by decide +kernel
theorem dX12_sum_49 : decode cX12_sum 49 = .ok (.getfield 88, 3) := by decide +kernel
theorem dX12_sum_52 : decode cX12_sum 52 = .ok (.iconst 1, 1) := by decide +kernel
theorem dX12_sum_53 : decode cX12_sum 53 = .ok (.iadd, 1) := by decide +kernel
theorem dX12_sum_54 : decode cX12_sum 54 = .ok (.putfield 88, 3) := by decide +kernel
theorem dX12_sum_57 : decode cX12_sum 57 = .ok (.aload_n 0, 1) := by decide +kernel
theorem dX12_sum_58 : decode cX12_sum 58 = .ok (.invokevirtual 125, 3) := by decide +kernel
theorem dX12_sum_61 : decode cX12_sum 61 = .ok (.istore_n 3, 1) := by decide +kernel
theorem dX12_sum_62 : decode cX12_sum 62 = .ok (.iload_n 2, 1) := by decide +kernel
theorem dX12_sum_63 : decode cX12_sum 63 = .ok (.bipush 43, 2) := by decide +kernel
theorem dX12_sum_65 : decode cX12_sum 65 = .ok (.if_icmp .ne 9, 3) := by decide +kernel
theorem dX12_sum_68 : decode cX12_sum 68 = .ok (.iload_n 1, 1) := by decide +kernel
theorem dX12_sum_69 : decode cX12_sum 69 = .ok (.iload_n 3, 1) := by decide +kernel
theorem dX12_sum_70 : decode cX12_sum 70 = .ok (.iadd, 1) := by decide +kernel
theorem dX12_sum_71 : decode cX12_sum 71 = .ok (.goto 6, 3) := by decide +kernel
theorem dX12_sum_74 : decode cX12_sum 74 = .ok (.iload_n 1, 1) := by decide +kernel
theorem dX12_sum_75 : decode cX12_sum 75 = .ok (.iload_n 3, 1) := by decide +kernel
theorem dX12_sum_76 : decode cX12_sum 76 = .ok (.isub, 1) := by decide +kernel
theorem dX12_sum_77 : decode cX12_sum 77 = .ok (.istore_n 1, 1) := by decide +kernel
theorem dX12_sum_78 : decode cX12_sum 78 = .ok (.goto (-73), 3) := by decide +kernel
theorem dX12_sum_81 : decode cX12_sum 81 = .ok (.iload_n 1, 1) := by decide +kernel
theorem dX12_sum_82 : decode cX12_sum 82 = .ok (.ireturn, 1) := by decide +kernel
theorem dX12_compared_0 : decode cX12_compared 0 = .ok (.aload_n 0, 1) := by decide +kernel
theorem dX12_compared_1 : decode cX12_compared 1 = .ok (.invokevirtual 128, 3) := by decide +kernel
theorem dX12_compared_4 : decode cX12_compared 4 = .ok (.istore_n 1, 1) := by decide +kernel
theorem dX12_compared_5 : decode cX12_compared 5 = .ok (.aload_n 0, 1) := by decide +kernel
theorem dX12_compared_6 : decode cX12_compared 6 = .ok (.getfield 84, 3) := by decide +kernel
theorem dX12_compared_9 : decode cX12_compared 9 = .ok (.ifCond .eq 14, 3) := by decide +kernel
theorem dX12_compared_12 : decode cX12_compared 12 = .ok (.aload_n 0, 1) := by decide +kernel
theorem dX12_compared_13 : decode cX12_compared 13 = .ok (.aload_n 0, 1) := by decide +kernel
theorem dX12_compared_14 : decode cX12_compared 14 = .ok (.getfield 88, 3) := by decide +kernel
theorem dX12_compared_17 : decode cX12_compared 17 = .ok (.invokevirtual 91, 3) := by decide +kernel
theorem dX12_compared_20 : decode cX12_compared 20 = .ok (.goto 4, 3) := by decide +kernel
theorem dX12_compared_23 : decode cX12_compared 23 = .ok (.iconst (-1), 1) := by decide +kernel
theorem dX12_compared_24 : decode cX12_compared 24 = .ok (.istore_n 2, 1) := by decide +kernel
theorem dX12_compared_25 : decode cX12_compared 25 = .ok (.iload_n 2, 1) := by decide +kernel
theorem dX12_compared_26 : decode cX12_compared 26 = .ok (.bipush 60, 2) := by decide +kernel
theorem dX12_compared_28 : decode cX12_compared 28 = .ok (.if_icmp .eq 17, 3) := by decide +kernel
theorem dX12_compared_31 : decode cX12_compared 31 = .ok (.iload_n 2, 1) := by decide +kernel
theorem dX12_compared_32 : decode cX12_compared 32 = .ok (.bipush 61, 2) := by decide +kernel
theorem dX12_compared_34 : decode cX12_compared 34 = .ok (.if_icmp .eq 11, 3) := by decide +kernel
theorem dX12_compared_37 : decode cX12_compared 37 = .ok (.iload_n 2, 1) := by decide +kernel
theorem dX12_compared_38 : decode cX12_compared 38 = .ok (.bipush 62, 2) := by decide +kernel
theorem dX12_compared_40 : decode cX12_compared 40 = .ok (.if_icmp .eq 5, 3) := by decide +kernel
theorem dX12_compared_43 : decode cX12_compared 43 = .ok (.iload_n 1, 1) := by decide +kernel
theorem dX12_compared_44 : decode cX12_compared 44 = .ok (.ireturn, 1) := by decide +kernel
theorem dX12_compared_45 : decode cX12_compared 45 = .ok (.aload_n 0, 1) := by decide +kernel
theorem dX12_compared_46 : decode cX12_compared 46 = .ok (.dup, 1) := by decide +kernel
theorem dX12_compared_47 : decode cX12_compared 47 = .ok (.getfield 88, 3) := by decide +kernel
theorem dX12_compared_50 : decode cX12_compared 50 = .ok (.iconst 1, 1) := by decide +kernel
theorem dX12_compared_51 : decode cX12_compared 51 = .ok (.iadd, 1) := by decide +kernel
theorem dX12_compared_52 : decode cX12_compared 52 = .ok (.putfield 88, 3) := by decide +kernel
theorem dX12_compared_55 : decode cX12_compared 55 = .ok (.aload_n 0, 1) := by decide +kernel
theorem dX12_compared_56 : decode cX12_compared 56 = .ok (.invokevirtual 128, 3) := by decide +kernel
theorem dX12_compared_59 : decode cX12_compared 59 = .ok (.istore_n 3, 1) := by decide +kernel
theorem dX12_compared_60 : decode cX12_compared 60 = .ok (.iload_n 2, 1) := by decide +kernel
theorem dX12_compared_61 : decode cX12_compared 61 = .ok (.bipush 60, 2) := by decide +kernel
theorem dX12_compared_63 : decode cX12_compared 63 = .ok (.if_icmp .ne 16, 3) := by decide +kernel
theorem dX12_compared_66 : decode cX12_compared 66 = .ok (.iload_n 1, 1) := by decide +kernel
theorem dX12_compared_67 : decode cX12_compared 67 = .ok (.iload_n 3, 1) := by decide +kernel
theorem dX12_compared_68 : decode cX12_compared 68 = .ok (.if_icmp .ge 7, 3) := by decide +kernel
theorem dX12_compared_71 : decode cX12_compared 71 = .ok (.iconst 1, 1) := by decide +kernel
theorem dX12_compared_72 : decode cX12_compared 72 = .ok (.goto 36, 3) := by decide +kernel
theorem dX12_compared_75 : decode cX12_compared 75 = .ok (.iconst 0, 1) := by decide +kernel
theorem dX12_compared_76 : decode cX12_compared 76 = .ok (.goto 32, 3) := by decide +kernel
theorem dX12_compared_79 : decode cX12_compared 79 = .ok (.iload_n 2, 1) := by decide +kernel
theorem dX12_compared_80 : decode cX12_compared 80 = .ok (.bipush 61, 2) := by decide +kernel
theorem dX12_compared_82 : decode cX12_compared 82 = .ok (.if_icmp .ne 16, 3) := by decide +kernel
theorem dX12_compared_85 : decode cX12_compared 85 = .ok (.iload_n 1, 1) := by decide +kernel
theorem dX12_compared_86 : decode cX12_compared 86 = .ok (.iload_n 3, 1) := by decide +kernel
theorem dX12_compared_87 : decode cX12_compared 87 = .ok (.if_icmp .ne 7, 3) := by decide +kernel
theorem dX12_compared_90 : decode cX12_compared 90 = .ok (.iconst 1, 1) := by decide +kernel
theorem dX12_compared_91 : decode cX12_compared 91 = .ok (.goto 17, 3) := by decide +kernel
theorem dX12_compared_94 : decode cX12_compared 94 = .ok (.iconst 0, 1) := by decide +kernel
theorem dX12_compared_95 : decode cX12_compared 95 = .ok (.goto 13, 3) := by decide +kernel
theorem dX12_compared_98 : decode cX12_compared 98 = .ok (.iload_n 1, 1) := by decide +kernel
theorem dX12_compared_99 : decode cX12_compared 99 = .ok (.iload_n 3, 1) := by decide +kernel
theorem dX12_compared_100 : decode cX12_compared 100 = .ok (.if_icmp .le 7, 3) := by decide +kernel
theorem dX12_compared_103 : decode cX12_compared 103 = .ok (.iconst 1, 1) := by decide +kernel
theorem dX12_compared_104 : decode cX12_compared 104 = .ok (.goto 4, 3) := by decide +kernel
theorem dX12_compared_107 : decode cX12_compared 107 = .ok (.iconst 0, 1) := by decide +kernel
theorem dX12_compared_108 : decode cX12_compared 108 = .ok (.istore 4, 2) := by decide +kernel
theorem dX12_compared_110 : decode cX12_compared 110 = .ok (.iload 4, 2) := by decide +kernel
theorem dX12_compared_112 : decode cX12_compared 112 = .ok (.ifCond .eq 7, 3) := by decide +kernel
theorem dX12_compared_115 : decode cX12_compared 115 = .ok (.iconst 1, 1) := by decide +kernel
theorem dX12_compared_116 : decode cX12_compared 116 = .ok (.goto 4, 3) := by decide +kernel
theorem dX12_compared_119 : decode cX12_compared 119 = .ok (.iconst 0, 1) := by decide +kernel
theorem dX12_compared_120 : decode cX12_compared 120 = .ok (.ireturn, 1) := by decide +kernel
theorem dX12_both_0 : decode cX12_both 0 = .ok (.aload_n 0, 1) := by decide +kernel
theorem dX12_both_1 : decode cX12_both 1 = .ok (.invokevirtual 131, 3) := by decide +kernel
theorem dX12_both_4 : decode cX12_both 4 = .ok (.istore_n 1, 1) := by decide +kernel
theorem dX12_both_5 : decode cX12_both 5 = .ok (.aload_n 0, 1) := by decide +kernel
theorem dX12_both_6 : decode cX12_both 6 = .ok (.getfield 84, 3) := by decide +kernel
theorem dX12_both_9 : decode cX12_both 9 = .ok (.ifCond .eq 48, 3) := by decide +kernel
theorem dX12_both_12 : decode cX12_both 12 = .ok (.aload_n 0, 1) := by decide +kernel
theorem dX12_both_13 : decode cX12_both 13 = .ok (.aload_n 0, 1) := by decide +kernel
theorem dX12_both_14 : decode cX12_both 14 = .ok (.getfield 88, 3) := by decide +kernel
theorem dX12_both_17 : decode cX12_both 17 = .ok (.invokevirtual 91, 3) := by decide +kernel
theorem dX12_both_20 : decode cX12_both 20 = .ok (.bipush 38, 2) := by decide +kernel
theorem dX12_both_22 : decode cX12_both 22 = .ok (.if_icmp .ne 35, 3) := by decide +kernel
theorem dX12_both_25 : decode cX12_both 25 = .ok (.aload_n 0, 1) := by decide +kernel
theorem dX12_both_26 : decode cX12_both 26 = .ok (.dup, 1) := by decide +kernel
theorem dX12_both_27 : decode cX12_both 27 = .ok (.getfield 88, 3) := by decide +kernel
theorem dX12_both_30 : decode cX12_both 30 = .ok (.iconst 1, 1) := by decide +kernel
theorem dX12_both_31 : decode cX12_both 31 = .ok (.iadd, 1) := by decide +kernel
theorem dX12_both_32 : decode cX12_both 32 = .ok (.putfield 88, 3) := by decide +kernel
theorem dX12_both_35 : decode cX12_both 35 = .ok (.aload_n 0, 1) := by decide +kernel
theorem dX12_both_36 : decode cX12_both 36 = .ok (.invokevirtual 131, 3) := by decide +kernel
theorem dX12_both_39 : decode cX12_both 39 = .ok (.istore_n 2, 1) := by decide +kernel
theorem dX12_both_40 : decode cX12_both 40 = .ok (.iload_n 1, 1) := by decide +kernel
theorem dX12_both_41 : decode cX12_both 41 = .ok (.ifCond .eq 11, 3) := by decide +kernel
theorem dX12_both_44 : decode cX12_both 44 = .ok (.iload_n 2, 1) := by decide +kernel
theorem dX12_both_45 : decode cX12_both 45 = .ok (.ifCond .eq 7, 3) := by decide +kernel
theorem dX12_both_48 : decode cX12_both 48 = .ok (.iconst 1, 1) := by decide +kernel
theorem dX12_both_49 : decode cX12_both 49 = .ok (.goto 4, 3) := by decide +kernel
theorem dX12_both_52 : decode cX12_both 52 = .ok (.iconst 0, 1) := by decide +kernel
theorem dX12_both_53 : decode cX12_both 53 = .ok (.istore_n 1, 1) := by decide +kernel
theorem dX12_both_54 : decode cX12_both 54 = .ok (.goto (-49), 3) := by decide +kernel
theorem dX12_both_57 : decode cX12_both 57 = .ok (.iload_n 1, 1) := by decide +kernel
theorem dX12_both_58 : decode cX12_both 58 = .ok (.ireturn, 1) := by decide +kernel
theorem dX12_whole_0 : decode cX12_whole 0 = .ok (.aload_n 0, 1) := by decide +kernel
theorem dX12_whole_1 : decode cX12_whole 1 = .ok (.invokevirtual 134, 3) := by decide +kernel
theorem dX12_whole_4 : decode cX12_whole 4 = .ok (.istore_n 1, 1) := by decide +kernel
theorem dX12_whole_5 : decode cX12_whole 5 = .ok (.aload_n 0, 1) := by decide +kernel
theorem dX12_whole_6 : decode cX12_whole 6 = .ok (.getfield 84, 3) := by decide +kernel
theorem dX12_whole_9 : decode cX12_whole 9 = .ok (.ifCond .eq 48, 3) := by decide +kernel
theorem dX12_whole_12 : decode cX12_whole 12 = .ok (.aload_n 0, 1) := by decide +kernel
theorem dX12_whole_13 : decode cX12_whole 13 = .ok (.aload_n 0, 1) := by decide +kernel
theorem dX12_whole_14 : decode cX12_whole 14 = .ok (.getfield 88, 3) := by decide +kernel
theorem dX12_whole_17 : decode cX12_whole 17 = .ok (.invokevirtual 91, 3) := by decide +kernel
theorem dX12_whole_20 : decode cX12_whole 20 = .ok (.bipush 124, 2) := by decide +kernel
theorem dX12_whole_22 : decode cX12_whole 22 = .ok (.if_icmp .ne 35, 3) := by decide +kernel
theorem dX12_whole_25 : decode cX12_whole 25 = .ok (.aload_n 0, 1) := by decide +kernel
theorem dX12_whole_26 : decode cX12_whole 26 = .ok (.dup, 1) := by decide +kernel
theorem dX12_whole_27 : decode cX12_whole 27 = .ok (.getfield 88, 3) := by decide +kernel
theorem dX12_whole_30 : decode cX12_whole 30 = .ok (.iconst 1, 1) := by decide +kernel
theorem dX12_whole_31 : decode cX12_whole 31 = .ok (.iadd, 1) := by decide +kernel
theorem dX12_whole_32 : decode cX12_whole 32 = .ok (.putfield 88, 3) := by decide +kernel
theorem dX12_whole_35 : decode cX12_whole 35 = .ok (.aload_n 0, 1) := by decide +kernel
theorem dX12_whole_36 : decode cX12_whole 36 = .ok (.invokevirtual 134, 3) := by decide +kernel
theorem dX12_whole_39 : decode cX12_whole 39 = .ok (.istore_n 2, 1) := by decide +kernel
theorem dX12_whole_40 : decode cX12_whole 40 = .ok (.iload_n 1, 1) := by decide +kernel
theorem dX12_whole_41 : decode cX12_whole 41 = .ok (.ifCond .ne 7, 3) := by decide +kernel
theorem dX12_whole_44 : decode cX12_whole 44 = .ok (.iload_n 2, 1) := by decide +kernel
theorem dX12_whole_45 : decode cX12_whole 45 = .ok (.ifCond .eq 7, 3) := by decide +kernel
theorem dX12_whole_48 : decode cX12_whole 48 = .ok (.iconst 1, 1) := by decide +kernel
theorem dX12_whole_49 : decode cX12_whole 49 = .ok (.goto 4, 3) := by decide +kernel
theorem dX12_whole_52 : decode cX12_whole 52 = .ok (.iconst 0, 1) := by decide +kernel
theorem dX12_whole_53 : decode cX12_whole 53 = .ok (.istore_n 1, 1) := by decide +kernel
theorem dX12_whole_54 : decode cX12_whole 54 = .ok (.goto (-49), 3) := by decide +kernel
theorem dX12_whole_57 : decode cX12_whole 57 = .ok (.iload_n 1, 1) := by decide +kernel
theorem dX12_whole_58 : decode cX12_whole 58 = .ok (.ireturn, 1) := by decide +kernel
theorem dX12_walks_0 : decode cX12_walks 0 = .ok (.aload_n 0, 1) := by decide +kernel
theorem dX12_walks_1 : decode cX12_walks 1 = .ok (.iload_n 1, 1) := by decide +kernel
theorem dX12_walks_2 : decode cX12_walks 2 = .ok (.putfield 81, 3) := by decide +kernel
theorem dX12_walks_5 : decode cX12_walks 5 = .ok (.aload_n 0, 1) := by decide +kernel
theorem dX12_walks_6 : decode cX12_walks 6 = .ok (.iconst 0, 1) := by decide +kernel
theorem dX12_walks_7 : decode cX12_walks 7 = .ok (.putfield 88, 3) := by decide +kernel
theorem dX12_walks_10 : decode cX12_walks 10 = .ok (.aload_n 0, 1) := by decide +kernel
theorem dX12_walks_11 : decode cX12_walks 11 = .ok (.aload_n 0, 1) := by decide +kernel
theorem dX12_walks_12 : decode cX12_walks 12 = .ok (.getfield 7, 3) := by decide +kernel
theorem dX12_walks_15 : decode cX12_walks 15 = .ok (.iconst 5, 1) := by decide +kernel
theorem dX12_walks_16 : decode cX12_walks 16 = .ok (.iload_n 1, 1) := by decide +kernel
theorem dX12_walks_17 : decode cX12_walks 17 = .ok (.iadd, 1) := by decide +kernel
theorem dX12_walks_18 : decode cX12_walks 18 = .ok (.iaload, 1) := by decide +kernel
theorem dX12_walks_19 : decode cX12_walks 19 = .ok (.putfield 77, 3) := by decide +kernel
theorem dX12_walks_22 : decode cX12_walks 22 = .ok (.aload_n 0, 1) := by decide +kernel
theorem dX12_walks_23 : decode cX12_walks 23 = .ok (.iconst 0, 1) := by decide +kernel
theorem dX12_walks_24 : decode cX12_walks 24 = .ok (.putfield 116, 3) := by decide +kernel
theorem dX12_walks_27 : decode cX12_walks 27 = .ok (.aload_n 0, 1) := by decide +kernel
theorem dX12_walks_28 : decode cX12_walks 28 = .ok (.iconst 1, 1) := by decide +kernel
theorem dX12_walks_29 : decode cX12_walks 29 = .ok (.putfield 84, 3) := by decide +kernel
theorem dX12_walks_32 : decode cX12_walks 32 = .ok (.aload_n 0, 1) := by decide +kernel
theorem dX12_walks_33 : decode cX12_walks 33 = .ok (.iload_n 2, 1) := by decide +kernel
theorem dX12_walks_34 : decode cX12_walks 34 = .ok (.putfield 101, 3) := by decide +kernel
theorem dX12_walks_37 : decode cX12_walks 37 = .ok (.aload_n 0, 1) := by decide +kernel
theorem dX12_walks_38 : decode cX12_walks 38 = .ok (.iload_n 3, 1) := by decide +kernel
theorem dX12_walks_39 : decode cX12_walks 39 = .ok (.putfield 104, 3) := by decide +kernel
theorem dX12_walks_42 : decode cX12_walks 42 = .ok (.aload_n 0, 1) := by decide +kernel
theorem dX12_walks_43 : decode cX12_walks 43 = .ok (.iload 4, 2) := by decide +kernel
theorem dX12_walks_45 : decode cX12_walks 45 = .ok (.putfield 107, 3) := by decide +kernel
theorem dX12_walks_48 : decode cX12_walks 48 = .ok (.aload_n 0, 1) := by decide +kernel
theorem dX12_walks_49 : decode cX12_walks 49 = .ok (.invokevirtual 122, 3) := by decide +kernel
theorem dX12_walks_52 : decode cX12_walks 52 = .ok (.istore 5, 2) := by decide +kernel
theorem dX12_walks_54 : decode cX12_walks 54 = .ok (.aload_n 0, 1) := by decide +kernel
theorem dX12_walks_55 : decode cX12_walks 55 = .ok (.aload_n 0, 1) := by decide +kernel
theorem dX12_walks_56 : decode cX12_walks 56 = .ok (.getfield 84, 3) := by decide +kernel
theorem dX12_walks_59 : decode cX12_walks 59 = .ok (.ifCond .eq 18, 3) := by decide +kernel
theorem dX12_walks_62 : decode cX12_walks 62 = .ok (.aload_n 0, 1) := by decide +kernel
theorem dX12_walks_63 : decode cX12_walks 63 = .ok (.getfield 88, 3) := by decide +kernel
theorem dX12_walks_66 : decode cX12_walks 66 = .ok (.aload_n 0, 1) := by decide +kernel
theorem dX12_walks_67 : decode cX12_walks 67 = .ok (.getfield 77, 3) := by decide +kernel
theorem dX12_walks_70 : decode cX12_walks 70 = .ok (.if_icmp .ne 7, 3) := by decide +kernel
theorem dX12_walks_73 : decode cX12_walks 73 = .ok (.iconst 1, 1) := by decide +kernel
theorem dX12_walks_74 : decode cX12_walks 74 = .ok (.goto 4, 3) := by decide +kernel
theorem dX12_walks_77 : decode cX12_walks 77 = .ok (.iconst 0, 1) := by decide +kernel
theorem dX12_walks_78 : decode cX12_walks 78 = .ok (.putfield 84, 3) := by decide +kernel
theorem dX12_walks_81 : decode cX12_walks 81 = .ok (.iload 5, 2) := by decide +kernel
theorem dX12_walks_83 : decode cX12_walks 83 = .ok (.ireturn, 1) := by decide +kernel
theorem dX12_lawOf_0 : decode cX12_lawOf 0 = .ok (.iload_n 1, 1) := by decide +kernel
theorem dX12_lawOf_1 : decode cX12_lawOf 1 = .ok (.ifCond .ne 9, 3) := by decide +kernel
theorem dX12_lawOf_4 : decode cX12_lawOf 4 = .ok (.sipush 300, 3) := by decide +kernel
theorem dX12_lawOf_7 : decode cX12_lawOf 7 = .ok (.goto 4, 3) := by decide +kernel
theorem dX12_lawOf_10 : decode cX12_lawOf 10 = .ok (.iconst 1, 1) := by decide +kernel
theorem dX12_lawOf_11 : decode cX12_lawOf 11 = .ok (.istore 5, 2) := by decide +kernel
theorem dX12_lawOf_13 : decode cX12_lawOf 13 = .ok (.aload_n 0, 1) := by decide +kernel
theorem dX12_lawOf_14 : decode cX12_lawOf 14 = .ok (.getfield 7, 3) := by decide +kernel
theorem dX12_lawOf_17 : decode cX12_lawOf 17 = .ok (.iconst 5, 1) := by decide +kernel
theorem dX12_lawOf_18 : decode cX12_lawOf 18 = .ok (.iload_n 1, 1) := by decide +kernel
theorem dX12_lawOf_19 : decode cX12_lawOf 19 = .ok (.iadd, 1) := by decide +kernel
theorem dX12_lawOf_20 : decode cX12_lawOf 20 = .ok (.iaload, 1) := by decide +kernel
theorem dX12_lawOf_21 : decode cX12_lawOf 21 = .ok (.ifCond .lt 19, 3) := by decide +kernel
theorem dX12_lawOf_24 : decode cX12_lawOf 24 = .ok (.aload_n 0, 1) := by decide +kernel
theorem dX12_lawOf_25 : decode cX12_lawOf 25 = .ok (.iload_n 1, 1) := by decide +kernel
theorem dX12_lawOf_26 : decode cX12_lawOf 26 = .ok (.iload_n 2, 1) := by decide +kernel
theorem dX12_lawOf_27 : decode cX12_lawOf 27 = .ok (.iload_n 3, 1) := by decide +kernel
theorem dX12_lawOf_28 : decode cX12_lawOf 28 = .ok (.iload 4, 2) := by decide +kernel
theorem dX12_lawOf_30 : decode cX12_lawOf 30 = .ok (.invokevirtual 137, 3) := by decide +kernel
theorem dX12_lawOf_33 : decode cX12_lawOf 33 = .ok (.iconst 0, 1) := by decide +kernel
theorem dX12_lawOf_34 : decode cX12_lawOf 34 = .ok (.iload 5, 2) := by decide +kernel
theorem dX12_lawOf_36 : decode cX12_lawOf 36 = .ok (.invokestatic 141, 3) := by decide +kernel
theorem dX12_lawOf_39 : decode cX12_lawOf 39 = .ok (.ireturn, 1) := by decide +kernel
theorem dX12_lawOf_40 : decode cX12_lawOf 40 = .ok (.iload_n 1, 1) := by decide +kernel
theorem dX12_lawOf_41 : decode cX12_lawOf 41 = .ok (.ifCond .ne 15, 3) := by decide +kernel
theorem dX12_lawOf_44 : decode cX12_lawOf 44 = .ok (.iconst 3, 1) := by decide +kernel
theorem dX12_lawOf_45 : decode cX12_lawOf 45 = .ok (.iload_n 2, 1) := by decide +kernel
theorem dX12_lawOf_46 : decode cX12_lawOf 46 = .ok (.iadd, 1) := by decide +kernel
theorem dX12_lawOf_47 : decode cX12_lawOf 47 = .ok (.iconst 0, 1) := by decide +kernel
theorem dX12_lawOf_48 : decode cX12_lawOf 48 = .ok (.iload 5, 2) := by decide +kernel
theorem dX12_lawOf_50 : decode cX12_lawOf 50 = .ok (.invokestatic 141, 3) := by decide +kernel
theorem dX12_lawOf_53 : decode cX12_lawOf 53 = .ok (.goto 14, 3) := by decide +kernel
theorem dX12_lawOf_56 : decode cX12_lawOf 56 = .ok (.iload_n 2, 1) := by decide +kernel
theorem dX12_lawOf_57 : decode cX12_lawOf 57 = .ok (.bipush 60, 2) := by decide +kernel
theorem dX12_lawOf_59 : decode cX12_lawOf 59 = .ok (.if_icmp .le 7, 3) := by decide +kernel
theorem dX12_lawOf_62 : decode cX12_lawOf 62 = .ok (.iconst 1, 1) := by decide +kernel
theorem dX12_lawOf_63 : decode cX12_lawOf 63 = .ok (.goto 4, 3) := by decide +kernel
theorem dX12_lawOf_66 : decode cX12_lawOf 66 = .ok (.iconst 0, 1) := by decide +kernel
theorem dX12_lawOf_67 : decode cX12_lawOf 67 = .ok (.ireturn, 1) := by decide +kernel
theorem dX12_law_0 : decode cX12_law 0 = .ok (.iload_n 1, 1) := by decide +kernel
theorem dX12_law_1 : decode cX12_law 1 = .ok (.iconst 0, 1) := by decide +kernel
theorem dX12_law_2 : decode cX12_law 2 = .ok (.iconst 1, 1) := by decide +kernel
theorem dX12_law_3 : decode cX12_law 3 = .ok (.invokestatic 38, 3) := by decide +kernel
theorem dX12_law_6 : decode cX12_law 6 = .ok (.ifCond .eq 15, 3) := by decide +kernel
theorem dX12_law_9 : decode cX12_law 9 = .ok (.aload_n 0, 1) := by decide +kernel
theorem dX12_law_10 : decode cX12_law 10 = .ok (.iload_n 1, 1) := by decide +kernel
theorem dX12_law_11 : decode cX12_law 11 = .ok (.iload_n 2, 1) := by decide +kernel
theorem dX12_law_12 : decode cX12_law 12 = .ok (.iload_n 3, 1) := by decide +kernel
theorem dX12_law_13 : decode cX12_law 13 = .ok (.iload 4, 2) := by decide +kernel
theorem dX12_law_15 : decode cX12_law 15 = .ok (.invokevirtual 145, 3) := by decide +kernel
theorem dX12_law_18 : decode cX12_law 18 = .ok (.goto 9, 3) := by decide +kernel
theorem dX12_law_21 : decode cX12_law 21 = .ok (.aload_n 0, 1) := by decide +kernel
theorem dX12_law_22 : decode cX12_law 22 = .ok (.ldc 50, 2) := by decide +kernel
theorem dX12_law_24 : decode cX12_law 24 = .ok (.invokevirtual 51, 3) := by decide +kernel
theorem dX12_law_27 : decode cX12_law 27 = .ok (.ireturn, 1) := by decide +kernel
theorem dX12_feed_0 : decode cX12_feed 0 = .ok (.iload_n 3, 1) := by decide +kernel
theorem dX12_feed_1 : decode cX12_feed 1 = .ok (.iconst 1, 1) := by decide +kernel
theorem dX12_feed_2 : decode cX12_feed 2 = .ok (.bipush 8, 2) := by decide +kernel
theorem dX12_feed_4 : decode cX12_feed 4 = .ok (.invokestatic 38, 3) := by decide +kernel
theorem dX12_feed_7 : decode cX12_feed 7 = .ok (.ifCond .ne 10, 3) := by decide +kernel
theorem dX12_feed_10 : decode cX12_feed 10 = .ok (.aload_n 0, 1) := by decide +kernel
theorem dX12_feed_11 : decode cX12_feed 11 = .ok (.ldc 50, 2) := by decide +kernel
theorem dX12_feed_13 : decode cX12_feed 13 = .ok (.invokevirtual 51, 3) := by decide +kernel
theorem dX12_feed_16 : decode cX12_feed 16 = .ok (.ireturn, 1) := by decide +kernel
theorem dX12_feed_17 : decode cX12_feed 17 = .ok (.aload_n 0, 1) := by decide +kernel
theorem dX12_feed_18 : decode cX12_feed 18 = .ok (.getfield 7, 3) := by decide +kernel
theorem dX12_feed_21 : decode cX12_feed 21 = .ok (.iconst 3, 1) := by decide +kernel
theorem dX12_feed_22 : decode cX12_feed 22 = .ok (.iaload, 1) := by decide +kernel
theorem dX12_feed_23 : decode cX12_feed 23 = .ok (.iload_n 3, 1) := by decide +kernel
theorem dX12_feed_24 : decode cX12_feed 24 = .ok (.iadd, 1) := by decide +kernel
theorem dX12_feed_25 : decode cX12_feed 25 = .ok (.bipush 50, 2) := by decide +kernel
theorem dX12_feed_27 : decode cX12_feed 27 = .ok (.if_icmp .le 10, 3) := by decide +kernel
theorem dX12_feed_30 : decode cX12_feed 30 = .ok (.aload_n 0, 1) := by decide +kernel
theorem dX12_feed_31 : decode cX12_feed 31 = .ok (.ldc 55, 2) := by decide +kernel
theorem dX12_feed_33 : decode cX12_feed 33 = .ok (.invokevirtual 51, 3) := by decide +kernel
theorem dX12_feed_36 : decode cX12_feed 36 = .ok (.ireturn, 1) := by decide +kernel
theorem dX12_feed_37 : decode cX12_feed 37 = .ok (.iconst 0, 1) := by decide +kernel
theorem dX12_feed_38 : decode cX12_feed 38 = .ok (.istore 4, 2) := by decide +kernel
theorem dX12_feed_40 : decode cX12_feed 40 = .ok (.iload 4, 2) := by decide +kernel
theorem dX12_feed_42 : decode cX12_feed 42 = .ok (.iload_n 3, 1) := by decide +kernel
theorem dX12_feed_43 : decode cX12_feed 43 = .ok (.if_icmp .ge 45, 3) := by decide +kernel
theorem dX12_feed_46 : decode cX12_feed 46 = .ok (.aload_n 0, 1) := by decide +kernel
theorem dX12_feed_47 : decode cX12_feed 47 = .ok (.getfield 7, 3) := by decide +kernel
theorem dX12_feed_50 : decode cX12_feed 50 = .ok (.bipush 106, 2) := by decide +kernel
theorem dX12_feed_52 : decode cX12_feed 52 = .ok (.aload_n 0, 1) := by decide +kernel
theorem dX12_feed_53 : decode cX12_feed 53 = .ok (.getfield 7, 3) := by decide +kernel
theorem dX12_feed_56 : decode cX12_feed 56 = .ok (.iconst 3, 1) := by decide +kernel
theorem dX12_feed_57 : decode cX12_feed 57 = .ok (.iaload, 1) := by decide +kernel
theorem dX12_feed_58 : decode cX12_feed 58 = .ok (.iadd, 1) := by decide +kernel
theorem dX12_feed_59 : decode cX12_feed 59 = .ok (.lload_n 1, 1) := by decide +kernel
theorem dX12_feed_60 : decode cX12_feed 60 = .ok (.bipush 8, 2) := by decide +kernel
theorem dX12_feed_62 : decode cX12_feed 62 = .ok (.iload 4, 2) := by decide +kernel
theorem dX12_feed_64 : decode cX12_feed 64 = .ok (.imul, 1) := by decide +kernel
theorem dX12_feed_65 : decode cX12_feed 65 = .ok (.lshr, 1) := by decide +kernel
theorem dX12_feed_66 : decode cX12_feed 66 = .ok (.ldc2_w 148, 3) := by decide +kernel
theorem dX12_feed_69 : decode cX12_feed 69 = .ok (.land, 1) := by decide +kernel
theorem dX12_feed_70 : decode cX12_feed 70 = .ok (.l2i, 1) := by decide +kernel
theorem dX12_feed_71 : decode cX12_feed 71 = .ok (.iastore, 1) := by decide +kernel
theorem dX12_feed_72 : decode cX12_feed 72 = .ok (.aload_n 0, 1) := by decide +kernel
theorem dX12_feed_73 : decode cX12_feed 73 = .ok (.getfield 7, 3) := by decide +kernel
theorem dX12_feed_76 : decode cX12_feed 76 = .ok (.iconst 3, 1) := by decide +kernel
theorem dX12_feed_77 : decode cX12_feed 77 = .ok (.dup2, 1) := by decide +kernel
theorem dX12_feed_78 : decode cX12_feed 78 = .ok (.iaload, 1) := by decide +kernel
theorem dX12_feed_79 : decode cX12_feed 79 = .ok (.iconst 1, 1) := by decide +kernel
theorem dX12_feed_80 : decode cX12_feed 80 = .ok (.iadd, 1) := by decide +kernel
theorem dX12_feed_81 : decode cX12_feed 81 = .ok (.iastore, 1) := by decide +kernel
theorem dX12_feed_82 : decode cX12_feed 82 = .ok (.iinc 4 1, 3) := by decide +kernel
theorem dX12_feed_85 : decode cX12_feed 85 = .ok (.goto (-45), 3) := by decide +kernel
theorem dX12_feed_88 : decode cX12_feed 88 = .ok (.aload_n 0, 1) := by decide +kernel
theorem dX12_feed_89 : decode cX12_feed 89 = .ok (.getfield 7, 3) := by decide +kernel
theorem dX12_feed_92 : decode cX12_feed 92 = .ok (.iconst 3, 1) := by decide +kernel
theorem dX12_feed_93 : decode cX12_feed 93 = .ok (.iaload, 1) := by decide +kernel
theorem dX12_feed_94 : decode cX12_feed 94 = .ok (.ireturn, 1) := by decide +kernel
theorem dX12_text_0 : decode cX12_text 0 = .ok (.iload_n 1, 1) := by decide +kernel
theorem dX12_text_1 : decode cX12_text 1 = .ok (.iconst 0, 1) := by decide +kernel
theorem dX12_text_2 : decode cX12_text 2 = .ok (.iconst 1, 1) := by decide +kernel
theorem dX12_text_3 : decode cX12_text 3 = .ok (.invokestatic 38, 3) := by decide +kernel
theorem dX12_text_6 : decode cX12_text 6 = .ok (.ifCond .ne 10, 3) := by decide +kernel
theorem dX12_text_9 : decode cX12_text 9 = .ok (.aload_n 0, 1) := by decide +kernel
theorem dX12_text_10 : decode cX12_text 10 = .ok (.ldc 50, 2) := by decide +kernel
theorem dX12_text_12 : decode cX12_text 12 = .ok (.invokevirtual 51, 3) := by decide +kernel
theorem dX12_text_15 : decode cX12_text 15 = .ok (.ireturn, 1) := by decide +kernel
theorem dX12_text_16 : decode cX12_text 16 = .ok (.aload_n 0, 1) := by decide +kernel
theorem dX12_text_17 : decode cX12_text 17 = .ok (.aload_n 0, 1) := by decide +kernel
theorem dX12_text_18 : decode cX12_text 18 = .ok (.getfield 7, 3) := by decide +kernel
theorem dX12_text_21 : decode cX12_text 21 = .ok (.aload_n 0, 1) := by decide +kernel
theorem dX12_text_22 : decode cX12_text 22 = .ok (.getfield 16, 3) := by decide +kernel
theorem dX12_text_25 : decode cX12_text 25 = .ok (.invokevirtual 150, 3) := by decide +kernel
theorem dX12_text_28 : decode cX12_text 28 = .ok (.iconst 0, 1) := by decide +kernel
theorem dX12_text_29 : decode cX12_text 29 = .ok (.istore_n 2, 1) := by decide +kernel
theorem dX12_text_30 : decode cX12_text 30 = .ok (.iload_n 2, 1) := by decide +kernel
theorem dX12_text_31 : decode cX12_text 31 = .ok (.bipush 50, 2) := by decide +kernel
theorem dX12_text_33 : decode cX12_text 33 = .ok (.if_icmp .ge 33, 3) := by decide +kernel
theorem dX12_text_36 : decode cX12_text 36 = .ok (.aload_n 0, 1) := by decide +kernel
theorem dX12_text_37 : decode cX12_text 37 = .ok (.getfield 7, 3) := by decide +kernel
theorem dX12_text_40 : decode cX12_text 40 = .ok (.sipush 176, 3) := by decide +kernel
theorem dX12_text_43 : decode cX12_text 43 = .ok (.bipush 50, 2) := by decide +kernel
theorem dX12_text_45 : decode cX12_text 45 = .ok (.iload_n 1, 1) := by decide +kernel
theorem dX12_text_46 : decode cX12_text 46 = .ok (.imul, 1) := by decide +kernel
theorem dX12_text_47 : decode cX12_text 47 = .ok (.iadd, 1) := by decide +kernel
theorem dX12_text_48 : decode cX12_text 48 = .ok (.iload_n 2, 1) := by decide +kernel
theorem dX12_text_49 : decode cX12_text 49 = .ok (.iadd, 1) := by decide +kernel
theorem dX12_text_50 : decode cX12_text 50 = .ok (.aload_n 0, 1) := by decide +kernel
theorem dX12_text_51 : decode cX12_text 51 = .ok (.getfield 7, 3) := by decide +kernel
theorem dX12_text_54 : decode cX12_text 54 = .ok (.bipush 106, 2) := by decide +kernel
theorem dX12_text_56 : decode cX12_text 56 = .ok (.iload_n 2, 1) := by decide +kernel
theorem dX12_text_57 : decode cX12_text 57 = .ok (.iadd, 1) := by decide +kernel
theorem dX12_text_58 : decode cX12_text 58 = .ok (.iaload, 1) := by decide +kernel
theorem dX12_text_59 : decode cX12_text 59 = .ok (.iastore, 1) := by decide +kernel
theorem dX12_text_60 : decode cX12_text 60 = .ok (.iinc 2 1, 3) := by decide +kernel
theorem dX12_text_63 : decode cX12_text 63 = .ok (.goto (-33), 3) := by decide +kernel
theorem dX12_text_66 : decode cX12_text 66 = .ok (.aload_n 0, 1) := by decide +kernel
theorem dX12_text_67 : decode cX12_text 67 = .ok (.getfield 7, 3) := by decide +kernel
theorem dX12_text_70 : decode cX12_text 70 = .ok (.iconst 5, 1) := by decide +kernel
theorem dX12_text_71 : decode cX12_text 71 = .ok (.iload_n 1, 1) := by decide +kernel
theorem dX12_text_72 : decode cX12_text 72 = .ok (.iadd, 1) := by decide +kernel
theorem dX12_text_73 : decode cX12_text 73 = .ok (.aload_n 0, 1) := by decide +kernel
theorem dX12_text_74 : decode cX12_text 74 = .ok (.getfield 7, 3) := by decide +kernel
theorem dX12_text_77 : decode cX12_text 77 = .ok (.iconst 3, 1) := by decide +kernel
theorem dX12_text_78 : decode cX12_text 78 = .ok (.iaload, 1) := by decide +kernel
theorem dX12_text_79 : decode cX12_text 79 = .ok (.iastore, 1) := by decide +kernel
theorem dX12_text_80 : decode cX12_text 80 = .ok (.aload_n 0, 1) := by decide +kernel
theorem dX12_text_81 : decode cX12_text 81 = .ok (.iload_n 1, 1) := by decide +kernel
theorem dX12_text_82 : decode cX12_text 82 = .ok (.iconst 1, 1) := by decide +kernel
theorem dX12_text_83 : decode cX12_text 83 = .ok (.iconst 1, 1) := by decide +kernel
theorem dX12_text_84 : decode cX12_text 84 = .ok (.iconst 1, 1) := by decide +kernel
theorem dX12_text_85 : decode cX12_text 85 = .ok (.invokevirtual 137, 3) := by decide +kernel
theorem dX12_text_88 : decode cX12_text 88 = .ok (.istore_n 2, 1) := by decide +kernel
theorem dX12_text_89 : decode cX12_text 89 = .ok (.aload_n 0, 1) := by decide +kernel
theorem dX12_text_90 : decode cX12_text 90 = .ok (.getfield 84, 3) := by decide +kernel
theorem dX12_text_93 : decode cX12_text 93 = .ok (.ifCond .eq 12, 3) := by decide +kernel
theorem dX12_text_96 : decode cX12_text 96 = .ok (.iload_n 2, 1) := by decide +kernel
theorem dX12_text_97 : decode cX12_text 97 = .ok (.iload_n 2, 1) := by decide +kernel
theorem dX12_text_98 : decode cX12_text 98 = .ok (.if_icmp .ne 7, 3) := by decide +kernel
theorem dX12_text_101 : decode cX12_text 101 = .ok (.iconst 1, 1) := by decide +kernel
theorem dX12_text_102 : decode cX12_text 102 = .ok (.goto 4, 3) := by decide +kernel
theorem dX12_text_105 : decode cX12_text 105 = .ok (.iconst 0, 1) := by decide +kernel
theorem dX12_text_106 : decode cX12_text 106 = .ok (.istore_n 3, 1) := by decide +kernel
theorem dX12_text_107 : decode cX12_text 107 = .ok (.aload_n 0, 1) := by decide +kernel
theorem dX12_text_108 : decode cX12_text 108 = .ok (.getfield 88, 3) := by decide +kernel
theorem dX12_text_111 : decode cX12_text 111 = .ok (.istore 4, 2) := by decide +kernel
theorem dX12_text_113 : decode cX12_text 113 = .ok (.iload_n 3, 1) := by decide +kernel
theorem dX12_text_114 : decode cX12_text 114 = .ok (.ifCond .ne 15, 3) := by decide +kernel
theorem dX12_text_117 : decode cX12_text 117 = .ok (.aload_n 0, 1) := by decide +kernel
theorem dX12_text_118 : decode cX12_text 118 = .ok (.aload_n 0, 1) := by decide +kernel
theorem dX12_text_119 : decode cX12_text 119 = .ok (.getfield 16, 3) := by decide +kernel
theorem dX12_text_122 : decode cX12_text 122 = .ok (.aload_n 0, 1) := by decide +kernel
theorem dX12_text_123 : decode cX12_text 123 = .ok (.getfield 7, 3) := by decide +kernel
theorem dX12_text_126 : decode cX12_text 126 = .ok (.invokevirtual 150, 3) := by decide +kernel
theorem dX12_text_129 : decode cX12_text 129 = .ok (.aload_n 0, 1) := by decide +kernel
theorem dX12_text_130 : decode cX12_text 130 = .ok (.getfield 7, 3) := by decide +kernel
theorem dX12_text_133 : decode cX12_text 133 = .ok (.iconst 3, 1) := by decide +kernel
theorem dX12_text_134 : decode cX12_text 134 = .ok (.iconst 0, 1) := by decide +kernel
theorem dX12_text_135 : decode cX12_text 135 = .ok (.iastore, 1) := by decide +kernel
theorem dX12_text_136 : decode cX12_text 136 = .ok (.iload_n 3, 1) := by decide +kernel
theorem dX12_text_137 : decode cX12_text 137 = .ok (.ifCond .eq 7, 3) := by decide +kernel
theorem dX12_text_140 : decode cX12_text 140 = .ok (.iconst 1, 1) := by decide +kernel
theorem dX12_text_141 : decode cX12_text 141 = .ok (.goto 8, 3) := by decide +kernel
theorem dX12_text_144 : decode cX12_text 144 = .ok (.bipush (-10), 2) := by decide +kernel
theorem dX12_text_146 : decode cX12_text 146 = .ok (.iload 4, 2) := by decide +kernel
theorem dX12_text_148 : decode cX12_text 148 = .ok (.isub, 1) := by decide +kernel
theorem dX12_text_149 : decode cX12_text 149 = .ok (.ireturn, 1) := by decide +kernel
theorem dX12_lateAt_0 : decode cX12_lateAt 0 = .ok (.aload_n 0, 1) := by decide +kernel
theorem dX12_lateAt_1 : decode cX12_lateAt 1 = .ok (.iload_n 1, 1) := by decide +kernel
theorem dX12_lateAt_2 : decode cX12_lateAt 2 = .ok (.iconst 1, 1) := by decide +kernel
theorem dX12_lateAt_3 : decode cX12_lateAt 3 = .ok (.invokevirtual 64, 3) := by decide +kernel
theorem dX12_lateAt_6 : decode cX12_lateAt 6 = .ok (.istore_n 3, 1) := by decide +kernel
theorem dX12_lateAt_7 : decode cX12_lateAt 7 = .ok (.aload_n 0, 1) := by decide +kernel
theorem dX12_lateAt_8 : decode cX12_lateAt 8 = .ok (.iconst 0, 1) := by decide +kernel
theorem dX12_lateAt_9 : decode cX12_lateAt 9 = .ok (.iload_n 3, 1) := by decide +kernel
theorem dX12_lateAt_10 : decode cX12_lateAt 10 = .ok (.aload_n 0, 1) := by decide +kernel
theorem dX12_lateAt_11 : decode cX12_lateAt 11 = .ok (.iload_n 1, 1) := by decide +kernel
theorem dX12_lateAt_12 : decode cX12_lateAt 12 = .ok (.iconst 0, 1) := by decide +kernel
theorem dX12_lateAt_13 : decode cX12_lateAt 13 = .ok (.invokevirtual 64, 3) := by decide +kernel
theorem dX12_lateAt_16 : decode cX12_lateAt 16 = .ok (.iload_n 2, 1) := by decide +kernel
theorem dX12_lateAt_17 : decode cX12_lateAt 17 = .ok (.bipush 60, 2) := by decide +kernel
theorem dX12_lateAt_19 : decode cX12_lateAt 19 = .ok (.irem, 1) := by decide +kernel
theorem dX12_lateAt_20 : decode cX12_lateAt 20 = .ok (.invokevirtual 145, 3) := by decide +kernel
theorem dX12_lateAt_23 : decode cX12_lateAt 23 = .ok (.istore 4, 2) := by decide +kernel
theorem dX12_lateAt_25 : decode cX12_lateAt 25 = .ok (.aload_n 0, 1) := by decide +kernel
theorem dX12_lateAt_26 : decode cX12_lateAt 26 = .ok (.iload_n 1, 1) := by decide +kernel
theorem dX12_lateAt_27 : decode cX12_lateAt 27 = .ok (.iconst 0, 1) := by decide +kernel
theorem dX12_lateAt_28 : decode cX12_lateAt 28 = .ok (.invokevirtual 64, 3) := by decide +kernel
theorem dX12_lateAt_31 : decode cX12_lateAt 31 = .ok (.tableswitch 47 2 6 #[33, 37, 42, 35, 33], 33) := by decide +kernel
theorem dX12_lateAt_64 : decode cX12_lateAt 64 = .ok (.iconst 0, 1) := by decide +kernel
theorem dX12_lateAt_65 : decode cX12_lateAt 65 = .ok (.ireturn, 1) := by decide +kernel
theorem dX12_lateAt_66 : decode cX12_lateAt 66 = .ok (.iconst 1, 1) := by decide +kernel
theorem dX12_lateAt_67 : decode cX12_lateAt 67 = .ok (.ireturn, 1) := by decide +kernel
theorem dX12_lateAt_68 : decode cX12_lateAt 68 = .ok (.iload 4, 2) := by decide +kernel
theorem dX12_lateAt_70 : decode cX12_lateAt 70 = .ok (.iconst 2, 1) := by decide +kernel
theorem dX12_lateAt_71 : decode cX12_lateAt 71 = .ok (.idiv, 1) := by decide +kernel
theorem dX12_lateAt_72 : decode cX12_lateAt 72 = .ok (.ireturn, 1) := by decide +kernel
theorem dX12_lateAt_73 : decode cX12_lateAt 73 = .ok (.iload 4, 2) := by decide +kernel
theorem dX12_lateAt_75 : decode cX12_lateAt 75 = .ok (.iload_n 3, 1) := by decide +kernel
theorem dX12_lateAt_76 : decode cX12_lateAt 76 = .ok (.iadd, 1) := by decide +kernel
theorem dX12_lateAt_77 : decode cX12_lateAt 77 = .ok (.ireturn, 1) := by decide +kernel
theorem dX12_lateAt_78 : decode cX12_lateAt 78 = .ok (.iload 4, 2) := by decide +kernel
theorem dX12_lateAt_80 : decode cX12_lateAt 80 = .ok (.ireturn, 1) := by decide +kernel
theorem dX12_lasts_0 : decode cX12_lasts 0 = .ok (.aload_n 0, 1) := by decide +kernel
theorem dX12_lasts_1 : decode cX12_lasts 1 = .ok (.iload_n 1, 1) := by decide +kernel
theorem dX12_lasts_2 : decode cX12_lasts 2 = .ok (.iconst 0, 1) := by decide +kernel
theorem dX12_lasts_3 : decode cX12_lasts 3 = .ok (.invokevirtual 64, 3) := by decide +kernel
theorem dX12_lasts_6 : decode cX12_lasts 6 = .ok (.tableswitch 55 3 6 #[30, 41, 55, 51], 30) := by decide +kernel
theorem dX12_lasts_36 : decode cX12_lasts 36 = .ok (.bipush 10, 2) := by decide +kernel
theorem dX12_lasts_38 : decode cX12_lasts 38 = .ok (.aload_n 0, 1) := by decide +kernel
theorem dX12_lasts_39 : decode cX12_lasts 39 = .ok (.getfield 7, 3) := by decide +kernel
theorem dX12_lasts_42 : decode cX12_lasts 42 = .ok (.bipush 9, 2) := by decide +kernel
theorem dX12_lasts_44 : decode cX12_lasts 44 = .ok (.iaload, 1) := by decide +kernel
theorem dX12_lasts_45 : decode cX12_lasts 45 = .ok (.imul, 1) := by decide +kernel
theorem dX12_lasts_46 : decode cX12_lasts 46 = .ok (.ireturn, 1) := by decide +kernel
theorem dX12_lasts_47 : decode cX12_lasts 47 = .ok (.aload_n 0, 1) := by decide +kernel
theorem dX12_lasts_48 : decode cX12_lasts 48 = .ok (.getfield 7, 3) := by decide +kernel
theorem dX12_lasts_51 : decode cX12_lasts 51 = .ok (.bipush 9, 2) := by decide +kernel
theorem dX12_lasts_53 : decode cX12_lasts 53 = .ok (.iaload, 1) := by decide +kernel
theorem dX12_lasts_54 : decode cX12_lasts 54 = .ok (.iconst 2, 1) := by decide +kernel
theorem dX12_lasts_55 : decode cX12_lasts 55 = .ok (.idiv, 1) := by decide +kernel
theorem dX12_lasts_56 : decode cX12_lasts 56 = .ok (.ireturn, 1) := by decide +kernel
theorem dX12_lasts_57 : decode cX12_lasts 57 = .ok (.sipush 9999, 3) := by decide +kernel
theorem dX12_lasts_60 : decode cX12_lasts 60 = .ok (.ireturn, 1) := by decide +kernel
theorem dX12_lasts_61 : decode cX12_lasts 61 = .ok (.aload_n 0, 1) := by decide +kernel
theorem dX12_lasts_62 : decode cX12_lasts 62 = .ok (.getfield 7, 3) := by decide +kernel
theorem dX12_lasts_65 : decode cX12_lasts 65 = .ok (.bipush 9, 2) := by decide +kernel
theorem dX12_lasts_67 : decode cX12_lasts 67 = .ok (.iaload, 1) := by decide +kernel
theorem dX12_lasts_68 : decode cX12_lasts 68 = .ok (.ireturn, 1) := by decide +kernel
theorem dX12_numbers_0 : decode cX12_numbers 0 = .ok (.iconst 1, 1) := by decide +kernel
theorem dX12_numbers_1 : decode cX12_numbers 1 = .ok (.istore_n 1, 1) := by decide +kernel
theorem dX12_numbers_2 : decode cX12_numbers 2 = .ok (.iconst 0, 1) := by decide +kernel
theorem dX12_numbers_3 : decode cX12_numbers 3 = .ok (.istore_n 2, 1) := by decide +kernel
theorem dX12_numbers_4 : decode cX12_numbers 4 = .ok (.iload_n 2, 1) := by decide +kernel
theorem dX12_numbers_5 : decode cX12_numbers 5 = .ok (.aload_n 0, 1) := by decide +kernel
theorem dX12_numbers_6 : decode cX12_numbers 6 = .ok (.getfield 7, 3) := by decide +kernel
theorem dX12_numbers_9 : decode cX12_numbers 9 = .ok (.bipush 8, 2) := by decide +kernel
theorem dX12_numbers_11 : decode cX12_numbers 11 = .ok (.iaload, 1) := by decide +kernel
theorem dX12_numbers_12 : decode cX12_numbers 12 = .ok (.if_icmp .ge 14, 3) := by decide +kernel
theorem dX12_numbers_15 : decode cX12_numbers 15 = .ok (.iload_n 1, 1) := by decide +kernel
theorem dX12_numbers_16 : decode cX12_numbers 16 = .ok (.bipush 10, 2) := by decide +kernel
theorem dX12_numbers_18 : decode cX12_numbers 18 = .ok (.imul, 1) := by decide +kernel
theorem dX12_numbers_19 : decode cX12_numbers 19 = .ok (.istore_n 1, 1) := by decide +kernel
theorem dX12_numbers_20 : decode cX12_numbers 20 = .ok (.iinc 2 1, 3) := by decide +kernel
theorem dX12_numbers_23 : decode cX12_numbers 23 = .ok (.goto (-19), 3) := by decide +kernel
theorem dX12_numbers_26 : decode cX12_numbers 26 = .ok (.iload_n 1, 1) := by decide +kernel
theorem dX12_numbers_27 : decode cX12_numbers 27 = .ok (.ireturn, 1) := by decide +kernel
theorem dX12_drawn_0 : decode cX12_drawn 0 = .ok (.aload_n 0, 1) := by decide +kernel
theorem dX12_drawn_1 : decode cX12_drawn 1 = .ok (.getfield 7, 3) := by decide +kernel
theorem dX12_drawn_4 : decode cX12_drawn 4 = .ok (.iconst 1, 1) := by decide +kernel
theorem dX12_drawn_5 : decode cX12_drawn 5 = .ok (.aload_n 0, 1) := by decide +kernel
theorem dX12_drawn_6 : decode cX12_drawn 6 = .ok (.getfield 7, 3) := by decide +kernel
theorem dX12_drawn_9 : decode cX12_drawn 9 = .ok (.iconst 1, 1) := by decide +kernel
theorem dX12_drawn_10 : decode cX12_drawn 10 = .ok (.iaload, 1) := by decide +kernel
theorem dX12_drawn_11 : decode cX12_drawn 11 = .ok (.ldc 154, 2) := by decide +kernel
theorem dX12_drawn_13 : decode cX12_drawn 13 = .ok (.imul, 1) := by decide +kernel
theorem dX12_drawn_14 : decode cX12_drawn 14 = .ok (.sipush 12345, 3) := by decide +kernel
theorem dX12_drawn_17 : decode cX12_drawn 17 = .ok (.iadd, 1) := by decide +kernel
theorem dX12_drawn_18 : decode cX12_drawn 18 = .ok (.iastore, 1) := by decide +kernel
theorem dX12_drawn_19 : decode cX12_drawn 19 = .ok (.aload_n 0, 1) := by decide +kernel
theorem dX12_drawn_20 : decode cX12_drawn 20 = .ok (.getfield 7, 3) := by decide +kernel
theorem dX12_drawn_23 : decode cX12_drawn 23 = .ok (.iconst 1, 1) := by decide +kernel
theorem dX12_drawn_24 : decode cX12_drawn 24 = .ok (.iaload, 1) := by decide +kernel
theorem dX12_drawn_25 : decode cX12_drawn 25 = .ok (.bipush 8, 2) := by decide +kernel
theorem dX12_drawn_27 : decode cX12_drawn 27 = .ok (.iushr, 1) := by decide +kernel
theorem dX12_drawn_28 : decode cX12_drawn 28 = .ok (.iload_n 1, 1) := by decide +kernel
theorem dX12_drawn_29 : decode cX12_drawn 29 = .ok (.irem, 1) := by decide +kernel
theorem dX12_drawn_30 : decode cX12_drawn 30 = .ok (.ireturn, 1) := by decide +kernel
theorem dX12_asks_0 : decode cX12_asks 0 = .ok (.aload_n 0, 1) := by decide +kernel
theorem dX12_asks_1 : decode cX12_asks 1 = .ok (.aload_n 0, 1) := by decide +kernel
theorem dX12_asks_2 : decode cX12_asks 2 = .ok (.invokevirtual 155, 3) := by decide +kernel
theorem dX12_asks_5 : decode cX12_asks 5 = .ok (.invokevirtual 158, 3) := by decide +kernel
theorem dX12_asks_8 : decode cX12_asks 8 = .ok (.istore_n 2, 1) := by decide +kernel
theorem dX12_asks_9 : decode cX12_asks 9 = .ok (.aload_n 0, 1) := by decide +kernel
theorem dX12_asks_10 : decode cX12_asks 10 = .ok (.getfield 7, 3) := by decide +kernel
theorem dX12_asks_13 : decode cX12_asks 13 = .ok (.bipush 7, 2) := by decide +kernel
theorem dX12_asks_15 : decode cX12_asks 15 = .ok (.iaload, 1) := by decide +kernel
theorem dX12_asks_16 : decode cX12_asks 16 = .ok (.bipush 10, 2) := by decide +kernel
theorem dX12_asks_18 : decode cX12_asks 18 = .ok (.if_icmp .ne 44, 3) := by decide +kernel
theorem dX12_asks_21 : decode cX12_asks 21 = .ok (.bipush 46, 2) := by decide +kernel
theorem dX12_asks_23 : decode cX12_asks 23 = .ok (.istore_n 3, 1) := by decide +kernel
theorem dX12_asks_24 : decode cX12_asks 24 = .ok (.iload_n 3, 1) := by decide +kernel
theorem dX12_asks_25 : decode cX12_asks 25 = .ok (.bipush 100, 2) := by decide +kernel
theorem dX12_asks_27 : decode cX12_asks 27 = .ok (.if_icmp .ge 24, 3) := by decide +kernel
theorem dX12_asks_30 : decode cX12_asks 30 = .ok (.aload_n 0, 1) := by decide +kernel
theorem dX12_asks_31 : decode cX12_asks 31 = .ok (.getfield 7, 3) := by decide +kernel
theorem dX12_asks_34 : decode cX12_asks 34 = .ok (.iload_n 3, 1) := by decide +kernel
theorem dX12_asks_35 : decode cX12_asks 35 = .ok (.aload_n 0, 1) := by decide +kernel
theorem dX12_asks_36 : decode cX12_asks 36 = .ok (.getfield 7, 3) := by decide +kernel
theorem dX12_asks_39 : decode cX12_asks 39 = .ok (.iload_n 3, 1) := by decide +kernel
theorem dX12_asks_40 : decode cX12_asks 40 = .ok (.bipush 6, 2) := by decide +kernel
theorem dX12_asks_42 : decode cX12_asks 42 = .ok (.iadd, 1) := by decide +kernel
theorem dX12_asks_43 : decode cX12_asks 43 = .ok (.iaload, 1) := by decide +kernel
theorem dX12_asks_44 : decode cX12_asks 44 = .ok (.iastore, 1) := by decide +kernel
theorem dX12_asks_45 : decode cX12_asks 45 = .ok (.iinc 3 1, 3) := by decide +kernel
theorem dX12_asks_48 : decode cX12_asks 48 = .ok (.goto (-24), 3) := by decide +kernel
theorem dX12_asks_51 : decode cX12_asks 51 = .ok (.aload_n 0, 1) := by decide +kernel
theorem dX12_asks_52 : decode cX12_asks 52 = .ok (.getfield 7, 3) := by decide +kernel
theorem dX12_asks_55 : decode cX12_asks 55 = .ok (.bipush 7, 2) := by decide +kernel
theorem dX12_asks_57 : decode cX12_asks 57 = .ok (.dup2, 1) := by decide +kernel
theorem dX12_asks_58 : decode cX12_asks 58 = .ok (.iaload, 1) := by decide +kernel
theorem dX12_asks_59 : decode cX12_asks 59 = .ok (.iconst 1, 1) := by decide +kernel
theorem dX12_asks_60 : decode cX12_asks 60 = .ok (.isub, 1) := by decide +kernel
theorem dX12_asks_61 : decode cX12_asks 61 = .ok (.iastore, 1) := by decide +kernel
theorem dX12_asks_62 : decode cX12_asks 62 = .ok (.bipush 46, 2) := by decide +kernel
theorem dX12_asks_64 : decode cX12_asks 64 = .ok (.bipush 6, 2) := by decide +kernel
theorem dX12_asks_66 : decode cX12_asks 66 = .ok (.aload_n 0, 1) := by decide +kernel
theorem dX12_asks_67 : decode cX12_asks 67 = .ok (.getfield 7, 3) := by decide +kernel
theorem dX12_asks_70 : decode cX12_asks 70 = .ok (.bipush 7, 2) := by decide +kernel
theorem dX12_asks_72 : decode cX12_asks 72 = .ok (.iaload, 1) := by decide +kernel
theorem dX12_asks_73 : decode cX12_asks 73 = .ok (.imul, 1) := by decide +kernel
theorem dX12_asks_74 : decode cX12_asks 74 = .ok (.iadd, 1) := by decide +kernel
theorem dX12_asks_75 : decode cX12_asks 75 = .ok (.istore_n 3, 1) := by decide +kernel
theorem dX12_asks_76 : decode cX12_asks 76 = .ok (.aload_n 0, 1) := by decide +kernel
theorem dX12_asks_77 : decode cX12_asks 77 = .ok (.getfield 7, 3) := by decide +kernel
theorem dX12_asks_80 : decode cX12_asks 80 = .ok (.iload_n 3, 1) := by decide +kernel
theorem dX12_asks_81 : decode cX12_asks 81 = .ok (.iload_n 1, 1) := by decide +kernel
theorem dX12_asks_82 : decode cX12_asks 82 = .ok (.iastore, 1) := by decide +kernel
theorem dX12_asks_83 : decode cX12_asks 83 = .ok (.aload_n 0, 1) := by decide +kernel
theorem dX12_asks_84 : decode cX12_asks 84 = .ok (.getfield 7, 3) := by decide +kernel
theorem dX12_asks_87 : decode cX12_asks 87 = .ok (.iload_n 3, 1) := by decide +kernel
theorem dX12_asks_88 : decode cX12_asks 88 = .ok (.iconst 1, 1) := by decide +kernel
theorem dX12_asks_89 : decode cX12_asks 89 = .ok (.iadd, 1) := by decide +kernel
theorem dX12_asks_90 : decode cX12_asks 90 = .ok (.iload_n 2, 1) := by decide +kernel
theorem dX12_asks_91 : decode cX12_asks 91 = .ok (.iastore, 1) := by decide +kernel
theorem dX12_asks_92 : decode cX12_asks 92 = .ok (.aload_n 0, 1) := by decide +kernel
theorem dX12_asks_93 : decode cX12_asks 93 = .ok (.getfield 7, 3) := by decide +kernel
theorem dX12_asks_96 : decode cX12_asks 96 = .ok (.iload_n 3, 1) := by decide +kernel
theorem dX12_asks_97 : decode cX12_asks 97 = .ok (.iconst 2, 1) := by decide +kernel
theorem dX12_asks_98 : decode cX12_asks 98 = .ok (.iadd, 1) := by decide +kernel
theorem dX12_asks_99 : decode cX12_asks 99 = .ok (.aload_n 0, 1) := by decide +kernel
theorem dX12_asks_100 : decode cX12_asks 100 = .ok (.getfield 7, 3) := by decide +kernel
theorem dX12_asks_103 : decode cX12_asks 103 = .ok (.iconst 0, 1) := by decide +kernel
theorem dX12_asks_104 : decode cX12_asks 104 = .ok (.iaload, 1) := by decide +kernel
theorem dX12_asks_105 : decode cX12_asks 105 = .ok (.iastore, 1) := by decide +kernel
theorem dX12_asks_106 : decode cX12_asks 106 = .ok (.aload_n 0, 1) := by decide +kernel
theorem dX12_asks_107 : decode cX12_asks 107 = .ok (.getfield 7, 3) := by decide +kernel
theorem dX12_asks_110 : decode cX12_asks 110 = .ok (.iload_n 3, 1) := by decide +kernel
theorem dX12_asks_111 : decode cX12_asks 111 = .ok (.iconst 3, 1) := by decide +kernel
theorem dX12_asks_112 : decode cX12_asks 112 = .ok (.iadd, 1) := by decide +kernel
theorem dX12_asks_113 : decode cX12_asks 113 = .ok (.aload_n 0, 1) := by decide +kernel
theorem dX12_asks_114 : decode cX12_asks 114 = .ok (.getfield 7, 3) := by decide +kernel
theorem dX12_asks_117 : decode cX12_asks 117 = .ok (.iconst 0, 1) := by decide +kernel
theorem dX12_asks_118 : decode cX12_asks 118 = .ok (.iaload, 1) := by decide +kernel
theorem dX12_asks_119 : decode cX12_asks 119 = .ok (.aload_n 0, 1) := by decide +kernel
theorem dX12_asks_120 : decode cX12_asks 120 = .ok (.iload_n 1, 1) := by decide +kernel
theorem dX12_asks_121 : decode cX12_asks 121 = .ok (.aload_n 0, 1) := by decide +kernel
theorem dX12_asks_122 : decode cX12_asks 122 = .ok (.getfield 7, 3) := by decide +kernel
theorem dX12_asks_125 : decode cX12_asks 125 = .ok (.iconst 0, 1) := by decide +kernel
theorem dX12_asks_126 : decode cX12_asks 126 = .ok (.iaload, 1) := by decide +kernel
theorem dX12_asks_127 : decode cX12_asks 127 = .ok (.invokevirtual 67, 3) := by decide +kernel
theorem dX12_asks_130 : decode cX12_asks 130 = .ok (.iadd, 1) := by decide +kernel
theorem dX12_asks_131 : decode cX12_asks 131 = .ok (.iastore, 1) := by decide +kernel
theorem dX12_asks_132 : decode cX12_asks 132 = .ok (.aload_n 0, 1) := by decide +kernel
theorem dX12_asks_133 : decode cX12_asks 133 = .ok (.getfield 7, 3) := by decide +kernel
theorem dX12_asks_136 : decode cX12_asks 136 = .ok (.iload_n 3, 1) := by decide +kernel
theorem dX12_asks_137 : decode cX12_asks 137 = .ok (.iconst 4, 1) := by decide +kernel
theorem dX12_asks_138 : decode cX12_asks 138 = .ok (.iadd, 1) := by decide +kernel
theorem dX12_asks_139 : decode cX12_asks 139 = .ok (.aload_n 0, 1) := by decide +kernel
theorem dX12_asks_140 : decode cX12_asks 140 = .ok (.getfield 7, 3) := by decide +kernel
theorem dX12_asks_143 : decode cX12_asks 143 = .ok (.iconst 0, 1) := by decide +kernel
theorem dX12_asks_144 : decode cX12_asks 144 = .ok (.iaload, 1) := by decide +kernel
theorem dX12_asks_145 : decode cX12_asks 145 = .ok (.aload_n 0, 1) := by decide +kernel
theorem dX12_asks_146 : decode cX12_asks 146 = .ok (.iload_n 1, 1) := by decide +kernel
theorem dX12_asks_147 : decode cX12_asks 147 = .ok (.invokevirtual 70, 3) := by decide +kernel
theorem dX12_asks_150 : decode cX12_asks 150 = .ok (.iadd, 1) := by decide +kernel
theorem dX12_asks_151 : decode cX12_asks 151 = .ok (.iastore, 1) := by decide +kernel
theorem dX12_asks_152 : decode cX12_asks 152 = .ok (.aload_n 0, 1) := by decide +kernel
theorem dX12_asks_153 : decode cX12_asks 153 = .ok (.getfield 7, 3) := by decide +kernel
theorem dX12_asks_156 : decode cX12_asks 156 = .ok (.iload_n 3, 1) := by decide +kernel
theorem dX12_asks_157 : decode cX12_asks 157 = .ok (.iconst 5, 1) := by decide +kernel
theorem dX12_asks_158 : decode cX12_asks 158 = .ok (.iadd, 1) := by decide +kernel
theorem dX12_asks_159 : decode cX12_asks 159 = .ok (.iconst 0, 1) := by decide +kernel
theorem dX12_asks_160 : decode cX12_asks 160 = .ok (.iastore, 1) := by decide +kernel
theorem dX12_asks_161 : decode cX12_asks 161 = .ok (.aload_n 0, 1) := by decide +kernel
theorem dX12_asks_162 : decode cX12_asks 162 = .ok (.getfield 7, 3) := by decide +kernel
theorem dX12_asks_165 : decode cX12_asks 165 = .ok (.bipush 7, 2) := by decide +kernel
theorem dX12_asks_167 : decode cX12_asks 167 = .ok (.dup2, 1) := by decide +kernel
theorem dX12_asks_168 : decode cX12_asks 168 = .ok (.iaload, 1) := by decide +kernel
theorem dX12_asks_169 : decode cX12_asks 169 = .ok (.iconst 1, 1) := by decide +kernel
theorem dX12_asks_170 : decode cX12_asks 170 = .ok (.iadd, 1) := by decide +kernel
theorem dX12_asks_171 : decode cX12_asks 171 = .ok (.iastore, 1) := by decide +kernel
theorem dX12_asks_172 : decode cX12_asks 172 = .ok (.aload_n 0, 1) := by decide +kernel
theorem dX12_asks_173 : decode cX12_asks 173 = .ok (.getfield 7, 3) := by decide +kernel
theorem dX12_asks_176 : decode cX12_asks 176 = .ok (.bipush 7, 2) := by decide +kernel
theorem dX12_asks_178 : decode cX12_asks 178 = .ok (.iaload, 1) := by decide +kernel
theorem dX12_asks_179 : decode cX12_asks 179 = .ok (.iconst 1, 1) := by decide +kernel
theorem dX12_asks_180 : decode cX12_asks 180 = .ok (.isub, 1) := by decide +kernel
theorem dX12_asks_181 : decode cX12_asks 181 = .ok (.ireturn, 1) := by decide +kernel
theorem dX12_ask_0 : decode cX12_ask 0 = .ok (.aload_n 0, 1) := by decide +kernel
theorem dX12_ask_1 : decode cX12_ask 1 = .ok (.iload_n 1, 1) := by decide +kernel
theorem dX12_ask_2 : decode cX12_ask 2 = .ok (.invokevirtual 60, 3) := by decide +kernel
theorem dX12_ask_5 : decode cX12_ask 5 = .ok (.ifCond .ne 10, 3) := by decide +kernel
theorem dX12_ask_8 : decode cX12_ask 8 = .ok (.aload_n 0, 1) := by decide +kernel
theorem dX12_ask_9 : decode cX12_ask 9 = .ok (.ldc 50, 2) := by decide +kernel
theorem dX12_ask_11 : decode cX12_ask 11 = .ok (.invokevirtual 51, 3) := by decide +kernel
theorem dX12_ask_14 : decode cX12_ask 14 = .ok (.ireturn, 1) := by decide +kernel
theorem dX12_ask_15 : decode cX12_ask 15 = .ok (.aload_n 0, 1) := by decide +kernel
theorem dX12_ask_16 : decode cX12_ask 16 = .ok (.iload_n 1, 1) := by decide +kernel
theorem dX12_ask_17 : decode cX12_ask 17 = .ok (.iconst 4, 1) := by decide +kernel
theorem dX12_ask_18 : decode cX12_ask 18 = .ok (.invokevirtual 64, 3) := by decide +kernel
theorem dX12_ask_21 : decode cX12_ask 21 = .ok (.iconst 1, 1) := by decide +kernel
theorem dX12_ask_22 : decode cX12_ask 22 = .ok (.if_icmp .ne 12, 3) := by decide +kernel
theorem dX12_ask_25 : decode cX12_ask 25 = .ok (.aload_n 0, 1) := by decide +kernel
theorem dX12_ask_26 : decode cX12_ask 26 = .ok (.ldc 161, 2) := by decide +kernel
theorem dX12_ask_28 : decode cX12_ask 28 = .ok (.invokevirtual 51, 3) := by decide +kernel
theorem dX12_ask_31 : decode cX12_ask 31 = .ok (.goto 8, 3) := by decide +kernel
theorem dX12_ask_34 : decode cX12_ask 34 = .ok (.aload_n 0, 1) := by decide +kernel
theorem dX12_ask_35 : decode cX12_ask 35 = .ok (.iload_n 1, 1) := by decide +kernel
theorem dX12_ask_36 : decode cX12_ask 36 = .ok (.invokevirtual 162, 3) := by decide +kernel
theorem dX12_ask_39 : decode cX12_ask 39 = .ok (.ireturn, 1) := by decide +kernel
theorem dX12_counts_0 : decode cX12_counts 0 = .ok (.aload_n 0, 1) := by decide +kernel
theorem dX12_counts_1 : decode cX12_counts 1 = .ok (.iload_n 1, 1) := by decide +kernel
theorem dX12_counts_2 : decode cX12_counts 2 = .ok (.iconst 5, 1) := by decide +kernel
theorem dX12_counts_3 : decode cX12_counts 3 = .ok (.invokevirtual 165, 3) := by decide +kernel
theorem dX12_counts_6 : decode cX12_counts 6 = .ok (.ifCond .ne 54, 3) := by decide +kernel
theorem dX12_counts_9 : decode cX12_counts 9 = .ok (.aload_n 0, 1) := by decide +kernel
theorem dX12_counts_10 : decode cX12_counts 10 = .ok (.getfield 7, 3) := by decide +kernel
theorem dX12_counts_13 : decode cX12_counts 13 = .ok (.iconst 0, 1) := by decide +kernel
theorem dX12_counts_14 : decode cX12_counts 14 = .ok (.iaload, 1) := by decide +kernel
theorem dX12_counts_15 : decode cX12_counts 15 = .ok (.aload_n 0, 1) := by decide +kernel
theorem dX12_counts_16 : decode cX12_counts 16 = .ok (.iload_n 1, 1) := by decide +kernel
theorem dX12_counts_17 : decode cX12_counts 17 = .ok (.iconst 3, 1) := by decide +kernel
theorem dX12_counts_18 : decode cX12_counts 18 = .ok (.invokevirtual 165, 3) := by decide +kernel
theorem dX12_counts_21 : decode cX12_counts 21 = .ok (.aload_n 0, 1) := by decide +kernel
theorem dX12_counts_22 : decode cX12_counts 22 = .ok (.iload_n 1, 1) := by decide +kernel
theorem dX12_counts_23 : decode cX12_counts 23 = .ok (.iconst 4, 1) := by decide +kernel
theorem dX12_counts_24 : decode cX12_counts 24 = .ok (.invokevirtual 165, 3) := by decide +kernel
theorem dX12_counts_27 : decode cX12_counts 27 = .ok (.invokestatic 38, 3) := by decide +kernel
theorem dX12_counts_30 : decode cX12_counts 30 = .ok (.ifCond .eq 30, 3) := by decide +kernel
theorem dX12_counts_33 : decode cX12_counts 33 = .ok (.aload_n 0, 1) := by decide +kernel
theorem dX12_counts_34 : decode cX12_counts 34 = .ok (.getfield 7, 3) := by decide +kernel
theorem dX12_counts_37 : decode cX12_counts 37 = .ok (.bipush 12, 2) := by decide +kernel
theorem dX12_counts_39 : decode cX12_counts 39 = .ok (.iaload, 1) := by decide +kernel
theorem dX12_counts_40 : decode cX12_counts 40 = .ok (.ifCond .eq 16, 3) := by decide +kernel
theorem dX12_counts_43 : decode cX12_counts 43 = .ok (.iload_n 1, 1) := by decide +kernel
theorem dX12_counts_44 : decode cX12_counts 44 = .ok (.aload_n 0, 1) := by decide +kernel
theorem dX12_counts_45 : decode cX12_counts 45 = .ok (.getfield 7, 3) := by decide +kernel
theorem dX12_counts_48 : decode cX12_counts 48 = .ok (.bipush 7, 2) := by decide +kernel
theorem dX12_counts_50 : decode cX12_counts 50 = .ok (.iaload, 1) := by decide +kernel
theorem dX12_counts_51 : decode cX12_counts 51 = .ok (.iconst 1, 1) := by decide +kernel
theorem dX12_counts_52 : decode cX12_counts 52 = .ok (.isub, 1) := by decide +kernel
theorem dX12_counts_53 : decode cX12_counts 53 = .ok (.if_icmp .ne 7, 3) := by decide +kernel
theorem dX12_counts_56 : decode cX12_counts 56 = .ok (.iconst 1, 1) := by decide +kernel
theorem dX12_counts_57 : decode cX12_counts 57 = .ok (.goto 4, 3) := by decide +kernel
theorem dX12_counts_60 : decode cX12_counts 60 = .ok (.iconst 0, 1) := by decide +kernel
theorem dX12_counts_61 : decode cX12_counts 61 = .ok (.ireturn, 1) := by decide +kernel
theorem dX12_ofCode_0 : decode cX12_ofCode 0 = .ok (.aload_n 0, 1) := by decide +kernel
theorem dX12_ofCode_1 : decode cX12_ofCode 1 = .ok (.iload_n 1, 1) := by decide +kernel
theorem dX12_ofCode_2 : decode cX12_ofCode 2 = .ok (.invokevirtual 168, 3) := by decide +kernel
theorem dX12_ofCode_5 : decode cX12_ofCode 5 = .ok (.ifCond .eq 13, 3) := by decide +kernel
theorem dX12_ofCode_8 : decode cX12_ofCode 8 = .ok (.iload_n 2, 1) := by decide +kernel
theorem dX12_ofCode_9 : decode cX12_ofCode 9 = .ok (.iconst 0, 1) := by decide +kernel
theorem dX12_ofCode_10 : decode cX12_ofCode 10 = .ok (.bipush 6, 2) := by decide +kernel
theorem dX12_ofCode_12 : decode cX12_ofCode 12 = .ok (.invokestatic 38, 3) := by decide +kernel
theorem dX12_ofCode_15 : decode cX12_ofCode 15 = .ok (.ifCond .ne 10, 3) := by decide +kernel
theorem dX12_ofCode_18 : decode cX12_ofCode 18 = .ok (.aload_n 0, 1) := by decide +kernel
theorem dX12_ofCode_19 : decode cX12_ofCode 19 = .ok (.ldc 50, 2) := by decide +kernel
theorem dX12_ofCode_21 : decode cX12_ofCode 21 = .ok (.invokevirtual 51, 3) := by decide +kernel
theorem dX12_ofCode_24 : decode cX12_ofCode 24 = .ok (.ireturn, 1) := by decide +kernel
theorem dX12_ofCode_25 : decode cX12_ofCode 25 = .ok (.iload_n 2, 1) := by decide +kernel
theorem dX12_ofCode_26 : decode cX12_ofCode 26 = .ok (.bipush 6, 2) := by decide +kernel
theorem dX12_ofCode_28 : decode cX12_ofCode 28 = .ok (.if_icmp .ge 12, 3) := by decide +kernel
theorem dX12_ofCode_31 : decode cX12_ofCode 31 = .ok (.aload_n 0, 1) := by decide +kernel
theorem dX12_ofCode_32 : decode cX12_ofCode 32 = .ok (.iload_n 1, 1) := by decide +kernel
theorem dX12_ofCode_33 : decode cX12_ofCode 33 = .ok (.iload_n 2, 1) := by decide +kernel
theorem dX12_ofCode_34 : decode cX12_ofCode 34 = .ok (.invokevirtual 165, 3) := by decide +kernel
theorem dX12_ofCode_37 : decode cX12_ofCode 37 = .ok (.goto 16, 3) := by decide +kernel
theorem dX12_ofCode_40 : decode cX12_ofCode 40 = .ok (.aload_n 0, 1) := by decide +kernel
theorem dX12_ofCode_41 : decode cX12_ofCode 41 = .ok (.iload_n 1, 1) := by decide +kernel
theorem dX12_ofCode_42 : decode cX12_ofCode 42 = .ok (.invokevirtual 171, 3) := by decide +kernel
theorem dX12_ofCode_45 : decode cX12_ofCode 45 = .ok (.ifCond .eq 7, 3) := by decide +kernel
theorem dX12_ofCode_48 : decode cX12_ofCode 48 = .ok (.iconst 1, 1) := by decide +kernel
theorem dX12_ofCode_49 : decode cX12_ofCode 49 = .ok (.goto 4, 3) := by decide +kernel
theorem dX12_ofCode_52 : decode cX12_ofCode 52 = .ok (.iconst 0, 1) := by decide +kernel
theorem dX12_ofCode_53 : decode cX12_ofCode 53 = .ok (.ireturn, 1) := by decide +kernel
theorem dX12_enter_0 : decode cX12_enter 0 = .ok (.iload_n 1, 1) := by decide +kernel
theorem dX12_enter_1 : decode cX12_enter 1 = .ok (.iconst 0, 1) := by decide +kernel
theorem dX12_enter_2 : decode cX12_enter 2 = .ok (.ldc 174, 2) := by decide +kernel
theorem dX12_enter_4 : decode cX12_enter 4 = .ok (.invokestatic 38, 3) := by decide +kernel
theorem dX12_enter_7 : decode cX12_enter 7 = .ok (.ifCond .ne 10, 3) := by decide +kernel
theorem dX12_enter_10 : decode cX12_enter 10 = .ok (.aload_n 0, 1) := by decide +kernel
theorem dX12_enter_11 : decode cX12_enter 11 = .ok (.ldc 50, 2) := by decide +kernel
theorem dX12_enter_13 : decode cX12_enter 13 = .ok (.invokevirtual 51, 3) := by decide +kernel
theorem dX12_enter_16 : decode cX12_enter 16 = .ok (.ireturn, 1) := by decide +kernel
theorem dX12_enter_17 : decode cX12_enter 17 = .ok (.aload_n 0, 1) := by decide +kernel
theorem dX12_enter_18 : decode cX12_enter 18 = .ok (.getfield 7, 3) := by decide +kernel
theorem dX12_enter_21 : decode cX12_enter 21 = .ok (.iconst 0, 1) := by decide +kernel
theorem dX12_enter_22 : decode cX12_enter 22 = .ok (.iaload, 1) := by decide +kernel
theorem dX12_enter_23 : decode cX12_enter 23 = .ok (.aload_n 0, 1) := by decide +kernel
theorem dX12_enter_24 : decode cX12_enter 24 = .ok (.getfield 7, 3) := by decide +kernel
theorem dX12_enter_27 : decode cX12_enter 27 = .ok (.bipush 14, 2) := by decide +kernel
theorem dX12_enter_29 : decode cX12_enter 29 = .ok (.iaload, 1) := by decide +kernel
theorem dX12_enter_30 : decode cX12_enter 30 = .ok (.if_icmp .lt 16, 3) := by decide +kernel
theorem dX12_enter_33 : decode cX12_enter 33 = .ok (.aload_n 0, 1) := by decide +kernel
theorem dX12_enter_34 : decode cX12_enter 34 = .ok (.getfield 7, 3) := by decide +kernel
theorem dX12_enter_37 : decode cX12_enter 37 = .ok (.iconst 0, 1) := by decide +kernel
theorem dX12_enter_38 : decode cX12_enter 38 = .ok (.iaload, 1) := by decide +kernel
theorem dX12_enter_39 : decode cX12_enter 39 = .ok (.iconst 2, 1) := by decide +kernel
theorem dX12_enter_40 : decode cX12_enter 40 = .ok (.iadd, 1) := by decide +kernel
theorem dX12_enter_41 : decode cX12_enter 41 = .ok (.ldc 174, 2) := by decide +kernel
theorem dX12_enter_43 : decode cX12_enter 43 = .ok (.if_icmp .le 10, 3) := by decide +kernel
theorem dX12_enter_46 : decode cX12_enter 46 = .ok (.aload_n 0, 1) := by decide +kernel
theorem dX12_enter_47 : decode cX12_enter 47 = .ok (.ldc 161, 2) := by decide +kernel
theorem dX12_enter_49 : decode cX12_enter 49 = .ok (.invokevirtual 51, 3) := by decide +kernel
theorem dX12_enter_52 : decode cX12_enter 52 = .ok (.ireturn, 1) := by decide +kernel
theorem dX12_enter_53 : decode cX12_enter 53 = .ok (.aload_n 0, 1) := by decide +kernel
theorem dX12_enter_54 : decode cX12_enter 54 = .ok (.getfield 7, 3) := by decide +kernel
theorem dX12_enter_57 : decode cX12_enter 57 = .ok (.iconst 0, 1) := by decide +kernel
theorem dX12_enter_58 : decode cX12_enter 58 = .ok (.dup2, 1) := by decide +kernel
theorem dX12_enter_59 : decode cX12_enter 59 = .ok (.iaload, 1) := by decide +kernel
theorem dX12_enter_60 : decode cX12_enter 60 = .ok (.iconst 2, 1) := by decide +kernel
theorem dX12_enter_61 : decode cX12_enter 61 = .ok (.iadd, 1) := by decide +kernel
theorem dX12_enter_62 : decode cX12_enter 62 = .ok (.iastore, 1) := by decide +kernel
theorem dX12_enter_63 : decode cX12_enter 63 = .ok (.iconst 0, 1) := by decide +kernel
theorem dX12_enter_64 : decode cX12_enter 64 = .ok (.istore_n 2, 1) := by decide +kernel
theorem dX12_enter_65 : decode cX12_enter 65 = .ok (.iload_n 2, 1) := by decide +kernel
theorem dX12_enter_66 : decode cX12_enter 66 = .ok (.aload_n 0, 1) := by decide +kernel
theorem dX12_enter_67 : decode cX12_enter 67 = .ok (.getfield 7, 3) := by decide +kernel
theorem dX12_enter_70 : decode cX12_enter 70 = .ok (.bipush 7, 2) := by decide +kernel
theorem dX12_enter_72 : decode cX12_enter 72 = .ok (.iaload, 1) := by decide +kernel
theorem dX12_enter_73 : decode cX12_enter 73 = .ok (.if_icmp .ge 27, 3) := by decide +kernel
theorem dX12_enter_76 : decode cX12_enter 76 = .ok (.aload_n 0, 1) := by decide +kernel
theorem dX12_enter_77 : decode cX12_enter 77 = .ok (.iload_n 2, 1) := by decide +kernel
theorem dX12_enter_78 : decode cX12_enter 78 = .ok (.invokevirtual 171, 3) := by decide +kernel
theorem dX12_enter_81 : decode cX12_enter 81 = .ok (.ifCond .eq 13, 3) := by decide +kernel
theorem dX12_enter_84 : decode cX12_enter 84 = .ok (.aload_n 0, 1) := by decide +kernel
theorem dX12_enter_85 : decode cX12_enter 85 = .ok (.iload_n 2, 1) := by decide +kernel
theorem dX12_enter_86 : decode cX12_enter 86 = .ok (.iconst 1, 1) := by decide +kernel
theorem dX12_enter_87 : decode cX12_enter 87 = .ok (.invokevirtual 165, 3) := by decide +kernel
theorem dX12_enter_90 : decode cX12_enter 90 = .ok (.iload_n 1, 1) := by decide +kernel
theorem dX12_enter_91 : decode cX12_enter 91 = .ok (.if_icmp .eq 9, 3) := by decide +kernel
theorem dX12_enter_94 : decode cX12_enter 94 = .ok (.iinc 2 1, 3) := by decide +kernel
theorem dX12_enter_97 : decode cX12_enter 97 = .ok (.goto (-32), 3) := by decide +kernel
theorem dX12_enter_100 : decode cX12_enter 100 = .ok (.iload_n 2, 1) := by decide +kernel
theorem dX12_enter_101 : decode cX12_enter 101 = .ok (.aload_n 0, 1) := by decide +kernel
theorem dX12_enter_102 : decode cX12_enter 102 = .ok (.getfield 7, 3) := by decide +kernel
theorem dX12_enter_105 : decode cX12_enter 105 = .ok (.bipush 7, 2) := by decide +kernel
theorem dX12_enter_107 : decode cX12_enter 107 = .ok (.iaload, 1) := by decide +kernel
theorem dX12_enter_108 : decode cX12_enter 108 = .ok (.if_icmp .ge 51, 3) := by decide +kernel
theorem dX12_enter_111 : decode cX12_enter 111 = .ok (.aload_n 0, 1) := by decide +kernel
theorem dX12_enter_112 : decode cX12_enter 112 = .ok (.getfield 7, 3) := by decide +kernel
theorem dX12_enter_115 : decode cX12_enter 115 = .ok (.bipush 46, 2) := by decide +kernel
theorem dX12_enter_117 : decode cX12_enter 117 = .ok (.bipush 6, 2) := by decide +kernel
theorem dX12_enter_119 : decode cX12_enter 119 = .ok (.iload_n 2, 1) := by decide +kernel
theorem dX12_enter_120 : decode cX12_enter 120 = .ok (.imul, 1) := by decide +kernel
theorem dX12_enter_121 : decode cX12_enter 121 = .ok (.iadd, 1) := by decide +kernel
theorem dX12_enter_122 : decode cX12_enter 122 = .ok (.iconst 5, 1) := by decide +kernel
theorem dX12_enter_123 : decode cX12_enter 123 = .ok (.iadd, 1) := by decide +kernel
theorem dX12_enter_124 : decode cX12_enter 124 = .ok (.iconst 1, 1) := by decide +kernel
theorem dX12_enter_125 : decode cX12_enter 125 = .ok (.iastore, 1) := by decide +kernel
theorem dX12_enter_126 : decode cX12_enter 126 = .ok (.aload_n 0, 1) := by decide +kernel
theorem dX12_enter_127 : decode cX12_enter 127 = .ok (.getfield 7, 3) := by decide +kernel
theorem dX12_enter_130 : decode cX12_enter 130 = .ok (.bipush 15, 2) := by decide +kernel
theorem dX12_enter_132 : decode cX12_enter 132 = .ok (.aload_n 0, 1) := by decide +kernel
theorem dX12_enter_133 : decode cX12_enter 133 = .ok (.getfield 7, 3) := by decide +kernel
theorem dX12_enter_136 : decode cX12_enter 136 = .ok (.bipush 15, 2) := by decide +kernel
theorem dX12_enter_138 : decode cX12_enter 138 = .ok (.iaload, 1) := by decide +kernel
theorem dX12_enter_139 : decode cX12_enter 139 = .ok (.iconst 1, 1) := by decide +kernel
theorem dX12_enter_140 : decode cX12_enter 140 = .ok (.iadd, 1) := by decide +kernel
theorem dX12_enter_141 : decode cX12_enter 141 = .ok (.iconst 0, 1) := by decide +kernel
theorem dX12_enter_142 : decode cX12_enter 142 = .ok (.sipush 9999, 3) := by decide +kernel
theorem dX12_enter_145 : decode cX12_enter 145 = .ok (.invokestatic 141, 3) := by decide +kernel
theorem dX12_enter_148 : decode cX12_enter 148 = .ok (.iastore, 1) := by decide +kernel
theorem dX12_enter_149 : decode cX12_enter 149 = .ok (.aload_n 0, 1) := by decide +kernel
theorem dX12_enter_150 : decode cX12_enter 150 = .ok (.getfield 7, 3) := by decide +kernel
theorem dX12_enter_153 : decode cX12_enter 153 = .ok (.bipush 13, 2) := by decide +kernel
theorem dX12_enter_155 : decode cX12_enter 155 = .ok (.iconst 0, 1) := by decide +kernel
theorem dX12_enter_156 : decode cX12_enter 156 = .ok (.iastore, 1) := by decide +kernel
theorem dX12_enter_157 : decode cX12_enter 157 = .ok (.iconst 1, 1) := by decide +kernel
theorem dX12_enter_158 : decode cX12_enter 158 = .ok (.ireturn, 1) := by decide +kernel
theorem dX12_enter_159 : decode cX12_enter 159 = .ok (.aload_n 0, 1) := by decide +kernel
theorem dX12_enter_160 : decode cX12_enter 160 = .ok (.getfield 7, 3) := by decide +kernel
theorem dX12_enter_163 : decode cX12_enter 163 = .ok (.bipush 13, 2) := by decide +kernel
theorem dX12_enter_165 : decode cX12_enter 165 = .ok (.dup2, 1) := by decide +kernel
theorem dX12_enter_166 : decode cX12_enter 166 = .ok (.iaload, 1) := by decide +kernel
theorem dX12_enter_167 : decode cX12_enter 167 = .ok (.iconst 1, 1) := by decide +kernel
theorem dX12_enter_168 : decode cX12_enter 168 = .ok (.iadd, 1) := by decide +kernel
theorem dX12_enter_169 : decode cX12_enter 169 = .ok (.iastore, 1) := by decide +kernel
theorem dX12_enter_170 : decode cX12_enter 170 = .ok (.aload_n 0, 1) := by decide +kernel
theorem dX12_enter_171 : decode cX12_enter 171 = .ok (.getfield 7, 3) := by decide +kernel
theorem dX12_enter_174 : decode cX12_enter 174 = .ok (.bipush 13, 2) := by decide +kernel
theorem dX12_enter_176 : decode cX12_enter 176 = .ok (.iaload, 1) := by decide +kernel
theorem dX12_enter_177 : decode cX12_enter 177 = .ok (.aload_n 0, 1) := by decide +kernel
theorem dX12_enter_178 : decode cX12_enter 178 = .ok (.getfield 7, 3) := by decide +kernel
theorem dX12_enter_181 : decode cX12_enter 181 = .ok (.bipush 10, 2) := by decide +kernel
theorem dX12_enter_183 : decode cX12_enter 183 = .ok (.iaload, 1) := by decide +kernel
theorem dX12_enter_184 : decode cX12_enter 184 = .ok (.if_icmp .lt 32, 3) := by decide +kernel
theorem dX12_enter_187 : decode cX12_enter 187 = .ok (.aload_n 0, 1) := by decide +kernel
theorem dX12_enter_188 : decode cX12_enter 188 = .ok (.getfield 7, 3) := by decide +kernel
theorem dX12_enter_191 : decode cX12_enter 191 = .ok (.bipush 14, 2) := by decide +kernel
theorem dX12_enter_193 : decode cX12_enter 193 = .ok (.aload_n 0, 1) := by decide +kernel
theorem dX12_enter_194 : decode cX12_enter 194 = .ok (.getfield 7, 3) := by decide +kernel
theorem dX12_enter_197 : decode cX12_enter 197 = .ok (.iconst 0, 1) := by decide +kernel
theorem dX12_enter_198 : decode cX12_enter 198 = .ok (.iaload, 1) := by decide +kernel
theorem dX12_enter_199 : decode cX12_enter 199 = .ok (.aload_n 0, 1) := by decide +kernel
theorem dX12_enter_200 : decode cX12_enter 200 = .ok (.getfield 7, 3) := by decide +kernel
theorem dX12_enter_203 : decode cX12_enter 203 = .ok (.bipush 11, 2) := by decide +kernel
theorem dX12_enter_205 : decode cX12_enter 205 = .ok (.iaload, 1) := by decide +kernel
theorem dX12_enter_206 : decode cX12_enter 206 = .ok (.iadd, 1) := by decide +kernel
theorem dX12_enter_207 : decode cX12_enter 207 = .ok (.iastore, 1) := by decide +kernel
theorem dX12_enter_208 : decode cX12_enter 208 = .ok (.aload_n 0, 1) := by decide +kernel
theorem dX12_enter_209 : decode cX12_enter 209 = .ok (.getfield 7, 3) := by decide +kernel
theorem dX12_enter_212 : decode cX12_enter 212 = .ok (.bipush 13, 2) := by decide +kernel
theorem dX12_enter_214 : decode cX12_enter 214 = .ok (.iconst 0, 1) := by decide +kernel
theorem dX12_enter_215 : decode cX12_enter 215 = .ok (.iastore, 1) := by decide +kernel
theorem dX12_enter_216 : decode cX12_enter 216 = .ok (.iconst 0, 1) := by decide +kernel
theorem dX12_enter_217 : decode cX12_enter 217 = .ok (.ireturn, 1) := by decide +kernel
theorem dX12_pass_0 : decode cX12_pass 0 = .ok (.iload_n 1, 1) := by decide +kernel
theorem dX12_pass_1 : decode cX12_pass 1 = .ok (.iconst 1, 1) := by decide +kernel
theorem dX12_pass_2 : decode cX12_pass 2 = .ok (.sipush 9999, 3) := by decide +kernel
theorem dX12_pass_5 : decode cX12_pass 5 = .ok (.invokestatic 38, 3) := by decide +kernel
theorem dX12_pass_8 : decode cX12_pass 8 = .ok (.ifCond .ne 10, 3) := by decide +kernel
theorem dX12_pass_11 : decode cX12_pass 11 = .ok (.aload_n 0, 1) := by decide +kernel
theorem dX12_pass_12 : decode cX12_pass 12 = .ok (.ldc 50, 2) := by decide +kernel
theorem dX12_pass_14 : decode cX12_pass 14 = .ok (.invokevirtual 51, 3) := by decide +kernel
theorem dX12_pass_17 : decode cX12_pass 17 = .ok (.ireturn, 1) := by decide +kernel
theorem dX12_pass_18 : decode cX12_pass 18 = .ok (.aload_n 0, 1) := by decide +kernel
theorem dX12_pass_19 : decode cX12_pass 19 = .ok (.getfield 7, 3) := by decide +kernel
theorem dX12_pass_22 : decode cX12_pass 22 = .ok (.iconst 0, 1) := by decide +kernel
theorem dX12_pass_23 : decode cX12_pass 23 = .ok (.iaload, 1) := by decide +kernel
theorem dX12_pass_24 : decode cX12_pass 24 = .ok (.iload_n 1, 1) := by decide +kernel
theorem dX12_pass_25 : decode cX12_pass 25 = .ok (.iadd, 1) := by decide +kernel
theorem dX12_pass_26 : decode cX12_pass 26 = .ok (.ldc 174, 2) := by decide +kernel
theorem dX12_pass_28 : decode cX12_pass 28 = .ok (.if_icmp .le 10, 3) := by decide +kernel
theorem dX12_pass_31 : decode cX12_pass 31 = .ok (.aload_n 0, 1) := by decide +kernel
theorem dX12_pass_32 : decode cX12_pass 32 = .ok (.ldc 161, 2) := by decide +kernel
theorem dX12_pass_34 : decode cX12_pass 34 = .ok (.invokevirtual 51, 3) := by decide +kernel
theorem dX12_pass_37 : decode cX12_pass 37 = .ok (.ireturn, 1) := by decide +kernel
theorem dX12_pass_38 : decode cX12_pass 38 = .ok (.aload_n 0, 1) := by decide +kernel
theorem dX12_pass_39 : decode cX12_pass 39 = .ok (.getfield 7, 3) := by decide +kernel
theorem dX12_pass_42 : decode cX12_pass 42 = .ok (.iconst 0, 1) := by decide +kernel
theorem dX12_pass_43 : decode cX12_pass 43 = .ok (.dup2, 1) := by decide +kernel
theorem dX12_pass_44 : decode cX12_pass 44 = .ok (.iaload, 1) := by decide +kernel
theorem dX12_pass_45 : decode cX12_pass 45 = .ok (.iload_n 1, 1) := by decide +kernel
theorem dX12_pass_46 : decode cX12_pass 46 = .ok (.iadd, 1) := by decide +kernel
theorem dX12_pass_47 : decode cX12_pass 47 = .ok (.iastore, 1) := by decide +kernel
theorem dX12_pass_48 : decode cX12_pass 48 = .ok (.aload_n 0, 1) := by decide +kernel
theorem dX12_pass_49 : decode cX12_pass 49 = .ok (.getfield 7, 3) := by decide +kernel
theorem dX12_pass_52 : decode cX12_pass 52 = .ok (.iconst 0, 1) := by decide +kernel
theorem dX12_pass_53 : decode cX12_pass 53 = .ok (.iaload, 1) := by decide +kernel
theorem dX12_pass_54 : decode cX12_pass 54 = .ok (.ireturn, 1) := by decide +kernel
theorem dX12_loose_0 : decode cX12_loose 0 = .ok (.iload_n 1, 1) := by decide +kernel
theorem dX12_loose_1 : decode cX12_loose 1 = .ok (.iconst 1, 1) := by decide +kernel
theorem dX12_loose_2 : decode cX12_loose 2 = .ok (.bipush 60, 2) := by decide +kernel
theorem dX12_loose_4 : decode cX12_loose 4 = .ok (.invokestatic 38, 3) := by decide +kernel
theorem dX12_loose_7 : decode cX12_loose 7 = .ok (.ifCond .ne 10, 3) := by decide +kernel
theorem dX12_loose_10 : decode cX12_loose 10 = .ok (.aload_n 0, 1) := by decide +kernel
theorem dX12_loose_11 : decode cX12_loose 11 = .ok (.ldc 50, 2) := by decide +kernel
theorem dX12_loose_13 : decode cX12_loose 13 = .ok (.invokevirtual 51, 3) := by decide +kernel
theorem dX12_loose_16 : decode cX12_loose 16 = .ok (.ireturn, 1) := by decide +kernel
theorem dX12_loose_17 : decode cX12_loose 17 = .ok (.aload_n 0, 1) := by decide +kernel
theorem dX12_loose_18 : decode cX12_loose 18 = .ok (.getfield 7, 3) := by decide +kernel
theorem dX12_loose_21 : decode cX12_loose 21 = .ok (.iconst 0, 1) := by decide +kernel
theorem dX12_loose_22 : decode cX12_loose 22 = .ok (.iaload, 1) := by decide +kernel
theorem dX12_loose_23 : decode cX12_loose 23 = .ok (.iload_n 1, 1) := by decide +kernel
theorem dX12_loose_24 : decode cX12_loose 24 = .ok (.iadd, 1) := by decide +kernel
theorem dX12_loose_25 : decode cX12_loose 25 = .ok (.ldc 174, 2) := by decide +kernel
theorem dX12_loose_27 : decode cX12_loose 27 = .ok (.if_icmp .le 10, 3) := by decide +kernel
theorem dX12_loose_30 : decode cX12_loose 30 = .ok (.aload_n 0, 1) := by decide +kernel
theorem dX12_loose_31 : decode cX12_loose 31 = .ok (.ldc 161, 2) := by decide +kernel
theorem dX12_loose_33 : decode cX12_loose 33 = .ok (.invokevirtual 51, 3) := by decide +kernel
theorem dX12_loose_36 : decode cX12_loose 36 = .ok (.ireturn, 1) := by decide +kernel
theorem dX12_loose_37 : decode cX12_loose 37 = .ok (.iconst 0, 1) := by decide +kernel
theorem dX12_loose_38 : decode cX12_loose 38 = .ok (.istore_n 2, 1) := by decide +kernel
theorem dX12_loose_39 : decode cX12_loose 39 = .ok (.iconst 0, 1) := by decide +kernel
theorem dX12_loose_40 : decode cX12_loose 40 = .ok (.istore_n 3, 1) := by decide +kernel
theorem dX12_loose_41 : decode cX12_loose 41 = .ok (.iload_n 3, 1) := by decide +kernel
theorem dX12_loose_42 : decode cX12_loose 42 = .ok (.iload_n 1, 1) := by decide +kernel
theorem dX12_loose_43 : decode cX12_loose 43 = .ok (.if_icmp .ge 79, 3) := by decide +kernel
theorem dX12_loose_46 : decode cX12_loose 46 = .ok (.aload_n 0, 1) := by decide +kernel
theorem dX12_loose_47 : decode cX12_loose 47 = .ok (.iconst 4, 1) := by decide +kernel
theorem dX12_loose_48 : decode cX12_loose 48 = .ok (.invokevirtual 158, 3) := by decide +kernel
theorem dX12_loose_51 : decode cX12_loose 51 = .ok (.istore 4, 2) := by decide +kernel
theorem dX12_loose_53 : decode cX12_loose 53 = .ok (.aload_n 0, 1) := by decide +kernel
theorem dX12_loose_54 : decode cX12_loose 54 = .ok (.getfield 7, 3) := by decide +kernel
theorem dX12_loose_57 : decode cX12_loose 57 = .ok (.iconst 2, 1) := by decide +kernel
theorem dX12_loose_58 : decode cX12_loose 58 = .ok (.iaload, 1) := by decide +kernel
theorem dX12_loose_59 : decode cX12_loose 59 = .ok (.ifCond .le 47, 3) := by decide +kernel
theorem dX12_loose_62 : decode cX12_loose 62 = .ok (.iload 4, 2) := by decide +kernel
theorem dX12_loose_64 : decode cX12_loose 64 = .ok (.ifCond .ne 42, 3) := by decide +kernel
theorem dX12_loose_67 : decode cX12_loose 67 = .ok (.aload_n 0, 1) := by decide +kernel
theorem dX12_loose_68 : decode cX12_loose 68 = .ok (.aload_n 0, 1) := by decide +kernel
theorem dX12_loose_69 : decode cX12_loose 69 = .ok (.getfield 7, 3) := by decide +kernel
theorem dX12_loose_72 : decode cX12_loose 72 = .ok (.iconst 2, 1) := by decide +kernel
theorem dX12_loose_73 : decode cX12_loose 73 = .ok (.iaload, 1) := by decide +kernel
theorem dX12_loose_74 : decode cX12_loose 74 = .ok (.invokevirtual 158, 3) := by decide +kernel
theorem dX12_loose_77 : decode cX12_loose 77 = .ok (.istore 5, 2) := by decide +kernel
theorem dX12_loose_79 : decode cX12_loose 79 = .ok (.aload_n 0, 1) := by decide +kernel
theorem dX12_loose_80 : decode cX12_loose 80 = .ok (.iload 5, 2) := by decide +kernel
theorem dX12_loose_82 : decode cX12_loose 82 = .ok (.iconst 4, 1) := by decide +kernel
theorem dX12_loose_83 : decode cX12_loose 83 = .ok (.invokevirtual 64, 3) := by decide +kernel
theorem dX12_loose_86 : decode cX12_loose 86 = .ok (.ifCond .ne 20, 3) := by decide +kernel
theorem dX12_loose_89 : decode cX12_loose 89 = .ok (.iload_n 2, 1) := by decide +kernel
theorem dX12_loose_90 : decode cX12_loose 90 = .ok (.aload_n 0, 1) := by decide +kernel
theorem dX12_loose_91 : decode cX12_loose 91 = .ok (.iload 5, 2) := by decide +kernel
theorem dX12_loose_93 : decode cX12_loose 93 = .ok (.invokevirtual 162, 3) := by decide +kernel
theorem dX12_loose_96 : decode cX12_loose 96 = .ok (.ifCond .ge 7, 3) := by decide +kernel
theorem dX12_loose_99 : decode cX12_loose 99 = .ok (.iconst 0, 1) := by decide +kernel
theorem dX12_loose_100 : decode cX12_loose 100 = .ok (.goto 4, 3) := by decide +kernel
theorem dX12_loose_103 : decode cX12_loose 103 = .ok (.iconst 1, 1) := by decide +kernel
theorem dX12_loose_104 : decode cX12_loose 104 = .ok (.iadd, 1) := by decide +kernel
theorem dX12_loose_105 : decode cX12_loose 105 = .ok (.istore_n 2, 1) := by decide +kernel
theorem dX12_loose_106 : decode cX12_loose 106 = .ok (.aload_n 0, 1) := by decide +kernel
theorem dX12_loose_107 : decode cX12_loose 107 = .ok (.getfield 7, 3) := by decide +kernel
theorem dX12_loose_110 : decode cX12_loose 110 = .ok (.iconst 0, 1) := by decide +kernel
theorem dX12_loose_111 : decode cX12_loose 111 = .ok (.dup2, 1) := by decide +kernel
theorem dX12_loose_112 : decode cX12_loose 112 = .ok (.iaload, 1) := by decide +kernel
theorem dX12_loose_113 : decode cX12_loose 113 = .ok (.iconst 1, 1) := by decide +kernel
theorem dX12_loose_114 : decode cX12_loose 114 = .ok (.iadd, 1) := by decide +kernel
theorem dX12_loose_115 : decode cX12_loose 115 = .ok (.iastore, 1) := by decide +kernel
theorem dX12_loose_116 : decode cX12_loose 116 = .ok (.iinc 3 1, 3) := by decide +kernel
theorem dX12_loose_119 : decode cX12_loose 119 = .ok (.goto (-78), 3) := by decide +kernel
theorem dX12_loose_122 : decode cX12_loose 122 = .ok (.iload_n 2, 1) := by decide +kernel
theorem dX12_loose_123 : decode cX12_loose 123 = .ok (.ireturn, 1) := by decide +kernel
theorem dX12_backAt_0 : decode cX12_backAt 0 = .ok (.aload_n 0, 1) := by decide +kernel
theorem dX12_backAt_1 : decode cX12_backAt 1 = .ok (.iload_n 1, 1) := by decide +kernel
theorem dX12_backAt_2 : decode cX12_backAt 2 = .ok (.iconst 2, 1) := by decide +kernel
theorem dX12_backAt_3 : decode cX12_backAt 3 = .ok (.invokevirtual 64, 3) := by decide +kernel
theorem dX12_backAt_6 : decode cX12_backAt 6 = .ok (.istore_n 3, 1) := by decide +kernel
theorem dX12_backAt_7 : decode cX12_backAt 7 = .ok (.iload_n 2, 1) := by decide +kernel
theorem dX12_backAt_8 : decode cX12_backAt 8 = .ok (.iconst 2, 1) := by decide +kernel
theorem dX12_backAt_9 : decode cX12_backAt 9 = .ok (.iload_n 3, 1) := by decide +kernel
theorem dX12_backAt_10 : decode cX12_backAt 10 = .ok (.imul, 1) := by decide +kernel
theorem dX12_backAt_11 : decode cX12_backAt 11 = .ok (.iadd, 1) := by decide +kernel
theorem dX12_backAt_12 : decode cX12_backAt 12 = .ok (.istore 4, 2) := by decide +kernel
theorem dX12_backAt_14 : decode cX12_backAt 14 = .ok (.iload_n 2, 1) := by decide +kernel
theorem dX12_backAt_15 : decode cX12_backAt 15 = .ok (.aload_n 0, 1) := by decide +kernel
theorem dX12_backAt_16 : decode cX12_backAt 16 = .ok (.iload_n 1, 1) := by decide +kernel
theorem dX12_backAt_17 : decode cX12_backAt 17 = .ok (.iload_n 2, 1) := by decide +kernel
theorem dX12_backAt_18 : decode cX12_backAt 18 = .ok (.invokevirtual 67, 3) := by decide +kernel
theorem dX12_backAt_21 : decode cX12_backAt 21 = .ok (.iadd, 1) := by decide +kernel
theorem dX12_backAt_22 : decode cX12_backAt 22 = .ok (.iload_n 3, 1) := by decide +kernel
theorem dX12_backAt_23 : decode cX12_backAt 23 = .ok (.iadd, 1) := by decide +kernel
theorem dX12_backAt_24 : decode cX12_backAt 24 = .ok (.istore 5, 2) := by decide +kernel
theorem dX12_backAt_26 : decode cX12_backAt 26 = .ok (.iload 4, 2) := by decide +kernel
theorem dX12_backAt_28 : decode cX12_backAt 28 = .ok (.iload 5, 2) := by decide +kernel
theorem dX12_backAt_30 : decode cX12_backAt 30 = .ok (.if_icmp .le 8, 3) := by decide +kernel
theorem dX12_backAt_33 : decode cX12_backAt 33 = .ok (.iload 4, 2) := by decide +kernel
theorem dX12_backAt_35 : decode cX12_backAt 35 = .ok (.goto 5, 3) := by decide +kernel
theorem dX12_backAt_38 : decode cX12_backAt 38 = .ok (.iload 5, 2) := by decide +kernel
theorem dX12_backAt_40 : decode cX12_backAt 40 = .ok (.ireturn, 1) := by decide +kernel
theorem dX12_getsInAt_0 : decode cX12_getsInAt 0 = .ok (.aload_n 0, 1) := by decide +kernel
theorem dX12_getsInAt_1 : decode cX12_getsInAt 1 = .ok (.iload_n 1, 1) := by decide +kernel
theorem dX12_getsInAt_2 : decode cX12_getsInAt 2 = .ok (.iload_n 2, 1) := by decide +kernel
theorem dX12_getsInAt_3 : decode cX12_getsInAt 3 = .ok (.invokevirtual 175, 3) := by decide +kernel
theorem dX12_getsInAt_6 : decode cX12_getsInAt 6 = .ok (.istore_n 3, 1) := by decide +kernel
theorem dX12_getsInAt_7 : decode cX12_getsInAt 7 = .ok (.iload_n 3, 1) := by decide +kernel
theorem dX12_getsInAt_8 : decode cX12_getsInAt 8 = .ok (.aload_n 0, 1) := by decide +kernel
theorem dX12_getsInAt_9 : decode cX12_getsInAt 9 = .ok (.getfield 7, 3) := by decide +kernel
theorem dX12_getsInAt_12 : decode cX12_getsInAt 12 = .ok (.bipush 14, 2) := by decide +kernel
theorem dX12_getsInAt_14 : decode cX12_getsInAt 14 = .ok (.iaload, 1) := by decide +kernel
theorem dX12_getsInAt_15 : decode cX12_getsInAt 15 = .ok (.if_icmp .lt 48, 3) := by decide +kernel
theorem dX12_getsInAt_18 : decode cX12_getsInAt 18 = .ok (.iload_n 3, 1) := by decide +kernel
theorem dX12_getsInAt_19 : decode cX12_getsInAt 19 = .ok (.iconst 2, 1) := by decide +kernel
theorem dX12_getsInAt_20 : decode cX12_getsInAt 20 = .ok (.iadd, 1) := by decide +kernel
theorem dX12_getsInAt_21 : decode cX12_getsInAt 21 = .ok (.iload_n 2, 1) := by decide +kernel
theorem dX12_getsInAt_22 : decode cX12_getsInAt 22 = .ok (.aload_n 0, 1) := by decide +kernel
theorem dX12_getsInAt_23 : decode cX12_getsInAt 23 = .ok (.iload_n 1, 1) := by decide +kernel
theorem dX12_getsInAt_24 : decode cX12_getsInAt 24 = .ok (.invokevirtual 70, 3) := by decide +kernel
theorem dX12_getsInAt_27 : decode cX12_getsInAt 27 = .ok (.iadd, 1) := by decide +kernel
theorem dX12_getsInAt_28 : decode cX12_getsInAt 28 = .ok (.if_icmp .gt 35, 3) := by decide +kernel
theorem dX12_getsInAt_31 : decode cX12_getsInAt 31 = .ok (.aload_n 0, 1) := by decide +kernel
theorem dX12_getsInAt_32 : decode cX12_getsInAt 32 = .ok (.iconst 1, 1) := by decide +kernel
theorem dX12_getsInAt_33 : decode cX12_getsInAt 33 = .ok (.aload_n 0, 1) := by decide +kernel
theorem dX12_getsInAt_34 : decode cX12_getsInAt 34 = .ok (.iload_n 1, 1) := by decide +kernel
theorem dX12_getsInAt_35 : decode cX12_getsInAt 35 = .ok (.iconst 2, 1) := by decide +kernel
theorem dX12_getsInAt_36 : decode cX12_getsInAt 36 = .ok (.invokevirtual 64, 3) := by decide +kernel
theorem dX12_getsInAt_39 : decode cX12_getsInAt 39 = .ok (.aload_n 0, 1) := by decide +kernel
theorem dX12_getsInAt_40 : decode cX12_getsInAt 40 = .ok (.getfield 7, 3) := by decide +kernel
theorem dX12_getsInAt_43 : decode cX12_getsInAt 43 = .ok (.bipush 8, 2) := by decide +kernel
theorem dX12_getsInAt_45 : decode cX12_getsInAt 45 = .ok (.iaload, 1) := by decide +kernel
theorem dX12_getsInAt_46 : decode cX12_getsInAt 46 = .ok (.aload_n 0, 1) := by decide +kernel
theorem dX12_getsInAt_47 : decode cX12_getsInAt 47 = .ok (.getfield 7, 3) := by decide +kernel
theorem dX12_getsInAt_50 : decode cX12_getsInAt 50 = .ok (.bipush 13, 2) := by decide +kernel
theorem dX12_getsInAt_52 : decode cX12_getsInAt 52 = .ok (.iaload, 1) := by decide +kernel
theorem dX12_getsInAt_53 : decode cX12_getsInAt 53 = .ok (.invokevirtual 145, 3) := by decide +kernel
theorem dX12_getsInAt_56 : decode cX12_getsInAt 56 = .ok (.ifCond .ne 7, 3) := by decide +kernel
theorem dX12_getsInAt_59 : decode cX12_getsInAt 59 = .ok (.iconst 1, 1) := by decide +kernel
theorem dX12_getsInAt_60 : decode cX12_getsInAt 60 = .ok (.goto 4, 3) := by decide +kernel
theorem dX12_getsInAt_63 : decode cX12_getsInAt 63 = .ok (.iconst 0, 1) := by decide +kernel
theorem dX12_getsInAt_64 : decode cX12_getsInAt 64 = .ok (.ireturn, 1) := by decide +kernel
theorem dX12_takes_0 : decode cX12_takes 0 = .ok (.aload_n 0, 1) := by decide +kernel
theorem dX12_takes_1 : decode cX12_takes 1 = .ok (.iload_n 1, 1) := by decide +kernel
theorem dX12_takes_2 : decode cX12_takes 2 = .ok (.aload_n 0, 1) := by decide +kernel
theorem dX12_takes_3 : decode cX12_takes 3 = .ok (.getfield 7, 3) := by decide +kernel
theorem dX12_takes_6 : decode cX12_takes 6 = .ok (.iconst 0, 1) := by decide +kernel
theorem dX12_takes_7 : decode cX12_takes 7 = .ok (.iaload, 1) := by decide +kernel
theorem dX12_takes_8 : decode cX12_takes 8 = .ok (.invokevirtual 175, 3) := by decide +kernel
theorem dX12_takes_11 : decode cX12_takes 11 = .ok (.iconst 2, 1) := by decide +kernel
theorem dX12_takes_12 : decode cX12_takes 12 = .ok (.iadd, 1) := by decide +kernel
theorem dX12_takes_13 : decode cX12_takes 13 = .ok (.aload_n 0, 1) := by decide +kernel
theorem dX12_takes_14 : decode cX12_takes 14 = .ok (.getfield 7, 3) := by decide +kernel
theorem dX12_takes_17 : decode cX12_takes 17 = .ok (.iconst 0, 1) := by decide +kernel
theorem dX12_takes_18 : decode cX12_takes 18 = .ok (.iaload, 1) := by decide +kernel
theorem dX12_takes_19 : decode cX12_takes 19 = .ok (.isub, 1) := by decide +kernel
theorem dX12_takes_20 : decode cX12_takes 20 = .ok (.ireturn, 1) := by decide +kernel
theorem dX12_fetched_0 : decode cX12_fetched 0 = .ok (.aload_n 0, 1) := by decide +kernel
theorem dX12_fetched_1 : decode cX12_fetched 1 = .ok (.iload_n 1, 1) := by decide +kernel
theorem dX12_fetched_2 : decode cX12_fetched 2 = .ok (.invokevirtual 60, 3) := by decide +kernel
theorem dX12_fetched_5 : decode cX12_fetched 5 = .ok (.ifCond .eq 12, 3) := by decide +kernel
theorem dX12_fetched_8 : decode cX12_fetched 8 = .ok (.iload_n 2, 1) := by decide +kernel
theorem dX12_fetched_9 : decode cX12_fetched 9 = .ok (.iconst 0, 1) := by decide +kernel
theorem dX12_fetched_10 : decode cX12_fetched 10 = .ok (.iconst 1, 1) := by decide +kernel
theorem dX12_fetched_11 : decode cX12_fetched 11 = .ok (.invokestatic 38, 3) := by decide +kernel
theorem dX12_fetched_14 : decode cX12_fetched 14 = .ok (.ifCond .ne 10, 3) := by decide +kernel
theorem dX12_fetched_17 : decode cX12_fetched 17 = .ok (.aload_n 0, 1) := by decide +kernel
theorem dX12_fetched_18 : decode cX12_fetched 18 = .ok (.ldc 50, 2) := by decide +kernel
theorem dX12_fetched_20 : decode cX12_fetched 20 = .ok (.invokevirtual 51, 3) := by decide +kernel
theorem dX12_fetched_23 : decode cX12_fetched 23 = .ok (.ireturn, 1) := by decide +kernel
theorem dX12_fetched_24 : decode cX12_fetched 24 = .ok (.aload_n 0, 1) := by decide +kernel
theorem dX12_fetched_25 : decode cX12_fetched 25 = .ok (.iload_n 1, 1) := by decide +kernel
theorem dX12_fetched_26 : decode cX12_fetched 26 = .ok (.iconst 4, 1) := by decide +kernel
theorem dX12_fetched_27 : decode cX12_fetched 27 = .ok (.invokevirtual 64, 3) := by decide +kernel
theorem dX12_fetched_30 : decode cX12_fetched 30 = .ok (.iconst 1, 1) := by decide +kernel
theorem dX12_fetched_31 : decode cX12_fetched 31 = .ok (.if_icmp .ne 10, 3) := by decide +kernel
theorem dX12_fetched_34 : decode cX12_fetched 34 = .ok (.aload_n 0, 1) := by decide +kernel
theorem dX12_fetched_35 : decode cX12_fetched 35 = .ok (.ldc 161, 2) := by decide +kernel
theorem dX12_fetched_37 : decode cX12_fetched 37 = .ok (.invokevirtual 51, 3) := by decide +kernel
theorem dX12_fetched_40 : decode cX12_fetched 40 = .ok (.ireturn, 1) := by decide +kernel
theorem dX12_fetched_41 : decode cX12_fetched 41 = .ok (.iload_n 2, 1) := by decide +kernel
theorem dX12_fetched_42 : decode cX12_fetched 42 = .ok (.iconst 1, 1) := by decide +kernel
theorem dX12_fetched_43 : decode cX12_fetched 43 = .ok (.if_icmp .ne 11, 3) := by decide +kernel
theorem dX12_fetched_46 : decode cX12_fetched 46 = .ok (.aload_n 0, 1) := by decide +kernel
theorem dX12_fetched_47 : decode cX12_fetched 47 = .ok (.iload_n 1, 1) := by decide +kernel
theorem dX12_fetched_48 : decode cX12_fetched 48 = .ok (.invokevirtual 178, 3) := by decide +kernel
theorem dX12_fetched_51 : decode cX12_fetched 51 = .ok (.goto 22, 3) := by decide +kernel
theorem dX12_fetched_54 : decode cX12_fetched 54 = .ok (.aload_n 0, 1) := by decide +kernel
theorem dX12_fetched_55 : decode cX12_fetched 55 = .ok (.iload_n 1, 1) := by decide +kernel
theorem dX12_fetched_56 : decode cX12_fetched 56 = .ok (.aload_n 0, 1) := by decide +kernel
theorem dX12_fetched_57 : decode cX12_fetched 57 = .ok (.getfield 7, 3) := by decide +kernel
theorem dX12_fetched_60 : decode cX12_fetched 60 = .ok (.iconst 0, 1) := by decide +kernel
theorem dX12_fetched_61 : decode cX12_fetched 61 = .ok (.iaload, 1) := by decide +kernel
theorem dX12_fetched_62 : decode cX12_fetched 62 = .ok (.invokevirtual 181, 3) := by decide +kernel
theorem dX12_fetched_65 : decode cX12_fetched 65 = .ok (.ifCond .eq 7, 3) := by decide +kernel
theorem dX12_fetched_68 : decode cX12_fetched 68 = .ok (.iconst 1, 1) := by decide +kernel
theorem dX12_fetched_69 : decode cX12_fetched 69 = .ok (.goto 4, 3) := by decide +kernel
theorem dX12_fetched_72 : decode cX12_fetched 72 = .ok (.iconst 0, 1) := by decide +kernel
theorem dX12_fetched_73 : decode cX12_fetched 73 = .ok (.ireturn, 1) := by decide +kernel
theorem dX12_holdFor_0 : decode cX12_holdFor 0 = .ok (.aload_n 0, 1) := by decide +kernel
theorem dX12_holdFor_1 : decode cX12_holdFor 1 = .ok (.iload_n 1, 1) := by decide +kernel
theorem dX12_holdFor_2 : decode cX12_holdFor 2 = .ok (.invokevirtual 60, 3) := by decide +kernel
theorem dX12_holdFor_5 : decode cX12_holdFor 5 = .ok (.ifCond .ne 10, 3) := by decide +kernel
theorem dX12_holdFor_8 : decode cX12_holdFor 8 = .ok (.aload_n 0, 1) := by decide +kernel
theorem dX12_holdFor_9 : decode cX12_holdFor 9 = .ok (.ldc 50, 2) := by decide +kernel
theorem dX12_holdFor_11 : decode cX12_holdFor 11 = .ok (.invokevirtual 51, 3) := by decide +kernel
theorem dX12_holdFor_14 : decode cX12_holdFor 14 = .ok (.ireturn, 1) := by decide +kernel
theorem dX12_holdFor_15 : decode cX12_holdFor 15 = .ok (.aload_n 0, 1) := by decide +kernel
theorem dX12_holdFor_16 : decode cX12_holdFor 16 = .ok (.iload_n 1, 1) := by decide +kernel
theorem dX12_holdFor_17 : decode cX12_holdFor 17 = .ok (.iconst 4, 1) := by decide +kernel
theorem dX12_holdFor_18 : decode cX12_holdFor 18 = .ok (.invokevirtual 64, 3) := by decide +kernel
theorem dX12_holdFor_21 : decode cX12_holdFor 21 = .ok (.iconst 1, 1) := by decide +kernel
theorem dX12_holdFor_22 : decode cX12_holdFor 22 = .ok (.if_icmp .ne 10, 3) := by decide +kernel
theorem dX12_holdFor_25 : decode cX12_holdFor 25 = .ok (.aload_n 0, 1) := by decide +kernel
theorem dX12_holdFor_26 : decode cX12_holdFor 26 = .ok (.ldc 161, 2) := by decide +kernel
theorem dX12_holdFor_28 : decode cX12_holdFor 28 = .ok (.invokevirtual 51, 3) := by decide +kernel
theorem dX12_holdFor_31 : decode cX12_holdFor 31 = .ok (.ireturn, 1) := by decide +kernel
theorem dX12_holdFor_32 : decode cX12_holdFor 32 = .ok (.aload_n 0, 1) := by decide +kernel
theorem dX12_holdFor_33 : decode cX12_holdFor 33 = .ok (.getfield 7, 3) := by decide +kernel
theorem dX12_holdFor_36 : decode cX12_holdFor 36 = .ok (.bipush 9, 2) := by decide +kernel
theorem dX12_holdFor_38 : decode cX12_holdFor 38 = .ok (.iaload, 1) := by decide +kernel
theorem dX12_holdFor_39 : decode cX12_holdFor 39 = .ok (.istore_n 2, 1) := by decide +kernel
theorem dX12_holdFor_40 : decode cX12_holdFor 40 = .ok (.iconst 1, 1) := by decide +kernel
theorem dX12_holdFor_41 : decode cX12_holdFor 41 = .ok (.istore_n 3, 1) := by decide +kernel
theorem dX12_holdFor_42 : decode cX12_holdFor 42 = .ok (.aload_n 0, 1) := by decide +kernel
theorem dX12_holdFor_43 : decode cX12_holdFor 43 = .ok (.getfield 7, 3) := by decide +kernel
theorem dX12_holdFor_46 : decode cX12_holdFor 46 = .ok (.bipush 9, 2) := by decide +kernel
theorem dX12_holdFor_48 : decode cX12_holdFor 48 = .ok (.iload_n 3, 1) := by decide +kernel
theorem dX12_holdFor_49 : decode cX12_holdFor 49 = .ok (.iastore, 1) := by decide +kernel
theorem dX12_holdFor_50 : decode cX12_holdFor 50 = .ok (.iload_n 3, 1) := by decide +kernel
theorem dX12_holdFor_51 : decode cX12_holdFor 51 = .ok (.sipush 300, 3) := by decide +kernel
theorem dX12_holdFor_54 : decode cX12_holdFor 54 = .ok (.if_icmp .gt 31, 3) := by decide +kernel
theorem dX12_holdFor_57 : decode cX12_holdFor 57 = .ok (.aload_n 0, 1) := by decide +kernel
theorem dX12_holdFor_58 : decode cX12_holdFor 58 = .ok (.iload_n 1, 1) := by decide +kernel
theorem dX12_holdFor_59 : decode cX12_holdFor 59 = .ok (.aload_n 0, 1) := by decide +kernel
theorem dX12_holdFor_60 : decode cX12_holdFor 60 = .ok (.getfield 7, 3) := by decide +kernel
theorem dX12_holdFor_63 : decode cX12_holdFor 63 = .ok (.iconst 0, 1) := by decide +kernel
theorem dX12_holdFor_64 : decode cX12_holdFor 64 = .ok (.iaload, 1) := by decide +kernel
theorem dX12_holdFor_65 : decode cX12_holdFor 65 = .ok (.invokevirtual 181, 3) := by decide +kernel
theorem dX12_holdFor_68 : decode cX12_holdFor 68 = .ok (.ifCond .ne 17, 3) := by decide +kernel
theorem dX12_holdFor_71 : decode cX12_holdFor 71 = .ok (.iinc 3 1, 3) := by decide +kernel
theorem dX12_holdFor_74 : decode cX12_holdFor 74 = .ok (.aload_n 0, 1) := by decide +kernel
theorem dX12_holdFor_75 : decode cX12_holdFor 75 = .ok (.getfield 7, 3) := by decide +kernel
theorem dX12_holdFor_78 : decode cX12_holdFor 78 = .ok (.bipush 9, 2) := by decide +kernel
theorem dX12_holdFor_80 : decode cX12_holdFor 80 = .ok (.iload_n 3, 1) := by decide +kernel
theorem dX12_holdFor_81 : decode cX12_holdFor 81 = .ok (.iastore, 1) := by decide +kernel
theorem dX12_holdFor_82 : decode cX12_holdFor 82 = .ok (.goto (-32), 3) := by decide +kernel
theorem dX12_holdFor_85 : decode cX12_holdFor 85 = .ok (.aload_n 0, 1) := by decide +kernel
theorem dX12_holdFor_86 : decode cX12_holdFor 86 = .ok (.getfield 7, 3) := by decide +kernel
theorem dX12_holdFor_89 : decode cX12_holdFor 89 = .ok (.bipush 9, 2) := by decide +kernel
theorem dX12_holdFor_91 : decode cX12_holdFor 91 = .ok (.iload_n 2, 1) := by decide +kernel
theorem dX12_holdFor_92 : decode cX12_holdFor 92 = .ok (.iastore, 1) := by decide +kernel
theorem dX12_holdFor_93 : decode cX12_holdFor 93 = .ok (.iload_n 3, 1) := by decide +kernel
theorem dX12_holdFor_94 : decode cX12_holdFor 94 = .ok (.sipush 300, 3) := by decide +kernel
theorem dX12_holdFor_97 : decode cX12_holdFor 97 = .ok (.if_icmp .le 12, 3) := by decide +kernel
theorem dX12_holdFor_100 : decode cX12_holdFor 100 = .ok (.aload_n 0, 1) := by decide +kernel
theorem dX12_holdFor_101 : decode cX12_holdFor 101 = .ok (.ldc 184, 2) := by decide +kernel
theorem dX12_holdFor_103 : decode cX12_holdFor 103 = .ok (.invokevirtual 51, 3) := by decide +kernel
theorem dX12_holdFor_106 : decode cX12_holdFor 106 = .ok (.goto 4, 3) := by decide +kernel
theorem dX12_holdFor_109 : decode cX12_holdFor 109 = .ok (.iload_n 3, 1) := by decide +kernel
theorem dX12_holdFor_110 : decode cX12_holdFor 110 = .ok (.ireturn, 1) := by decide +kernel
theorem dX12_fastest_0 : decode cX12_fastest 0 = .ok (.iload_n 1, 1) := by decide +kernel
theorem dX12_fastest_1 : decode cX12_fastest 1 = .ok (.iconst 0, 1) := by decide +kernel
theorem dX12_fastest_2 : decode cX12_fastest 2 = .ok (.iconst 1, 1) := by decide +kernel
theorem dX12_fastest_3 : decode cX12_fastest 3 = .ok (.invokestatic 38, 3) := by decide +kernel
theorem dX12_fastest_6 : decode cX12_fastest 6 = .ok (.ifCond .ne 10, 3) := by decide +kernel
theorem dX12_fastest_9 : decode cX12_fastest 9 = .ok (.aload_n 0, 1) := by decide +kernel
theorem dX12_fastest_10 : decode cX12_fastest 10 = .ok (.ldc 50, 2) := by decide +kernel
theorem dX12_fastest_12 : decode cX12_fastest 12 = .ok (.invokevirtual 51, 3) := by decide +kernel
theorem dX12_fastest_15 : decode cX12_fastest 15 = .ok (.ireturn, 1) := by decide +kernel
theorem dX12_fastest_16 : decode cX12_fastest 16 = .ok (.iconst (-1), 1) := by decide +kernel
theorem dX12_fastest_17 : decode cX12_fastest 17 = .ok (.istore_n 2, 1) := by decide +kernel
theorem dX12_fastest_18 : decode cX12_fastest 18 = .ok (.iconst 0, 1) := by decide +kernel
theorem dX12_fastest_19 : decode cX12_fastest 19 = .ok (.istore_n 3, 1) := by decide +kernel
theorem dX12_fastest_20 : decode cX12_fastest 20 = .ok (.iconst 0, 1) := by decide +kernel
theorem dX12_fastest_21 : decode cX12_fastest 21 = .ok (.istore 4, 2) := by decide +kernel
theorem dX12_fastest_23 : decode cX12_fastest 23 = .ok (.iload 4, 2) := by decide +kernel
theorem dX12_fastest_25 : decode cX12_fastest 25 = .ok (.aload_n 0, 1) := by decide +kernel
theorem dX12_fastest_26 : decode cX12_fastest 26 = .ok (.getfield 7, 3) := by decide +kernel
theorem dX12_fastest_29 : decode cX12_fastest 29 = .ok (.iconst 2, 1) := by decide +kernel
theorem dX12_fastest_30 : decode cX12_fastest 30 = .ok (.iaload, 1) := by decide +kernel
theorem dX12_fastest_31 : decode cX12_fastest 31 = .ok (.if_icmp .ge 58, 3) := by decide +kernel
theorem dX12_fastest_34 : decode cX12_fastest 34 = .ok (.aload_n 0, 1) := by decide +kernel
theorem dX12_fastest_35 : decode cX12_fastest 35 = .ok (.iload 4, 2) := by decide +kernel
theorem dX12_fastest_37 : decode cX12_fastest 37 = .ok (.iconst 4, 1) := by decide +kernel
theorem dX12_fastest_38 : decode cX12_fastest 38 = .ok (.invokevirtual 64, 3) := by decide +kernel
theorem dX12_fastest_41 : decode cX12_fastest 41 = .ok (.ifCond .ne 42, 3) := by decide +kernel
theorem dX12_fastest_44 : decode cX12_fastest 44 = .ok (.aload_n 0, 1) := by decide +kernel
theorem dX12_fastest_45 : decode cX12_fastest 45 = .ok (.iload 4, 2) := by decide +kernel
theorem dX12_fastest_47 : decode cX12_fastest 47 = .ok (.aload_n 0, 1) := by decide +kernel
theorem dX12_fastest_48 : decode cX12_fastest 48 = .ok (.getfield 7, 3) := by decide +kernel
theorem dX12_fastest_51 : decode cX12_fastest 51 = .ok (.iconst 0, 1) := by decide +kernel
theorem dX12_fastest_52 : decode cX12_fastest 52 = .ok (.iaload, 1) := by decide +kernel
theorem dX12_fastest_53 : decode cX12_fastest 53 = .ok (.invokevirtual 181, 3) := by decide +kernel
theorem dX12_fastest_56 : decode cX12_fastest 56 = .ok (.ifCond .eq 27, 3) := by decide +kernel
theorem dX12_fastest_59 : decode cX12_fastest 59 = .ok (.iload_n 2, 1) := by decide +kernel
theorem dX12_fastest_60 : decode cX12_fastest 60 = .ok (.ifCond .lt 13, 3) := by decide +kernel
theorem dX12_fastest_63 : decode cX12_fastest 63 = .ok (.aload_n 0, 1) := by decide +kernel
theorem dX12_fastest_64 : decode cX12_fastest 64 = .ok (.iload 4, 2) := by decide +kernel
theorem dX12_fastest_66 : decode cX12_fastest 66 = .ok (.invokevirtual 178, 3) := by decide +kernel
theorem dX12_fastest_69 : decode cX12_fastest 69 = .ok (.iload_n 3, 1) := by decide +kernel
theorem dX12_fastest_70 : decode cX12_fastest 70 = .ok (.if_icmp .ge 13, 3) := by decide +kernel
theorem dX12_fastest_73 : decode cX12_fastest 73 = .ok (.iload 4, 2) := by decide +kernel
theorem dX12_fastest_75 : decode cX12_fastest 75 = .ok (.istore_n 2, 1) := by decide +kernel
theorem dX12_fastest_76 : decode cX12_fastest 76 = .ok (.aload_n 0, 1) := by decide +kernel
theorem dX12_fastest_77 : decode cX12_fastest 77 = .ok (.iload 4, 2) := by decide +kernel
theorem dX12_fastest_79 : decode cX12_fastest 79 = .ok (.invokevirtual 178, 3) := by decide +kernel
theorem dX12_fastest_82 : decode cX12_fastest 82 = .ok (.istore_n 3, 1) := by decide +kernel
theorem dX12_fastest_83 : decode cX12_fastest 83 = .ok (.iinc 4 1, 3) := by decide +kernel
theorem dX12_fastest_86 : decode cX12_fastest 86 = .ok (.goto (-63), 3) := by decide +kernel
theorem dX12_fastest_89 : decode cX12_fastest 89 = .ok (.iload_n 2, 1) := by decide +kernel
theorem dX12_fastest_90 : decode cX12_fastest 90 = .ok (.ifCond .ge 10, 3) := by decide +kernel
theorem dX12_fastest_93 : decode cX12_fastest 93 = .ok (.aload_n 0, 1) := by decide +kernel
theorem dX12_fastest_94 : decode cX12_fastest 94 = .ok (.ldc 184, 2) := by decide +kernel
theorem dX12_fastest_96 : decode cX12_fastest 96 = .ok (.invokevirtual 51, 3) := by decide +kernel
theorem dX12_fastest_99 : decode cX12_fastest 99 = .ok (.ireturn, 1) := by decide +kernel
theorem dX12_fastest_100 : decode cX12_fastest 100 = .ok (.iload_n 1, 1) := by decide +kernel
theorem dX12_fastest_101 : decode cX12_fastest 101 = .ok (.ifCond .ne 7, 3) := by decide +kernel
theorem dX12_fastest_104 : decode cX12_fastest 104 = .ok (.iload_n 2, 1) := by decide +kernel
theorem dX12_fastest_105 : decode cX12_fastest 105 = .ok (.goto 4, 3) := by decide +kernel
theorem dX12_fastest_108 : decode cX12_fastest 108 = .ok (.iload_n 3, 1) := by decide +kernel
theorem dX12_fastest_109 : decode cX12_fastest 109 = .ok (.ireturn, 1) := by decide +kernel
theorem dX12_figuresFor_0 : decode cX12_figuresFor 0 = .ok (.iload_n 1, 1) := by decide +kernel
theorem dX12_figuresFor_1 : decode cX12_figuresFor 1 = .ok (.iconst 1, 1) := by decide +kernel
theorem dX12_figuresFor_2 : decode cX12_figuresFor 2 = .ok (.ldc 174, 2) := by decide +kernel
theorem dX12_figuresFor_4 : decode cX12_figuresFor 4 = .ok (.invokestatic 38, 3) := by decide +kernel
theorem dX12_figuresFor_7 : decode cX12_figuresFor 7 = .ok (.ifCond .ne 10, 3) := by decide +kernel
theorem dX12_figuresFor_10 : decode cX12_figuresFor 10 = .ok (.aload_n 0, 1) := by decide +kernel
theorem dX12_figuresFor_11 : decode cX12_figuresFor 11 = .ok (.ldc 50, 2) := by decide +kernel
theorem dX12_figuresFor_13 : decode cX12_figuresFor 13 = .ok (.invokevirtual 51, 3) := by decide +kernel
theorem dX12_figuresFor_16 : decode cX12_figuresFor 16 = .ok (.ireturn, 1) := by decide +kernel
theorem dX12_figuresFor_17 : decode cX12_figuresFor 17 = .ok (.bipush 10, 2) := by decide +kernel
theorem dX12_figuresFor_19 : decode cX12_figuresFor 19 = .ok (.istore_n 2, 1) := by decide +kernel
theorem dX12_figuresFor_20 : decode cX12_figuresFor 20 = .ok (.iconst 1, 1) := by decide +kernel
theorem dX12_figuresFor_21 : decode cX12_figuresFor 21 = .ok (.istore_n 3, 1) := by decide +kernel
theorem dX12_figuresFor_22 : decode cX12_figuresFor 22 = .ok (.iload_n 3, 1) := by decide +kernel
theorem dX12_figuresFor_23 : decode cX12_figuresFor 23 = .ok (.bipush 6, 2) := by decide +kernel
theorem dX12_figuresFor_25 : decode cX12_figuresFor 25 = .ok (.if_icmp .gt 27, 3) := by decide +kernel
theorem dX12_figuresFor_28 : decode cX12_figuresFor 28 = .ok (.aload_n 0, 1) := by decide +kernel
theorem dX12_figuresFor_29 : decode cX12_figuresFor 29 = .ok (.getfield 7, 3) := by decide +kernel
theorem dX12_figuresFor_32 : decode cX12_figuresFor 32 = .ok (.bipush 10, 2) := by decide +kernel
theorem dX12_figuresFor_34 : decode cX12_figuresFor 34 = .ok (.iaload, 1) := by decide +kernel
theorem dX12_figuresFor_35 : decode cX12_figuresFor 35 = .ok (.iload_n 1, 1) := by decide +kernel
theorem dX12_figuresFor_36 : decode cX12_figuresFor 36 = .ok (.imul, 1) := by decide +kernel
theorem dX12_figuresFor_37 : decode cX12_figuresFor 37 = .ok (.iload_n 2, 1) := by decide +kernel
theorem dX12_figuresFor_38 : decode cX12_figuresFor 38 = .ok (.if_icmp .le 14, 3) := by decide +kernel
theorem dX12_figuresFor_41 : decode cX12_figuresFor 41 = .ok (.iload_n 2, 1) := by decide +kernel
theorem dX12_figuresFor_42 : decode cX12_figuresFor 42 = .ok (.bipush 10, 2) := by decide +kernel
theorem dX12_figuresFor_44 : decode cX12_figuresFor 44 = .ok (.imul, 1) := by decide +kernel
theorem dX12_figuresFor_45 : decode cX12_figuresFor 45 = .ok (.istore_n 2, 1) := by decide +kernel
theorem dX12_figuresFor_46 : decode cX12_figuresFor 46 = .ok (.iinc 3 1, 3) := by decide +kernel
theorem dX12_figuresFor_49 : decode cX12_figuresFor 49 = .ok (.goto (-27), 3) := by decide +kernel
theorem dX12_figuresFor_52 : decode cX12_figuresFor 52 = .ok (.iload_n 3, 1) := by decide +kernel
theorem dX12_figuresFor_53 : decode cX12_figuresFor 53 = .ok (.bipush 6, 2) := by decide +kernel
theorem dX12_figuresFor_55 : decode cX12_figuresFor 55 = .ok (.if_icmp .le 12, 3) := by decide +kernel
theorem dX12_figuresFor_58 : decode cX12_figuresFor 58 = .ok (.aload_n 0, 1) := by decide +kernel
theorem dX12_figuresFor_59 : decode cX12_figuresFor 59 = .ok (.ldc 184, 2) := by decide +kernel
theorem dX12_figuresFor_61 : decode cX12_figuresFor 61 = .ok (.invokevirtual 51, 3) := by decide +kernel
theorem dX12_figuresFor_64 : decode cX12_figuresFor 64 = .ok (.goto 4, 3) := by decide +kernel
theorem dX12_figuresFor_67 : decode cX12_figuresFor 67 = .ok (.iload_n 3, 1) := by decide +kernel
theorem dX12_figuresFor_68 : decode cX12_figuresFor 68 = .ok (.ireturn, 1) := by decide +kernel
theorem dX12_counting_0 : decode cX12_counting 0 = .ok (.iconst 0, 1) := by decide +kernel
theorem dX12_counting_1 : decode cX12_counting 1 = .ok (.istore_n 1, 1) := by decide +kernel
theorem dX12_counting_2 : decode cX12_counting 2 = .ok (.iconst 0, 1) := by decide +kernel
theorem dX12_counting_3 : decode cX12_counting 3 = .ok (.istore_n 2, 1) := by decide +kernel
theorem dX12_counting_4 : decode cX12_counting 4 = .ok (.iload_n 2, 1) := by decide +kernel
theorem dX12_counting_5 : decode cX12_counting 5 = .ok (.aload_n 0, 1) := by decide +kernel
theorem dX12_counting_6 : decode cX12_counting 6 = .ok (.getfield 7, 3) := by decide +kernel
theorem dX12_counting_9 : decode cX12_counting 9 = .ok (.bipush 7, 2) := by decide +kernel
theorem dX12_counting_11 : decode cX12_counting 11 = .ok (.iaload, 1) := by decide +kernel
theorem dX12_counting_12 : decode cX12_counting 12 = .ok (.if_icmp .ge 27, 3) := by decide +kernel
theorem dX12_counting_15 : decode cX12_counting 15 = .ok (.iload_n 1, 1) := by decide +kernel
theorem dX12_counting_16 : decode cX12_counting 16 = .ok (.aload_n 0, 1) := by decide +kernel
theorem dX12_counting_17 : decode cX12_counting 17 = .ok (.iload_n 2, 1) := by decide +kernel
theorem dX12_counting_18 : decode cX12_counting 18 = .ok (.invokevirtual 171, 3) := by decide +kernel
theorem dX12_counting_21 : decode cX12_counting 21 = .ok (.ifCond .eq 9, 3) := by decide +kernel
theorem dX12_counting_24 : decode cX12_counting 24 = .ok (.iconst 1, 1) := by decide +kernel
theorem dX12_counting_25 : decode cX12_counting 25 = .ok (.iload_n 2, 1) := by decide +kernel
theorem dX12_counting_26 : decode cX12_counting 26 = .ok (.ishl, 1) := by decide +kernel
theorem dX12_counting_27 : decode cX12_counting 27 = .ok (.goto 4, 3) := by decide +kernel
theorem dX12_counting_30 : decode cX12_counting 30 = .ok (.iconst 0, 1) := by decide +kernel
theorem dX12_counting_31 : decode cX12_counting 31 = .ok (.ior, 1) := by decide +kernel
theorem dX12_counting_32 : decode cX12_counting 32 = .ok (.istore_n 1, 1) := by decide +kernel
theorem dX12_counting_33 : decode cX12_counting 33 = .ok (.iinc 2 1, 3) := by decide +kernel
theorem dX12_counting_36 : decode cX12_counting 36 = .ok (.goto (-32), 3) := by decide +kernel
theorem dX12_counting_39 : decode cX12_counting 39 = .ok (.iload_n 1, 1) := by decide +kernel
theorem dX12_counting_40 : decode cX12_counting 40 = .ok (.ireturn, 1) := by decide +kernel
theorem dX12_crossed_0 : decode cX12_crossed 0 = .ok (.iconst 0, 1) := by decide +kernel
theorem dX12_crossed_1 : decode cX12_crossed 1 = .ok (.istore_n 1, 1) := by decide +kernel
theorem dX12_crossed_2 : decode cX12_crossed 2 = .ok (.iconst 0, 1) := by decide +kernel
theorem dX12_crossed_3 : decode cX12_crossed 3 = .ok (.istore_n 2, 1) := by decide +kernel
theorem dX12_crossed_4 : decode cX12_crossed 4 = .ok (.iload_n 2, 1) := by decide +kernel
theorem dX12_crossed_5 : decode cX12_crossed 5 = .ok (.aload_n 0, 1) := by decide +kernel
theorem dX12_crossed_6 : decode cX12_crossed 6 = .ok (.getfield 7, 3) := by decide +kernel
theorem dX12_crossed_9 : decode cX12_crossed 9 = .ok (.bipush 7, 2) := by decide +kernel
theorem dX12_crossed_11 : decode cX12_crossed 11 = .ok (.iaload, 1) := by decide +kernel
theorem dX12_crossed_12 : decode cX12_crossed 12 = .ok (.if_icmp .ge 66, 3) := by decide +kernel
theorem dX12_crossed_15 : decode cX12_crossed 15 = .ok (.iconst 0, 1) := by decide +kernel
theorem dX12_crossed_16 : decode cX12_crossed 16 = .ok (.istore_n 3, 1) := by decide +kernel
theorem dX12_crossed_17 : decode cX12_crossed 17 = .ok (.iload_n 3, 1) := by decide +kernel
theorem dX12_crossed_18 : decode cX12_crossed 18 = .ok (.aload_n 0, 1) := by decide +kernel
theorem dX12_crossed_19 : decode cX12_crossed 19 = .ok (.getfield 7, 3) := by decide +kernel
theorem dX12_crossed_22 : decode cX12_crossed 22 = .ok (.bipush 7, 2) := by decide +kernel
theorem dX12_crossed_24 : decode cX12_crossed 24 = .ok (.iaload, 1) := by decide +kernel
theorem dX12_crossed_25 : decode cX12_crossed 25 = .ok (.if_icmp .ge 47, 3) := by decide +kernel
theorem dX12_crossed_28 : decode cX12_crossed 28 = .ok (.iload_n 1, 1) := by decide +kernel
theorem dX12_crossed_29 : decode cX12_crossed 29 = .ok (.aload_n 0, 1) := by decide +kernel
theorem dX12_crossed_30 : decode cX12_crossed 30 = .ok (.iload_n 2, 1) := by decide +kernel
theorem dX12_crossed_31 : decode cX12_crossed 31 = .ok (.iconst 2, 1) := by decide +kernel
theorem dX12_crossed_32 : decode cX12_crossed 32 = .ok (.invokevirtual 165, 3) := by decide +kernel
theorem dX12_crossed_35 : decode cX12_crossed 35 = .ok (.aload_n 0, 1) := by decide +kernel
theorem dX12_crossed_36 : decode cX12_crossed 36 = .ok (.iload_n 3, 1) := by decide +kernel
theorem dX12_crossed_37 : decode cX12_crossed 37 = .ok (.iconst 2, 1) := by decide +kernel
theorem dX12_crossed_38 : decode cX12_crossed 38 = .ok (.invokevirtual 165, 3) := by decide +kernel
theorem dX12_crossed_41 : decode cX12_crossed 41 = .ok (.if_icmp .ge 22, 3) := by decide +kernel
theorem dX12_crossed_44 : decode cX12_crossed 44 = .ok (.aload_n 0, 1) := by decide +kernel
theorem dX12_crossed_45 : decode cX12_crossed 45 = .ok (.iload_n 2, 1) := by decide +kernel
theorem dX12_crossed_46 : decode cX12_crossed 46 = .ok (.iconst 3, 1) := by decide +kernel
theorem dX12_crossed_47 : decode cX12_crossed 47 = .ok (.invokevirtual 165, 3) := by decide +kernel
theorem dX12_crossed_50 : decode cX12_crossed 50 = .ok (.aload_n 0, 1) := by decide +kernel
theorem dX12_crossed_51 : decode cX12_crossed 51 = .ok (.iload_n 3, 1) := by decide +kernel
theorem dX12_crossed_52 : decode cX12_crossed 52 = .ok (.iconst 3, 1) := by decide +kernel
theorem dX12_crossed_53 : decode cX12_crossed 53 = .ok (.invokevirtual 165, 3) := by decide +kernel
theorem dX12_crossed_56 : decode cX12_crossed 56 = .ok (.if_icmp .le 7, 3) := by decide +kernel
theorem dX12_crossed_59 : decode cX12_crossed 59 = .ok (.iconst 1, 1) := by decide +kernel
theorem dX12_crossed_60 : decode cX12_crossed 60 = .ok (.goto 4, 3) := by decide +kernel
theorem dX12_crossed_63 : decode cX12_crossed 63 = .ok (.iconst 0, 1) := by decide +kernel
theorem dX12_crossed_64 : decode cX12_crossed 64 = .ok (.iadd, 1) := by decide +kernel
theorem dX12_crossed_65 : decode cX12_crossed 65 = .ok (.istore_n 1, 1) := by decide +kernel
theorem dX12_crossed_66 : decode cX12_crossed 66 = .ok (.iinc 3 1, 3) := by decide +kernel
theorem dX12_crossed_69 : decode cX12_crossed 69 = .ok (.goto (-52), 3) := by decide +kernel
theorem dX12_crossed_72 : decode cX12_crossed 72 = .ok (.iinc 2 1, 3) := by decide +kernel
theorem dX12_crossed_75 : decode cX12_crossed 75 = .ok (.goto (-71), 3) := by decide +kernel
theorem dX12_crossed_78 : decode cX12_crossed 78 = .ok (.iload_n 1, 1) := by decide +kernel
theorem dX12_crossed_79 : decode cX12_crossed 79 = .ok (.ireturn, 1) := by decide +kernel
theorem dX12_leftBut_0 : decode cX12_leftBut 0 = .ok (.iconst 0, 1) := by decide +kernel
theorem dX12_leftBut_1 : decode cX12_leftBut 1 = .ok (.istore_n 2, 1) := by decide +kernel
theorem dX12_leftBut_2 : decode cX12_leftBut 2 = .ok (.iconst 0, 1) := by decide +kernel
theorem dX12_leftBut_3 : decode cX12_leftBut 3 = .ok (.istore_n 3, 1) := by decide +kernel
theorem dX12_leftBut_4 : decode cX12_leftBut 4 = .ok (.iload_n 3, 1) := by decide +kernel
theorem dX12_leftBut_5 : decode cX12_leftBut 5 = .ok (.aload_n 0, 1) := by decide +kernel
theorem dX12_leftBut_6 : decode cX12_leftBut 6 = .ok (.getfield 7, 3) := by decide +kernel
theorem dX12_leftBut_9 : decode cX12_leftBut 9 = .ok (.iconst 2, 1) := by decide +kernel
theorem dX12_leftBut_10 : decode cX12_leftBut 10 = .ok (.iaload, 1) := by decide +kernel
theorem dX12_leftBut_11 : decode cX12_leftBut 11 = .ok (.if_icmp .ge 39, 3) := by decide +kernel
theorem dX12_leftBut_14 : decode cX12_leftBut 14 = .ok (.iload_n 2, 1) := by decide +kernel
theorem dX12_leftBut_15 : decode cX12_leftBut 15 = .ok (.aload_n 0, 1) := by decide +kernel
theorem dX12_leftBut_16 : decode cX12_leftBut 16 = .ok (.iload_n 3, 1) := by decide +kernel
theorem dX12_leftBut_17 : decode cX12_leftBut 17 = .ok (.iconst 4, 1) := by decide +kernel
theorem dX12_leftBut_18 : decode cX12_leftBut 18 = .ok (.invokevirtual 64, 3) := by decide +kernel
theorem dX12_leftBut_21 : decode cX12_leftBut 21 = .ok (.ifCond .ne 20, 3) := by decide +kernel
theorem dX12_leftBut_24 : decode cX12_leftBut 24 = .ok (.iload_n 1, 1) := by decide +kernel
theorem dX12_leftBut_25 : decode cX12_leftBut 25 = .ok (.aload_n 0, 1) := by decide +kernel
theorem dX12_leftBut_26 : decode cX12_leftBut 26 = .ok (.iload_n 3, 1) := by decide +kernel
theorem dX12_leftBut_27 : decode cX12_leftBut 27 = .ok (.iconst 3, 1) := by decide +kernel
theorem dX12_leftBut_28 : decode cX12_leftBut 28 = .ok (.invokevirtual 64, 3) := by decide +kernel
theorem dX12_leftBut_31 : decode cX12_leftBut 31 = .ok (.ishr, 1) := by decide +kernel
theorem dX12_leftBut_32 : decode cX12_leftBut 32 = .ok (.iconst 1, 1) := by decide +kernel
theorem dX12_leftBut_33 : decode cX12_leftBut 33 = .ok (.iand, 1) := by decide +kernel
theorem dX12_leftBut_34 : decode cX12_leftBut 34 = .ok (.ifCond .ne 7, 3) := by decide +kernel
theorem dX12_leftBut_37 : decode cX12_leftBut 37 = .ok (.iconst 1, 1) := by decide +kernel
theorem dX12_leftBut_38 : decode cX12_leftBut 38 = .ok (.goto 4, 3) := by decide +kernel
theorem dX12_leftBut_41 : decode cX12_leftBut 41 = .ok (.iconst 0, 1) := by decide +kernel
theorem dX12_leftBut_42 : decode cX12_leftBut 42 = .ok (.iadd, 1) := by decide +kernel
theorem dX12_leftBut_43 : decode cX12_leftBut 43 = .ok (.istore_n 2, 1) := by decide +kernel
theorem dX12_leftBut_44 : decode cX12_leftBut 44 = .ok (.iinc 3 1, 3) := by decide +kernel
theorem dX12_leftBut_47 : decode cX12_leftBut 47 = .ok (.goto (-43), 3) := by decide +kernel
theorem dX12_leftBut_50 : decode cX12_leftBut 50 = .ok (.iload_n 2, 1) := by decide +kernel
theorem dX12_leftBut_51 : decode cX12_leftBut 51 = .ok (.ireturn, 1) := by decide +kernel
theorem dX12_atOnce_0 : decode cX12_atOnce 0 = .ok (.iload_n 1, 1) := by decide +kernel
theorem dX12_atOnce_1 : decode cX12_atOnce 1 = .ok (.iconst 0, 1) := by decide +kernel
theorem dX12_atOnce_2 : decode cX12_atOnce 2 = .ok (.bipush 6, 2) := by decide +kernel
theorem dX12_atOnce_4 : decode cX12_atOnce 4 = .ok (.invokestatic 38, 3) := by decide +kernel
theorem dX12_atOnce_7 : decode cX12_atOnce 7 = .ok (.ifCond .eq 12, 3) := by decide +kernel
theorem dX12_atOnce_10 : decode cX12_atOnce 10 = .ok (.iload_n 2, 1) := by decide +kernel
theorem dX12_atOnce_11 : decode cX12_atOnce 11 = .ok (.iconst 0, 1) := by decide +kernel
theorem dX12_atOnce_12 : decode cX12_atOnce 12 = .ok (.iconst 1, 1) := by decide +kernel
theorem dX12_atOnce_13 : decode cX12_atOnce 13 = .ok (.invokestatic 38, 3) := by decide +kernel
theorem dX12_atOnce_16 : decode cX12_atOnce 16 = .ok (.ifCond .ne 10, 3) := by decide +kernel
theorem dX12_atOnce_19 : decode cX12_atOnce 19 = .ok (.aload_n 0, 1) := by decide +kernel
theorem dX12_atOnce_20 : decode cX12_atOnce 20 = .ok (.ldc 50, 2) := by decide +kernel
theorem dX12_atOnce_22 : decode cX12_atOnce 22 = .ok (.invokevirtual 51, 3) := by decide +kernel
theorem dX12_atOnce_25 : decode cX12_atOnce 25 = .ok (.ireturn, 1) := by decide +kernel
theorem dX12_atOnce_26 : decode cX12_atOnce 26 = .ok (.bipush 63, 2) := by decide +kernel
theorem dX12_atOnce_28 : decode cX12_atOnce 28 = .ok (.istore_n 3, 1) := by decide +kernel
theorem dX12_atOnce_29 : decode cX12_atOnce 29 = .ok (.iload_n 3, 1) := by decide +kernel
theorem dX12_atOnce_30 : decode cX12_atOnce 30 = .ok (.istore 4, 2) := by decide +kernel
theorem dX12_atOnce_32 : decode cX12_atOnce 32 = .ok (.iload 4, 2) := by decide +kernel
theorem dX12_atOnce_34 : decode cX12_atOnce 34 = .ok (.ifCond .lt 38, 3) := by decide +kernel
theorem dX12_atOnce_37 : decode cX12_atOnce 37 = .ok (.aload_n 0, 1) := by decide +kernel
theorem dX12_atOnce_38 : decode cX12_atOnce 38 = .ok (.iload 4, 2) := by decide +kernel
theorem dX12_atOnce_40 : decode cX12_atOnce 40 = .ok (.invokevirtual 185, 3) := by decide +kernel
theorem dX12_atOnce_43 : decode cX12_atOnce 43 = .ok (.iload_n 1, 1) := by decide +kernel
theorem dX12_atOnce_44 : decode cX12_atOnce 44 = .ok (.if_icmp .gt 20, 3) := by decide +kernel
theorem dX12_atOnce_47 : decode cX12_atOnce 47 = .ok (.iload 4, 2) := by decide +kernel
theorem dX12_atOnce_49 : decode cX12_atOnce 49 = .ok (.invokestatic 188, 3) := by decide +kernel
theorem dX12_atOnce_52 : decode cX12_atOnce 52 = .ok (.iload_n 3, 1) := by decide +kernel
theorem dX12_atOnce_53 : decode cX12_atOnce 53 = .ok (.invokestatic 188, 3) := by decide +kernel
theorem dX12_atOnce_56 : decode cX12_atOnce 56 = .ok (.if_icmp .gt 8, 3) := by decide +kernel
theorem dX12_atOnce_59 : decode cX12_atOnce 59 = .ok (.iload 4, 2) := by decide +kernel
theorem dX12_atOnce_61 : decode cX12_atOnce 61 = .ok (.goto 4, 3) := by decide +kernel
theorem dX12_atOnce_64 : decode cX12_atOnce 64 = .ok (.iload_n 3, 1) := by decide +kernel
theorem dX12_atOnce_65 : decode cX12_atOnce 65 = .ok (.istore_n 3, 1) := by decide +kernel
theorem dX12_atOnce_66 : decode cX12_atOnce 66 = .ok (.iinc 4 (-1), 3) := by decide +kernel
theorem dX12_atOnce_69 : decode cX12_atOnce 69 = .ok (.goto (-37), 3) := by decide +kernel
theorem dX12_atOnce_72 : decode cX12_atOnce 72 = .ok (.iload_n 2, 1) := by decide +kernel
theorem dX12_atOnce_73 : decode cX12_atOnce 73 = .ok (.ifCond .ne 10, 3) := by decide +kernel
theorem dX12_atOnce_76 : decode cX12_atOnce 76 = .ok (.iload_n 3, 1) := by decide +kernel
theorem dX12_atOnce_77 : decode cX12_atOnce 77 = .ok (.invokestatic 188, 3) := by decide +kernel
theorem dX12_atOnce_80 : decode cX12_atOnce 80 = .ok (.goto 4, 3) := by decide +kernel
theorem dX12_atOnce_83 : decode cX12_atOnce 83 = .ok (.iload_n 3, 1) := by decide +kernel
theorem dX12_atOnce_84 : decode cX12_atOnce 84 = .ok (.ireturn, 1) := by decide +kernel
theorem dX12_together_0 : decode cX12_together 0 = .ok (.iconst 0, 1) := by decide +kernel
theorem dX12_together_1 : decode cX12_together 1 = .ok (.istore_n 1, 1) := by decide +kernel
theorem dX12_together_2 : decode cX12_together 2 = .ok (.iconst 0, 1) := by decide +kernel
theorem dX12_together_3 : decode cX12_together 3 = .ok (.istore_n 2, 1) := by decide +kernel
theorem dX12_together_4 : decode cX12_together 4 = .ok (.iconst 0, 1) := by decide +kernel
theorem dX12_together_5 : decode cX12_together 5 = .ok (.istore_n 3, 1) := by decide +kernel
theorem dX12_together_6 : decode cX12_together 6 = .ok (.iload_n 3, 1) := by decide +kernel
theorem dX12_together_7 : decode cX12_together 7 = .ok (.aload_n 0, 1) := by decide +kernel
theorem dX12_together_8 : decode cX12_together 8 = .ok (.getfield 7, 3) := by decide +kernel
theorem dX12_together_11 : decode cX12_together 11 = .ok (.iconst 2, 1) := by decide +kernel
theorem dX12_together_12 : decode cX12_together 12 = .ok (.iaload, 1) := by decide +kernel
theorem dX12_together_13 : decode cX12_together 13 = .ok (.if_icmp .ge 44, 3) := by decide +kernel
theorem dX12_together_16 : decode cX12_together 16 = .ok (.aload_n 0, 1) := by decide +kernel
theorem dX12_together_17 : decode cX12_together 17 = .ok (.iload_n 3, 1) := by decide +kernel
theorem dX12_together_18 : decode cX12_together 18 = .ok (.iconst 4, 1) := by decide +kernel
theorem dX12_together_19 : decode cX12_together 19 = .ok (.invokevirtual 64, 3) := by decide +kernel
theorem dX12_together_22 : decode cX12_together 22 = .ok (.ifCond .ne 14, 3) := by decide +kernel
theorem dX12_together_25 : decode cX12_together 25 = .ok (.iconst 1, 1) := by decide +kernel
theorem dX12_together_26 : decode cX12_together 26 = .ok (.aload_n 0, 1) := by decide +kernel
theorem dX12_together_27 : decode cX12_together 27 = .ok (.iload_n 3, 1) := by decide +kernel
theorem dX12_together_28 : decode cX12_together 28 = .ok (.iconst 3, 1) := by decide +kernel
theorem dX12_together_29 : decode cX12_together 29 = .ok (.invokevirtual 64, 3) := by decide +kernel
theorem dX12_together_32 : decode cX12_together 32 = .ok (.ishl, 1) := by decide +kernel
theorem dX12_together_33 : decode cX12_together 33 = .ok (.goto 4, 3) := by decide +kernel
theorem dX12_together_36 : decode cX12_together 36 = .ok (.iconst 0, 1) := by decide +kernel
theorem dX12_together_37 : decode cX12_together 37 = .ok (.istore 4, 2) := by decide +kernel
theorem dX12_together_39 : decode cX12_together 39 = .ok (.iload_n 2, 1) := by decide +kernel
theorem dX12_together_40 : decode cX12_together 40 = .ok (.iload_n 1, 1) := by decide +kernel
theorem dX12_together_41 : decode cX12_together 41 = .ok (.iload 4, 2) := by decide +kernel
theorem dX12_together_43 : decode cX12_together 43 = .ok (.iand, 1) := by decide +kernel
theorem dX12_together_44 : decode cX12_together 44 = .ok (.ior, 1) := by decide +kernel
theorem dX12_together_45 : decode cX12_together 45 = .ok (.istore_n 2, 1) := by decide +kernel
theorem dX12_together_46 : decode cX12_together 46 = .ok (.iload_n 1, 1) := by decide +kernel
theorem dX12_together_47 : decode cX12_together 47 = .ok (.iload 4, 2) := by decide +kernel
theorem dX12_together_49 : decode cX12_together 49 = .ok (.ior, 1) := by decide +kernel
theorem dX12_together_50 : decode cX12_together 50 = .ok (.istore_n 1, 1) := by decide +kernel
theorem dX12_together_51 : decode cX12_together 51 = .ok (.iinc 3 1, 3) := by decide +kernel
theorem dX12_together_54 : decode cX12_together 54 = .ok (.goto (-48), 3) := by decide +kernel
theorem dX12_together_57 : decode cX12_together 57 = .ok (.iload_n 2, 1) := by decide +kernel
theorem dX12_together_58 : decode cX12_together 58 = .ok (.ireturn, 1) := by decide +kernel
theorem dX12_waitFor_0 : decode cX12_waitFor 0 = .ok (.iconst (-1), 1) := by decide +kernel
theorem dX12_waitFor_1 : decode cX12_waitFor 1 = .ok (.istore_n 1, 1) := by decide +kernel
theorem dX12_waitFor_2 : decode cX12_waitFor 2 = .ok (.iconst 0, 1) := by decide +kernel
theorem dX12_waitFor_3 : decode cX12_waitFor 3 = .ok (.istore_n 2, 1) := by decide +kernel
theorem dX12_waitFor_4 : decode cX12_waitFor 4 = .ok (.iload_n 2, 1) := by decide +kernel
theorem dX12_waitFor_5 : decode cX12_waitFor 5 = .ok (.aload_n 0, 1) := by decide +kernel
theorem dX12_waitFor_6 : decode cX12_waitFor 6 = .ok (.getfield 7, 3) := by decide +kernel
theorem dX12_waitFor_9 : decode cX12_waitFor 9 = .ok (.bipush 7, 2) := by decide +kernel
theorem dX12_waitFor_11 : decode cX12_waitFor 11 = .ok (.iaload, 1) := by decide +kernel
theorem dX12_waitFor_12 : decode cX12_waitFor 12 = .ok (.if_icmp .ge 47, 3) := by decide +kernel
theorem dX12_waitFor_15 : decode cX12_waitFor 15 = .ok (.aload_n 0, 1) := by decide +kernel
theorem dX12_waitFor_16 : decode cX12_waitFor 16 = .ok (.iload_n 2, 1) := by decide +kernel
theorem dX12_waitFor_17 : decode cX12_waitFor 17 = .ok (.iconst 3, 1) := by decide +kernel
theorem dX12_waitFor_18 : decode cX12_waitFor 18 = .ok (.invokevirtual 165, 3) := by decide +kernel
theorem dX12_waitFor_21 : decode cX12_waitFor 21 = .ok (.aload_n 0, 1) := by decide +kernel
theorem dX12_waitFor_22 : decode cX12_waitFor 22 = .ok (.getfield 7, 3) := by decide +kernel
theorem dX12_waitFor_25 : decode cX12_waitFor 25 = .ok (.iconst 0, 1) := by decide +kernel
theorem dX12_waitFor_26 : decode cX12_waitFor 26 = .ok (.iaload, 1) := by decide +kernel
theorem dX12_waitFor_27 : decode cX12_waitFor 27 = .ok (.isub, 1) := by decide +kernel
theorem dX12_waitFor_28 : decode cX12_waitFor 28 = .ok (.istore_n 3, 1) := by decide +kernel
theorem dX12_waitFor_29 : decode cX12_waitFor 29 = .ok (.aload_n 0, 1) := by decide +kernel
theorem dX12_waitFor_30 : decode cX12_waitFor 30 = .ok (.iload_n 2, 1) := by decide +kernel
theorem dX12_waitFor_31 : decode cX12_waitFor 31 = .ok (.iconst 5, 1) := by decide +kernel
theorem dX12_waitFor_32 : decode cX12_waitFor 32 = .ok (.invokevirtual 165, 3) := by decide +kernel
theorem dX12_waitFor_35 : decode cX12_waitFor 35 = .ok (.ifCond .ne 18, 3) := by decide +kernel
theorem dX12_waitFor_38 : decode cX12_waitFor 38 = .ok (.iload_n 3, 1) := by decide +kernel
theorem dX12_waitFor_39 : decode cX12_waitFor 39 = .ok (.ifCond .le 14, 3) := by decide +kernel
theorem dX12_waitFor_42 : decode cX12_waitFor 42 = .ok (.iload_n 1, 1) := by decide +kernel
theorem dX12_waitFor_43 : decode cX12_waitFor 43 = .ok (.ifCond .lt 8, 3) := by decide +kernel
theorem dX12_waitFor_46 : decode cX12_waitFor 46 = .ok (.iload_n 3, 1) := by decide +kernel
theorem dX12_waitFor_47 : decode cX12_waitFor 47 = .ok (.iload_n 1, 1) := by decide +kernel
theorem dX12_waitFor_48 : decode cX12_waitFor 48 = .ok (.if_icmp .ge 5, 3) := by decide +kernel
theorem dX12_waitFor_51 : decode cX12_waitFor 51 = .ok (.iload_n 3, 1) := by decide +kernel
theorem dX12_waitFor_52 : decode cX12_waitFor 52 = .ok (.istore_n 1, 1) := by decide +kernel
theorem dX12_waitFor_53 : decode cX12_waitFor 53 = .ok (.iinc 2 1, 3) := by decide +kernel
theorem dX12_waitFor_56 : decode cX12_waitFor 56 = .ok (.goto (-52), 3) := by decide +kernel
theorem dX12_waitFor_59 : decode cX12_waitFor 59 = .ok (.iload_n 1, 1) := by decide +kernel
theorem dX12_waitFor_60 : decode cX12_waitFor 60 = .ok (.ifCond .ge 12, 3) := by decide +kernel
theorem dX12_waitFor_63 : decode cX12_waitFor 63 = .ok (.aload_n 0, 1) := by decide +kernel
theorem dX12_waitFor_64 : decode cX12_waitFor 64 = .ok (.ldc 184, 2) := by decide +kernel
theorem dX12_waitFor_66 : decode cX12_waitFor 66 = .ok (.invokevirtual 51, 3) := by decide +kernel
theorem dX12_waitFor_69 : decode cX12_waitFor 69 = .ok (.goto 4, 3) := by decide +kernel
theorem dX12_waitFor_72 : decode cX12_waitFor 72 = .ok (.iload_n 1, 1) := by decide +kernel
theorem dX12_waitFor_73 : decode cX12_waitFor 73 = .ok (.ireturn, 1) := by decide +kernel
theorem dX12_isSheet_0 : decode cX12_isSheet 0 = .ok (.iload_n 0, 1) := by decide +kernel
theorem dX12_isSheet_1 : decode cX12_isSheet 1 = .ok (.iconst 0, 1) := by decide +kernel
theorem dX12_isSheet_2 : decode cX12_isSheet 2 = .ok (.iconst 3, 1) := by decide +kernel
theorem dX12_isSheet_3 : decode cX12_isSheet 3 = .ok (.invokestatic 38, 3) := by decide +kernel
theorem dX12_isSheet_6 : decode cX12_isSheet 6 = .ok (.ireturn, 1) := by decide +kernel
theorem dX12_which_0 : decode cX12_which 0 = .ok (.iload_n 1, 1) := by decide +kernel
theorem dX12_which_1 : decode cX12_which 1 = .ok (.invokestatic 191, 3) := by decide +kernel
theorem dX12_which_4 : decode cX12_which 4 = .ok (.ifCond .ne 10, 3) := by decide +kernel
theorem dX12_which_7 : decode cX12_which 7 = .ok (.aload_n 0, 1) := by decide +kernel
theorem dX12_which_8 : decode cX12_which 8 = .ok (.ldc 50, 2) := by decide +kernel
theorem dX12_which_10 : decode cX12_which 10 = .ok (.invokevirtual 51, 3) := by decide +kernel
theorem dX12_which_13 : decode cX12_which 13 = .ok (.ireturn, 1) := by decide +kernel
theorem dX12_which_14 : decode cX12_which 14 = .ok (.aload_n 0, 1) := by decide +kernel
theorem dX12_which_15 : decode cX12_which 15 = .ok (.getfield 22, 3) := by decide +kernel
theorem dX12_which_18 : decode cX12_which 18 = .ok (.iload_n 1, 1) := by decide +kernel
theorem dX12_which_19 : decode cX12_which 19 = .ok (.iaload, 1) := by decide +kernel
theorem dX12_which_20 : decode cX12_which 20 = .ok (.ifCond .ne 10, 3) := by decide +kernel
theorem dX12_which_23 : decode cX12_which 23 = .ok (.aload_n 0, 1) := by decide +kernel
theorem dX12_which_24 : decode cX12_which 24 = .ok (.ldc 184, 2) := by decide +kernel
theorem dX12_which_26 : decode cX12_which 26 = .ok (.invokevirtual 51, 3) := by decide +kernel
theorem dX12_which_29 : decode cX12_which 29 = .ok (.ireturn, 1) := by decide +kernel
theorem dX12_which_30 : decode cX12_which 30 = .ok (.iconst 0, 1) := by decide +kernel
theorem dX12_which_31 : decode cX12_which 31 = .ok (.istore_n 2, 1) := by decide +kernel
theorem dX12_which_32 : decode cX12_which 32 = .ok (.iconst 0, 1) := by decide +kernel
theorem dX12_which_33 : decode cX12_which 33 = .ok (.istore_n 3, 1) := by decide +kernel
theorem dX12_which_34 : decode cX12_which 34 = .ok (.iload_n 3, 1) := by decide +kernel
theorem dX12_which_35 : decode cX12_which 35 = .ok (.aload_n 0, 1) := by decide +kernel
theorem dX12_which_36 : decode cX12_which 36 = .ok (.getfield 7, 3) := by decide +kernel
theorem dX12_which_39 : decode cX12_which 39 = .ok (.iconst 2, 1) := by decide +kernel
theorem dX12_which_40 : decode cX12_which 40 = .ok (.iaload, 1) := by decide +kernel
theorem dX12_which_41 : decode cX12_which 41 = .ok (.if_icmp .ge 101, 3) := by decide +kernel
theorem dX12_which_44 : decode cX12_which 44 = .ok (.aload_n 0, 1) := by decide +kernel
theorem dX12_which_45 : decode cX12_which 45 = .ok (.iload_n 3, 1) := by decide +kernel
theorem dX12_which_46 : decode cX12_which 46 = .ok (.iconst 4, 1) := by decide +kernel
theorem dX12_which_47 : decode cX12_which 47 = .ok (.invokevirtual 64, 3) := by decide +kernel
theorem dX12_which_50 : decode cX12_which 50 = .ok (.ifCond .ne 7, 3) := by decide +kernel
theorem dX12_which_53 : decode cX12_which 53 = .ok (.iconst 1, 1) := by decide +kernel
theorem dX12_which_54 : decode cX12_which 54 = .ok (.goto 4, 3) := by decide +kernel
theorem dX12_which_57 : decode cX12_which 57 = .ok (.iconst 0, 1) := by decide +kernel
theorem dX12_which_58 : decode cX12_which 58 = .ok (.istore 4, 2) := by decide +kernel
theorem dX12_which_60 : decode cX12_which 60 = .ok (.iconst 0, 1) := by decide +kernel
theorem dX12_which_61 : decode cX12_which 61 = .ok (.istore 5, 2) := by decide +kernel
theorem dX12_which_63 : decode cX12_which 63 = .ok (.iload 5, 2) := by decide +kernel
theorem dX12_which_65 : decode cX12_which 65 = .ok (.aload_n 0, 1) := by decide +kernel
theorem dX12_which_66 : decode cX12_which 66 = .ok (.getfield 25, 3) := by decide +kernel
theorem dX12_which_69 : decode cX12_which 69 = .ok (.iload_n 1, 1) := by decide +kernel
theorem dX12_which_70 : decode cX12_which 70 = .ok (.iaload, 1) := by decide +kernel
theorem dX12_which_71 : decode cX12_which 71 = .ok (.if_icmp .ge 50, 3) := by decide +kernel
theorem dX12_which_74 : decode cX12_which 74 = .ok (.iload 4, 2) := by decide +kernel
theorem dX12_which_76 : decode cX12_which 76 = .ok (.ifCond .eq 45, 3) := by decide +kernel
theorem dX12_which_79 : decode cX12_which 79 = .ok (.aload_n 0, 1) := by decide +kernel
theorem dX12_which_80 : decode cX12_which 80 = .ok (.iload_n 3, 1) := by decide +kernel
theorem dX12_which_81 : decode cX12_which 81 = .ok (.aload_n 0, 1) := by decide +kernel
theorem dX12_which_82 : decode cX12_which 82 = .ok (.getfield 7, 3) := by decide +kernel
theorem dX12_which_85 : decode cX12_which 85 = .ok (.iconst 0, 1) := by decide +kernel
theorem dX12_which_86 : decode cX12_which 86 = .ok (.iaload, 1) := by decide +kernel
theorem dX12_which_87 : decode cX12_which 87 = .ok (.iload 5, 2) := by decide +kernel
theorem dX12_which_89 : decode cX12_which 89 = .ok (.iadd, 1) := by decide +kernel
theorem dX12_which_90 : decode cX12_which 90 = .ok (.invokevirtual 67, 3) := by decide +kernel
theorem dX12_which_93 : decode cX12_which 93 = .ok (.aload_n 0, 1) := by decide +kernel
theorem dX12_which_94 : decode cX12_which 94 = .ok (.getfield 28, 3) := by decide +kernel
theorem dX12_which_97 : decode cX12_which 97 = .ok (.bipush 40, 2) := by decide +kernel
theorem dX12_which_99 : decode cX12_which 99 = .ok (.iload_n 1, 1) := by decide +kernel
theorem dX12_which_100 : decode cX12_which 100 = .ok (.imul, 1) := by decide +kernel
theorem dX12_which_101 : decode cX12_which 101 = .ok (.iload 5, 2) := by decide +kernel
theorem dX12_which_103 : decode cX12_which 103 = .ok (.iadd, 1) := by decide +kernel
theorem dX12_which_104 : decode cX12_which 104 = .ok (.iaload, 1) := by decide +kernel
theorem dX12_which_105 : decode cX12_which 105 = .ok (.if_icmp .ne 7, 3) := by decide +kernel
theorem dX12_which_108 : decode cX12_which 108 = .ok (.iconst 1, 1) := by decide +kernel
theorem dX12_which_109 : decode cX12_which 109 = .ok (.goto 4, 3) := by decide +kernel
theorem dX12_which_112 : decode cX12_which 112 = .ok (.iconst 0, 1) := by decide +kernel
theorem dX12_which_113 : decode cX12_which 113 = .ok (.istore 4, 2) := by decide +kernel
theorem dX12_which_115 : decode cX12_which 115 = .ok (.iinc 5 1, 3) := by decide +kernel
theorem dX12_which_118 : decode cX12_which 118 = .ok (.goto (-55), 3) := by decide +kernel
theorem dX12_which_121 : decode cX12_which 121 = .ok (.iload_n 2, 1) := by decide +kernel
theorem dX12_which_122 : decode cX12_which 122 = .ok (.iload 4, 2) := by decide +kernel
theorem dX12_which_124 : decode cX12_which 124 = .ok (.ifCond .eq 9, 3) := by decide +kernel
theorem dX12_which_127 : decode cX12_which 127 = .ok (.iconst 1, 1) := by decide +kernel
theorem dX12_which_128 : decode cX12_which 128 = .ok (.iload_n 3, 1) := by decide +kernel
theorem dX12_which_129 : decode cX12_which 129 = .ok (.ishl, 1) := by decide +kernel
theorem dX12_which_130 : decode cX12_which 130 = .ok (.goto 4, 3) := by decide +kernel
theorem dX12_which_133 : decode cX12_which 133 = .ok (.iconst 0, 1) := by decide +kernel
theorem dX12_which_134 : decode cX12_which 134 = .ok (.ior, 1) := by decide +kernel
theorem dX12_which_135 : decode cX12_which 135 = .ok (.istore_n 2, 1) := by decide +kernel
theorem dX12_which_136 : decode cX12_which 136 = .ok (.iinc 3 1, 3) := by decide +kernel
theorem dX12_which_139 : decode cX12_which 139 = .ok (.goto (-105), 3) := by decide +kernel
theorem dX12_which_142 : decode cX12_which 142 = .ok (.iload_n 2, 1) := by decide +kernel
theorem dX12_which_143 : decode cX12_which 143 = .ok (.ireturn, 1) := by decide +kernel
theorem dX12_divisor_0 : decode cX12_divisor 0 = .ok (.iload_n 0, 1) := by decide +kernel
theorem dX12_divisor_1 : decode cX12_divisor 1 = .ok (.istore_n 2, 1) := by decide +kernel
theorem dX12_divisor_2 : decode cX12_divisor 2 = .ok (.iload_n 1, 1) := by decide +kernel
theorem dX12_divisor_3 : decode cX12_divisor 3 = .ok (.istore_n 3, 1) := by decide +kernel
theorem dX12_divisor_4 : decode cX12_divisor 4 = .ok (.iload_n 3, 1) := by decide +kernel
theorem dX12_divisor_5 : decode cX12_divisor 5 = .ok (.ifCond .eq 16, 3) := by decide +kernel
theorem dX12_divisor_8 : decode cX12_divisor 8 = .ok (.iload_n 2, 1) := by decide +kernel
theorem dX12_divisor_9 : decode cX12_divisor 9 = .ok (.iload_n 3, 1) := by decide +kernel
theorem dX12_divisor_10 : decode cX12_divisor 10 = .ok (.irem, 1) := by decide +kernel
theorem dX12_divisor_11 : decode cX12_divisor 11 = .ok (.istore 4, 2) := by decide +kernel
theorem dX12_divisor_13 : decode cX12_divisor 13 = .ok (.iload_n 3, 1) := by decide +kernel
theorem dX12_divisor_14 : decode cX12_divisor 14 = .ok (.istore_n 2, 1) := by decide +kernel
theorem dX12_divisor_15 : decode cX12_divisor 15 = .ok (.iload 4, 2) := by decide +kernel
theorem dX12_divisor_17 : decode cX12_divisor 17 = .ok (.istore_n 3, 1) := by decide +kernel
theorem dX12_divisor_18 : decode cX12_divisor 18 = .ok (.goto (-14), 3) := by decide +kernel
theorem dX12_divisor_21 : decode cX12_divisor 21 = .ok (.iload_n 2, 1) := by decide +kernel
theorem dX12_divisor_22 : decode cX12_divisor 22 = .ok (.ireturn, 1) := by decide +kernel
theorem dX12_guess_0 : decode cX12_guess 0 = .ok (.iload_n 1, 1) := by decide +kernel
theorem dX12_guess_1 : decode cX12_guess 1 = .ok (.iconst 0, 1) := by decide +kernel
theorem dX12_guess_2 : decode cX12_guess 2 = .ok (.iconst 1, 1) := by decide +kernel
theorem dX12_guess_3 : decode cX12_guess 3 = .ok (.invokestatic 38, 3) := by decide +kernel
theorem dX12_guess_6 : decode cX12_guess 6 = .ok (.ifCond .ne 10, 3) := by decide +kernel
theorem dX12_guess_9 : decode cX12_guess 9 = .ok (.aload_n 0, 1) := by decide +kernel
theorem dX12_guess_10 : decode cX12_guess 10 = .ok (.ldc 50, 2) := by decide +kernel
theorem dX12_guess_12 : decode cX12_guess 12 = .ok (.invokevirtual 51, 3) := by decide +kernel
theorem dX12_guess_15 : decode cX12_guess 15 = .ok (.ireturn, 1) := by decide +kernel
theorem dX12_guess_16 : decode cX12_guess 16 = .ok (.aload_n 0, 1) := by decide +kernel
theorem dX12_guess_17 : decode cX12_guess 17 = .ok (.getfield 7, 3) := by decide +kernel
theorem dX12_guess_20 : decode cX12_guess 20 = .ok (.bipush 10, 2) := by decide +kernel
theorem dX12_guess_22 : decode cX12_guess 22 = .ok (.iaload, 1) := by decide +kernel
theorem dX12_guess_23 : decode cX12_guess 23 = .ok (.aload_n 0, 1) := by decide +kernel
theorem dX12_guess_24 : decode cX12_guess 24 = .ok (.invokevirtual 155, 3) := by decide +kernel
theorem dX12_guess_27 : decode cX12_guess 27 = .ok (.invokestatic 194, 3) := by decide +kernel
theorem dX12_guess_30 : decode cX12_guess 30 = .ok (.istore_n 2, 1) := by decide +kernel
theorem dX12_guess_31 : decode cX12_guess 31 = .ok (.iload_n 1, 1) := by decide +kernel
theorem dX12_guess_32 : decode cX12_guess 32 = .ok (.ifCond .ne 15, 3) := by decide +kernel
theorem dX12_guess_35 : decode cX12_guess 35 = .ok (.aload_n 0, 1) := by decide +kernel
theorem dX12_guess_36 : decode cX12_guess 36 = .ok (.getfield 7, 3) := by decide +kernel
theorem dX12_guess_39 : decode cX12_guess 39 = .ok (.bipush 10, 2) := by decide +kernel
theorem dX12_guess_41 : decode cX12_guess 41 = .ok (.iaload, 1) := by decide +kernel
theorem dX12_guess_42 : decode cX12_guess 42 = .ok (.iload_n 2, 1) := by decide +kernel
theorem dX12_guess_43 : decode cX12_guess 43 = .ok (.idiv, 1) := by decide +kernel
theorem dX12_guess_44 : decode cX12_guess 44 = .ok (.goto 9, 3) := by decide +kernel
theorem dX12_guess_47 : decode cX12_guess 47 = .ok (.aload_n 0, 1) := by decide +kernel
theorem dX12_guess_48 : decode cX12_guess 48 = .ok (.invokevirtual 155, 3) := by decide +kernel
theorem dX12_guess_51 : decode cX12_guess 51 = .ok (.iload_n 2, 1) := by decide +kernel
theorem dX12_guess_52 : decode cX12_guess 52 = .ok (.idiv, 1) := by decide +kernel
theorem dX12_guess_53 : decode cX12_guess 53 = .ok (.ireturn, 1) := by decide +kernel
theorem dX12_odds_0 : decode cX12_odds 0 = .ok (.aload_n 0, 1) := by decide +kernel
theorem dX12_odds_1 : decode cX12_odds 1 = .ok (.iload_n 1, 1) := by decide +kernel
theorem dX12_odds_2 : decode cX12_odds 2 = .ok (.invokevirtual 60, 3) := by decide +kernel
theorem dX12_odds_5 : decode cX12_odds 5 = .ok (.ifCond .eq 12, 3) := by decide +kernel
theorem dX12_odds_8 : decode cX12_odds 8 = .ok (.iload_n 2, 1) := by decide +kernel
theorem dX12_odds_9 : decode cX12_odds 9 = .ok (.iconst 0, 1) := by decide +kernel
theorem dX12_odds_10 : decode cX12_odds 10 = .ok (.iconst 1, 1) := by decide +kernel
theorem dX12_odds_11 : decode cX12_odds 11 = .ok (.invokestatic 38, 3) := by decide +kernel
theorem dX12_odds_14 : decode cX12_odds 14 = .ok (.ifCond .ne 10, 3) := by decide +kernel
theorem dX12_odds_17 : decode cX12_odds 17 = .ok (.aload_n 0, 1) := by decide +kernel
theorem dX12_odds_18 : decode cX12_odds 18 = .ok (.ldc 50, 2) := by decide +kernel
theorem dX12_odds_20 : decode cX12_odds 20 = .ok (.invokevirtual 51, 3) := by decide +kernel
theorem dX12_odds_23 : decode cX12_odds 23 = .ok (.ireturn, 1) := by decide +kernel
theorem dX12_odds_24 : decode cX12_odds 24 = .ok (.aload_n 0, 1) := by decide +kernel
theorem dX12_odds_25 : decode cX12_odds 25 = .ok (.iload_n 1, 1) := by decide +kernel
theorem dX12_odds_26 : decode cX12_odds 26 = .ok (.iconst 4, 1) := by decide +kernel
theorem dX12_odds_27 : decode cX12_odds 27 = .ok (.invokevirtual 64, 3) := by decide +kernel
theorem dX12_odds_30 : decode cX12_odds 30 = .ok (.iconst 1, 1) := by decide +kernel
theorem dX12_odds_31 : decode cX12_odds 31 = .ok (.if_icmp .ne 10, 3) := by decide +kernel
theorem dX12_odds_34 : decode cX12_odds 34 = .ok (.aload_n 0, 1) := by decide +kernel
theorem dX12_odds_35 : decode cX12_odds 35 = .ok (.ldc 161, 2) := by decide +kernel
theorem dX12_odds_37 : decode cX12_odds 37 = .ok (.invokevirtual 51, 3) := by decide +kernel
theorem dX12_odds_40 : decode cX12_odds 40 = .ok (.ireturn, 1) := by decide +kernel
theorem dX12_odds_41 : decode cX12_odds 41 = .ok (.iconst 0, 1) := by decide +kernel
theorem dX12_odds_42 : decode cX12_odds 42 = .ok (.istore_n 3, 1) := by decide +kernel
theorem dX12_odds_43 : decode cX12_odds 43 = .ok (.aload_n 0, 1) := by decide +kernel
theorem dX12_odds_44 : decode cX12_odds 44 = .ok (.getfield 7, 3) := by decide +kernel
theorem dX12_odds_47 : decode cX12_odds 47 = .ok (.iconst 0, 1) := by decide +kernel
theorem dX12_odds_48 : decode cX12_odds 48 = .ok (.iaload, 1) := by decide +kernel
theorem dX12_odds_49 : decode cX12_odds 49 = .ok (.aload_n 0, 1) := by decide +kernel
theorem dX12_odds_50 : decode cX12_odds 50 = .ok (.getfield 7, 3) := by decide +kernel
theorem dX12_odds_53 : decode cX12_odds 53 = .ok (.iconst 0, 1) := by decide +kernel
theorem dX12_odds_54 : decode cX12_odds 54 = .ok (.iaload, 1) := by decide +kernel
theorem dX12_odds_55 : decode cX12_odds 55 = .ok (.bipush 60, 2) := by decide +kernel
theorem dX12_odds_57 : decode cX12_odds 57 = .ok (.irem, 1) := by decide +kernel
theorem dX12_odds_58 : decode cX12_odds 58 = .ok (.isub, 1) := by decide +kernel
theorem dX12_odds_59 : decode cX12_odds 59 = .ok (.istore 4, 2) := by decide +kernel
theorem dX12_odds_61 : decode cX12_odds 61 = .ok (.iconst 0, 1) := by decide +kernel
theorem dX12_odds_62 : decode cX12_odds 62 = .ok (.istore 5, 2) := by decide +kernel
theorem dX12_odds_64 : decode cX12_odds 64 = .ok (.iload 5, 2) := by decide +kernel
theorem dX12_odds_66 : decode cX12_odds 66 = .ok (.bipush 60, 2) := by decide +kernel
theorem dX12_odds_68 : decode cX12_odds 68 = .ok (.if_icmp .ge 30, 3) := by decide +kernel
theorem dX12_odds_71 : decode cX12_odds 71 = .ok (.iload_n 3, 1) := by decide +kernel
theorem dX12_odds_72 : decode cX12_odds 72 = .ok (.aload_n 0, 1) := by decide +kernel
theorem dX12_odds_73 : decode cX12_odds 73 = .ok (.iload_n 1, 1) := by decide +kernel
theorem dX12_odds_74 : decode cX12_odds 74 = .ok (.iload 4, 2) := by decide +kernel
theorem dX12_odds_76 : decode cX12_odds 76 = .ok (.iload 5, 2) := by decide +kernel
theorem dX12_odds_78 : decode cX12_odds 78 = .ok (.iadd, 1) := by decide +kernel
theorem dX12_odds_79 : decode cX12_odds 79 = .ok (.invokevirtual 181, 3) := by decide +kernel
theorem dX12_odds_82 : decode cX12_odds 82 = .ok (.ifCond .eq 7, 3) := by decide +kernel
theorem dX12_odds_85 : decode cX12_odds 85 = .ok (.iconst 1, 1) := by decide +kernel
theorem dX12_odds_86 : decode cX12_odds 86 = .ok (.goto 4, 3) := by decide +kernel
theorem dX12_odds_89 : decode cX12_odds 89 = .ok (.iconst 0, 1) := by decide +kernel
theorem dX12_odds_90 : decode cX12_odds 90 = .ok (.iadd, 1) := by decide +kernel
theorem dX12_odds_91 : decode cX12_odds 91 = .ok (.istore_n 3, 1) := by decide +kernel
theorem dX12_odds_92 : decode cX12_odds 92 = .ok (.iinc 5 1, 3) := by decide +kernel
theorem dX12_odds_95 : decode cX12_odds 95 = .ok (.goto (-31), 3) := by decide +kernel
theorem dX12_odds_98 : decode cX12_odds 98 = .ok (.iload_n 3, 1) := by decide +kernel
theorem dX12_odds_99 : decode cX12_odds 99 = .ok (.bipush 60, 2) := by decide +kernel
theorem dX12_odds_101 : decode cX12_odds 101 = .ok (.invokestatic 194, 3) := by decide +kernel
theorem dX12_odds_104 : decode cX12_odds 104 = .ok (.istore 5, 2) := by decide +kernel
theorem dX12_odds_106 : decode cX12_odds 106 = .ok (.iload_n 2, 1) := by decide +kernel
theorem dX12_odds_107 : decode cX12_odds 107 = .ok (.ifCond .ne 10, 3) := by decide +kernel
theorem dX12_odds_110 : decode cX12_odds 110 = .ok (.iload_n 3, 1) := by decide +kernel
theorem dX12_odds_111 : decode cX12_odds 111 = .ok (.iload 5, 2) := by decide +kernel
theorem dX12_odds_113 : decode cX12_odds 113 = .ok (.idiv, 1) := by decide +kernel
theorem dX12_odds_114 : decode cX12_odds 114 = .ok (.goto 8, 3) := by decide +kernel
theorem dX12_odds_117 : decode cX12_odds 117 = .ok (.bipush 60, 2) := by decide +kernel
theorem dX12_odds_119 : decode cX12_odds 119 = .ok (.iload 5, 2) := by decide +kernel
theorem dX12_odds_121 : decode cX12_odds 121 = .ok (.idiv, 1) := by decide +kernel
theorem dX12_odds_122 : decode cX12_odds 122 = .ok (.ireturn, 1) := by decide +kernel
theorem dX12_seed_0 : decode cX12_seed 0 = .ok (.aload_n 0, 1) := by decide +kernel
theorem dX12_seed_1 : decode cX12_seed 1 = .ok (.getfield 7, 3) := by decide +kernel
theorem dX12_seed_4 : decode cX12_seed 4 = .ok (.iconst 1, 1) := by decide +kernel
theorem dX12_seed_5 : decode cX12_seed 5 = .ok (.iaload, 1) := by decide +kernel
theorem dX12_seed_6 : decode cX12_seed 6 = .ok (.istore_n 2, 1) := by decide +kernel
theorem dX12_seed_7 : decode cX12_seed 7 = .ok (.aload_n 0, 1) := by decide +kernel
theorem dX12_seed_8 : decode cX12_seed 8 = .ok (.getfield 7, 3) := by decide +kernel
theorem dX12_seed_11 : decode cX12_seed 11 = .ok (.iconst 1, 1) := by decide +kernel
theorem dX12_seed_12 : decode cX12_seed 12 = .ok (.iload_n 1, 1) := by decide +kernel
theorem dX12_seed_13 : decode cX12_seed 13 = .ok (.iastore, 1) := by decide +kernel
theorem dX12_seed_14 : decode cX12_seed 14 = .ok (.iload_n 2, 1) := by decide +kernel
theorem dX12_seed_15 : decode cX12_seed 15 = .ok (.ireturn, 1) := by decide +kernel
theorem dX12_ran_0 : decode cX12_ran 0 = .ok (.aload_n 0, 1) := by decide +kernel
theorem dX12_ran_1 : decode cX12_ran 1 = .ok (.getfield 197, 3) := by decide +kernel
theorem dX12_ran_4 : decode cX12_ran 4 = .ok (.bipush 40, 2) := by decide +kernel
theorem dX12_ran_6 : decode cX12_ran 6 = .ok (.if_icmp .ge 23, 3) := by decide +kernel
theorem dX12_ran_9 : decode cX12_ran 9 = .ok (.aload_n 0, 1) := by decide +kernel
theorem dX12_ran_10 : decode cX12_ran 10 = .ok (.getfield 34, 3) := by decide +kernel
theorem dX12_ran_13 : decode cX12_ran 13 = .ok (.aload_n 0, 1) := by decide +kernel
theorem dX12_ran_14 : decode cX12_ran 14 = .ok (.getfield 197, 3) := by decide +kernel
theorem dX12_ran_17 : decode cX12_ran 17 = .ok (.iload_n 1, 1) := by decide +kernel
theorem dX12_ran_18 : decode cX12_ran 18 = .ok (.iastore, 1) := by decide +kernel
theorem dX12_ran_19 : decode cX12_ran 19 = .ok (.aload_n 0, 1) := by decide +kernel
theorem dX12_ran_20 : decode cX12_ran 20 = .ok (.dup, 1) := by decide +kernel
theorem dX12_ran_21 : decode cX12_ran 21 = .ok (.getfield 197, 3) := by decide +kernel
theorem dX12_ran_24 : decode cX12_ran 24 = .ok (.iconst 1, 1) := by decide +kernel
theorem dX12_ran_25 : decode cX12_ran 25 = .ok (.iadd, 1) := by decide +kernel
theorem dX12_ran_26 : decode cX12_ran 26 = .ok (.putfield 197, 3) := by decide +kernel
theorem dX12_ran_29 : decode cX12_ran 29 = .ok (.return_, 1) := by decide +kernel
theorem dX12_sendsIn_0 : decode cX12_sendsIn 0 = .ok (.iload_n 1, 1) := by decide +kernel
theorem dX12_sendsIn_1 : decode cX12_sendsIn 1 = .ok (.ifCond .ne 16, 3) := by decide +kernel
theorem dX12_sendsIn_4 : decode cX12_sendsIn 4 = .ok (.aload_n 0, 1) := by decide +kernel
theorem dX12_sendsIn_5 : decode cX12_sendsIn 5 = .ok (.bipush 10, 2) := by decide +kernel
theorem dX12_sendsIn_7 : decode cX12_sendsIn 7 = .ok (.invokevirtual 200, 3) := by decide +kernel
theorem dX12_sendsIn_10 : decode cX12_sendsIn 10 = .ok (.iload_n 2, 1) := by decide +kernel
theorem dX12_sendsIn_11 : decode cX12_sendsIn 11 = .ok (.aload_n 0, 1) := by decide +kernel
theorem dX12_sendsIn_12 : decode cX12_sendsIn 12 = .ok (.getfield 204, 3) := by decide +kernel
theorem dX12_sendsIn_15 : decode cX12_sendsIn 15 = .ok (.iadd, 1) := by decide +kernel
theorem dX12_sendsIn_16 : decode cX12_sendsIn 16 = .ok (.ireturn, 1) := by decide +kernel
theorem dX12_sendsIn_17 : decode cX12_sendsIn 17 = .ok (.iload_n 1, 1) := by decide +kernel
theorem dX12_sendsIn_18 : decode cX12_sendsIn 18 = .ok (.iconst 1, 1) := by decide +kernel
theorem dX12_sendsIn_19 : decode cX12_sendsIn 19 = .ok (.if_icmp .ne 18, 3) := by decide +kernel
theorem dX12_sendsIn_22 : decode cX12_sendsIn 22 = .ok (.aload_n 0, 1) := by decide +kernel
theorem dX12_sendsIn_23 : decode cX12_sendsIn 23 = .ok (.bipush 20, 2) := by decide +kernel
theorem dX12_sendsIn_25 : decode cX12_sendsIn 25 = .ok (.invokevirtual 200, 3) := by decide +kernel
theorem dX12_sendsIn_28 : decode cX12_sendsIn 28 = .ok (.aload_n 0, 1) := by decide +kernel
theorem dX12_sendsIn_29 : decode cX12_sendsIn 29 = .ok (.iconst 0, 1) := by decide +kernel
theorem dX12_sendsIn_30 : decode cX12_sendsIn 30 = .ok (.iload_n 2, 1) := by decide +kernel
theorem dX12_sendsIn_31 : decode cX12_sendsIn 31 = .ok (.invokevirtual 207, 3) := by decide +kernel
theorem dX12_sendsIn_34 : decode cX12_sendsIn 34 = .ok (.iconst 3, 1) := by decide +kernel
theorem dX12_sendsIn_35 : decode cX12_sendsIn 35 = .ok (.imul, 1) := by decide +kernel
theorem dX12_sendsIn_36 : decode cX12_sendsIn 36 = .ok (.ireturn, 1) := by decide +kernel
theorem dX12_sendsIn_37 : decode cX12_sendsIn 37 = .ok (.aload_n 0, 1) := by decide +kernel
theorem dX12_sendsIn_38 : decode cX12_sendsIn 38 = .ok (.iload_n 1, 1) := by decide +kernel
theorem dX12_sendsIn_39 : decode cX12_sendsIn 39 = .ok (.invokestatic 73, 3) := by decide +kernel
theorem dX12_sendsIn_42 : decode cX12_sendsIn 42 = .ok (.iload_n 2, 1) := by decide +kernel
theorem dX12_sendsIn_43 : decode cX12_sendsIn 43 = .ok (.invokevirtual 207, 3) := by decide +kernel
theorem dX12_sendsIn_46 : decode cX12_sendsIn 46 = .ok (.ireturn, 1) := by decide +kernel
theorem dX12_shutsIn_0 : decode cX12_shutsIn 0 = .ok (.iload_n 1, 1) := by decide +kernel
theorem dX12_shutsIn_1 : decode cX12_shutsIn 1 = .ok (.ifCond .ne 16, 3) := by decide +kernel
theorem dX12_shutsIn_4 : decode cX12_shutsIn 4 = .ok (.aload_n 0, 1) := by decide +kernel
theorem dX12_shutsIn_5 : decode cX12_shutsIn 5 = .ok (.bipush 12, 2) := by decide +kernel
theorem dX12_shutsIn_7 : decode cX12_shutsIn 7 = .ok (.invokevirtual 200, 3) := by decide +kernel
theorem dX12_shutsIn_10 : decode cX12_shutsIn 10 = .ok (.iload_n 2, 1) := by decide +kernel
theorem dX12_shutsIn_11 : decode cX12_shutsIn 11 = .ok (.aload_n 0, 1) := by decide +kernel
theorem dX12_shutsIn_12 : decode cX12_shutsIn 12 = .ok (.getfield 210, 3) := by decide +kernel
theorem dX12_shutsIn_15 : decode cX12_shutsIn 15 = .ok (.isub, 1) := by decide +kernel
theorem dX12_shutsIn_16 : decode cX12_shutsIn 16 = .ok (.ireturn, 1) := by decide +kernel
theorem dX12_shutsIn_17 : decode cX12_shutsIn 17 = .ok (.iload_n 1, 1) := by decide +kernel
theorem dX12_shutsIn_18 : decode cX12_shutsIn 18 = .ok (.iconst 3, 1) := by decide +kernel
theorem dX12_shutsIn_19 : decode cX12_shutsIn 19 = .ok (.if_icmp .ne 17, 3) := by decide +kernel
theorem dX12_shutsIn_22 : decode cX12_shutsIn 22 = .ok (.aload_n 0, 1) := by decide +kernel
theorem dX12_shutsIn_23 : decode cX12_shutsIn 23 = .ok (.bipush 40, 2) := by decide +kernel
theorem dX12_shutsIn_25 : decode cX12_shutsIn 25 = .ok (.invokevirtual 200, 3) := by decide +kernel
theorem dX12_shutsIn_28 : decode cX12_shutsIn 28 = .ok (.aload_n 0, 1) := by decide +kernel
theorem dX12_shutsIn_29 : decode cX12_shutsIn 29 = .ok (.iconst 0, 1) := by decide +kernel
theorem dX12_shutsIn_30 : decode cX12_shutsIn 30 = .ok (.iload_n 2, 1) := by decide +kernel
theorem dX12_shutsIn_31 : decode cX12_shutsIn 31 = .ok (.invokevirtual 213, 3) := by decide +kernel
theorem dX12_shutsIn_34 : decode cX12_shutsIn 34 = .ok (.ineg, 1) := by decide +kernel
theorem dX12_shutsIn_35 : decode cX12_shutsIn 35 = .ok (.ireturn, 1) := by decide +kernel
theorem dX12_shutsIn_36 : decode cX12_shutsIn 36 = .ok (.iload_n 1, 1) := by decide +kernel
theorem dX12_shutsIn_37 : decode cX12_shutsIn 37 = .ok (.bipush 6, 2) := by decide +kernel
theorem dX12_shutsIn_39 : decode cX12_shutsIn 39 = .ok (.if_icmp .ne 21, 3) := by decide +kernel
theorem dX12_shutsIn_42 : decode cX12_shutsIn 42 = .ok (.aload_n 0, 1) := by decide +kernel
theorem dX12_shutsIn_43 : decode cX12_shutsIn 43 = .ok (.bipush 70, 2) := by decide +kernel
theorem dX12_shutsIn_45 : decode cX12_shutsIn 45 = .ok (.invokevirtual 200, 3) := by decide +kernel
theorem dX12_shutsIn_48 : decode cX12_shutsIn 48 = .ok (.aload_n 0, 1) := by decide +kernel
theorem dX12_shutsIn_49 : decode cX12_shutsIn 49 = .ok (.iconst 3, 1) := by decide +kernel
theorem dX12_shutsIn_50 : decode cX12_shutsIn 50 = .ok (.iload_n 2, 1) := by decide +kernel
theorem dX12_shutsIn_51 : decode cX12_shutsIn 51 = .ok (.invokevirtual 213, 3) := by decide +kernel
theorem dX12_shutsIn_54 : decode cX12_shutsIn 54 = .ok (.aload_n 0, 1) := by decide +kernel
theorem dX12_shutsIn_55 : decode cX12_shutsIn 55 = .ok (.getfield 204, 3) := by decide +kernel
theorem dX12_shutsIn_58 : decode cX12_shutsIn 58 = .ok (.ixor, 1) := by decide +kernel
theorem dX12_shutsIn_59 : decode cX12_shutsIn 59 = .ok (.ireturn, 1) := by decide +kernel
theorem dX12_shutsIn_60 : decode cX12_shutsIn 60 = .ok (.aload_n 0, 1) := by decide +kernel
theorem dX12_shutsIn_61 : decode cX12_shutsIn 61 = .ok (.iload_n 1, 1) := by decide +kernel
theorem dX12_shutsIn_62 : decode cX12_shutsIn 62 = .ok (.invokestatic 73, 3) := by decide +kernel
theorem dX12_shutsIn_65 : decode cX12_shutsIn 65 = .ok (.iload_n 2, 1) := by decide +kernel
theorem dX12_shutsIn_66 : decode cX12_shutsIn 66 = .ok (.invokevirtual 213, 3) := by decide +kernel
theorem dX12_shutsIn_69 : decode cX12_shutsIn 69 = .ok (.ireturn, 1) := by decide +kernel
theorem dX12_holdsIn_0 : decode cX12_holdsIn 0 = .ok (.iload_n 1, 1) := by decide +kernel
theorem dX12_holdsIn_1 : decode cX12_holdsIn 1 = .ok (.ifCond .ne 21, 3) := by decide +kernel
theorem dX12_holdsIn_4 : decode cX12_holdsIn 4 = .ok (.aload_n 0, 1) := by decide +kernel
theorem dX12_holdsIn_5 : decode cX12_holdsIn 5 = .ok (.bipush 11, 2) := by decide +kernel
theorem dX12_holdsIn_7 : decode cX12_holdsIn 7 = .ok (.invokevirtual 200, 3) := by decide +kernel
theorem dX12_holdsIn_10 : decode cX12_holdsIn 10 = .ok (.aload_n 0, 1) := by decide +kernel
theorem dX12_holdsIn_11 : decode cX12_holdsIn 11 = .ok (.aload_n 0, 1) := by decide +kernel
theorem dX12_holdsIn_12 : decode cX12_holdsIn 12 = .ok (.getfield 216, 3) := by decide +kernel
theorem dX12_holdsIn_15 : decode cX12_holdsIn 15 = .ok (.iload_n 2, 1) := by decide +kernel
theorem dX12_holdsIn_16 : decode cX12_holdsIn 16 = .ok (.invokevirtual 207, 3) := by decide +kernel
theorem dX12_holdsIn_19 : decode cX12_holdsIn 19 = .ok (.iconst 2, 1) := by decide +kernel
theorem dX12_holdsIn_20 : decode cX12_holdsIn 20 = .ok (.imul, 1) := by decide +kernel
theorem dX12_holdsIn_21 : decode cX12_holdsIn 21 = .ok (.ireturn, 1) := by decide +kernel
theorem dX12_holdsIn_22 : decode cX12_holdsIn 22 = .ok (.iload_n 1, 1) := by decide +kernel
theorem dX12_holdsIn_23 : decode cX12_holdsIn 23 = .ok (.iconst 2, 1) := by decide +kernel
theorem dX12_holdsIn_24 : decode cX12_holdsIn 24 = .ok (.if_icmp .ne 28, 3) := by decide +kernel
theorem dX12_holdsIn_27 : decode cX12_holdsIn 27 = .ok (.aload_n 0, 1) := by decide +kernel
theorem dX12_holdsIn_28 : decode cX12_holdsIn 28 = .ok (.bipush 30, 2) := by decide +kernel
theorem dX12_holdsIn_30 : decode cX12_holdsIn 30 = .ok (.invokevirtual 200, 3) := by decide +kernel
theorem dX12_holdsIn_33 : decode cX12_holdsIn 33 = .ok (.aload_n 0, 1) := by decide +kernel
theorem dX12_holdsIn_34 : decode cX12_holdsIn 34 = .ok (.iconst 0, 1) := by decide +kernel
theorem dX12_holdsIn_35 : decode cX12_holdsIn 35 = .ok (.iload_n 2, 1) := by decide +kernel
theorem dX12_holdsIn_36 : decode cX12_holdsIn 36 = .ok (.invokevirtual 219, 3) := by decide +kernel
theorem dX12_holdsIn_39 : decode cX12_holdsIn 39 = .ok (.istore_n 3, 1) := by decide +kernel
theorem dX12_holdsIn_40 : decode cX12_holdsIn 40 = .ok (.iload_n 3, 1) := by decide +kernel
theorem dX12_holdsIn_41 : decode cX12_holdsIn 41 = .ok (.aload_n 0, 1) := by decide +kernel
theorem dX12_holdsIn_42 : decode cX12_holdsIn 42 = .ok (.aload_n 0, 1) := by decide +kernel
theorem dX12_holdsIn_43 : decode cX12_holdsIn 43 = .ok (.getfield 216, 3) := by decide +kernel
theorem dX12_holdsIn_46 : decode cX12_holdsIn 46 = .ok (.iconst 1, 1) := by decide +kernel
theorem dX12_holdsIn_47 : decode cX12_holdsIn 47 = .ok (.invokevirtual 213, 3) := by decide +kernel
theorem dX12_holdsIn_50 : decode cX12_holdsIn 50 = .ok (.isub, 1) := by decide +kernel
theorem dX12_holdsIn_51 : decode cX12_holdsIn 51 = .ok (.ireturn, 1) := by decide +kernel
theorem dX12_holdsIn_52 : decode cX12_holdsIn 52 = .ok (.iload_n 1, 1) := by decide +kernel
theorem dX12_holdsIn_53 : decode cX12_holdsIn 53 = .ok (.iconst 5, 1) := by decide +kernel
theorem dX12_holdsIn_54 : decode cX12_holdsIn 54 = .ok (.if_icmp .ne 18, 3) := by decide +kernel
theorem dX12_holdsIn_57 : decode cX12_holdsIn 57 = .ok (.aload_n 0, 1) := by decide +kernel
theorem dX12_holdsIn_58 : decode cX12_holdsIn 58 = .ok (.bipush 60, 2) := by decide +kernel
theorem dX12_holdsIn_60 : decode cX12_holdsIn 60 = .ok (.invokevirtual 200, 3) := by decide +kernel
theorem dX12_holdsIn_63 : decode cX12_holdsIn 63 = .ok (.aload_n 0, 1) := by decide +kernel
theorem dX12_holdsIn_64 : decode cX12_holdsIn 64 = .ok (.iconst 2, 1) := by decide +kernel
theorem dX12_holdsIn_65 : decode cX12_holdsIn 65 = .ok (.iload_n 2, 1) := by decide +kernel
theorem dX12_holdsIn_66 : decode cX12_holdsIn 66 = .ok (.iconst 1, 1) := by decide +kernel
theorem dX12_holdsIn_67 : decode cX12_holdsIn 67 = .ok (.iadd, 1) := by decide +kernel
theorem dX12_holdsIn_68 : decode cX12_holdsIn 68 = .ok (.invokevirtual 219, 3) := by decide +kernel
theorem dX12_holdsIn_71 : decode cX12_holdsIn 71 = .ok (.ireturn, 1) := by decide +kernel
theorem dX12_holdsIn_72 : decode cX12_holdsIn 72 = .ok (.aload_n 0, 1) := by decide +kernel
theorem dX12_holdsIn_73 : decode cX12_holdsIn 73 = .ok (.iload_n 1, 1) := by decide +kernel
theorem dX12_holdsIn_74 : decode cX12_holdsIn 74 = .ok (.invokestatic 73, 3) := by decide +kernel
theorem dX12_holdsIn_77 : decode cX12_holdsIn 77 = .ok (.iload_n 2, 1) := by decide +kernel
theorem dX12_holdsIn_78 : decode cX12_holdsIn 78 = .ok (.invokevirtual 219, 3) := by decide +kernel
theorem dX12_holdsIn_81 : decode cX12_holdsIn 81 = .ok (.ireturn, 1) := by decide +kernel
theorem dX12_tellsIn_0 : decode cX12_tellsIn 0 = .ok (.iload_n 1, 1) := by decide +kernel
theorem dX12_tellsIn_1 : decode cX12_tellsIn 1 = .ok (.ifCond .ne 31, 3) := by decide +kernel
theorem dX12_tellsIn_4 : decode cX12_tellsIn 4 = .ok (.aload_n 0, 1) := by decide +kernel
theorem dX12_tellsIn_5 : decode cX12_tellsIn 5 = .ok (.bipush 13, 2) := by decide +kernel
theorem dX12_tellsIn_7 : decode cX12_tellsIn 7 = .ok (.invokevirtual 200, 3) := by decide +kernel
theorem dX12_tellsIn_10 : decode cX12_tellsIn 10 = .ok (.aload_n 0, 1) := by decide +kernel
theorem dX12_tellsIn_11 : decode cX12_tellsIn 11 = .ok (.aload_n 0, 1) := by decide +kernel
theorem dX12_tellsIn_12 : decode cX12_tellsIn 12 = .ok (.getfield 216, 3) := by decide +kernel
theorem dX12_tellsIn_15 : decode cX12_tellsIn 15 = .ok (.iload_n 2, 1) := by decide +kernel
theorem dX12_tellsIn_16 : decode cX12_tellsIn 16 = .ok (.invokevirtual 219, 3) := by decide +kernel
theorem dX12_tellsIn_19 : decode cX12_tellsIn 19 = .ok (.istore_n 3, 1) := by decide +kernel
theorem dX12_tellsIn_20 : decode cX12_tellsIn 20 = .ok (.iload_n 3, 1) := by decide +kernel
theorem dX12_tellsIn_21 : decode cX12_tellsIn 21 = .ok (.aload_n 0, 1) := by decide +kernel
theorem dX12_tellsIn_22 : decode cX12_tellsIn 22 = .ok (.aload_n 0, 1) := by decide +kernel
theorem dX12_tellsIn_23 : decode cX12_tellsIn 23 = .ok (.getfield 216, 3) := by decide +kernel
theorem dX12_tellsIn_26 : decode cX12_tellsIn 26 = .ok (.iload_n 2, 1) := by decide +kernel
theorem dX12_tellsIn_27 : decode cX12_tellsIn 27 = .ok (.invokevirtual 213, 3) := by decide +kernel
theorem dX12_tellsIn_30 : decode cX12_tellsIn 30 = .ok (.ixor, 1) := by decide +kernel
theorem dX12_tellsIn_31 : decode cX12_tellsIn 31 = .ok (.ireturn, 1) := by decide +kernel
theorem dX12_tellsIn_32 : decode cX12_tellsIn 32 = .ok (.iload_n 1, 1) := by decide +kernel
theorem dX12_tellsIn_33 : decode cX12_tellsIn 33 = .ok (.iconst 4, 1) := by decide +kernel
theorem dX12_tellsIn_34 : decode cX12_tellsIn 34 = .ok (.if_icmp .ne 28, 3) := by decide +kernel
theorem dX12_tellsIn_37 : decode cX12_tellsIn 37 = .ok (.aload_n 0, 1) := by decide +kernel
theorem dX12_tellsIn_38 : decode cX12_tellsIn 38 = .ok (.bipush 50, 2) := by decide +kernel
theorem dX12_tellsIn_40 : decode cX12_tellsIn 40 = .ok (.invokevirtual 200, 3) := by decide +kernel
theorem dX12_tellsIn_43 : decode cX12_tellsIn 43 = .ok (.aload_n 0, 1) := by decide +kernel
theorem dX12_tellsIn_44 : decode cX12_tellsIn 44 = .ok (.iconst 1, 1) := by decide +kernel
theorem dX12_tellsIn_45 : decode cX12_tellsIn 45 = .ok (.iload_n 2, 1) := by decide +kernel
theorem dX12_tellsIn_46 : decode cX12_tellsIn 46 = .ok (.invokevirtual 222, 3) := by decide +kernel
theorem dX12_tellsIn_49 : decode cX12_tellsIn 49 = .ok (.istore_n 3, 1) := by decide +kernel
theorem dX12_tellsIn_50 : decode cX12_tellsIn 50 = .ok (.iload_n 3, 1) := by decide +kernel
theorem dX12_tellsIn_51 : decode cX12_tellsIn 51 = .ok (.aload_n 0, 1) := by decide +kernel
theorem dX12_tellsIn_52 : decode cX12_tellsIn 52 = .ok (.aload_n 0, 1) := by decide +kernel
theorem dX12_tellsIn_53 : decode cX12_tellsIn 53 = .ok (.getfield 216, 3) := by decide +kernel
theorem dX12_tellsIn_56 : decode cX12_tellsIn 56 = .ok (.iconst 2, 1) := by decide +kernel
theorem dX12_tellsIn_57 : decode cX12_tellsIn 57 = .ok (.invokevirtual 207, 3) := by decide +kernel
theorem dX12_tellsIn_60 : decode cX12_tellsIn 60 = .ok (.isub, 1) := by decide +kernel
theorem dX12_tellsIn_61 : decode cX12_tellsIn 61 = .ok (.ireturn, 1) := by decide +kernel
theorem dX12_tellsIn_62 : decode cX12_tellsIn 62 = .ok (.iload_n 1, 1) := by decide +kernel
theorem dX12_tellsIn_63 : decode cX12_tellsIn 63 = .ok (.bipush 6, 2) := by decide +kernel
theorem dX12_tellsIn_65 : decode cX12_tellsIn 65 = .ok (.if_icmp .ne 28, 3) := by decide +kernel
theorem dX12_tellsIn_68 : decode cX12_tellsIn 68 = .ok (.aload_n 0, 1) := by decide +kernel
theorem dX12_tellsIn_69 : decode cX12_tellsIn 69 = .ok (.bipush 71, 2) := by decide +kernel
theorem dX12_tellsIn_71 : decode cX12_tellsIn 71 = .ok (.invokevirtual 200, 3) := by decide +kernel
theorem dX12_tellsIn_74 : decode cX12_tellsIn 74 = .ok (.aload_n 0, 1) := by decide +kernel
theorem dX12_tellsIn_75 : decode cX12_tellsIn 75 = .ok (.aload_n 0, 1) := by decide +kernel
theorem dX12_tellsIn_76 : decode cX12_tellsIn 76 = .ok (.getfield 216, 3) := by decide +kernel
theorem dX12_tellsIn_79 : decode cX12_tellsIn 79 = .ok (.iload_n 2, 1) := by decide +kernel
theorem dX12_tellsIn_80 : decode cX12_tellsIn 80 = .ok (.invokevirtual 219, 3) := by decide +kernel
theorem dX12_tellsIn_83 : decode cX12_tellsIn 83 = .ok (.istore_n 3, 1) := by decide +kernel
theorem dX12_tellsIn_84 : decode cX12_tellsIn 84 = .ok (.iload_n 3, 1) := by decide +kernel
theorem dX12_tellsIn_85 : decode cX12_tellsIn 85 = .ok (.aload_n 0, 1) := by decide +kernel
theorem dX12_tellsIn_86 : decode cX12_tellsIn 86 = .ok (.iconst 3, 1) := by decide +kernel
theorem dX12_tellsIn_87 : decode cX12_tellsIn 87 = .ok (.iload_n 2, 1) := by decide +kernel
theorem dX12_tellsIn_88 : decode cX12_tellsIn 88 = .ok (.invokevirtual 222, 3) := by decide +kernel
theorem dX12_tellsIn_91 : decode cX12_tellsIn 91 = .ok (.isub, 1) := by decide +kernel
theorem dX12_tellsIn_92 : decode cX12_tellsIn 92 = .ok (.ireturn, 1) := by decide +kernel
theorem dX12_tellsIn_93 : decode cX12_tellsIn 93 = .ok (.aload_n 0, 1) := by decide +kernel
theorem dX12_tellsIn_94 : decode cX12_tellsIn 94 = .ok (.iload_n 1, 1) := by decide +kernel
theorem dX12_tellsIn_95 : decode cX12_tellsIn 95 = .ok (.invokestatic 73, 3) := by decide +kernel
theorem dX12_tellsIn_98 : decode cX12_tellsIn 98 = .ok (.iload_n 2, 1) := by decide +kernel
theorem dX12_tellsIn_99 : decode cX12_tellsIn 99 = .ok (.invokevirtual 222, 3) := by decide +kernel
theorem dX12_tellsIn_102 : decode cX12_tellsIn 102 = .ok (.ireturn, 1) := by decide +kernel
theorem dX12_voice_0 : decode cX12_voice 0 = .ok (.aload_n 0, 1) := by decide +kernel
theorem dX12_voice_1 : decode cX12_voice 1 = .ok (.iload_n 1, 1) := by decide +kernel
theorem dX12_voice_2 : decode cX12_voice 2 = .ok (.invokevirtual 60, 3) := by decide +kernel
theorem dX12_voice_5 : decode cX12_voice 5 = .ok (.ifCond .eq 12, 3) := by decide +kernel
theorem dX12_voice_8 : decode cX12_voice 8 = .ok (.iload_n 2, 1) := by decide +kernel
theorem dX12_voice_9 : decode cX12_voice 9 = .ok (.iconst 0, 1) := by decide +kernel
theorem dX12_voice_10 : decode cX12_voice 10 = .ok (.iconst 3, 1) := by decide +kernel
theorem dX12_voice_11 : decode cX12_voice 11 = .ok (.invokestatic 38, 3) := by decide +kernel
theorem dX12_voice_14 : decode cX12_voice 14 = .ok (.ifCond .ne 10, 3) := by decide +kernel
theorem dX12_voice_17 : decode cX12_voice 17 = .ok (.aload_n 0, 1) := by decide +kernel
theorem dX12_voice_18 : decode cX12_voice 18 = .ok (.ldc 50, 2) := by decide +kernel
theorem dX12_voice_20 : decode cX12_voice 20 = .ok (.invokevirtual 51, 3) := by decide +kernel
theorem dX12_voice_23 : decode cX12_voice 23 = .ok (.ireturn, 1) := by decide +kernel
theorem dX12_voice_24 : decode cX12_voice 24 = .ok (.aload_n 0, 1) := by decide +kernel
theorem dX12_voice_25 : decode cX12_voice 25 = .ok (.iconst 0, 1) := by decide +kernel
theorem dX12_voice_26 : decode cX12_voice 26 = .ok (.putfield 197, 3) := by decide +kernel
theorem dX12_voice_29 : decode cX12_voice 29 = .ok (.aload_n 0, 1) := by decide +kernel
theorem dX12_voice_30 : decode cX12_voice 30 = .ok (.aload_n 0, 1) := by decide +kernel
theorem dX12_voice_31 : decode cX12_voice 31 = .ok (.iload_n 1, 1) := by decide +kernel
theorem dX12_voice_32 : decode cX12_voice 32 = .ok (.iconst 0, 1) := by decide +kernel
theorem dX12_voice_33 : decode cX12_voice 33 = .ok (.invokevirtual 64, 3) := by decide +kernel
theorem dX12_voice_36 : decode cX12_voice 36 = .ok (.putfield 216, 3) := by decide +kernel
theorem dX12_voice_39 : decode cX12_voice 39 = .ok (.aload_n 0, 1) := by decide +kernel
theorem dX12_voice_40 : decode cX12_voice 40 = .ok (.iload_n 1, 1) := by decide +kernel
theorem dX12_voice_41 : decode cX12_voice 41 = .ok (.putfield 204, 3) := by decide +kernel
theorem dX12_voice_44 : decode cX12_voice 44 = .ok (.aload_n 0, 1) := by decide +kernel
theorem dX12_voice_45 : decode cX12_voice 45 = .ok (.aload_n 0, 1) := by decide +kernel
theorem dX12_voice_46 : decode cX12_voice 46 = .ok (.iload_n 1, 1) := by decide +kernel
theorem dX12_voice_47 : decode cX12_voice 47 = .ok (.iconst 1, 1) := by decide +kernel
theorem dX12_voice_48 : decode cX12_voice 48 = .ok (.invokevirtual 64, 3) := by decide +kernel
theorem dX12_voice_51 : decode cX12_voice 51 = .ok (.putfield 210, 3) := by decide +kernel
theorem dX12_voice_54 : decode cX12_voice 54 = .ok (.iload_n 2, 1) := by decide +kernel
theorem dX12_voice_55 : decode cX12_voice 55 = .ok (.tableswitch 55 0 2 #[25, 35, 45], 25) := by decide +kernel
theorem dX12_voice_80 : decode cX12_voice 80 = .ok (.aload_n 0, 1) := by decide +kernel
theorem dX12_voice_81 : decode cX12_voice 81 = .ok (.aload_n 0, 1) := by decide +kernel
theorem dX12_voice_82 : decode cX12_voice 82 = .ok (.getfield 216, 3) := by decide +kernel
theorem dX12_voice_85 : decode cX12_voice 85 = .ok (.iload_n 3, 1) := by decide +kernel
theorem dX12_voice_86 : decode cX12_voice 86 = .ok (.invokevirtual 207, 3) := by decide +kernel
theorem dX12_voice_89 : decode cX12_voice 89 = .ok (.ireturn, 1) := by decide +kernel
theorem dX12_voice_90 : decode cX12_voice 90 = .ok (.aload_n 0, 1) := by decide +kernel
theorem dX12_voice_91 : decode cX12_voice 91 = .ok (.aload_n 0, 1) := by decide +kernel
theorem dX12_voice_92 : decode cX12_voice 92 = .ok (.getfield 216, 3) := by decide +kernel
theorem dX12_voice_95 : decode cX12_voice 95 = .ok (.iload_n 3, 1) := by decide +kernel
theorem dX12_voice_96 : decode cX12_voice 96 = .ok (.invokevirtual 219, 3) := by decide +kernel
theorem dX12_voice_99 : decode cX12_voice 99 = .ok (.ireturn, 1) := by decide +kernel
theorem dX12_voice_100 : decode cX12_voice 100 = .ok (.aload_n 0, 1) := by decide +kernel
theorem dX12_voice_101 : decode cX12_voice 101 = .ok (.aload_n 0, 1) := by decide +kernel
theorem dX12_voice_102 : decode cX12_voice 102 = .ok (.getfield 216, 3) := by decide +kernel
theorem dX12_voice_105 : decode cX12_voice 105 = .ok (.iload_n 3, 1) := by decide +kernel
theorem dX12_voice_106 : decode cX12_voice 106 = .ok (.invokevirtual 213, 3) := by decide +kernel
theorem dX12_voice_109 : decode cX12_voice 109 = .ok (.ireturn, 1) := by decide +kernel
theorem dX12_voice_110 : decode cX12_voice 110 = .ok (.aload_n 0, 1) := by decide +kernel
theorem dX12_voice_111 : decode cX12_voice 111 = .ok (.aload_n 0, 1) := by decide +kernel
theorem dX12_voice_112 : decode cX12_voice 112 = .ok (.getfield 216, 3) := by decide +kernel
theorem dX12_voice_115 : decode cX12_voice 115 = .ok (.iload_n 3, 1) := by decide +kernel
theorem dX12_voice_116 : decode cX12_voice 116 = .ok (.invokevirtual 222, 3) := by decide +kernel
theorem dX12_voice_119 : decode cX12_voice 119 = .ok (.ireturn, 1) := by decide +kernel
theorem dX12_trace_0 : decode cX12_trace 0 = .ok (.iload_n 1, 1) := by decide +kernel
theorem dX12_trace_1 : decode cX12_trace 1 = .ok (.iconst 0, 1) := by decide +kernel
theorem dX12_trace_2 : decode cX12_trace 2 = .ok (.aload_n 0, 1) := by decide +kernel
theorem dX12_trace_3 : decode cX12_trace 3 = .ok (.getfield 197, 3) := by decide +kernel
theorem dX12_trace_6 : decode cX12_trace 6 = .ok (.iconst 1, 1) := by decide +kernel
theorem dX12_trace_7 : decode cX12_trace 7 = .ok (.isub, 1) := by decide +kernel
theorem dX12_trace_8 : decode cX12_trace 8 = .ok (.invokestatic 38, 3) := by decide +kernel
theorem dX12_trace_11 : decode cX12_trace 11 = .ok (.ifCond .eq 12, 3) := by decide +kernel
theorem dX12_trace_14 : decode cX12_trace 14 = .ok (.aload_n 0, 1) := by decide +kernel
theorem dX12_trace_15 : decode cX12_trace 15 = .ok (.getfield 34, 3) := by decide +kernel
theorem dX12_trace_18 : decode cX12_trace 18 = .ok (.iload_n 1, 1) := by decide +kernel
theorem dX12_trace_19 : decode cX12_trace 19 = .ok (.iaload, 1) := by decide +kernel
theorem dX12_trace_20 : decode cX12_trace 20 = .ok (.goto 9, 3) := by decide +kernel
theorem dX12_trace_23 : decode cX12_trace 23 = .ok (.aload_n 0, 1) := by decide +kernel
theorem dX12_trace_24 : decode cX12_trace 24 = .ok (.ldc 184, 2) := by decide +kernel
theorem dX12_trace_26 : decode cX12_trace 26 = .ok (.invokevirtual 51, 3) := by decide +kernel
theorem dX12_trace_29 : decode cX12_trace 29 = .ok (.ireturn, 1) := by decide +kernel
theorem dX12_narrow_0 : decode cX12_narrow 0 = .ok (.iload_n 0, 1) := by decide +kernel
theorem dX12_narrow_1 : decode cX12_narrow 1 = .ok (.bipush 8, 2) := by decide +kernel
theorem dX12_narrow_3 : decode cX12_narrow 3 = .ok (.if_icmp .ne 8, 3) := by decide +kernel
theorem dX12_narrow_6 : decode cX12_narrow 6 = .ok (.iload_n 1, 1) := by decide +kernel
theorem dX12_narrow_7 : decode cX12_narrow 7 = .ok (.i2b, 1) := by decide +kernel
theorem dX12_narrow_8 : decode cX12_narrow 8 = .ok (.goto 15, 3) := by decide +kernel
theorem dX12_narrow_11 : decode cX12_narrow 11 = .ok (.iload_n 0, 1) := by decide +kernel
theorem dX12_narrow_12 : decode cX12_narrow 12 = .ok (.bipush 16, 2) := by decide +kernel
theorem dX12_narrow_14 : decode cX12_narrow 14 = .ok (.if_icmp .ne 8, 3) := by decide +kernel
theorem dX12_narrow_17 : decode cX12_narrow 17 = .ok (.iload_n 1, 1) := by decide +kernel
theorem dX12_narrow_18 : decode cX12_narrow 18 = .ok (.i2s, 1) := by decide +kernel
theorem dX12_narrow_19 : decode cX12_narrow 19 = .ok (.goto 4, 3) := by decide +kernel
theorem dX12_narrow_22 : decode cX12_narrow 22 = .ok (.iload_n 1, 1) := by decide +kernel
theorem dX12_narrow_23 : decode cX12_narrow 23 = .ok (.ireturn, 1) := by decide +kernel
theorem dX12_sheet_0 : decode cX12_sheet 0 = .ok (.iload_n 1, 1) := by decide +kernel
theorem dX12_sheet_1 : decode cX12_sheet 1 = .ok (.invokestatic 191, 3) := by decide +kernel
theorem dX12_sheet_4 : decode cX12_sheet 4 = .ok (.ifCond .eq 25, 3) := by decide +kernel
theorem dX12_sheet_7 : decode cX12_sheet 7 = .ok (.iload_n 2, 1) := by decide +kernel
theorem dX12_sheet_8 : decode cX12_sheet 8 = .ok (.ifCond .eq 28, 3) := by decide +kernel
theorem dX12_sheet_11 : decode cX12_sheet 11 = .ok (.iload_n 2, 1) := by decide +kernel
theorem dX12_sheet_12 : decode cX12_sheet 12 = .ok (.bipush 8, 2) := by decide +kernel
theorem dX12_sheet_14 : decode cX12_sheet 14 = .ok (.if_icmp .eq 22, 3) := by decide +kernel
theorem dX12_sheet_17 : decode cX12_sheet 17 = .ok (.iload_n 2, 1) := by decide +kernel
theorem dX12_sheet_18 : decode cX12_sheet 18 = .ok (.bipush 16, 2) := by decide +kernel
theorem dX12_sheet_20 : decode cX12_sheet 20 = .ok (.if_icmp .eq 16, 3) := by decide +kernel
theorem dX12_sheet_23 : decode cX12_sheet 23 = .ok (.iload_n 2, 1) := by decide +kernel
theorem dX12_sheet_24 : decode cX12_sheet 24 = .ok (.bipush 32, 2) := by decide +kernel
theorem dX12_sheet_26 : decode cX12_sheet 26 = .ok (.if_icmp .eq 10, 3) := by decide +kernel
theorem dX12_sheet_29 : decode cX12_sheet 29 = .ok (.aload_n 0, 1) := by decide +kernel
theorem dX12_sheet_30 : decode cX12_sheet 30 = .ok (.ldc 50, 2) := by decide +kernel
theorem dX12_sheet_32 : decode cX12_sheet 32 = .ok (.invokevirtual 51, 3) := by decide +kernel
theorem dX12_sheet_35 : decode cX12_sheet 35 = .ok (.ireturn, 1) := by decide +kernel
theorem dX12_sheet_36 : decode cX12_sheet 36 = .ok (.iload_n 2, 1) := by decide +kernel
theorem dX12_sheet_37 : decode cX12_sheet 37 = .ok (.ifCond .eq 14, 3) := by decide +kernel
theorem dX12_sheet_40 : decode cX12_sheet 40 = .ok (.iload_n 3, 1) := by decide +kernel
theorem dX12_sheet_41 : decode cX12_sheet 41 = .ok (.ifCond .ge 10, 3) := by decide +kernel
theorem dX12_sheet_44 : decode cX12_sheet 44 = .ok (.aload_n 0, 1) := by decide +kernel
theorem dX12_sheet_45 : decode cX12_sheet 45 = .ok (.ldc 161, 2) := by decide +kernel
theorem dX12_sheet_47 : decode cX12_sheet 47 = .ok (.invokevirtual 51, 3) := by decide +kernel
theorem dX12_sheet_50 : decode cX12_sheet 50 = .ok (.ireturn, 1) := by decide +kernel
theorem dX12_sheet_51 : decode cX12_sheet 51 = .ok (.iload_n 2, 1) := by decide +kernel
theorem dX12_sheet_52 : decode cX12_sheet 52 = .ok (.ifCond .eq 16, 3) := by decide +kernel
theorem dX12_sheet_55 : decode cX12_sheet 55 = .ok (.iload_n 3, 1) := by decide +kernel
theorem dX12_sheet_56 : decode cX12_sheet 56 = .ok (.bipush 40, 2) := by decide +kernel
theorem dX12_sheet_58 : decode cX12_sheet 58 = .ok (.if_icmp .le 10, 3) := by decide +kernel
theorem dX12_sheet_61 : decode cX12_sheet 61 = .ok (.aload_n 0, 1) := by decide +kernel
theorem dX12_sheet_62 : decode cX12_sheet 62 = .ok (.ldc 50, 2) := by decide +kernel
theorem dX12_sheet_64 : decode cX12_sheet 64 = .ok (.invokevirtual 51, 3) := by decide +kernel
theorem dX12_sheet_67 : decode cX12_sheet 67 = .ok (.ireturn, 1) := by decide +kernel
theorem dX12_sheet_68 : decode cX12_sheet 68 = .ok (.aload_n 0, 1) := by decide +kernel
theorem dX12_sheet_69 : decode cX12_sheet 69 = .ok (.getfield 22, 3) := by decide +kernel
theorem dX12_sheet_72 : decode cX12_sheet 72 = .ok (.iload_n 1, 1) := by decide +kernel
theorem dX12_sheet_73 : decode cX12_sheet 73 = .ok (.iload_n 2, 1) := by decide +kernel
theorem dX12_sheet_74 : decode cX12_sheet 74 = .ok (.iastore, 1) := by decide +kernel
theorem dX12_sheet_75 : decode cX12_sheet 75 = .ok (.aload_n 0, 1) := by decide +kernel
theorem dX12_sheet_76 : decode cX12_sheet 76 = .ok (.getfield 25, 3) := by decide +kernel
theorem dX12_sheet_79 : decode cX12_sheet 79 = .ok (.iload_n 1, 1) := by decide +kernel
theorem dX12_sheet_80 : decode cX12_sheet 80 = .ok (.iload_n 2, 1) := by decide +kernel
theorem dX12_sheet_81 : decode cX12_sheet 81 = .ok (.ifCond .ne 7, 3) := by decide +kernel
theorem dX12_sheet_84 : decode cX12_sheet 84 = .ok (.iconst 0, 1) := by decide +kernel
theorem dX12_sheet_85 : decode cX12_sheet 85 = .ok (.goto 4, 3) := by decide +kernel
theorem dX12_sheet_88 : decode cX12_sheet 88 = .ok (.iload_n 3, 1) := by decide +kernel
theorem dX12_sheet_89 : decode cX12_sheet 89 = .ok (.iastore, 1) := by decide +kernel
theorem dX12_sheet_90 : decode cX12_sheet 90 = .ok (.iconst 0, 1) := by decide +kernel
theorem dX12_sheet_91 : decode cX12_sheet 91 = .ok (.istore 4, 2) := by decide +kernel
theorem dX12_sheet_93 : decode cX12_sheet 93 = .ok (.iload 4, 2) := by decide +kernel
theorem dX12_sheet_95 : decode cX12_sheet 95 = .ok (.bipush 40, 2) := by decide +kernel
theorem dX12_sheet_97 : decode cX12_sheet 97 = .ok (.if_icmp .ge 22, 3) := by decide +kernel
theorem dX12_sheet_100 : decode cX12_sheet 100 = .ok (.aload_n 0, 1) := by decide +kernel
theorem dX12_sheet_101 : decode cX12_sheet 101 = .ok (.getfield 28, 3) := by decide +kernel
theorem dX12_sheet_104 : decode cX12_sheet 104 = .ok (.bipush 40, 2) := by decide +kernel
theorem dX12_sheet_106 : decode cX12_sheet 106 = .ok (.iload_n 1, 1) := by decide +kernel
theorem dX12_sheet_107 : decode cX12_sheet 107 = .ok (.imul, 1) := by decide +kernel
theorem dX12_sheet_108 : decode cX12_sheet 108 = .ok (.iload 4, 2) := by decide +kernel
theorem dX12_sheet_110 : decode cX12_sheet 110 = .ok (.iadd, 1) := by decide +kernel
theorem dX12_sheet_111 : decode cX12_sheet 111 = .ok (.iconst 0, 1) := by decide +kernel
theorem dX12_sheet_112 : decode cX12_sheet 112 = .ok (.iastore, 1) := by decide +kernel
theorem dX12_sheet_113 : decode cX12_sheet 113 = .ok (.iinc 4 1, 3) := by decide +kernel
theorem dX12_sheet_116 : decode cX12_sheet 116 = .ok (.goto (-23), 3) := by decide +kernel
theorem dX12_sheet_119 : decode cX12_sheet 119 = .ok (.iconst 1, 1) := by decide +kernel
theorem dX12_sheet_120 : decode cX12_sheet 120 = .ok (.ireturn, 1) := by decide +kernel
theorem dX12_put_0 : decode cX12_put 0 = .ok (.iload_n 1, 1) := by decide +kernel
theorem dX12_put_1 : decode cX12_put 1 = .ok (.invokestatic 191, 3) := by decide +kernel
theorem dX12_put_4 : decode cX12_put 4 = .ok (.ifCond .ne 10, 3) := by decide +kernel
theorem dX12_put_7 : decode cX12_put 7 = .ok (.aload_n 0, 1) := by decide +kernel
theorem dX12_put_8 : decode cX12_put 8 = .ok (.ldc 50, 2) := by decide +kernel
theorem dX12_put_10 : decode cX12_put 10 = .ok (.invokevirtual 51, 3) := by decide +kernel
theorem dX12_put_13 : decode cX12_put 13 = .ok (.ireturn, 1) := by decide +kernel
theorem dX12_put_14 : decode cX12_put 14 = .ok (.aload_n 0, 1) := by decide +kernel
theorem dX12_put_15 : decode cX12_put 15 = .ok (.getfield 22, 3) := by decide +kernel
theorem dX12_put_18 : decode cX12_put 18 = .ok (.iload_n 1, 1) := by decide +kernel
theorem dX12_put_19 : decode cX12_put 19 = .ok (.iaload, 1) := by decide +kernel
theorem dX12_put_20 : decode cX12_put 20 = .ok (.ifCond .ne 10, 3) := by decide +kernel
theorem dX12_put_23 : decode cX12_put 23 = .ok (.aload_n 0, 1) := by decide +kernel
theorem dX12_put_24 : decode cX12_put 24 = .ok (.ldc 184, 2) := by decide +kernel
theorem dX12_put_26 : decode cX12_put 26 = .ok (.invokevirtual 51, 3) := by decide +kernel
theorem dX12_put_29 : decode cX12_put 29 = .ok (.ireturn, 1) := by decide +kernel
theorem dX12_put_30 : decode cX12_put 30 = .ok (.iload_n 2, 1) := by decide +kernel
theorem dX12_put_31 : decode cX12_put 31 = .ok (.iconst 0, 1) := by decide +kernel
theorem dX12_put_32 : decode cX12_put 32 = .ok (.aload_n 0, 1) := by decide +kernel
theorem dX12_put_33 : decode cX12_put 33 = .ok (.getfield 25, 3) := by decide +kernel
theorem dX12_put_36 : decode cX12_put 36 = .ok (.iload_n 1, 1) := by decide +kernel
theorem dX12_put_37 : decode cX12_put 37 = .ok (.iaload, 1) := by decide +kernel
theorem dX12_put_38 : decode cX12_put 38 = .ok (.iconst 1, 1) := by decide +kernel
theorem dX12_put_39 : decode cX12_put 39 = .ok (.isub, 1) := by decide +kernel
theorem dX12_put_40 : decode cX12_put 40 = .ok (.invokestatic 38, 3) := by decide +kernel
theorem dX12_put_43 : decode cX12_put 43 = .ok (.ifCond .ne 10, 3) := by decide +kernel
theorem dX12_put_46 : decode cX12_put 46 = .ok (.aload_n 0, 1) := by decide +kernel
theorem dX12_put_47 : decode cX12_put 47 = .ok (.ldc 50, 2) := by decide +kernel
theorem dX12_put_49 : decode cX12_put 49 = .ok (.invokevirtual 51, 3) := by decide +kernel
theorem dX12_put_52 : decode cX12_put 52 = .ok (.ireturn, 1) := by decide +kernel
theorem dX12_put_53 : decode cX12_put 53 = .ok (.aload_n 0, 1) := by decide +kernel
theorem dX12_put_54 : decode cX12_put 54 = .ok (.getfield 28, 3) := by decide +kernel
theorem dX12_put_57 : decode cX12_put 57 = .ok (.bipush 40, 2) := by decide +kernel
theorem dX12_put_59 : decode cX12_put 59 = .ok (.iload_n 1, 1) := by decide +kernel
theorem dX12_put_60 : decode cX12_put 60 = .ok (.imul, 1) := by decide +kernel
theorem dX12_put_61 : decode cX12_put 61 = .ok (.iload_n 2, 1) := by decide +kernel
theorem dX12_put_62 : decode cX12_put 62 = .ok (.iadd, 1) := by decide +kernel
theorem dX12_put_63 : decode cX12_put 63 = .ok (.aload_n 0, 1) := by decide +kernel
theorem dX12_put_64 : decode cX12_put 64 = .ok (.getfield 22, 3) := by decide +kernel
theorem dX12_put_67 : decode cX12_put 67 = .ok (.iload_n 1, 1) := by decide +kernel
theorem dX12_put_68 : decode cX12_put 68 = .ok (.iaload, 1) := by decide +kernel
theorem dX12_put_69 : decode cX12_put 69 = .ok (.iload_n 3, 1) := by decide +kernel
theorem dX12_put_70 : decode cX12_put 70 = .ok (.invokestatic 225, 3) := by decide +kernel
theorem dX12_put_73 : decode cX12_put 73 = .ok (.iastore, 1) := by decide +kernel
theorem dX12_put_74 : decode cX12_put 74 = .ok (.iconst 1, 1) := by decide +kernel
theorem dX12_put_75 : decode cX12_put 75 = .ok (.ireturn, 1) := by decide +kernel
theorem dX12_move_0 : decode cX12_move 0 = .ok (.iload_n 1, 1) := by decide +kernel
theorem dX12_move_1 : decode cX12_move 1 = .ok (.invokestatic 191, 3) := by decide +kernel
theorem dX12_move_4 : decode cX12_move 4 = .ok (.ifCond .eq 10, 3) := by decide +kernel
theorem dX12_move_7 : decode cX12_move 7 = .ok (.iload_n 3, 1) := by decide +kernel
theorem dX12_move_8 : decode cX12_move 8 = .ok (.invokestatic 191, 3) := by decide +kernel
theorem dX12_move_11 : decode cX12_move 11 = .ok (.ifCond .ne 10, 3) := by decide +kernel
theorem dX12_move_14 : decode cX12_move 14 = .ok (.aload_n 0, 1) := by decide +kernel
theorem dX12_move_15 : decode cX12_move 15 = .ok (.ldc 50, 2) := by decide +kernel
theorem dX12_move_17 : decode cX12_move 17 = .ok (.invokevirtual 51, 3) := by decide +kernel
theorem dX12_move_20 : decode cX12_move 20 = .ok (.ireturn, 1) := by decide +kernel
theorem dX12_move_21 : decode cX12_move 21 = .ok (.aload_n 0, 1) := by decide +kernel
theorem dX12_move_22 : decode cX12_move 22 = .ok (.getfield 22, 3) := by decide +kernel
theorem dX12_move_25 : decode cX12_move 25 = .ok (.iload_n 1, 1) := by decide +kernel
theorem dX12_move_26 : decode cX12_move 26 = .ok (.iaload, 1) := by decide +kernel
theorem dX12_move_27 : decode cX12_move 27 = .ok (.ifCond .eq 12, 3) := by decide +kernel
theorem dX12_move_30 : decode cX12_move 30 = .ok (.aload_n 0, 1) := by decide +kernel
theorem dX12_move_31 : decode cX12_move 31 = .ok (.getfield 22, 3) := by decide +kernel
theorem dX12_move_34 : decode cX12_move 34 = .ok (.iload_n 3, 1) := by decide +kernel
theorem dX12_move_35 : decode cX12_move 35 = .ok (.iaload, 1) := by decide +kernel
theorem dX12_move_36 : decode cX12_move 36 = .ok (.ifCond .ne 10, 3) := by decide +kernel
theorem dX12_move_39 : decode cX12_move 39 = .ok (.aload_n 0, 1) := by decide +kernel
theorem dX12_move_40 : decode cX12_move 40 = .ok (.ldc 184, 2) := by decide +kernel
theorem dX12_move_42 : decode cX12_move 42 = .ok (.invokevirtual 51, 3) := by decide +kernel
theorem dX12_move_45 : decode cX12_move 45 = .ok (.ireturn, 1) := by decide +kernel
theorem dX12_move_46 : decode cX12_move 46 = .ok (.aload_n 0, 1) := by decide +kernel
theorem dX12_move_47 : decode cX12_move 47 = .ok (.getfield 22, 3) := by decide +kernel
theorem dX12_move_50 : decode cX12_move 50 = .ok (.iload_n 1, 1) := by decide +kernel
theorem dX12_move_51 : decode cX12_move 51 = .ok (.iaload, 1) := by decide +kernel
theorem dX12_move_52 : decode cX12_move 52 = .ok (.aload_n 0, 1) := by decide +kernel
theorem dX12_move_53 : decode cX12_move 53 = .ok (.getfield 22, 3) := by decide +kernel
theorem dX12_move_56 : decode cX12_move 56 = .ok (.iload_n 3, 1) := by decide +kernel
theorem dX12_move_57 : decode cX12_move 57 = .ok (.iaload, 1) := by decide +kernel
theorem dX12_move_58 : decode cX12_move 58 = .ok (.if_icmp .eq 10, 3) := by decide +kernel
theorem dX12_move_61 : decode cX12_move 61 = .ok (.aload_n 0, 1) := by decide +kernel
theorem dX12_move_62 : decode cX12_move 62 = .ok (.ldc 76, 2) := by decide +kernel
theorem dX12_move_64 : decode cX12_move 64 = .ok (.invokevirtual 51, 3) := by decide +kernel
theorem dX12_move_67 : decode cX12_move 67 = .ok (.ireturn, 1) := by decide +kernel
theorem dX12_move_68 : decode cX12_move 68 = .ok (.iload 5, 2) := by decide +kernel
theorem dX12_move_70 : decode cX12_move 70 = .ok (.ifCond .lt 39, 3) := by decide +kernel
theorem dX12_move_73 : decode cX12_move 73 = .ok (.iload_n 2, 1) := by decide +kernel
theorem dX12_move_74 : decode cX12_move 74 = .ok (.ifCond .lt 35, 3) := by decide +kernel
theorem dX12_move_77 : decode cX12_move 77 = .ok (.iload 4, 2) := by decide +kernel
theorem dX12_move_79 : decode cX12_move 79 = .ok (.ifCond .lt 30, 3) := by decide +kernel
theorem dX12_move_82 : decode cX12_move 82 = .ok (.iload_n 2, 1) := by decide +kernel
theorem dX12_move_83 : decode cX12_move 83 = .ok (.aload_n 0, 1) := by decide +kernel
theorem dX12_move_84 : decode cX12_move 84 = .ok (.getfield 25, 3) := by decide +kernel
theorem dX12_move_87 : decode cX12_move 87 = .ok (.iload_n 1, 1) := by decide +kernel
theorem dX12_move_88 : decode cX12_move 88 = .ok (.iaload, 1) := by decide +kernel
theorem dX12_move_89 : decode cX12_move 89 = .ok (.iload 5, 2) := by decide +kernel
theorem dX12_move_91 : decode cX12_move 91 = .ok (.isub, 1) := by decide +kernel
theorem dX12_move_92 : decode cX12_move 92 = .ok (.if_icmp .gt 17, 3) := by decide +kernel
theorem dX12_move_95 : decode cX12_move 95 = .ok (.iload 4, 2) := by decide +kernel
theorem dX12_move_97 : decode cX12_move 97 = .ok (.aload_n 0, 1) := by decide +kernel
theorem dX12_move_98 : decode cX12_move 98 = .ok (.getfield 25, 3) := by decide +kernel
theorem dX12_move_101 : decode cX12_move 101 = .ok (.iload_n 3, 1) := by decide +kernel
theorem dX12_move_102 : decode cX12_move 102 = .ok (.iaload, 1) := by decide +kernel
theorem dX12_move_103 : decode cX12_move 103 = .ok (.iload 5, 2) := by decide +kernel
theorem dX12_move_105 : decode cX12_move 105 = .ok (.isub, 1) := by decide +kernel
theorem dX12_move_106 : decode cX12_move 106 = .ok (.if_icmp .le 10, 3) := by decide +kernel
theorem dX12_move_109 : decode cX12_move 109 = .ok (.aload_n 0, 1) := by decide +kernel
theorem dX12_move_110 : decode cX12_move 110 = .ok (.ldc 50, 2) := by decide +kernel
theorem dX12_move_112 : decode cX12_move 112 = .ok (.invokevirtual 51, 3) := by decide +kernel
theorem dX12_move_115 : decode cX12_move 115 = .ok (.ireturn, 1) := by decide +kernel
theorem dX12_move_116 : decode cX12_move 116 = .ok (.iconst 0, 1) := by decide +kernel
theorem dX12_move_117 : decode cX12_move 117 = .ok (.istore 6, 2) := by decide +kernel
theorem dX12_move_119 : decode cX12_move 119 = .ok (.iload 6, 2) := by decide +kernel
theorem dX12_move_121 : decode cX12_move 121 = .ok (.iload 5, 2) := by decide +kernel
theorem dX12_move_123 : decode cX12_move 123 = .ok (.if_icmp .ge 30, 3) := by decide +kernel
theorem dX12_move_126 : decode cX12_move 126 = .ok (.aload_n 0, 1) := by decide +kernel
theorem dX12_move_127 : decode cX12_move 127 = .ok (.getfield 31, 3) := by decide +kernel
theorem dX12_move_130 : decode cX12_move 130 = .ok (.iload 6, 2) := by decide +kernel
theorem dX12_move_132 : decode cX12_move 132 = .ok (.aload_n 0, 1) := by decide +kernel
theorem dX12_move_133 : decode cX12_move 133 = .ok (.getfield 28, 3) := by decide +kernel
theorem dX12_move_136 : decode cX12_move 136 = .ok (.bipush 40, 2) := by decide +kernel
theorem dX12_move_138 : decode cX12_move 138 = .ok (.iload_n 1, 1) := by decide +kernel
theorem dX12_move_139 : decode cX12_move 139 = .ok (.imul, 1) := by decide +kernel
theorem dX12_move_140 : decode cX12_move 140 = .ok (.iload_n 2, 1) := by decide +kernel
theorem dX12_move_141 : decode cX12_move 141 = .ok (.iadd, 1) := by decide +kernel
theorem dX12_move_142 : decode cX12_move 142 = .ok (.iload 6, 2) := by decide +kernel
theorem dX12_move_144 : decode cX12_move 144 = .ok (.iadd, 1) := by decide +kernel
theorem dX12_move_145 : decode cX12_move 145 = .ok (.iaload, 1) := by decide +kernel
theorem dX12_move_146 : decode cX12_move 146 = .ok (.iastore, 1) := by decide +kernel
theorem dX12_move_147 : decode cX12_move 147 = .ok (.iinc 6 1, 3) := by decide +kernel
theorem dX12_move_150 : decode cX12_move 150 = .ok (.goto (-31), 3) := by decide +kernel
theorem dX12_move_153 : decode cX12_move 153 = .ok (.iconst 0, 1) := by decide +kernel
theorem dX12_move_154 : decode cX12_move 154 = .ok (.istore 6, 2) := by decide +kernel
theorem dX12_move_156 : decode cX12_move 156 = .ok (.iload 6, 2) := by decide +kernel
theorem dX12_move_158 : decode cX12_move 158 = .ok (.iload 5, 2) := by decide +kernel
theorem dX12_move_160 : decode cX12_move 160 = .ok (.if_icmp .ge 31, 3) := by decide +kernel
theorem dX12_move_163 : decode cX12_move 163 = .ok (.aload_n 0, 1) := by decide +kernel
theorem dX12_move_164 : decode cX12_move 164 = .ok (.getfield 28, 3) := by decide +kernel
theorem dX12_move_167 : decode cX12_move 167 = .ok (.bipush 40, 2) := by decide +kernel
theorem dX12_move_169 : decode cX12_move 169 = .ok (.iload_n 3, 1) := by decide +kernel
theorem dX12_move_170 : decode cX12_move 170 = .ok (.imul, 1) := by decide +kernel
theorem dX12_move_171 : decode cX12_move 171 = .ok (.iload 4, 2) := by decide +kernel
theorem dX12_move_173 : decode cX12_move 173 = .ok (.iadd, 1) := by decide +kernel
theorem dX12_move_174 : decode cX12_move 174 = .ok (.iload 6, 2) := by decide +kernel
theorem dX12_move_176 : decode cX12_move 176 = .ok (.iadd, 1) := by decide +kernel
theorem dX12_move_177 : decode cX12_move 177 = .ok (.aload_n 0, 1) := by decide +kernel
theorem dX12_move_178 : decode cX12_move 178 = .ok (.getfield 31, 3) := by decide +kernel
theorem dX12_move_181 : decode cX12_move 181 = .ok (.iload 6, 2) := by decide +kernel
theorem dX12_move_183 : decode cX12_move 183 = .ok (.iaload, 1) := by decide +kernel
theorem dX12_move_184 : decode cX12_move 184 = .ok (.iastore, 1) := by decide +kernel
theorem dX12_move_185 : decode cX12_move 185 = .ok (.iinc 6 1, 3) := by decide +kernel
theorem dX12_move_188 : decode cX12_move 188 = .ok (.goto (-32), 3) := by decide +kernel
theorem dX12_move_191 : decode cX12_move 191 = .ok (.iload 5, 2) := by decide +kernel
theorem dX12_move_193 : decode cX12_move 193 = .ok (.ireturn, 1) := by decide +kernel
theorem dX12_fars_0 : decode cX12_fars 0 = .ok (.iload_n 1, 1) := by decide +kernel
theorem dX12_fars_1 : decode cX12_fars 1 = .ok (.invokestatic 191, 3) := by decide +kernel
theorem dX12_fars_4 : decode cX12_fars 4 = .ok (.ifCond .ne 10, 3) := by decide +kernel
theorem dX12_fars_7 : decode cX12_fars 7 = .ok (.aload_n 0, 1) := by decide +kernel
theorem dX12_fars_8 : decode cX12_fars 8 = .ok (.ldc 50, 2) := by decide +kernel
theorem dX12_fars_10 : decode cX12_fars 10 = .ok (.invokevirtual 51, 3) := by decide +kernel
theorem dX12_fars_13 : decode cX12_fars 13 = .ok (.ireturn, 1) := by decide +kernel
theorem dX12_fars_14 : decode cX12_fars 14 = .ok (.aload_n 0, 1) := by decide +kernel
theorem dX12_fars_15 : decode cX12_fars 15 = .ok (.getfield 22, 3) := by decide +kernel
theorem dX12_fars_18 : decode cX12_fars 18 = .ok (.iload_n 1, 1) := by decide +kernel
theorem dX12_fars_19 : decode cX12_fars 19 = .ok (.iaload, 1) := by decide +kernel
theorem dX12_fars_20 : decode cX12_fars 20 = .ok (.ifCond .ne 10, 3) := by decide +kernel
theorem dX12_fars_23 : decode cX12_fars 23 = .ok (.aload_n 0, 1) := by decide +kernel
theorem dX12_fars_24 : decode cX12_fars 24 = .ok (.ldc 184, 2) := by decide +kernel
theorem dX12_fars_26 : decode cX12_fars 26 = .ok (.invokevirtual 51, 3) := by decide +kernel
theorem dX12_fars_29 : decode cX12_fars 29 = .ok (.ireturn, 1) := by decide +kernel
theorem dX12_fars_30 : decode cX12_fars 30 = .ok (.iconst 0, 1) := by decide +kernel
theorem dX12_fars_31 : decode cX12_fars 31 = .ok (.istore_n 2, 1) := by decide +kernel
theorem dX12_fars_32 : decode cX12_fars 32 = .ok (.iload_n 2, 1) := by decide +kernel
theorem dX12_fars_33 : decode cX12_fars 33 = .ok (.aload_n 0, 1) := by decide +kernel
theorem dX12_fars_34 : decode cX12_fars 34 = .ok (.getfield 25, 3) := by decide +kernel
theorem dX12_fars_37 : decode cX12_fars 37 = .ok (.iload_n 1, 1) := by decide +kernel
theorem dX12_fars_38 : decode cX12_fars 38 = .ok (.iaload, 1) := by decide +kernel
theorem dX12_fars_39 : decode cX12_fars 39 = .ok (.if_icmp .ge 54, 3) := by decide +kernel
theorem dX12_fars_42 : decode cX12_fars 42 = .ok (.aload_n 0, 1) := by decide +kernel
theorem dX12_fars_43 : decode cX12_fars 43 = .ok (.iload_n 2, 1) := by decide +kernel
theorem dX12_fars_44 : decode cX12_fars 44 = .ok (.invokevirtual 60, 3) := by decide +kernel
theorem dX12_fars_47 : decode cX12_fars 47 = .ok (.ifCond .eq 46, 3) := by decide +kernel
theorem dX12_fars_50 : decode cX12_fars 50 = .ok (.aload_n 0, 1) := by decide +kernel
theorem dX12_fars_51 : decode cX12_fars 51 = .ok (.getfield 28, 3) := by decide +kernel
theorem dX12_fars_54 : decode cX12_fars 54 = .ok (.bipush 40, 2) := by decide +kernel
theorem dX12_fars_56 : decode cX12_fars 56 = .ok (.iload_n 1, 1) := by decide +kernel
theorem dX12_fars_57 : decode cX12_fars 57 = .ok (.imul, 1) := by decide +kernel
theorem dX12_fars_58 : decode cX12_fars 58 = .ok (.iload_n 2, 1) := by decide +kernel
theorem dX12_fars_59 : decode cX12_fars 59 = .ok (.iadd, 1) := by decide +kernel
theorem dX12_fars_60 : decode cX12_fars 60 = .ok (.iaload, 1) := by decide +kernel
theorem dX12_fars_61 : decode cX12_fars 61 = .ok (.iconst 0, 1) := by decide +kernel
theorem dX12_fars_62 : decode cX12_fars 62 = .ok (.bipush 99, 2) := by decide +kernel
theorem dX12_fars_64 : decode cX12_fars 64 = .ok (.invokestatic 38, 3) := by decide +kernel
theorem dX12_fars_67 : decode cX12_fars 67 = .ok (.ifCond .eq 26, 3) := by decide +kernel
theorem dX12_fars_70 : decode cX12_fars 70 = .ok (.aload_n 0, 1) := by decide +kernel
theorem dX12_fars_71 : decode cX12_fars 71 = .ok (.iload_n 2, 1) := by decide +kernel
theorem dX12_fars_72 : decode cX12_fars 72 = .ok (.iconst 2, 1) := by decide +kernel
theorem dX12_fars_73 : decode cX12_fars 73 = .ok (.aload_n 0, 1) := by decide +kernel
theorem dX12_fars_74 : decode cX12_fars 74 = .ok (.getfield 28, 3) := by decide +kernel
theorem dX12_fars_77 : decode cX12_fars 77 = .ok (.bipush 40, 2) := by decide +kernel
theorem dX12_fars_79 : decode cX12_fars 79 = .ok (.iload_n 1, 1) := by decide +kernel
theorem dX12_fars_80 : decode cX12_fars 80 = .ok (.imul, 1) := by decide +kernel
theorem dX12_fars_81 : decode cX12_fars 81 = .ok (.iload_n 2, 1) := by decide +kernel
theorem dX12_fars_82 : decode cX12_fars 82 = .ok (.iadd, 1) := by decide +kernel
theorem dX12_fars_83 : decode cX12_fars 83 = .ok (.iaload, 1) := by decide +kernel
theorem dX12_fars_84 : decode cX12_fars 84 = .ok (.invokevirtual 56, 3) := by decide +kernel
theorem dX12_fars_87 : decode cX12_fars 87 = .ok (.iinc 2 1, 3) := by decide +kernel
theorem dX12_fars_90 : decode cX12_fars 90 = .ok (.goto (-58), 3) := by decide +kernel
theorem dX12_fars_93 : decode cX12_fars 93 = .ok (.iload_n 2, 1) := by decide +kernel
theorem dX12_fars_94 : decode cX12_fars 94 = .ok (.ireturn, 1) := by decide +kernel
theorem dX12_judge_0 : decode cX12_judge 0 = .ok (.iload_n 1, 1) := by decide +kernel
theorem dX12_judge_1 : decode cX12_judge 1 = .ok (.invokestatic 191, 3) := by decide +kernel
theorem dX12_judge_4 : decode cX12_judge 4 = .ok (.ifCond .ne 10, 3) := by decide +kernel
theorem dX12_judge_7 : decode cX12_judge 7 = .ok (.aload_n 0, 1) := by decide +kernel
theorem dX12_judge_8 : decode cX12_judge 8 = .ok (.ldc 50, 2) := by decide +kernel
theorem dX12_judge_10 : decode cX12_judge 10 = .ok (.invokevirtual 51, 3) := by decide +kernel
theorem dX12_judge_13 : decode cX12_judge 13 = .ok (.ireturn, 1) := by decide +kernel
theorem dX12_judge_14 : decode cX12_judge 14 = .ok (.aload_n 0, 1) := by decide +kernel
theorem dX12_judge_15 : decode cX12_judge 15 = .ok (.getfield 22, 3) := by decide +kernel
theorem dX12_judge_18 : decode cX12_judge 18 = .ok (.iload_n 1, 1) := by decide +kernel
theorem dX12_judge_19 : decode cX12_judge 19 = .ok (.iaload, 1) := by decide +kernel
theorem dX12_judge_20 : decode cX12_judge 20 = .ok (.ifCond .ne 10, 3) := by decide +kernel
theorem dX12_judge_23 : decode cX12_judge 23 = .ok (.aload_n 0, 1) := by decide +kernel
theorem dX12_judge_24 : decode cX12_judge 24 = .ok (.ldc 184, 2) := by decide +kernel
theorem dX12_judge_26 : decode cX12_judge 26 = .ok (.invokevirtual 51, 3) := by decide +kernel
theorem dX12_judge_29 : decode cX12_judge 29 = .ok (.ireturn, 1) := by decide +kernel
theorem dX12_judge_30 : decode cX12_judge 30 = .ok (.iconst 0, 1) := by decide +kernel
theorem dX12_judge_31 : decode cX12_judge 31 = .ok (.istore_n 2, 1) := by decide +kernel
theorem dX12_judge_32 : decode cX12_judge 32 = .ok (.iload_n 2, 1) := by decide +kernel
theorem dX12_judge_33 : decode cX12_judge 33 = .ok (.aload_n 0, 1) := by decide +kernel
theorem dX12_judge_34 : decode cX12_judge 34 = .ok (.getfield 7, 3) := by decide +kernel
theorem dX12_judge_37 : decode cX12_judge 37 = .ok (.iconst 2, 1) := by decide +kernel
theorem dX12_judge_38 : decode cX12_judge 38 = .ok (.iaload, 1) := by decide +kernel
theorem dX12_judge_39 : decode cX12_judge 39 = .ok (.if_icmp .ge 39, 3) := by decide +kernel
theorem dX12_judge_42 : decode cX12_judge 42 = .ok (.iload_n 2, 1) := by decide +kernel
theorem dX12_judge_43 : decode cX12_judge 43 = .ok (.aload_n 0, 1) := by decide +kernel
theorem dX12_judge_44 : decode cX12_judge 44 = .ok (.getfield 25, 3) := by decide +kernel
theorem dX12_judge_47 : decode cX12_judge 47 = .ok (.iload_n 1, 1) := by decide +kernel
theorem dX12_judge_48 : decode cX12_judge 48 = .ok (.iaload, 1) := by decide +kernel
theorem dX12_judge_49 : decode cX12_judge 49 = .ok (.if_icmp .ge 29, 3) := by decide +kernel
theorem dX12_judge_52 : decode cX12_judge 52 = .ok (.aload_n 0, 1) := by decide +kernel
theorem dX12_judge_53 : decode cX12_judge 53 = .ok (.getfield 28, 3) := by decide +kernel
theorem dX12_judge_56 : decode cX12_judge 56 = .ok (.bipush 40, 2) := by decide +kernel
theorem dX12_judge_58 : decode cX12_judge 58 = .ok (.iload_n 1, 1) := by decide +kernel
theorem dX12_judge_59 : decode cX12_judge 59 = .ok (.imul, 1) := by decide +kernel
theorem dX12_judge_60 : decode cX12_judge 60 = .ok (.iload_n 2, 1) := by decide +kernel
theorem dX12_judge_61 : decode cX12_judge 61 = .ok (.iadd, 1) := by decide +kernel
theorem dX12_judge_62 : decode cX12_judge 62 = .ok (.iaload, 1) := by decide +kernel
theorem dX12_judge_63 : decode cX12_judge 63 = .ok (.aload_n 0, 1) := by decide +kernel
theorem dX12_judge_64 : decode cX12_judge 64 = .ok (.iload_n 2, 1) := by decide +kernel
theorem dX12_judge_65 : decode cX12_judge 65 = .ok (.iconst 3, 1) := by decide +kernel
theorem dX12_judge_66 : decode cX12_judge 66 = .ok (.invokevirtual 64, 3) := by decide +kernel
theorem dX12_judge_69 : decode cX12_judge 69 = .ok (.if_icmp .ne 9, 3) := by decide +kernel
theorem dX12_judge_72 : decode cX12_judge 72 = .ok (.iinc 2 1, 3) := by decide +kernel
theorem dX12_judge_75 : decode cX12_judge 75 = .ok (.goto (-43), 3) := by decide +kernel
theorem dX12_judge_78 : decode cX12_judge 78 = .ok (.iload_n 2, 1) := by decide +kernel
theorem dX12_judge_79 : decode cX12_judge 79 = .ok (.aload_n 0, 1) := by decide +kernel
theorem dX12_judge_80 : decode cX12_judge 80 = .ok (.getfield 7, 3) := by decide +kernel
theorem dX12_judge_83 : decode cX12_judge 83 = .ok (.iconst 2, 1) := by decide +kernel
theorem dX12_judge_84 : decode cX12_judge 84 = .ok (.iaload, 1) := by decide +kernel
theorem dX12_judge_85 : decode cX12_judge 85 = .ok (.if_icmp .ne 17, 3) := by decide +kernel
theorem dX12_judge_88 : decode cX12_judge 88 = .ok (.iload_n 2, 1) := by decide +kernel
theorem dX12_judge_89 : decode cX12_judge 89 = .ok (.aload_n 0, 1) := by decide +kernel
theorem dX12_judge_90 : decode cX12_judge 90 = .ok (.getfield 25, 3) := by decide +kernel
theorem dX12_judge_93 : decode cX12_judge 93 = .ok (.iload_n 1, 1) := by decide +kernel
theorem dX12_judge_94 : decode cX12_judge 94 = .ok (.iaload, 1) := by decide +kernel
theorem dX12_judge_95 : decode cX12_judge 95 = .ok (.if_icmp .ne 7, 3) := by decide +kernel
theorem dX12_judge_98 : decode cX12_judge 98 = .ok (.iconst (-1), 1) := by decide +kernel
theorem dX12_judge_99 : decode cX12_judge 99 = .ok (.goto 4, 3) := by decide +kernel
theorem dX12_judge_102 : decode cX12_judge 102 = .ok (.iload_n 2, 1) := by decide +kernel
theorem dX12_judge_103 : decode cX12_judge 103 = .ok (.ireturn, 1) := by decide +kernel
theorem dX12_image_0 : decode cX12_image 0 = .ok (.aload_n 0, 1) := by decide +kernel
theorem dX12_image_1 : decode cX12_image 1 = .ok (.aload_n 0, 1) := by decide +kernel
theorem dX12_image_2 : decode cX12_image 2 = .ok (.getfield 7, 3) := by decide +kernel
theorem dX12_image_5 : decode cX12_image 5 = .ok (.aload_n 0, 1) := by decide +kernel
theorem dX12_image_6 : decode cX12_image 6 = .ok (.getfield 13, 3) := by decide +kernel
theorem dX12_image_9 : decode cX12_image 9 = .ok (.invokevirtual 150, 3) := by decide +kernel
theorem dX12_image_12 : decode cX12_image 12 = .ok (.aload_n 0, 1) := by decide +kernel
theorem dX12_image_13 : decode cX12_image 13 = .ok (.iconst 1, 1) := by decide +kernel
theorem dX12_image_14 : decode cX12_image 14 = .ok (.putfield 228, 3) := by decide +kernel
theorem dX12_image_17 : decode cX12_image 17 = .ok (.aload_n 0, 1) := by decide +kernel
theorem dX12_image_18 : decode cX12_image 18 = .ok (.dup, 1) := by decide +kernel
theorem dX12_image_19 : decode cX12_image 19 = .ok (.getfield 231, 3) := by decide +kernel
theorem dX12_image_22 : decode cX12_image 22 = .ok (.iconst 1, 1) := by decide +kernel
theorem dX12_image_23 : decode cX12_image 23 = .ok (.iadd, 1) := by decide +kernel
theorem dX12_image_24 : decode cX12_image 24 = .ok (.putfield 231, 3) := by decide +kernel
theorem dX12_image_27 : decode cX12_image 27 = .ok (.aload_n 0, 1) := by decide +kernel
theorem dX12_image_28 : decode cX12_image 28 = .ok (.getfield 231, 3) := by decide +kernel
theorem dX12_image_31 : decode cX12_image 31 = .ok (.ireturn, 1) := by decide +kernel
theorem dX12_restore_0 : decode cX12_restore 0 = .ok (.aload_n 0, 1) := by decide +kernel
theorem dX12_restore_1 : decode cX12_restore 1 = .ok (.getfield 228, 3) := by decide +kernel
theorem dX12_restore_4 : decode cX12_restore 4 = .ok (.ifCond .ne 10, 3) := by decide +kernel
theorem dX12_restore_7 : decode cX12_restore 7 = .ok (.aload_n 0, 1) := by decide +kernel
theorem dX12_restore_8 : decode cX12_restore 8 = .ok (.ldc 184, 2) := by decide +kernel
theorem dX12_restore_10 : decode cX12_restore 10 = .ok (.invokevirtual 51, 3) := by decide +kernel
theorem dX12_restore_13 : decode cX12_restore 13 = .ok (.ireturn, 1) := by decide +kernel
theorem dX12_restore_14 : decode cX12_restore 14 = .ok (.aload_n 0, 1) := by decide +kernel
theorem dX12_restore_15 : decode cX12_restore 15 = .ok (.aload_n 0, 1) := by decide +kernel
theorem dX12_restore_16 : decode cX12_restore 16 = .ok (.getfield 13, 3) := by decide +kernel
theorem dX12_restore_19 : decode cX12_restore 19 = .ok (.aload_n 0, 1) := by decide +kernel
theorem dX12_restore_20 : decode cX12_restore 20 = .ok (.getfield 7, 3) := by decide +kernel
theorem dX12_restore_23 : decode cX12_restore 23 = .ok (.invokevirtual 150, 3) := by decide +kernel
theorem dX12_restore_26 : decode cX12_restore 26 = .ok (.aload_n 0, 1) := by decide +kernel
theorem dX12_restore_27 : decode cX12_restore 27 = .ok (.getfield 7, 3) := by decide +kernel
theorem dX12_restore_30 : decode cX12_restore 30 = .ok (.iconst 0, 1) := by decide +kernel
theorem dX12_restore_31 : decode cX12_restore 31 = .ok (.iaload, 1) := by decide +kernel
theorem dX12_restore_32 : decode cX12_restore 32 = .ok (.ireturn, 1) := by decide +kernel
theorem dX12_tell_0 : decode cX12_tell 0 = .ok (.aload_n 0, 1) := by decide +kernel
theorem dX12_tell_1 : decode cX12_tell 1 = .ok (.getfield 7, 3) := by decide +kernel
theorem dX12_tell_4 : decode cX12_tell 4 = .ok (.iconst 4, 1) := by decide +kernel
theorem dX12_tell_5 : decode cX12_tell 5 = .ok (.iaload, 1) := by decide +kernel
theorem dX12_tell_6 : decode cX12_tell 6 = .ok (.bipush 20, 2) := by decide +kernel
theorem dX12_tell_8 : decode cX12_tell 8 = .ok (.if_icmp .ne 10, 3) := by decide +kernel
theorem dX12_tell_11 : decode cX12_tell 11 = .ok (.aload_n 0, 1) := by decide +kernel
theorem dX12_tell_12 : decode cX12_tell 12 = .ok (.ldc 55, 2) := by decide +kernel
theorem dX12_tell_14 : decode cX12_tell 14 = .ok (.invokevirtual 51, 3) := by decide +kernel
theorem dX12_tell_17 : decode cX12_tell 17 = .ok (.ireturn, 1) := by decide +kernel
theorem dX12_tell_18 : decode cX12_tell 18 = .ok (.aload_n 0, 1) := by decide +kernel
theorem dX12_tell_19 : decode cX12_tell 19 = .ok (.getfield 7, 3) := by decide +kernel
theorem dX12_tell_22 : decode cX12_tell 22 = .ok (.sipush 156, 3) := by decide +kernel
theorem dX12_tell_25 : decode cX12_tell 25 = .ok (.aload_n 0, 1) := by decide +kernel
theorem dX12_tell_26 : decode cX12_tell 26 = .ok (.getfield 7, 3) := by decide +kernel
theorem dX12_tell_29 : decode cX12_tell 29 = .ok (.iconst 4, 1) := by decide +kernel
theorem dX12_tell_30 : decode cX12_tell 30 = .ok (.iaload, 1) := by decide +kernel
theorem dX12_tell_31 : decode cX12_tell 31 = .ok (.iadd, 1) := by decide +kernel
theorem dX12_tell_32 : decode cX12_tell 32 = .ok (.iload_n 1, 1) := by decide +kernel
theorem dX12_tell_33 : decode cX12_tell 33 = .ok (.iastore, 1) := by decide +kernel
theorem dX12_tell_34 : decode cX12_tell 34 = .ok (.aload_n 0, 1) := by decide +kernel
theorem dX12_tell_35 : decode cX12_tell 35 = .ok (.getfield 7, 3) := by decide +kernel
theorem dX12_tell_38 : decode cX12_tell 38 = .ok (.iconst 4, 1) := by decide +kernel
theorem dX12_tell_39 : decode cX12_tell 39 = .ok (.dup2, 1) := by decide +kernel
theorem dX12_tell_40 : decode cX12_tell 40 = .ok (.iaload, 1) := by decide +kernel
theorem dX12_tell_41 : decode cX12_tell 41 = .ok (.iconst 1, 1) := by decide +kernel
theorem dX12_tell_42 : decode cX12_tell 42 = .ok (.iadd, 1) := by decide +kernel
theorem dX12_tell_43 : decode cX12_tell 43 = .ok (.iastore, 1) := by decide +kernel
theorem dX12_tell_44 : decode cX12_tell 44 = .ok (.aload_n 0, 1) := by decide +kernel
theorem dX12_tell_45 : decode cX12_tell 45 = .ok (.getfield 7, 3) := by decide +kernel
theorem dX12_tell_48 : decode cX12_tell 48 = .ok (.iconst 4, 1) := by decide +kernel
theorem dX12_tell_49 : decode cX12_tell 49 = .ok (.iaload, 1) := by decide +kernel
theorem dX12_tell_50 : decode cX12_tell 50 = .ok (.ireturn, 1) := by decide +kernel
theorem dX12_check_0 : decode cX12_check 0 = .ok (.aload_n 0, 1) := by decide +kernel
theorem dX12_check_1 : decode cX12_check 1 = .ok (.getfield 7, 3) := by decide +kernel
theorem dX12_check_4 : decode cX12_check 4 = .ok (.iconst 4, 1) := by decide +kernel
theorem dX12_check_5 : decode cX12_check 5 = .ok (.iaload, 1) := by decide +kernel
theorem dX12_check_6 : decode cX12_check 6 = .ok (.istore_n 1, 1) := by decide +kernel
theorem dX12_check_7 : decode cX12_check 7 = .ok (.aload_n 0, 1) := by decide +kernel
theorem dX12_check_8 : decode cX12_check 8 = .ok (.getfield 7, 3) := by decide +kernel
theorem dX12_check_11 : decode cX12_check 11 = .ok (.iconst 4, 1) := by decide +kernel
theorem dX12_check_12 : decode cX12_check 12 = .ok (.iconst 0, 1) := by decide +kernel
theorem dX12_check_13 : decode cX12_check 13 = .ok (.iastore, 1) := by decide +kernel
theorem dX12_check_14 : decode cX12_check 14 = .ok (.iconst 0, 1) := by decide +kernel
theorem dX12_check_15 : decode cX12_check 15 = .ok (.istore_n 2, 1) := by decide +kernel
theorem dX12_check_16 : decode cX12_check 16 = .ok (.iconst 1, 1) := by decide +kernel
theorem dX12_check_17 : decode cX12_check 17 = .ok (.istore_n 3, 1) := by decide +kernel
theorem dX12_check_18 : decode cX12_check 18 = .ok (.iload_n 2, 1) := by decide +kernel
theorem dX12_check_19 : decode cX12_check 19 = .ok (.iload_n 1, 1) := by decide +kernel
theorem dX12_check_20 : decode cX12_check 20 = .ok (.if_icmp .ge 65, 3) := by decide +kernel
theorem dX12_check_23 : decode cX12_check 23 = .ok (.iload_n 3, 1) := by decide +kernel
theorem dX12_check_24 : decode cX12_check 24 = .ok (.ifCond .eq 61, 3) := by decide +kernel
theorem dX12_check_27 : decode cX12_check 27 = .ok (.aload_n 0, 1) := by decide +kernel
theorem dX12_check_28 : decode cX12_check 28 = .ok (.getfield 7, 3) := by decide +kernel
theorem dX12_check_31 : decode cX12_check 31 = .ok (.iconst 2, 1) := by decide +kernel
theorem dX12_check_32 : decode cX12_check 32 = .ok (.iaload, 1) := by decide +kernel
theorem dX12_check_33 : decode cX12_check 33 = .ok (.ifCond .le 35, 3) := by decide +kernel
theorem dX12_check_36 : decode cX12_check 36 = .ok (.aload_n 0, 1) := by decide +kernel
theorem dX12_check_37 : decode cX12_check 37 = .ok (.iconst 0, 1) := by decide +kernel
theorem dX12_check_38 : decode cX12_check 38 = .ok (.aload_n 0, 1) := by decide +kernel
theorem dX12_check_39 : decode cX12_check 39 = .ok (.getfield 7, 3) := by decide +kernel
theorem dX12_check_42 : decode cX12_check 42 = .ok (.iconst 0, 1) := by decide +kernel
theorem dX12_check_43 : decode cX12_check 43 = .ok (.iaload, 1) := by decide +kernel
theorem dX12_check_44 : decode cX12_check 44 = .ok (.iconst 1, 1) := by decide +kernel
theorem dX12_check_45 : decode cX12_check 45 = .ok (.iadd, 1) := by decide +kernel
theorem dX12_check_46 : decode cX12_check 46 = .ok (.iload_n 2, 1) := by decide +kernel
theorem dX12_check_47 : decode cX12_check 47 = .ok (.iadd, 1) := by decide +kernel
theorem dX12_check_48 : decode cX12_check 48 = .ok (.invokevirtual 67, 3) := by decide +kernel
theorem dX12_check_51 : decode cX12_check 51 = .ok (.aload_n 0, 1) := by decide +kernel
theorem dX12_check_52 : decode cX12_check 52 = .ok (.getfield 7, 3) := by decide +kernel
theorem dX12_check_55 : decode cX12_check 55 = .ok (.sipush 156, 3) := by decide +kernel
theorem dX12_check_58 : decode cX12_check 58 = .ok (.iload_n 2, 1) := by decide +kernel
theorem dX12_check_59 : decode cX12_check 59 = .ok (.iadd, 1) := by decide +kernel
theorem dX12_check_60 : decode cX12_check 60 = .ok (.iaload, 1) := by decide +kernel
theorem dX12_check_61 : decode cX12_check 61 = .ok (.if_icmp .ne 7, 3) := by decide +kernel
theorem dX12_check_64 : decode cX12_check 64 = .ok (.iconst 1, 1) := by decide +kernel
theorem dX12_check_65 : decode cX12_check 65 = .ok (.goto 4, 3) := by decide +kernel
theorem dX12_check_68 : decode cX12_check 68 = .ok (.iconst 0, 1) := by decide +kernel
theorem dX12_check_69 : decode cX12_check 69 = .ok (.istore_n 3, 1) := by decide +kernel
theorem dX12_check_70 : decode cX12_check 70 = .ok (.iload_n 2, 1) := by decide +kernel
theorem dX12_check_71 : decode cX12_check 71 = .ok (.iload_n 3, 1) := by decide +kernel
theorem dX12_check_72 : decode cX12_check 72 = .ok (.ifCond .eq 7, 3) := by decide +kernel
theorem dX12_check_75 : decode cX12_check 75 = .ok (.iconst 1, 1) := by decide +kernel
theorem dX12_check_76 : decode cX12_check 76 = .ok (.goto 4, 3) := by decide +kernel
theorem dX12_check_79 : decode cX12_check 79 = .ok (.iconst 0, 1) := by decide +kernel
theorem dX12_check_80 : decode cX12_check 80 = .ok (.iadd, 1) := by decide +kernel
theorem dX12_check_81 : decode cX12_check 81 = .ok (.istore_n 2, 1) := by decide +kernel
theorem dX12_check_82 : decode cX12_check 82 = .ok (.goto (-64), 3) := by decide +kernel
theorem dX12_check_85 : decode cX12_check 85 = .ok (.iload_n 3, 1) := by decide +kernel
theorem dX12_check_86 : decode cX12_check 86 = .ok (.ifCond .eq 7, 3) := by decide +kernel
theorem dX12_check_89 : decode cX12_check 89 = .ok (.iconst 0, 1) := by decide +kernel
theorem dX12_check_90 : decode cX12_check 90 = .ok (.goto 6, 3) := by decide +kernel
theorem dX12_check_93 : decode cX12_check 93 = .ok (.iconst 1, 1) := by decide +kernel
theorem dX12_check_94 : decode cX12_check 94 = .ok (.iload_n 2, 1) := by decide +kernel
theorem dX12_check_95 : decode cX12_check 95 = .ok (.iadd, 1) := by decide +kernel
theorem dX12_check_96 : decode cX12_check 96 = .ok (.ireturn, 1) := by decide +kernel
theorem dX12_count_0 : decode cX12_count 0 = .ok (.iload_n 1, 1) := by decide +kernel
theorem dX12_count_1 : decode cX12_count 1 = .ok (.tableswitch 160 0 14 #[75, 82, 90, 97, 105, 113, 121, 121, 121, 121, 121, 134, 141, 148, 153], 75) := by decide +kernel
theorem dX12_count_76 : decode cX12_count 76 = .ok (.aload_n 0, 1) := by decide +kernel
theorem dX12_count_77 : decode cX12_count 77 = .ok (.getfield 7, 3) := by decide +kernel
theorem dX12_count_80 : decode cX12_count 80 = .ok (.iconst 2, 1) := by decide +kernel
theorem dX12_count_81 : decode cX12_count 81 = .ok (.iaload, 1) := by decide +kernel
theorem dX12_count_82 : decode cX12_count 82 = .ok (.ireturn, 1) := by decide +kernel
theorem dX12_count_83 : decode cX12_count 83 = .ok (.aload_n 0, 1) := by decide +kernel
theorem dX12_count_84 : decode cX12_count 84 = .ok (.getfield 7, 3) := by decide +kernel
theorem dX12_count_87 : decode cX12_count 87 = .ok (.bipush 7, 2) := by decide +kernel
theorem dX12_count_89 : decode cX12_count 89 = .ok (.iaload, 1) := by decide +kernel
theorem dX12_count_90 : decode cX12_count 90 = .ok (.ireturn, 1) := by decide +kernel
theorem dX12_count_91 : decode cX12_count 91 = .ok (.aload_n 0, 1) := by decide +kernel
theorem dX12_count_92 : decode cX12_count 92 = .ok (.getfield 7, 3) := by decide +kernel
theorem dX12_count_95 : decode cX12_count 95 = .ok (.iconst 0, 1) := by decide +kernel
theorem dX12_count_96 : decode cX12_count 96 = .ok (.iaload, 1) := by decide +kernel
theorem dX12_count_97 : decode cX12_count 97 = .ok (.ireturn, 1) := by decide +kernel
theorem dX12_count_98 : decode cX12_count 98 = .ok (.aload_n 0, 1) := by decide +kernel
theorem dX12_count_99 : decode cX12_count 99 = .ok (.getfield 7, 3) := by decide +kernel
theorem dX12_count_102 : decode cX12_count 102 = .ok (.bipush 13, 2) := by decide +kernel
theorem dX12_count_104 : decode cX12_count 104 = .ok (.iaload, 1) := by decide +kernel
theorem dX12_count_105 : decode cX12_count 105 = .ok (.ireturn, 1) := by decide +kernel
theorem dX12_count_106 : decode cX12_count 106 = .ok (.aload_n 0, 1) := by decide +kernel
theorem dX12_count_107 : decode cX12_count 107 = .ok (.getfield 7, 3) := by decide +kernel
theorem dX12_count_110 : decode cX12_count 110 = .ok (.bipush 14, 2) := by decide +kernel
theorem dX12_count_112 : decode cX12_count 112 = .ok (.iaload, 1) := by decide +kernel
theorem dX12_count_113 : decode cX12_count 113 = .ok (.ireturn, 1) := by decide +kernel
theorem dX12_count_114 : decode cX12_count 114 = .ok (.aload_n 0, 1) := by decide +kernel
theorem dX12_count_115 : decode cX12_count 115 = .ok (.getfield 7, 3) := by decide +kernel
theorem dX12_count_118 : decode cX12_count 118 = .ok (.bipush 15, 2) := by decide +kernel
theorem dX12_count_120 : decode cX12_count 120 = .ok (.iaload, 1) := by decide +kernel
theorem dX12_count_121 : decode cX12_count 121 = .ok (.ireturn, 1) := by decide +kernel
theorem dX12_count_122 : decode cX12_count 122 = .ok (.aload_n 0, 1) := by decide +kernel
theorem dX12_count_123 : decode cX12_count 123 = .ok (.getfield 7, 3) := by decide +kernel
theorem dX12_count_126 : decode cX12_count 126 = .ok (.bipush 8, 2) := by decide +kernel
theorem dX12_count_128 : decode cX12_count 128 = .ok (.iload_n 1, 1) := by decide +kernel
theorem dX12_count_129 : decode cX12_count 129 = .ok (.iadd, 1) := by decide +kernel
theorem dX12_count_130 : decode cX12_count 130 = .ok (.bipush 6, 2) := by decide +kernel
theorem dX12_count_132 : decode cX12_count 132 = .ok (.isub, 1) := by decide +kernel
theorem dX12_count_133 : decode cX12_count 133 = .ok (.iaload, 1) := by decide +kernel
theorem dX12_count_134 : decode cX12_count 134 = .ok (.ireturn, 1) := by decide +kernel
theorem dX12_count_135 : decode cX12_count 135 = .ok (.aload_n 0, 1) := by decide +kernel
theorem dX12_count_136 : decode cX12_count 136 = .ok (.getfield 7, 3) := by decide +kernel
theorem dX12_count_139 : decode cX12_count 139 = .ok (.iconst 3, 1) := by decide +kernel
theorem dX12_count_140 : decode cX12_count 140 = .ok (.iaload, 1) := by decide +kernel
theorem dX12_count_141 : decode cX12_count 141 = .ok (.ireturn, 1) := by decide +kernel
theorem dX12_count_142 : decode cX12_count 142 = .ok (.aload_n 0, 1) := by decide +kernel
theorem dX12_count_143 : decode cX12_count 143 = .ok (.getfield 7, 3) := by decide +kernel
theorem dX12_count_146 : decode cX12_count 146 = .ok (.iconst 4, 1) := by decide +kernel
theorem dX12_count_147 : decode cX12_count 147 = .ok (.iaload, 1) := by decide +kernel
theorem dX12_count_148 : decode cX12_count 148 = .ok (.ireturn, 1) := by decide +kernel
theorem dX12_count_149 : decode cX12_count 149 = .ok (.aload_n 0, 1) := by decide +kernel
theorem dX12_count_150 : decode cX12_count 150 = .ok (.getfield 197, 3) := by decide +kernel
theorem dX12_count_153 : decode cX12_count 153 = .ok (.ireturn, 1) := by decide +kernel
theorem dX12_count_154 : decode cX12_count 154 = .ok (.aload_n 0, 1) := by decide +kernel
theorem dX12_count_155 : decode cX12_count 155 = .ok (.getfield 7, 3) := by decide +kernel
theorem dX12_count_158 : decode cX12_count 158 = .ok (.iconst 1, 1) := by decide +kernel
theorem dX12_count_159 : decode cX12_count 159 = .ok (.iaload, 1) := by decide +kernel
theorem dX12_count_160 : decode cX12_count 160 = .ok (.ireturn, 1) := by decide +kernel
theorem dX12_count_161 : decode cX12_count 161 = .ok (.aload_n 0, 1) := by decide +kernel
theorem dX12_count_162 : decode cX12_count 162 = .ok (.ldc 50, 2) := by decide +kernel
theorem dX12_count_164 : decode cX12_count 164 = .ok (.invokevirtual 51, 3) := by decide +kernel
theorem dX12_count_167 : decode cX12_count 167 = .ok (.ireturn, 1) := by decide +kernel
theorem dX12_told_0 : decode cX12_told 0 = .ok (.iload_n 1, 1) := by decide +kernel
theorem dX12_told_1 : decode cX12_told 1 = .ok (.iconst 1, 1) := by decide +kernel
theorem dX12_told_2 : decode cX12_told 2 = .ok (.iconst 5, 1) := by decide +kernel
theorem dX12_told_3 : decode cX12_told 3 = .ok (.invokestatic 38, 3) := by decide +kernel
theorem dX12_told_6 : decode cX12_told 6 = .ok (.ifCond .eq 12, 3) := by decide +kernel
theorem dX12_told_9 : decode cX12_told 9 = .ok (.aload_n 0, 1) := by decide +kernel
theorem dX12_told_10 : decode cX12_told 10 = .ok (.getfield 19, 3) := by decide +kernel
theorem dX12_told_13 : decode cX12_told 13 = .ok (.iload_n 1, 1) := by decide +kernel
theorem dX12_told_14 : decode cX12_told 14 = .ok (.iaload, 1) := by decide +kernel
theorem dX12_told_15 : decode cX12_told 15 = .ok (.goto 9, 3) := by decide +kernel
theorem dX12_told_18 : decode cX12_told 18 = .ok (.aload_n 0, 1) := by decide +kernel
theorem dX12_told_19 : decode cX12_told 19 = .ok (.ldc 50, 2) := by decide +kernel
theorem dX12_told_21 : decode cX12_told 21 = .ok (.invokevirtual 51, 3) := by decide +kernel
theorem dX12_told_24 : decode cX12_told 24 = .ok (.ireturn, 1) := by decide +kernel
