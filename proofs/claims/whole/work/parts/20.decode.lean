/-! The instructions of every method, as printed. -/
theorem dX0_init_0 : decode cX0_init 0 = .ok (.aload_n 0, 1) := by decide +kernel
theorem dX0_init_1 : decode cX0_init 1 = .ok (.invokespecial 3, 3) := by decide +kernel
theorem dX0_init_4 : decode cX0_init 4 = .ok (.aload_n 0, 1) := by decide +kernel
theorem dX0_init_5 : decode cX0_init 5 = .ok (.bipush 20, 2) := by decide +kernel
theorem dX0_init_7 : decode cX0_init 7 = .ok (.newarray .int, 2) := by decide +kernel
theorem dX0_init_9 : decode cX0_init 9 = .ok (.putfield 9, 3) := by decide +kernel
theorem dX0_init_12 : decode cX0_init 12 = .ok (.return_, 1) := by decide +kernel
theorem dX0_clear_0 : decode cX0_clear 0 = .ok (.aload_n 0, 1) := by decide +kernel
theorem dX0_clear_1 : decode cX0_clear 1 = .ok (.iconst 0, 1) := by decide +kernel
theorem dX0_clear_2 : decode cX0_clear 2 = .ok (.putfield 15, 3) := by decide +kernel
theorem dX0_clear_5 : decode cX0_clear 5 = .ok (.return_, 1) := by decide +kernel
theorem dX0_doAct_0 : decode cX0_doAct 0 = .ok (.aload_n 0, 1) := by decide +kernel
theorem dX0_doAct_1 : decode cX0_doAct 1 = .ok (.iload_n 1, 1) := by decide +kernel
theorem dX0_doAct_2 : decode cX0_doAct 2 = .ok (.putfield 19, 3) := by decide +kernel
theorem dX0_doAct_5 : decode cX0_doAct 5 = .ok (.aload_n 0, 1) := by decide +kernel
theorem dX0_doAct_6 : decode cX0_doAct 6 = .ok (.aload_n 2, 1) := by decide +kernel
theorem dX0_doAct_7 : decode cX0_doAct 7 = .ok (.getfield 22, 3) := by decide +kernel
theorem dX0_doAct_10 : decode cX0_doAct 10 = .ok (.putfield 27, 3) := by decide +kernel
theorem dX0_doAct_13 : decode cX0_doAct 13 = .ok (.aload_n 0, 1) := by decide +kernel
theorem dX0_doAct_14 : decode cX0_doAct 14 = .ok (.aload_n 2, 1) := by decide +kernel
theorem dX0_doAct_15 : decode cX0_doAct 15 = .ok (.getfield 28, 3) := by decide +kernel
theorem dX0_doAct_18 : decode cX0_doAct 18 = .ok (.putfield 31, 3) := by decide +kernel
theorem dX0_doAct_21 : decode cX0_doAct 21 = .ok (.iload_n 3, 1) := by decide +kernel
theorem dX0_doAct_22 : decode cX0_doAct 22 = .ok (.tableswitch 62 0 2 #[26, 38, 50], 26) := by decide +kernel
theorem dX0_doAct_48 : decode cX0_doAct 48 = .ok (.aload_n 0, 1) := by decide +kernel
theorem dX0_doAct_49 : decode cX0_doAct 49 = .ok (.aload_n 0, 1) := by decide +kernel
theorem dX0_doAct_50 : decode cX0_doAct 50 = .ok (.getfield 27, 3) := by decide +kernel
theorem dX0_doAct_53 : decode cX0_doAct 53 = .ok (.iload 4, 2) := by decide +kernel
theorem dX0_doAct_55 : decode cX0_doAct 55 = .ok (.iconst 0, 1) := by decide +kernel
theorem dX0_doAct_56 : decode cX0_doAct 56 = .ok (.invokevirtual 32, 3) := by decide +kernel
theorem dX0_doAct_59 : decode cX0_doAct 59 = .ok (.ireturn, 1) := by decide +kernel
theorem dX0_doAct_60 : decode cX0_doAct 60 = .ok (.aload_n 0, 1) := by decide +kernel
theorem dX0_doAct_61 : decode cX0_doAct 61 = .ok (.aload_n 0, 1) := by decide +kernel
theorem dX0_doAct_62 : decode cX0_doAct 62 = .ok (.getfield 27, 3) := by decide +kernel
theorem dX0_doAct_65 : decode cX0_doAct 65 = .ok (.iload 4, 2) := by decide +kernel
theorem dX0_doAct_67 : decode cX0_doAct 67 = .ok (.iconst 0, 1) := by decide +kernel
theorem dX0_doAct_68 : decode cX0_doAct 68 = .ok (.invokevirtual 36, 3) := by decide +kernel
theorem dX0_doAct_71 : decode cX0_doAct 71 = .ok (.ireturn, 1) := by decide +kernel
theorem dX0_doAct_72 : decode cX0_doAct 72 = .ok (.aload_n 0, 1) := by decide +kernel
theorem dX0_doAct_73 : decode cX0_doAct 73 = .ok (.aload_n 0, 1) := by decide +kernel
theorem dX0_doAct_74 : decode cX0_doAct 74 = .ok (.getfield 27, 3) := by decide +kernel
theorem dX0_doAct_77 : decode cX0_doAct 77 = .ok (.iload 4, 2) := by decide +kernel
theorem dX0_doAct_79 : decode cX0_doAct 79 = .ok (.iconst 0, 1) := by decide +kernel
theorem dX0_doAct_80 : decode cX0_doAct 80 = .ok (.invokevirtual 39, 3) := by decide +kernel
theorem dX0_doAct_83 : decode cX0_doAct 83 = .ok (.ireturn, 1) := by decide +kernel
theorem dX0_doAct_84 : decode cX0_doAct 84 = .ok (.iconst 0, 1) := by decide +kernel
theorem dX0_doAct_85 : decode cX0_doAct 85 = .ok (.ireturn, 1) := by decide +kernel
theorem dX0_numberAt_0 : decode cX0_numberAt 0 = .ok (.iload_n 1, 1) := by decide +kernel
theorem dX0_numberAt_1 : decode cX0_numberAt 1 = .ok (.ifCond .lt 17, 3) := by decide +kernel
theorem dX0_numberAt_4 : decode cX0_numberAt 4 = .ok (.iload_n 1, 1) := by decide +kernel
theorem dX0_numberAt_5 : decode cX0_numberAt 5 = .ok (.aload_n 0, 1) := by decide +kernel
theorem dX0_numberAt_6 : decode cX0_numberAt 6 = .ok (.getfield 15, 3) := by decide +kernel
theorem dX0_numberAt_9 : decode cX0_numberAt 9 = .ok (.if_icmp .ge 9, 3) := by decide +kernel
theorem dX0_numberAt_12 : decode cX0_numberAt 12 = .ok (.iload_n 1, 1) := by decide +kernel
theorem dX0_numberAt_13 : decode cX0_numberAt 13 = .ok (.bipush 20, 2) := by decide +kernel
theorem dX0_numberAt_15 : decode cX0_numberAt 15 = .ok (.if_icmp .lt 7, 3) := by decide +kernel
theorem dX0_numberAt_18 : decode cX0_numberAt 18 = .ok (.iconst (-1), 1) := by decide +kernel
theorem dX0_numberAt_19 : decode cX0_numberAt 19 = .ok (.goto 9, 3) := by decide +kernel
theorem dX0_numberAt_22 : decode cX0_numberAt 22 = .ok (.aload_n 0, 1) := by decide +kernel
theorem dX0_numberAt_23 : decode cX0_numberAt 23 = .ok (.getfield 9, 3) := by decide +kernel
theorem dX0_numberAt_26 : decode cX0_numberAt 26 = .ok (.iload_n 1, 1) := by decide +kernel
theorem dX0_numberAt_27 : decode cX0_numberAt 27 = .ok (.iaload, 1) := by decide +kernel
theorem dX0_numberAt_28 : decode cX0_numberAt 28 = .ok (.ireturn, 1) := by decide +kernel
theorem dX0_begins_0 : decode cX0_begins 0 = .ok (.iload_n 2, 1) := by decide +kernel
theorem dX0_begins_1 : decode cX0_begins 1 = .ok (.bipush 20, 2) := by decide +kernel
theorem dX0_begins_3 : decode cX0_begins 3 = .ok (.if_icmp .le 5, 3) := by decide +kernel
theorem dX0_begins_6 : decode cX0_begins 6 = .ok (.iconst 0, 1) := by decide +kernel
theorem dX0_begins_7 : decode cX0_begins 7 = .ok (.ireturn, 1) := by decide +kernel
theorem dX0_begins_8 : decode cX0_begins 8 = .ok (.aload_n 0, 1) := by decide +kernel
theorem dX0_begins_9 : decode cX0_begins 9 = .ok (.getfield 15, 3) := by decide +kernel
theorem dX0_begins_12 : decode cX0_begins 12 = .ok (.bipush 20, 2) := by decide +kernel
theorem dX0_begins_14 : decode cX0_begins 14 = .ok (.if_icmp .ge 13, 3) := by decide +kernel
theorem dX0_begins_17 : decode cX0_begins 17 = .ok (.aload_n 0, 1) := by decide +kernel
theorem dX0_begins_18 : decode cX0_begins 18 = .ok (.getfield 9, 3) := by decide +kernel
theorem dX0_begins_21 : decode cX0_begins 21 = .ok (.aload_n 0, 1) := by decide +kernel
theorem dX0_begins_22 : decode cX0_begins 22 = .ok (.getfield 15, 3) := by decide +kernel
theorem dX0_begins_25 : decode cX0_begins 25 = .ok (.iload_n 1, 1) := by decide +kernel
theorem dX0_begins_26 : decode cX0_begins 26 = .ok (.iastore, 1) := by decide +kernel
theorem dX0_begins_27 : decode cX0_begins 27 = .ok (.aload_n 0, 1) := by decide +kernel
theorem dX0_begins_28 : decode cX0_begins 28 = .ok (.dup, 1) := by decide +kernel
theorem dX0_begins_29 : decode cX0_begins 29 = .ok (.getfield 15, 3) := by decide +kernel
theorem dX0_begins_32 : decode cX0_begins 32 = .ok (.iconst 1, 1) := by decide +kernel
theorem dX0_begins_33 : decode cX0_begins 33 = .ok (.iadd, 1) := by decide +kernel
theorem dX0_begins_34 : decode cX0_begins 34 = .ok (.putfield 15, 3) := by decide +kernel
theorem dX0_begins_37 : decode cX0_begins 37 = .ok (.iconst 1, 1) := by decide +kernel
theorem dX0_begins_38 : decode cX0_begins 38 = .ok (.ireturn, 1) := by decide +kernel
theorem dX0_feeds_0 : decode cX0_feeds 0 = .ok (.iload_n 1, 1) := by decide +kernel
theorem dX0_feeds_1 : decode cX0_feeds 1 = .ok (.tableswitch 115 2 6 #[35, 115, 61, 35, 86], 35) := by decide +kernel
theorem dX0_feeds_36 : decode cX0_feeds 36 = .ok (.aload_n 0, 1) := by decide +kernel
theorem dX0_feeds_37 : decode cX0_feeds 37 = .ok (.bipush 30, 2) := by decide +kernel
theorem dX0_feeds_39 : decode cX0_feeds 39 = .ok (.iload_n 3, 1) := by decide +kernel
theorem dX0_feeds_40 : decode cX0_feeds 40 = .ok (.invokevirtual 42, 3) := by decide +kernel
theorem dX0_feeds_43 : decode cX0_feeds 43 = .ok (.ifCond .eq 17, 3) := by decide +kernel
theorem dX0_feeds_46 : decode cX0_feeds 46 = .ok (.aload_n 0, 1) := by decide +kernel
theorem dX0_feeds_47 : decode cX0_feeds 47 = .ok (.iconst 0, 1) := by decide +kernel
theorem dX0_feeds_48 : decode cX0_feeds 48 = .ok (.iload_n 2, 1) := by decide +kernel
theorem dX0_feeds_49 : decode cX0_feeds 49 = .ok (.iconst 3, 1) := by decide +kernel
theorem dX0_feeds_50 : decode cX0_feeds 50 = .ok (.imul, 1) := by decide +kernel
theorem dX0_feeds_51 : decode cX0_feeds 51 = .ok (.iload_n 3, 1) := by decide +kernel
theorem dX0_feeds_52 : decode cX0_feeds 52 = .ok (.iconst 1, 1) := by decide +kernel
theorem dX0_feeds_53 : decode cX0_feeds 53 = .ok (.iadd, 1) := by decide +kernel
theorem dX0_feeds_54 : decode cX0_feeds 54 = .ok (.invokevirtual 32, 3) := by decide +kernel
theorem dX0_feeds_57 : decode cX0_feeds 57 = .ok (.goto 4, 3) := by decide +kernel
theorem dX0_feeds_60 : decode cX0_feeds 60 = .ok (.iconst 0, 1) := by decide +kernel
theorem dX0_feeds_61 : decode cX0_feeds 61 = .ok (.ireturn, 1) := by decide +kernel
theorem dX0_feeds_62 : decode cX0_feeds 62 = .ok (.aload_n 0, 1) := by decide +kernel
theorem dX0_feeds_63 : decode cX0_feeds 63 = .ok (.bipush 50, 2) := by decide +kernel
theorem dX0_feeds_65 : decode cX0_feeds 65 = .ok (.iload_n 3, 1) := by decide +kernel
theorem dX0_feeds_66 : decode cX0_feeds 66 = .ok (.invokevirtual 42, 3) := by decide +kernel
theorem dX0_feeds_69 : decode cX0_feeds 69 = .ok (.ifCond .eq 16, 3) := by decide +kernel
theorem dX0_feeds_72 : decode cX0_feeds 72 = .ok (.aload_n 0, 1) := by decide +kernel
theorem dX0_feeds_73 : decode cX0_feeds 73 = .ok (.iconst 1, 1) := by decide +kernel
theorem dX0_feeds_74 : decode cX0_feeds 74 = .ok (.iload_n 2, 1) := by decide +kernel
theorem dX0_feeds_75 : decode cX0_feeds 75 = .ok (.iload_n 3, 1) := by decide +kernel
theorem dX0_feeds_76 : decode cX0_feeds 76 = .ok (.iconst 1, 1) := by decide +kernel
theorem dX0_feeds_77 : decode cX0_feeds 77 = .ok (.iadd, 1) := by decide +kernel
theorem dX0_feeds_78 : decode cX0_feeds 78 = .ok (.invokevirtual 32, 3) := by decide +kernel
theorem dX0_feeds_81 : decode cX0_feeds 81 = .ok (.ineg, 1) := by decide +kernel
theorem dX0_feeds_82 : decode cX0_feeds 82 = .ok (.goto 4, 3) := by decide +kernel
theorem dX0_feeds_85 : decode cX0_feeds 85 = .ok (.iconst 0, 1) := by decide +kernel
theorem dX0_feeds_86 : decode cX0_feeds 86 = .ok (.ireturn, 1) := by decide +kernel
theorem dX0_feeds_87 : decode cX0_feeds 87 = .ok (.aload_n 0, 1) := by decide +kernel
theorem dX0_feeds_88 : decode cX0_feeds 88 = .ok (.bipush 71, 2) := by decide +kernel
theorem dX0_feeds_90 : decode cX0_feeds 90 = .ok (.iload_n 3, 1) := by decide +kernel
theorem dX0_feeds_91 : decode cX0_feeds 91 = .ok (.invokevirtual 42, 3) := by decide +kernel
theorem dX0_feeds_94 : decode cX0_feeds 94 = .ok (.ifCond .eq 20, 3) := by decide +kernel
theorem dX0_feeds_97 : decode cX0_feeds 97 = .ok (.aload_n 0, 1) := by decide +kernel
theorem dX0_feeds_98 : decode cX0_feeds 98 = .ok (.iconst 3, 1) := by decide +kernel
theorem dX0_feeds_99 : decode cX0_feeds 99 = .ok (.iload_n 2, 1) := by decide +kernel
theorem dX0_feeds_100 : decode cX0_feeds 100 = .ok (.iload_n 3, 1) := by decide +kernel
theorem dX0_feeds_101 : decode cX0_feeds 101 = .ok (.iconst 1, 1) := by decide +kernel
theorem dX0_feeds_102 : decode cX0_feeds 102 = .ok (.iadd, 1) := by decide +kernel
theorem dX0_feeds_103 : decode cX0_feeds 103 = .ok (.invokevirtual 32, 3) := by decide +kernel
theorem dX0_feeds_106 : decode cX0_feeds 106 = .ok (.aload_n 0, 1) := by decide +kernel
theorem dX0_feeds_107 : decode cX0_feeds 107 = .ok (.getfield 31, 3) := by decide +kernel
theorem dX0_feeds_110 : decode cX0_feeds 110 = .ok (.ixor, 1) := by decide +kernel
theorem dX0_feeds_111 : decode cX0_feeds 111 = .ok (.goto 4, 3) := by decide +kernel
theorem dX0_feeds_114 : decode cX0_feeds 114 = .ok (.iconst 0, 1) := by decide +kernel
theorem dX0_feeds_115 : decode cX0_feeds 115 = .ok (.ireturn, 1) := by decide +kernel
theorem dX0_feeds_116 : decode cX0_feeds 116 = .ok (.aload_n 0, 1) := by decide +kernel
theorem dX0_feeds_117 : decode cX0_feeds 117 = .ok (.bipush 10, 2) := by decide +kernel
theorem dX0_feeds_119 : decode cX0_feeds 119 = .ok (.iload_n 3, 1) := by decide +kernel
theorem dX0_feeds_120 : decode cX0_feeds 120 = .ok (.invokevirtual 42, 3) := by decide +kernel
theorem dX0_feeds_123 : decode cX0_feeds 123 = .ok (.ifCond .eq 12, 3) := by decide +kernel
theorem dX0_feeds_126 : decode cX0_feeds 126 = .ok (.iload_n 2, 1) := by decide +kernel
theorem dX0_feeds_127 : decode cX0_feeds 127 = .ok (.aload_n 0, 1) := by decide +kernel
theorem dX0_feeds_128 : decode cX0_feeds 128 = .ok (.getfield 19, 3) := by decide +kernel
theorem dX0_feeds_131 : decode cX0_feeds 131 = .ok (.iadd, 1) := by decide +kernel
theorem dX0_feeds_132 : decode cX0_feeds 132 = .ok (.goto 4, 3) := by decide +kernel
theorem dX0_feeds_135 : decode cX0_feeds 135 = .ok (.iconst 0, 1) := by decide +kernel
theorem dX0_feeds_136 : decode cX0_feeds 136 = .ok (.ireturn, 1) := by decide +kernel
theorem dX0_prints_0 : decode cX0_prints 0 = .ok (.iload_n 1, 1) := by decide +kernel
theorem dX0_prints_1 : decode cX0_prints 1 = .ok (.lookupswitch 122 #[(1, 35), (4, 62), (6, 88)], 35) := by decide +kernel
theorem dX0_prints_36 : decode cX0_prints 36 = .ok (.aload_n 0, 1) := by decide +kernel
theorem dX0_prints_37 : decode cX0_prints 37 = .ok (.bipush 20, 2) := by decide +kernel
theorem dX0_prints_39 : decode cX0_prints 39 = .ok (.iload_n 3, 1) := by decide +kernel
theorem dX0_prints_40 : decode cX0_prints 40 = .ok (.invokevirtual 42, 3) := by decide +kernel
theorem dX0_prints_43 : decode cX0_prints 43 = .ok (.ifCond .eq 18, 3) := by decide +kernel
theorem dX0_prints_46 : decode cX0_prints 46 = .ok (.aload_n 0, 1) := by decide +kernel
theorem dX0_prints_47 : decode cX0_prints 47 = .ok (.iconst 0, 1) := by decide +kernel
theorem dX0_prints_48 : decode cX0_prints 48 = .ok (.iload_n 2, 1) := by decide +kernel
theorem dX0_prints_49 : decode cX0_prints 49 = .ok (.iload_n 3, 1) := by decide +kernel
theorem dX0_prints_50 : decode cX0_prints 50 = .ok (.iconst 1, 1) := by decide +kernel
theorem dX0_prints_51 : decode cX0_prints 51 = .ok (.iadd, 1) := by decide +kernel
theorem dX0_prints_52 : decode cX0_prints 52 = .ok (.invokevirtual 36, 3) := by decide +kernel
theorem dX0_prints_55 : decode cX0_prints 55 = .ok (.bipush 6, 2) := by decide +kernel
theorem dX0_prints_57 : decode cX0_prints 57 = .ok (.ixor, 1) := by decide +kernel
theorem dX0_prints_58 : decode cX0_prints 58 = .ok (.goto 4, 3) := by decide +kernel
theorem dX0_prints_61 : decode cX0_prints 61 = .ok (.iconst 0, 1) := by decide +kernel
theorem dX0_prints_62 : decode cX0_prints 62 = .ok (.ireturn, 1) := by decide +kernel
theorem dX0_prints_63 : decode cX0_prints 63 = .ok (.aload_n 0, 1) := by decide +kernel
theorem dX0_prints_64 : decode cX0_prints 64 = .ok (.bipush 51, 2) := by decide +kernel
theorem dX0_prints_66 : decode cX0_prints 66 = .ok (.iload_n 3, 1) := by decide +kernel
theorem dX0_prints_67 : decode cX0_prints 67 = .ok (.invokevirtual 42, 3) := by decide +kernel
theorem dX0_prints_70 : decode cX0_prints 70 = .ok (.ifCond .eq 17, 3) := by decide +kernel
theorem dX0_prints_73 : decode cX0_prints 73 = .ok (.aload_n 0, 1) := by decide +kernel
theorem dX0_prints_74 : decode cX0_prints 74 = .ok (.iconst 1, 1) := by decide +kernel
theorem dX0_prints_75 : decode cX0_prints 75 = .ok (.iload_n 2, 1) := by decide +kernel
theorem dX0_prints_76 : decode cX0_prints 76 = .ok (.iconst 1, 1) := by decide +kernel
theorem dX0_prints_77 : decode cX0_prints 77 = .ok (.iadd, 1) := by decide +kernel
theorem dX0_prints_78 : decode cX0_prints 78 = .ok (.iload_n 3, 1) := by decide +kernel
theorem dX0_prints_79 : decode cX0_prints 79 = .ok (.iconst 1, 1) := by decide +kernel
theorem dX0_prints_80 : decode cX0_prints 80 = .ok (.iadd, 1) := by decide +kernel
theorem dX0_prints_81 : decode cX0_prints 81 = .ok (.invokevirtual 36, 3) := by decide +kernel
theorem dX0_prints_84 : decode cX0_prints 84 = .ok (.goto 4, 3) := by decide +kernel
theorem dX0_prints_87 : decode cX0_prints 87 = .ok (.iconst 0, 1) := by decide +kernel
theorem dX0_prints_88 : decode cX0_prints 88 = .ok (.ireturn, 1) := by decide +kernel
theorem dX0_prints_89 : decode cX0_prints 89 = .ok (.aload_n 0, 1) := by decide +kernel
theorem dX0_prints_90 : decode cX0_prints 90 = .ok (.bipush 70, 2) := by decide +kernel
theorem dX0_prints_92 : decode cX0_prints 92 = .ok (.iload_n 3, 1) := by decide +kernel
theorem dX0_prints_93 : decode cX0_prints 93 = .ok (.invokevirtual 42, 3) := by decide +kernel
theorem dX0_prints_96 : decode cX0_prints 96 = .ok (.ifCond .eq 25, 3) := by decide +kernel
theorem dX0_prints_99 : decode cX0_prints 99 = .ok (.aload_n 0, 1) := by decide +kernel
theorem dX0_prints_100 : decode cX0_prints 100 = .ok (.iconst 3, 1) := by decide +kernel
theorem dX0_prints_101 : decode cX0_prints 101 = .ok (.iload_n 2, 1) := by decide +kernel
theorem dX0_prints_102 : decode cX0_prints 102 = .ok (.iload_n 3, 1) := by decide +kernel
theorem dX0_prints_103 : decode cX0_prints 103 = .ok (.iconst 1, 1) := by decide +kernel
theorem dX0_prints_104 : decode cX0_prints 104 = .ok (.iadd, 1) := by decide +kernel
theorem dX0_prints_105 : decode cX0_prints 105 = .ok (.invokevirtual 36, 3) := by decide +kernel
theorem dX0_prints_108 : decode cX0_prints 108 = .ok (.aload_n 0, 1) := by decide +kernel
theorem dX0_prints_109 : decode cX0_prints 109 = .ok (.iconst 3, 1) := by decide +kernel
theorem dX0_prints_110 : decode cX0_prints 110 = .ok (.iconst 2, 1) := by decide +kernel
theorem dX0_prints_111 : decode cX0_prints 111 = .ok (.iload_n 3, 1) := by decide +kernel
theorem dX0_prints_112 : decode cX0_prints 112 = .ok (.iconst 1, 1) := by decide +kernel
theorem dX0_prints_113 : decode cX0_prints 113 = .ok (.iadd, 1) := by decide +kernel
theorem dX0_prints_114 : decode cX0_prints 114 = .ok (.invokevirtual 32, 3) := by decide +kernel
theorem dX0_prints_117 : decode cX0_prints 117 = .ok (.iadd, 1) := by decide +kernel
theorem dX0_prints_118 : decode cX0_prints 118 = .ok (.goto 4, 3) := by decide +kernel
theorem dX0_prints_121 : decode cX0_prints 121 = .ok (.iconst 0, 1) := by decide +kernel
theorem dX0_prints_122 : decode cX0_prints 122 = .ok (.ireturn, 1) := by decide +kernel
theorem dX0_prints_123 : decode cX0_prints 123 = .ok (.aload_n 0, 1) := by decide +kernel
theorem dX0_prints_124 : decode cX0_prints 124 = .ok (.bipush 11, 2) := by decide +kernel
theorem dX0_prints_126 : decode cX0_prints 126 = .ok (.iload_n 3, 1) := by decide +kernel
theorem dX0_prints_127 : decode cX0_prints 127 = .ok (.invokevirtual 42, 3) := by decide +kernel
theorem dX0_prints_130 : decode cX0_prints 130 = .ok (.ifCond .eq 23, 3) := by decide +kernel
theorem dX0_prints_133 : decode cX0_prints 133 = .ok (.aload_n 0, 1) := by decide +kernel
theorem dX0_prints_134 : decode cX0_prints 134 = .ok (.aload_n 0, 1) := by decide +kernel
theorem dX0_prints_135 : decode cX0_prints 135 = .ok (.getfield 27, 3) := by decide +kernel
theorem dX0_prints_138 : decode cX0_prints 138 = .ok (.iload_n 2, 1) := by decide +kernel
theorem dX0_prints_139 : decode cX0_prints 139 = .ok (.iload_n 3, 1) := by decide +kernel
theorem dX0_prints_140 : decode cX0_prints 140 = .ok (.iconst 1, 1) := by decide +kernel
theorem dX0_prints_141 : decode cX0_prints 141 = .ok (.iadd, 1) := by decide +kernel
theorem dX0_prints_142 : decode cX0_prints 142 = .ok (.invokevirtual 32, 3) := by decide +kernel
theorem dX0_prints_145 : decode cX0_prints 145 = .ok (.aload_n 0, 1) := by decide +kernel
theorem dX0_prints_146 : decode cX0_prints 146 = .ok (.getfield 31, 3) := by decide +kernel
theorem dX0_prints_149 : decode cX0_prints 149 = .ok (.isub, 1) := by decide +kernel
theorem dX0_prints_150 : decode cX0_prints 150 = .ok (.goto 4, 3) := by decide +kernel
theorem dX0_prints_153 : decode cX0_prints 153 = .ok (.iconst 0, 1) := by decide +kernel
theorem dX0_prints_154 : decode cX0_prints 154 = .ok (.ireturn, 1) := by decide +kernel
theorem dX0_tells_0 : decode cX0_tells 0 = .ok (.iload_n 1, 1) := by decide +kernel
theorem dX0_tells_1 : decode cX0_tells 1 = .ok (.tableswitch 97 3 6 #[31, 97, 68, 31], 31) := by decide +kernel
theorem dX0_tells_32 : decode cX0_tells 32 = .ok (.aload_n 0, 1) := by decide +kernel
theorem dX0_tells_33 : decode cX0_tells 33 = .ok (.bipush 40, 2) := by decide +kernel
theorem dX0_tells_35 : decode cX0_tells 35 = .ok (.iload_n 3, 1) := by decide +kernel
theorem dX0_tells_36 : decode cX0_tells 36 = .ok (.invokevirtual 42, 3) := by decide +kernel
theorem dX0_tells_39 : decode cX0_tells 39 = .ok (.ifCond .eq 28, 3) := by decide +kernel
theorem dX0_tells_42 : decode cX0_tells 42 = .ok (.aload_n 0, 1) := by decide +kernel
theorem dX0_tells_43 : decode cX0_tells 43 = .ok (.iconst 0, 1) := by decide +kernel
theorem dX0_tells_44 : decode cX0_tells 44 = .ok (.iload_n 2, 1) := by decide +kernel
theorem dX0_tells_45 : decode cX0_tells 45 = .ok (.iload_n 3, 1) := by decide +kernel
theorem dX0_tells_46 : decode cX0_tells 46 = .ok (.iconst 1, 1) := by decide +kernel
theorem dX0_tells_47 : decode cX0_tells 47 = .ok (.iadd, 1) := by decide +kernel
theorem dX0_tells_48 : decode cX0_tells 48 = .ok (.invokevirtual 39, 3) := by decide +kernel
theorem dX0_tells_51 : decode cX0_tells 51 = .ok (.aload_n 0, 1) := by decide +kernel
theorem dX0_tells_52 : decode cX0_tells 52 = .ok (.aload_n 0, 1) := by decide +kernel
theorem dX0_tells_53 : decode cX0_tells 53 = .ok (.getfield 27, 3) := by decide +kernel
theorem dX0_tells_56 : decode cX0_tells 56 = .ok (.iconst 1, 1) := by decide +kernel
theorem dX0_tells_57 : decode cX0_tells 57 = .ok (.iload_n 3, 1) := by decide +kernel
theorem dX0_tells_58 : decode cX0_tells 58 = .ok (.iconst 1, 1) := by decide +kernel
theorem dX0_tells_59 : decode cX0_tells 59 = .ok (.iadd, 1) := by decide +kernel
theorem dX0_tells_60 : decode cX0_tells 60 = .ok (.invokevirtual 36, 3) := by decide +kernel
theorem dX0_tells_63 : decode cX0_tells 63 = .ok (.iadd, 1) := by decide +kernel
theorem dX0_tells_64 : decode cX0_tells 64 = .ok (.goto 4, 3) := by decide +kernel
theorem dX0_tells_67 : decode cX0_tells 67 = .ok (.iconst 0, 1) := by decide +kernel
theorem dX0_tells_68 : decode cX0_tells 68 = .ok (.ireturn, 1) := by decide +kernel
theorem dX0_tells_69 : decode cX0_tells 69 = .ok (.aload_n 0, 1) := by decide +kernel
theorem dX0_tells_70 : decode cX0_tells 70 = .ok (.bipush 60, 2) := by decide +kernel
theorem dX0_tells_72 : decode cX0_tells 72 = .ok (.iload_n 3, 1) := by decide +kernel
theorem dX0_tells_73 : decode cX0_tells 73 = .ok (.invokevirtual 42, 3) := by decide +kernel
theorem dX0_tells_76 : decode cX0_tells 76 = .ok (.ifCond .eq 20, 3) := by decide +kernel
theorem dX0_tells_79 : decode cX0_tells 79 = .ok (.aload_n 0, 1) := by decide +kernel
theorem dX0_tells_80 : decode cX0_tells 80 = .ok (.iconst 2, 1) := by decide +kernel
theorem dX0_tells_81 : decode cX0_tells 81 = .ok (.iload_n 2, 1) := by decide +kernel
theorem dX0_tells_82 : decode cX0_tells 82 = .ok (.aload_n 0, 1) := by decide +kernel
theorem dX0_tells_83 : decode cX0_tells 83 = .ok (.getfield 19, 3) := by decide +kernel
theorem dX0_tells_86 : decode cX0_tells 86 = .ok (.isub, 1) := by decide +kernel
theorem dX0_tells_87 : decode cX0_tells 87 = .ok (.iload_n 3, 1) := by decide +kernel
theorem dX0_tells_88 : decode cX0_tells 88 = .ok (.iconst 1, 1) := by decide +kernel
theorem dX0_tells_89 : decode cX0_tells 89 = .ok (.iadd, 1) := by decide +kernel
theorem dX0_tells_90 : decode cX0_tells 90 = .ok (.invokevirtual 39, 3) := by decide +kernel
theorem dX0_tells_93 : decode cX0_tells 93 = .ok (.goto 4, 3) := by decide +kernel
theorem dX0_tells_96 : decode cX0_tells 96 = .ok (.iconst 0, 1) := by decide +kernel
theorem dX0_tells_97 : decode cX0_tells 97 = .ok (.ireturn, 1) := by decide +kernel
theorem dX0_tells_98 : decode cX0_tells 98 = .ok (.aload_n 0, 1) := by decide +kernel
theorem dX0_tells_99 : decode cX0_tells 99 = .ok (.bipush 12, 2) := by decide +kernel
theorem dX0_tells_101 : decode cX0_tells 101 = .ok (.iload_n 3, 1) := by decide +kernel
theorem dX0_tells_102 : decode cX0_tells 102 = .ok (.invokevirtual 42, 3) := by decide +kernel
theorem dX0_tells_105 : decode cX0_tells 105 = .ok (.ifCond .eq 20, 3) := by decide +kernel
theorem dX0_tells_108 : decode cX0_tells 108 = .ok (.aload_n 0, 1) := by decide +kernel
theorem dX0_tells_109 : decode cX0_tells 109 = .ok (.aload_n 0, 1) := by decide +kernel
theorem dX0_tells_110 : decode cX0_tells 110 = .ok (.getfield 27, 3) := by decide +kernel
theorem dX0_tells_113 : decode cX0_tells 113 = .ok (.iload_n 2, 1) := by decide +kernel
theorem dX0_tells_114 : decode cX0_tells 114 = .ok (.iload_n 3, 1) := by decide +kernel
theorem dX0_tells_115 : decode cX0_tells 115 = .ok (.iconst 1, 1) := by decide +kernel
theorem dX0_tells_116 : decode cX0_tells 116 = .ok (.iadd, 1) := by decide +kernel
theorem dX0_tells_117 : decode cX0_tells 117 = .ok (.invokevirtual 36, 3) := by decide +kernel
theorem dX0_tells_120 : decode cX0_tells 120 = .ok (.iconst 2, 1) := by decide +kernel
theorem dX0_tells_121 : decode cX0_tells 121 = .ok (.imul, 1) := by decide +kernel
theorem dX0_tells_122 : decode cX0_tells 122 = .ok (.goto 4, 3) := by decide +kernel
theorem dX0_tells_125 : decode cX0_tells 125 = .ok (.iconst 0, 1) := by decide +kernel
theorem dX0_tells_126 : decode cX0_tells 126 = .ok (.ireturn, 1) := by decide +kernel
theorem dX1_init_0 : decode cX1_init 0 = .ok (.aload_n 0, 1) := by decide +kernel
theorem dX1_init_1 : decode cX1_init 1 = .ok (.invokespecial 3, 3) := by decide +kernel
theorem dX1_init_4 : decode cX1_init 4 = .ok (.aload_n 0, 1) := by decide +kernel
theorem dX1_init_5 : decode cX1_init 5 = .ok (.bipush 12, 2) := by decide +kernel
theorem dX1_init_7 : decode cX1_init 7 = .ok (.newarray .int, 2) := by decide +kernel
theorem dX1_init_9 : decode cX1_init 9 = .ok (.putfield 9, 3) := by decide +kernel
theorem dX1_init_12 : decode cX1_init 12 = .ok (.return_, 1) := by decide +kernel
theorem dX1_copy_0 : decode cX1_copy 0 = .ok (.aload_n 0, 1) := by decide +kernel
theorem dX1_copy_1 : decode cX1_copy 1 = .ok (.iconst 0, 1) := by decide +kernel
theorem dX1_copy_2 : decode cX1_copy 2 = .ok (.putfield 15, 3) := by decide +kernel
theorem dX1_copy_5 : decode cX1_copy 5 = .ok (.aload_n 0, 1) := by decide +kernel
theorem dX1_copy_6 : decode cX1_copy 6 = .ok (.iconst 0, 1) := by decide +kernel
theorem dX1_copy_7 : decode cX1_copy 7 = .ok (.putfield 19, 3) := by decide +kernel
theorem dX1_copy_10 : decode cX1_copy 10 = .ok (.aload 4, 2) := by decide +kernel
theorem dX1_copy_12 : decode cX1_copy 12 = .ok (.getfield 22, 3) := by decide +kernel
theorem dX1_copy_15 : decode cX1_copy 15 = .ok (.istore 5, 2) := by decide +kernel
theorem dX1_copy_17 : decode cX1_copy 17 = .ok (.aload_n 2, 1) := by decide +kernel
theorem dX1_copy_18 : decode cX1_copy 18 = .ok (.getfield 27, 3) := by decide +kernel
theorem dX1_copy_21 : decode cX1_copy 21 = .ok (.istore 6, 2) := by decide +kernel
theorem dX1_copy_23 : decode cX1_copy 23 = .ok (.iconst 0, 1) := by decide +kernel
theorem dX1_copy_24 : decode cX1_copy 24 = .ok (.istore 7, 2) := by decide +kernel
theorem dX1_copy_26 : decode cX1_copy 26 = .ok (.iload 7, 2) := by decide +kernel
theorem dX1_copy_28 : decode cX1_copy 28 = .ok (.aload_n 1, 1) := by decide +kernel
theorem dX1_copy_29 : decode cX1_copy 29 = .ok (.getfield 32, 3) := by decide +kernel
theorem dX1_copy_32 : decode cX1_copy 32 = .ok (.if_icmp .ge 181, 3) := by decide +kernel
theorem dX1_copy_35 : decode cX1_copy 35 = .ok (.aload 4, 2) := by decide +kernel
theorem dX1_copy_37 : decode cX1_copy 37 = .ok (.iload 5, 2) := by decide +kernel
theorem dX1_copy_39 : decode cX1_copy 39 = .ok (.iload 6, 2) := by decide +kernel
theorem dX1_copy_41 : decode cX1_copy 41 = .ok (.iload_n 3, 1) := by decide +kernel
theorem dX1_copy_42 : decode cX1_copy 42 = .ok (.iload 7, 2) := by decide +kernel
theorem dX1_copy_44 : decode cX1_copy 44 = .ok (.invokevirtual 37, 3) := by decide +kernel
theorem dX1_copy_47 : decode cX1_copy 47 = .ok (.istore 5, 2) := by decide +kernel
theorem dX1_copy_49 : decode cX1_copy 49 = .ok (.iload 5, 2) := by decide +kernel
theorem dX1_copy_51 : decode cX1_copy 51 = .ok (.aload 4, 2) := by decide +kernel
theorem dX1_copy_53 : decode cX1_copy 53 = .ok (.getfield 41, 3) := by decide +kernel
theorem dX1_copy_56 : decode cX1_copy 56 = .ok (.if_icmp .gt 157, 3) := by decide +kernel
theorem dX1_copy_59 : decode cX1_copy 59 = .ok (.iload 6, 2) := by decide +kernel
theorem dX1_copy_61 : decode cX1_copy 61 = .ok (.iconst 5, 1) := by decide +kernel
theorem dX1_copy_62 : decode cX1_copy 62 = .ok (.if_icmp .ne 12, 3) := by decide +kernel
theorem dX1_copy_65 : decode cX1_copy 65 = .ok (.iload 7, 2) := by decide +kernel
theorem dX1_copy_67 : decode cX1_copy 67 = .ok (.iload_n 3, 1) := by decide +kernel
theorem dX1_copy_68 : decode cX1_copy 68 = .ok (.if_icmp .le 6, 3) := by decide +kernel
theorem dX1_copy_71 : decode cX1_copy 71 = .ok (.goto 142, 3) := by decide +kernel
theorem dX1_copy_74 : decode cX1_copy 74 = .ok (.aload_n 1, 1) := by decide +kernel
theorem dX1_copy_75 : decode cX1_copy 75 = .ok (.getfield 44, 3) := by decide +kernel
theorem dX1_copy_78 : decode cX1_copy 78 = .ok (.iload 6, 2) := by decide +kernel
theorem dX1_copy_80 : decode cX1_copy 80 = .ok (.iconst 4, 1) := by decide +kernel
theorem dX1_copy_81 : decode cX1_copy 81 = .ok (.if_icmp .ne 15, 3) := by decide +kernel
theorem dX1_copy_84 : decode cX1_copy 84 = .ok (.aload_n 1, 1) := by decide +kernel
theorem dX1_copy_85 : decode cX1_copy 85 = .ok (.getfield 32, 3) := by decide +kernel
theorem dX1_copy_88 : decode cX1_copy 88 = .ok (.iconst 1, 1) := by decide +kernel
theorem dX1_copy_89 : decode cX1_copy 89 = .ok (.isub, 1) := by decide +kernel
theorem dX1_copy_90 : decode cX1_copy 90 = .ok (.iload 7, 2) := by decide +kernel
theorem dX1_copy_92 : decode cX1_copy 92 = .ok (.isub, 1) := by decide +kernel
theorem dX1_copy_93 : decode cX1_copy 93 = .ok (.goto 5, 3) := by decide +kernel
theorem dX1_copy_96 : decode cX1_copy 96 = .ok (.iload 7, 2) := by decide +kernel
theorem dX1_copy_98 : decode cX1_copy 98 = .ok (.iaload, 1) := by decide +kernel
theorem dX1_copy_99 : decode cX1_copy 99 = .ok (.istore 8, 2) := by decide +kernel
theorem dX1_copy_101 : decode cX1_copy 101 = .ok (.iload 6, 2) := by decide +kernel
theorem dX1_copy_103 : decode cX1_copy 103 = .ok (.iload_n 3, 1) := by decide +kernel
theorem dX1_copy_104 : decode cX1_copy 104 = .ok (.iload 7, 2) := by decide +kernel
theorem dX1_copy_106 : decode cX1_copy 106 = .ok (.invokestatic 47, 3) := by decide +kernel
theorem dX1_copy_109 : decode cX1_copy 109 = .ok (.ifCond .ne 74, 3) := by decide +kernel
theorem dX1_copy_112 : decode cX1_copy 112 = .ok (.aload 4, 2) := by decide +kernel
theorem dX1_copy_114 : decode cX1_copy 114 = .ok (.getfield 51, 3) := by decide +kernel
theorem dX1_copy_117 : decode cX1_copy 117 = .ok (.iload 5, 2) := by decide +kernel
theorem dX1_copy_119 : decode cX1_copy 119 = .ok (.iload 6, 2) := by decide +kernel
theorem dX1_copy_121 : decode cX1_copy 121 = .ok (.iload_n 3, 1) := by decide +kernel
theorem dX1_copy_122 : decode cX1_copy 122 = .ok (.iload 7, 2) := by decide +kernel
theorem dX1_copy_124 : decode cX1_copy 124 = .ok (.invokestatic 54, 3) := by decide +kernel
theorem dX1_copy_127 : decode cX1_copy 127 = .ok (.istore 9, 2) := by decide +kernel
theorem dX1_copy_129 : decode cX1_copy 129 = .ok (.iload 6, 2) := by decide +kernel
theorem dX1_copy_131 : decode cX1_copy 131 = .ok (.bipush 6, 2) := by decide +kernel
theorem dX1_copy_133 : decode cX1_copy 133 = .ok (.if_icmp .ne 15, 3) := by decide +kernel
theorem dX1_copy_136 : decode cX1_copy 136 = .ok (.aload_n 2, 1) := by decide +kernel
theorem dX1_copy_137 : decode cX1_copy 137 = .ok (.getfield 58, 3) := by decide +kernel
theorem dX1_copy_140 : decode cX1_copy 140 = .ok (.iload 7, 2) := by decide +kernel
theorem dX1_copy_142 : decode cX1_copy 142 = .ok (.iconst 4, 1) := by decide +kernel
theorem dX1_copy_143 : decode cX1_copy 143 = .ok (.irem, 1) := by decide +kernel
theorem dX1_copy_144 : decode cX1_copy 144 = .ok (.iaload, 1) := by decide +kernel
theorem dX1_copy_145 : decode cX1_copy 145 = .ok (.goto 4, 3) := by decide +kernel
theorem dX1_copy_148 : decode cX1_copy 148 = .ok (.iconst 0, 1) := by decide +kernel
theorem dX1_copy_149 : decode cX1_copy 149 = .ok (.istore 10, 2) := by decide +kernel
theorem dX1_copy_151 : decode cX1_copy 151 = .ok (.iload 8, 2) := by decide +kernel
theorem dX1_copy_153 : decode cX1_copy 153 = .ok (.iload 5, 2) := by decide +kernel
theorem dX1_copy_155 : decode cX1_copy 155 = .ok (.iload 10, 2) := by decide +kernel
theorem dX1_copy_157 : decode cX1_copy 157 = .ok (.iadd, 1) := by decide +kernel
theorem dX1_copy_158 : decode cX1_copy 158 = .ok (.bipush 60, 2) := by decide +kernel
theorem dX1_copy_160 : decode cX1_copy 160 = .ok (.invokestatic 61, 3) := by decide +kernel
theorem dX1_copy_163 : decode cX1_copy 163 = .ok (.iload 9, 2) := by decide +kernel
theorem dX1_copy_165 : decode cX1_copy 165 = .ok (.invokestatic 67, 3) := by decide +kernel
theorem dX1_copy_168 : decode cX1_copy 168 = .ok (.istore 8, 2) := by decide +kernel
theorem dX1_copy_170 : decode cX1_copy 170 = .ok (.aload_n 0, 1) := by decide +kernel
theorem dX1_copy_171 : decode cX1_copy 171 = .ok (.dup, 1) := by decide +kernel
theorem dX1_copy_172 : decode cX1_copy 172 = .ok (.getfield 19, 3) := by decide +kernel
theorem dX1_copy_175 : decode cX1_copy 175 = .ok (.iconst 1, 1) := by decide +kernel
theorem dX1_copy_176 : decode cX1_copy 176 = .ok (.iadd, 1) := by decide +kernel
theorem dX1_copy_177 : decode cX1_copy 177 = .ok (.putfield 19, 3) := by decide +kernel
theorem dX1_copy_180 : decode cX1_copy 180 = .ok (.iinc 5 1, 3) := by decide +kernel
theorem dX1_copy_183 : decode cX1_copy 183 = .ok (.aload_n 0, 1) := by decide +kernel
theorem dX1_copy_184 : decode cX1_copy 184 = .ok (.getfield 9, 3) := by decide +kernel
theorem dX1_copy_187 : decode cX1_copy 187 = .ok (.iload 7, 2) := by decide +kernel
theorem dX1_copy_189 : decode cX1_copy 189 = .ok (.iload 8, 2) := by decide +kernel
theorem dX1_copy_191 : decode cX1_copy 191 = .ok (.iload 6, 2) := by decide +kernel
theorem dX1_copy_193 : decode cX1_copy 193 = .ok (.invokestatic 71, 3) := by decide +kernel
theorem dX1_copy_196 : decode cX1_copy 196 = .ok (.iastore, 1) := by decide +kernel
theorem dX1_copy_197 : decode cX1_copy 197 = .ok (.aload_n 0, 1) := by decide +kernel
theorem dX1_copy_198 : decode cX1_copy 198 = .ok (.dup, 1) := by decide +kernel
theorem dX1_copy_199 : decode cX1_copy 199 = .ok (.getfield 15, 3) := by decide +kernel
theorem dX1_copy_202 : decode cX1_copy 202 = .ok (.iconst 1, 1) := by decide +kernel
theorem dX1_copy_203 : decode cX1_copy 203 = .ok (.iadd, 1) := by decide +kernel
theorem dX1_copy_204 : decode cX1_copy 204 = .ok (.putfield 15, 3) := by decide +kernel
theorem dX1_copy_207 : decode cX1_copy 207 = .ok (.iinc 7 1, 3) := by decide +kernel
theorem dX1_copy_210 : decode cX1_copy 210 = .ok (.goto (-184), 3) := by decide +kernel
theorem dX1_copy_213 : decode cX1_copy 213 = .ok (.aload_n 0, 1) := by decide +kernel
theorem dX1_copy_214 : decode cX1_copy 214 = .ok (.aload_n 1, 1) := by decide +kernel
theorem dX1_copy_215 : decode cX1_copy 215 = .ok (.iload 6, 2) := by decide +kernel
theorem dX1_copy_217 : decode cX1_copy 217 = .ok (.iconst 4, 1) := by decide +kernel
theorem dX1_copy_218 : decode cX1_copy 218 = .ok (.if_icmp .ne 7, 3) := by decide +kernel
theorem dX1_copy_221 : decode cX1_copy 221 = .ok (.iconst 0, 1) := by decide +kernel
theorem dX1_copy_222 : decode cX1_copy 222 = .ok (.goto 7, 3) := by decide +kernel
theorem dX1_copy_225 : decode cX1_copy 225 = .ok (.aload_n 0, 1) := by decide +kernel
theorem dX1_copy_226 : decode cX1_copy 226 = .ok (.getfield 15, 3) := by decide +kernel
theorem dX1_copy_229 : decode cX1_copy 229 = .ok (.invokevirtual 74, 3) := by decide +kernel
theorem dX1_copy_232 : decode cX1_copy 232 = .ok (.return_, 1) := by decide +kernel
theorem dX1_isDry_0 : decode cX1_isDry 0 = .ok (.iload_n 0, 1) := by decide +kernel
theorem dX1_isDry_1 : decode cX1_isDry 1 = .ok (.iconst 3, 1) := by decide +kernel
theorem dX1_isDry_2 : decode cX1_isDry 2 = .ok (.if_icmp .eq 9, 3) := by decide +kernel
theorem dX1_isDry_5 : decode cX1_isDry 5 = .ok (.iload_n 0, 1) := by decide +kernel
theorem dX1_isDry_6 : decode cX1_isDry 6 = .ok (.bipush 6, 2) := by decide +kernel
theorem dX1_isDry_8 : decode cX1_isDry 8 = .ok (.if_icmp .ne 21, 3) := by decide +kernel
theorem dX1_isDry_11 : decode cX1_isDry 11 = .ok (.iload_n 1, 1) := by decide +kernel
theorem dX1_isDry_12 : decode cX1_isDry 12 = .ok (.ifCond .lt 17, 3) := by decide +kernel
theorem dX1_isDry_15 : decode cX1_isDry 15 = .ok (.iload_n 2, 1) := by decide +kernel
theorem dX1_isDry_16 : decode cX1_isDry 16 = .ok (.iconst 1, 1) := by decide +kernel
theorem dX1_isDry_17 : decode cX1_isDry 17 = .ok (.iadd, 1) := by decide +kernel
theorem dX1_isDry_18 : decode cX1_isDry 18 = .ok (.iload_n 1, 1) := by decide +kernel
theorem dX1_isDry_19 : decode cX1_isDry 19 = .ok (.iconst 2, 1) := by decide +kernel
theorem dX1_isDry_20 : decode cX1_isDry 20 = .ok (.iadd, 1) := by decide +kernel
theorem dX1_isDry_21 : decode cX1_isDry 21 = .ok (.irem, 1) := by decide +kernel
theorem dX1_isDry_22 : decode cX1_isDry 22 = .ok (.ifCond .ne 7, 3) := by decide +kernel
theorem dX1_isDry_25 : decode cX1_isDry 25 = .ok (.iconst 1, 1) := by decide +kernel
theorem dX1_isDry_26 : decode cX1_isDry 26 = .ok (.goto 4, 3) := by decide +kernel
theorem dX1_isDry_29 : decode cX1_isDry 29 = .ok (.iconst 0, 1) := by decide +kernel
theorem dX1_isDry_30 : decode cX1_isDry 30 = .ok (.ireturn, 1) := by decide +kernel
theorem dX1_withPage_0 : decode cX1_withPage 0 = .ok (.iload_n 2, 1) := by decide +kernel
theorem dX1_withPage_1 : decode cX1_withPage 1 = .ok (.ifCond .eq 11, 3) := by decide +kernel
theorem dX1_withPage_4 : decode cX1_withPage 4 = .ok (.iload_n 1, 1) := by decide +kernel
theorem dX1_withPage_5 : decode cX1_withPage 5 = .ok (.sipush 128, 3) := by decide +kernel
theorem dX1_withPage_8 : decode cX1_withPage 8 = .ok (.ior, 1) := by decide +kernel
theorem dX1_withPage_9 : decode cX1_withPage 9 = .ok (.goto 4, 3) := by decide +kernel
theorem dX1_withPage_12 : decode cX1_withPage 12 = .ok (.iload_n 1, 1) := by decide +kernel
theorem dX1_withPage_13 : decode cX1_withPage 13 = .ok (.istore_n 3, 1) := by decide +kernel
theorem dX1_withPage_14 : decode cX1_withPage 14 = .ok (.iload_n 0, 1) := by decide +kernel
theorem dX1_withPage_15 : decode cX1_withPage 15 = .ok (.bipush 127, 2) := by decide +kernel
theorem dX1_withPage_17 : decode cX1_withPage 17 = .ok (.iand, 1) := by decide +kernel
theorem dX1_withPage_18 : decode cX1_withPage 18 = .ok (.ifCond .eq 6, 3) := by decide +kernel
theorem dX1_withPage_21 : decode cX1_withPage 21 = .ok (.bipush 99, 2) := by decide +kernel
theorem dX1_withPage_23 : decode cX1_withPage 23 = .ok (.istore_n 3, 1) := by decide +kernel
theorem dX1_withPage_24 : decode cX1_withPage 24 = .ok (.iload_n 0, 1) := by decide +kernel
theorem dX1_withPage_25 : decode cX1_withPage 25 = .ok (.sipush (-256), 3) := by decide +kernel
theorem dX1_withPage_28 : decode cX1_withPage 28 = .ok (.iand, 1) := by decide +kernel
theorem dX1_withPage_29 : decode cX1_withPage 29 = .ok (.iload_n 3, 1) := by decide +kernel
theorem dX1_withPage_30 : decode cX1_withPage 30 = .ok (.ior, 1) := by decide +kernel
theorem dX1_withPage_31 : decode cX1_withPage 31 = .ok (.ireturn, 1) := by decide +kernel
theorem dX1_laidOut_0 : decode cX1_laidOut 0 = .ok (.iload_n 1, 1) := by decide +kernel
theorem dX1_laidOut_1 : decode cX1_laidOut 1 = .ok (.tableswitch 48 1 5 #[35, 40, 48, 35, 40], 35) := by decide +kernel
theorem dX1_laidOut_36 : decode cX1_laidOut 36 = .ok (.iload_n 0, 1) := by decide +kernel
theorem dX1_laidOut_37 : decode cX1_laidOut 37 = .ok (.invokestatic 78, 3) := by decide +kernel
theorem dX1_laidOut_40 : decode cX1_laidOut 40 = .ok (.ireturn, 1) := by decide +kernel
theorem dX1_laidOut_41 : decode cX1_laidOut 41 = .ok (.iload_n 0, 1) := by decide +kernel
theorem dX1_laidOut_42 : decode cX1_laidOut 42 = .ok (.invokestatic 78, 3) := by decide +kernel
theorem dX1_laidOut_45 : decode cX1_laidOut 45 = .ok (.invokestatic 82, 3) := by decide +kernel
theorem dX1_laidOut_48 : decode cX1_laidOut 48 = .ok (.ireturn, 1) := by decide +kernel
theorem dX1_laidOut_49 : decode cX1_laidOut 49 = .ok (.iload_n 0, 1) := by decide +kernel
theorem dX1_laidOut_50 : decode cX1_laidOut 50 = .ok (.ireturn, 1) := by decide +kernel
theorem dX1_gather_0 : decode cX1_gather 0 = .ok (.aload_n 1, 1) := by decide +kernel
theorem dX1_gather_1 : decode cX1_gather 1 = .ok (.getfield 32, 3) := by decide +kernel
theorem dX1_gather_4 : decode cX1_gather 4 = .ok (.aload_n 0, 1) := by decide +kernel
theorem dX1_gather_5 : decode cX1_gather 5 = .ok (.getfield 15, 3) := by decide +kernel
theorem dX1_gather_8 : decode cX1_gather 8 = .ok (.isub, 1) := by decide +kernel
theorem dX1_gather_9 : decode cX1_gather 9 = .ok (.istore_n 3, 1) := by decide +kernel
theorem dX1_gather_10 : decode cX1_gather 10 = .ok (.iconst 0, 1) := by decide +kernel
theorem dX1_gather_11 : decode cX1_gather 11 = .ok (.istore 4, 2) := by decide +kernel
theorem dX1_gather_13 : decode cX1_gather 13 = .ok (.iload 4, 2) := by decide +kernel
theorem dX1_gather_15 : decode cX1_gather 15 = .ok (.iload_n 3, 1) := by decide +kernel
theorem dX1_gather_16 : decode cX1_gather 16 = .ok (.if_icmp .ge 25, 3) := by decide +kernel
theorem dX1_gather_19 : decode cX1_gather 19 = .ok (.aload_n 1, 1) := by decide +kernel
theorem dX1_gather_20 : decode cX1_gather 20 = .ok (.getfield 44, 3) := by decide +kernel
theorem dX1_gather_23 : decode cX1_gather 23 = .ok (.iload 4, 2) := by decide +kernel
theorem dX1_gather_25 : decode cX1_gather 25 = .ok (.aload_n 1, 1) := by decide +kernel
theorem dX1_gather_26 : decode cX1_gather 26 = .ok (.getfield 44, 3) := by decide +kernel
theorem dX1_gather_29 : decode cX1_gather 29 = .ok (.iload_n 2, 1) := by decide +kernel
theorem dX1_gather_30 : decode cX1_gather 30 = .ok (.iload 4, 2) := by decide +kernel
theorem dX1_gather_32 : decode cX1_gather 32 = .ok (.iadd, 1) := by decide +kernel
theorem dX1_gather_33 : decode cX1_gather 33 = .ok (.iaload, 1) := by decide +kernel
theorem dX1_gather_34 : decode cX1_gather 34 = .ok (.iastore, 1) := by decide +kernel
theorem dX1_gather_35 : decode cX1_gather 35 = .ok (.iinc 4 1, 3) := by decide +kernel
theorem dX1_gather_38 : decode cX1_gather 38 = .ok (.goto (-25), 3) := by decide +kernel
theorem dX1_gather_41 : decode cX1_gather 41 = .ok (.iconst 0, 1) := by decide +kernel
theorem dX1_gather_42 : decode cX1_gather 42 = .ok (.istore 4, 2) := by decide +kernel
theorem dX1_gather_44 : decode cX1_gather 44 = .ok (.iload 4, 2) := by decide +kernel
theorem dX1_gather_46 : decode cX1_gather 46 = .ok (.aload_n 0, 1) := by decide +kernel
theorem dX1_gather_47 : decode cX1_gather 47 = .ok (.getfield 15, 3) := by decide +kernel
theorem dX1_gather_50 : decode cX1_gather 50 = .ok (.if_icmp .ge 32, 3) := by decide +kernel
theorem dX1_gather_53 : decode cX1_gather 53 = .ok (.aload_n 1, 1) := by decide +kernel
theorem dX1_gather_54 : decode cX1_gather 54 = .ok (.getfield 44, 3) := by decide +kernel
theorem dX1_gather_57 : decode cX1_gather 57 = .ok (.iload_n 3, 1) := by decide +kernel
theorem dX1_gather_58 : decode cX1_gather 58 = .ok (.iload 4, 2) := by decide +kernel
theorem dX1_gather_60 : decode cX1_gather 60 = .ok (.iadd, 1) := by decide +kernel
theorem dX1_gather_61 : decode cX1_gather 61 = .ok (.aload_n 0, 1) := by decide +kernel
theorem dX1_gather_62 : decode cX1_gather 62 = .ok (.getfield 9, 3) := by decide +kernel
theorem dX1_gather_65 : decode cX1_gather 65 = .ok (.aload_n 0, 1) := by decide +kernel
theorem dX1_gather_66 : decode cX1_gather 66 = .ok (.getfield 15, 3) := by decide +kernel
theorem dX1_gather_69 : decode cX1_gather 69 = .ok (.iconst 1, 1) := by decide +kernel
theorem dX1_gather_70 : decode cX1_gather 70 = .ok (.isub, 1) := by decide +kernel
theorem dX1_gather_71 : decode cX1_gather 71 = .ok (.iload 4, 2) := by decide +kernel
theorem dX1_gather_73 : decode cX1_gather 73 = .ok (.isub, 1) := by decide +kernel
theorem dX1_gather_74 : decode cX1_gather 74 = .ok (.iaload, 1) := by decide +kernel
theorem dX1_gather_75 : decode cX1_gather 75 = .ok (.iastore, 1) := by decide +kernel
theorem dX1_gather_76 : decode cX1_gather 76 = .ok (.iinc 4 1, 3) := by decide +kernel
theorem dX1_gather_79 : decode cX1_gather 79 = .ok (.goto (-35), 3) := by decide +kernel
theorem dX1_gather_82 : decode cX1_gather 82 = .ok (.return_, 1) := by decide +kernel
theorem dX2_init_0 : decode cX2_init 0 = .ok (.aload_n 0, 1) := by decide +kernel
theorem dX2_init_1 : decode cX2_init 1 = .ok (.invokespecial 3, 3) := by decide +kernel
theorem dX2_init_4 : decode cX2_init 4 = .ok (.aload_n 0, 1) := by decide +kernel
theorem dX2_init_5 : decode cX2_init 5 = .ok (.iload_n 1, 1) := by decide +kernel
theorem dX2_init_6 : decode cX2_init 6 = .ok (.putfield 9, 3) := by decide +kernel
theorem dX2_init_9 : decode cX2_init 9 = .ok (.aload_n 0, 1) := by decide +kernel
theorem dX2_init_10 : decode cX2_init 10 = .ok (.iload_n 2, 1) := by decide +kernel
theorem dX2_init_11 : decode cX2_init 11 = .ok (.putfield 15, 3) := by decide +kernel
theorem dX2_init_14 : decode cX2_init 14 = .ok (.aload_n 0, 1) := by decide +kernel
theorem dX2_init_15 : decode cX2_init 15 = .ok (.aload_n 3, 1) := by decide +kernel
theorem dX2_init_16 : decode cX2_init 16 = .ok (.putfield 18, 3) := by decide +kernel
theorem dX2_init_19 : decode cX2_init 19 = .ok (.aload_n 0, 1) := by decide +kernel
theorem dX2_init_20 : decode cX2_init 20 = .ok (.aload 4, 2) := by decide +kernel
theorem dX2_init_22 : decode cX2_init 22 = .ok (.putfield 22, 3) := by decide +kernel
theorem dX2_init_25 : decode cX2_init 25 = .ok (.return_, 1) := by decide +kernel
theorem dX2_pageFrom_0 : decode cX2_pageFrom 0 = .ok (.iload_n 1, 1) := by decide +kernel
theorem dX2_pageFrom_1 : decode cX2_pageFrom 1 = .ok (.istore 5, 2) := by decide +kernel
theorem dX2_pageFrom_3 : decode cX2_pageFrom 3 = .ok (.iload 5, 2) := by decide +kernel
theorem dX2_pageFrom_5 : decode cX2_pageFrom 5 = .ok (.aload_n 0, 1) := by decide +kernel
theorem dX2_pageFrom_6 : decode cX2_pageFrom 6 = .ok (.getfield 15, 3) := by decide +kernel
theorem dX2_pageFrom_9 : decode cX2_pageFrom 9 = .ok (.if_icmp .gt 28, 3) := by decide +kernel
theorem dX2_pageFrom_12 : decode cX2_pageFrom 12 = .ok (.aload_n 0, 1) := by decide +kernel
theorem dX2_pageFrom_13 : decode cX2_pageFrom 13 = .ok (.getfield 18, 3) := by decide +kernel
theorem dX2_pageFrom_16 : decode cX2_pageFrom 16 = .ok (.iload 5, 2) := by decide +kernel
theorem dX2_pageFrom_18 : decode cX2_pageFrom 18 = .ok (.iload_n 2, 1) := by decide +kernel
theorem dX2_pageFrom_19 : decode cX2_pageFrom 19 = .ok (.iload_n 3, 1) := by decide +kernel
theorem dX2_pageFrom_20 : decode cX2_pageFrom 20 = .ok (.iload 4, 2) := by decide +kernel
theorem dX2_pageFrom_22 : decode cX2_pageFrom 22 = .ok (.invokestatic 25, 3) := by decide +kernel
theorem dX2_pageFrom_25 : decode cX2_pageFrom 25 = .ok (.ifCond .ne 6, 3) := by decide +kernel
theorem dX2_pageFrom_28 : decode cX2_pageFrom 28 = .ok (.iload 5, 2) := by decide +kernel
theorem dX2_pageFrom_30 : decode cX2_pageFrom 30 = .ok (.ireturn, 1) := by decide +kernel
theorem dX2_pageFrom_31 : decode cX2_pageFrom 31 = .ok (.iinc 5 1, 3) := by decide +kernel
theorem dX2_pageFrom_34 : decode cX2_pageFrom 34 = .ok (.goto (-31), 3) := by decide +kernel
theorem dX2_pageFrom_37 : decode cX2_pageFrom 37 = .ok (.aload_n 0, 1) := by decide +kernel
theorem dX2_pageFrom_38 : decode cX2_pageFrom 38 = .ok (.getfield 15, 3) := by decide +kernel
theorem dX2_pageFrom_41 : decode cX2_pageFrom 41 = .ok (.iconst 1, 1) := by decide +kernel
theorem dX2_pageFrom_42 : decode cX2_pageFrom 42 = .ok (.iadd, 1) := by decide +kernel
theorem dX2_pageFrom_43 : decode cX2_pageFrom 43 = .ok (.ireturn, 1) := by decide +kernel
theorem dX2_holds_0 : decode cX2_holds 0 = .ok (.iconst 0, 1) := by decide +kernel
theorem dX2_holds_1 : decode cX2_holds 1 = .ok (.istore 5, 2) := by decide +kernel
theorem dX2_holds_3 : decode cX2_holds 3 = .ok (.iconst 0, 1) := by decide +kernel
theorem dX2_holds_4 : decode cX2_holds 4 = .ok (.istore 6, 2) := by decide +kernel
theorem dX2_holds_6 : decode cX2_holds 6 = .ok (.iload 6, 2) := by decide +kernel
theorem dX2_holds_8 : decode cX2_holds 8 = .ok (.aload_n 0, 1) := by decide +kernel
theorem dX2_holds_9 : decode cX2_holds 9 = .ok (.arraylength, 1) := by decide +kernel
theorem dX2_holds_10 : decode cX2_holds 10 = .ok (.if_icmp .ge 115, 3) := by decide +kernel
theorem dX2_holds_13 : decode cX2_holds 13 = .ok (.aload_n 0, 1) := by decide +kernel
theorem dX2_holds_14 : decode cX2_holds 14 = .ok (.iload 6, 2) := by decide +kernel
theorem dX2_holds_16 : decode cX2_holds 16 = .ok (.iaload, 1) := by decide +kernel
theorem dX2_holds_17 : decode cX2_holds 17 = .ok (.istore 7, 2) := by decide +kernel
theorem dX2_holds_19 : decode cX2_holds 19 = .ok (.iload 5, 2) := by decide +kernel
theorem dX2_holds_21 : decode cX2_holds 21 = .ok (.iconst 1, 1) := by decide +kernel
theorem dX2_holds_22 : decode cX2_holds 22 = .ok (.iand, 1) := by decide +kernel
theorem dX2_holds_23 : decode cX2_holds 23 = .ok (.istore 8, 2) := by decide +kernel
theorem dX2_holds_25 : decode cX2_holds 25 = .ok (.iload 7, 2) := by decide +kernel
theorem dX2_holds_27 : decode cX2_holds 27 = .ok (.iconst (-1), 1) := by decide +kernel
theorem dX2_holds_28 : decode cX2_holds 28 = .ok (.if_icmp .ne 12, 3) := by decide +kernel
theorem dX2_holds_31 : decode cX2_holds 31 = .ok (.iload 5, 2) := by decide +kernel
theorem dX2_holds_33 : decode cX2_holds 33 = .ok (.iconst 1, 1) := by decide +kernel
theorem dX2_holds_34 : decode cX2_holds 34 = .ok (.ixor, 1) := by decide +kernel
theorem dX2_holds_35 : decode cX2_holds 35 = .ok (.istore 5, 2) := by decide +kernel
theorem dX2_holds_37 : decode cX2_holds 37 = .ok (.goto 82, 3) := by decide +kernel
theorem dX2_holds_40 : decode cX2_holds 40 = .ok (.iload 7, 2) := by decide +kernel
theorem dX2_holds_42 : decode cX2_holds 42 = .ok (.bipush (-2), 2) := by decide +kernel
theorem dX2_holds_44 : decode cX2_holds 44 = .ok (.if_icmp .ne 18, 3) := by decide +kernel
theorem dX2_holds_47 : decode cX2_holds 47 = .ok (.iload 5, 2) := by decide +kernel
theorem dX2_holds_49 : decode cX2_holds 49 = .ok (.iconst 1, 1) := by decide +kernel
theorem dX2_holds_50 : decode cX2_holds 50 = .ok (.ishr, 1) := by decide +kernel
theorem dX2_holds_51 : decode cX2_holds 51 = .ok (.iload 8, 2) := by decide +kernel
theorem dX2_holds_53 : decode cX2_holds 53 = .ok (.bipush (-2), 2) := by decide +kernel
theorem dX2_holds_55 : decode cX2_holds 55 = .ok (.ior, 1) := by decide +kernel
theorem dX2_holds_56 : decode cX2_holds 56 = .ok (.iand, 1) := by decide +kernel
theorem dX2_holds_57 : decode cX2_holds 57 = .ok (.istore 5, 2) := by decide +kernel
theorem dX2_holds_59 : decode cX2_holds 59 = .ok (.goto 60, 3) := by decide +kernel
theorem dX2_holds_62 : decode cX2_holds 62 = .ok (.iload 7, 2) := by decide +kernel
theorem dX2_holds_64 : decode cX2_holds 64 = .ok (.bipush (-3), 2) := by decide +kernel
theorem dX2_holds_66 : decode cX2_holds 66 = .ok (.if_icmp .ne 15, 3) := by decide +kernel
theorem dX2_holds_69 : decode cX2_holds 69 = .ok (.iload 5, 2) := by decide +kernel
theorem dX2_holds_71 : decode cX2_holds 71 = .ok (.iconst 1, 1) := by decide +kernel
theorem dX2_holds_72 : decode cX2_holds 72 = .ok (.ishr, 1) := by decide +kernel
theorem dX2_holds_73 : decode cX2_holds 73 = .ok (.iload 8, 2) := by decide +kernel
theorem dX2_holds_75 : decode cX2_holds 75 = .ok (.ior, 1) := by decide +kernel
theorem dX2_holds_76 : decode cX2_holds 76 = .ok (.istore 5, 2) := by decide +kernel
theorem dX2_holds_78 : decode cX2_holds 78 = .ok (.goto 41, 3) := by decide +kernel
theorem dX2_holds_81 : decode cX2_holds 81 = .ok (.iload 7, 2) := by decide +kernel
theorem dX2_holds_83 : decode cX2_holds 83 = .ok (.sipush 300, 3) := by decide +kernel
theorem dX2_holds_86 : decode cX2_holds 86 = .ok (.idiv, 1) := by decide +kernel
theorem dX2_holds_87 : decode cX2_holds 87 = .ok (.iload_n 1, 1) := by decide +kernel
theorem dX2_holds_88 : decode cX2_holds 88 = .ok (.iload_n 2, 1) := by decide +kernel
theorem dX2_holds_89 : decode cX2_holds 89 = .ok (.iload_n 3, 1) := by decide +kernel
theorem dX2_holds_90 : decode cX2_holds 90 = .ok (.iload 4, 2) := by decide +kernel
theorem dX2_holds_92 : decode cX2_holds 92 = .ok (.invokestatic 29, 3) := by decide +kernel
theorem dX2_holds_95 : decode cX2_holds 95 = .ok (.istore 9, 2) := by decide +kernel
theorem dX2_holds_97 : decode cX2_holds 97 = .ok (.iload 5, 2) := by decide +kernel
theorem dX2_holds_99 : decode cX2_holds 99 = .ok (.iconst 1, 1) := by decide +kernel
theorem dX2_holds_100 : decode cX2_holds 100 = .ok (.ishl, 1) := by decide +kernel
theorem dX2_holds_101 : decode cX2_holds 101 = .ok (.iload 9, 2) := by decide +kernel
theorem dX2_holds_103 : decode cX2_holds 103 = .ok (.iload 7, 2) := by decide +kernel
theorem dX2_holds_105 : decode cX2_holds 105 = .ok (.invokestatic 33, 3) := by decide +kernel
theorem dX2_holds_108 : decode cX2_holds 108 = .ok (.ifCond .eq 7, 3) := by decide +kernel
theorem dX2_holds_111 : decode cX2_holds 111 = .ok (.iconst 1, 1) := by decide +kernel
theorem dX2_holds_112 : decode cX2_holds 112 = .ok (.goto 4, 3) := by decide +kernel
theorem dX2_holds_115 : decode cX2_holds 115 = .ok (.iconst 0, 1) := by decide +kernel
theorem dX2_holds_116 : decode cX2_holds 116 = .ok (.ior, 1) := by decide +kernel
theorem dX2_holds_117 : decode cX2_holds 117 = .ok (.istore 5, 2) := by decide +kernel
theorem dX2_holds_119 : decode cX2_holds 119 = .ok (.iinc 6 1, 3) := by decide +kernel
theorem dX2_holds_122 : decode cX2_holds 122 = .ok (.goto (-116), 3) := by decide +kernel
theorem dX2_holds_125 : decode cX2_holds 125 = .ok (.iload 5, 2) := by decide +kernel
theorem dX2_holds_127 : decode cX2_holds 127 = .ok (.iconst 1, 1) := by decide +kernel
theorem dX2_holds_128 : decode cX2_holds 128 = .ok (.iand, 1) := by decide +kernel
theorem dX2_holds_129 : decode cX2_holds 129 = .ok (.ifCond .eq 7, 3) := by decide +kernel
theorem dX2_holds_132 : decode cX2_holds 132 = .ok (.iconst 1, 1) := by decide +kernel
theorem dX2_holds_133 : decode cX2_holds 133 = .ok (.goto 4, 3) := by decide +kernel
theorem dX2_holds_136 : decode cX2_holds 136 = .ok (.iconst 0, 1) := by decide +kernel
theorem dX2_holds_137 : decode cX2_holds 137 = .ok (.ireturn, 1) := by decide +kernel
theorem dX2_value_0 : decode cX2_value 0 = .ok (.iload_n 0, 1) := by decide +kernel
theorem dX2_value_1 : decode cX2_value 1 = .ok (.tableswitch 50 0 4 #[35, 37, 41, 46, 48], 35) := by decide +kernel
theorem dX2_value_36 : decode cX2_value 36 = .ok (.iload_n 1, 1) := by decide +kernel
theorem dX2_value_37 : decode cX2_value 37 = .ok (.ireturn, 1) := by decide +kernel
theorem dX2_value_38 : decode cX2_value 38 = .ok (.iload_n 1, 1) := by decide +kernel
theorem dX2_value_39 : decode cX2_value 39 = .ok (.iconst 2, 1) := by decide +kernel
theorem dX2_value_40 : decode cX2_value 40 = .ok (.irem, 1) := by decide +kernel
theorem dX2_value_41 : decode cX2_value 41 = .ok (.ireturn, 1) := by decide +kernel
theorem dX2_value_42 : decode cX2_value 42 = .ok (.iload_n 1, 1) := by decide +kernel
theorem dX2_value_43 : decode cX2_value 43 = .ok (.bipush 10, 2) := by decide +kernel
theorem dX2_value_45 : decode cX2_value 45 = .ok (.irem, 1) := by decide +kernel
theorem dX2_value_46 : decode cX2_value 46 = .ok (.ireturn, 1) := by decide +kernel
theorem dX2_value_47 : decode cX2_value 47 = .ok (.iload_n 2, 1) := by decide +kernel
theorem dX2_value_48 : decode cX2_value 48 = .ok (.ireturn, 1) := by decide +kernel
theorem dX2_value_49 : decode cX2_value 49 = .ok (.iload_n 3, 1) := by decide +kernel
theorem dX2_value_50 : decode cX2_value 50 = .ok (.ireturn, 1) := by decide +kernel
theorem dX2_value_51 : decode cX2_value 51 = .ok (.iload 4, 2) := by decide +kernel
theorem dX2_value_53 : decode cX2_value 53 = .ok (.ireturn, 1) := by decide +kernel
theorem dX2_isSo_0 : decode cX2_isSo 0 = .ok (.iload_n 1, 1) := by decide +kernel
theorem dX2_isSo_1 : decode cX2_isSo 1 = .ok (.bipush 100, 2) := by decide +kernel
theorem dX2_isSo_3 : decode cX2_isSo 3 = .ok (.irem, 1) := by decide +kernel
theorem dX2_isSo_4 : decode cX2_isSo 4 = .ok (.istore_n 2, 1) := by decide +kernel
theorem dX2_isSo_5 : decode cX2_isSo 5 = .ok (.iload_n 1, 1) := by decide +kernel
theorem dX2_isSo_6 : decode cX2_isSo 6 = .ok (.bipush 100, 2) := by decide +kernel
theorem dX2_isSo_8 : decode cX2_isSo 8 = .ok (.idiv, 1) := by decide +kernel
theorem dX2_isSo_9 : decode cX2_isSo 9 = .ok (.iconst 3, 1) := by decide +kernel
theorem dX2_isSo_10 : decode cX2_isSo 10 = .ok (.irem, 1) := by decide +kernel
theorem dX2_isSo_11 : decode cX2_isSo 11 = .ok (.lookupswitch 47 #[(0, 25), (1, 36)], 25) := by decide +kernel
theorem dX2_isSo_36 : decode cX2_isSo 36 = .ok (.iload_n 0, 1) := by decide +kernel
theorem dX2_isSo_37 : decode cX2_isSo 37 = .ok (.iload_n 2, 1) := by decide +kernel
theorem dX2_isSo_38 : decode cX2_isSo 38 = .ok (.if_icmp .ge 7, 3) := by decide +kernel
theorem dX2_isSo_41 : decode cX2_isSo 41 = .ok (.iconst 1, 1) := by decide +kernel
theorem dX2_isSo_42 : decode cX2_isSo 42 = .ok (.goto 4, 3) := by decide +kernel
theorem dX2_isSo_45 : decode cX2_isSo 45 = .ok (.iconst 0, 1) := by decide +kernel
theorem dX2_isSo_46 : decode cX2_isSo 46 = .ok (.ireturn, 1) := by decide +kernel
theorem dX2_isSo_47 : decode cX2_isSo 47 = .ok (.iload_n 0, 1) := by decide +kernel
theorem dX2_isSo_48 : decode cX2_isSo 48 = .ok (.iload_n 2, 1) := by decide +kernel
theorem dX2_isSo_49 : decode cX2_isSo 49 = .ok (.if_icmp .ne 7, 3) := by decide +kernel
theorem dX2_isSo_52 : decode cX2_isSo 52 = .ok (.iconst 1, 1) := by decide +kernel
theorem dX2_isSo_53 : decode cX2_isSo 53 = .ok (.goto 4, 3) := by decide +kernel
theorem dX2_isSo_56 : decode cX2_isSo 56 = .ok (.iconst 0, 1) := by decide +kernel
theorem dX2_isSo_57 : decode cX2_isSo 57 = .ok (.ireturn, 1) := by decide +kernel
theorem dX2_isSo_58 : decode cX2_isSo 58 = .ok (.iload_n 0, 1) := by decide +kernel
theorem dX2_isSo_59 : decode cX2_isSo 59 = .ok (.iload_n 2, 1) := by decide +kernel
theorem dX2_isSo_60 : decode cX2_isSo 60 = .ok (.if_icmp .le 7, 3) := by decide +kernel
theorem dX2_isSo_63 : decode cX2_isSo 63 = .ok (.iconst 1, 1) := by decide +kernel
theorem dX2_isSo_64 : decode cX2_isSo 64 = .ok (.goto 4, 3) := by decide +kernel
theorem dX2_isSo_67 : decode cX2_isSo 67 = .ok (.iconst 0, 1) := by decide +kernel
theorem dX2_isSo_68 : decode cX2_isSo 68 = .ok (.ireturn, 1) := by decide +kernel
theorem dX3_init_0 : decode cX3_init 0 = .ok (.aload_n 0, 1) := by decide +kernel
theorem dX3_init_1 : decode cX3_init 1 = .ok (.invokespecial 1, 3) := by decide +kernel
theorem dX3_init_4 : decode cX3_init 4 = .ok (.aload_n 0, 1) := by decide +kernel
theorem dX3_init_5 : decode cX3_init 5 = .ok (.iload_n 1, 1) := by decide +kernel
theorem dX3_init_6 : decode cX3_init 6 = .ok (.newarray .int, 2) := by decide +kernel
theorem dX3_init_8 : decode cX3_init 8 = .ok (.putfield 7, 3) := by decide +kernel
theorem dX3_init_11 : decode cX3_init 11 = .ok (.aload_n 0, 1) := by decide +kernel
theorem dX3_init_12 : decode cX3_init 12 = .ok (.iload_n 1, 1) := by decide +kernel
theorem dX3_init_13 : decode cX3_init 13 = .ok (.newarray .int, 2) := by decide +kernel
theorem dX3_init_15 : decode cX3_init 15 = .ok (.putfield 13, 3) := by decide +kernel
theorem dX3_init_18 : decode cX3_init 18 = .ok (.aload_n 0, 1) := by decide +kernel
theorem dX3_init_19 : decode cX3_init 19 = .ok (.iload_n 1, 1) := by decide +kernel
theorem dX3_init_20 : decode cX3_init 20 = .ok (.newarray .int, 2) := by decide +kernel
theorem dX3_init_22 : decode cX3_init 22 = .ok (.putfield 16, 3) := by decide +kernel
theorem dX3_init_25 : decode cX3_init 25 = .ok (.return_, 1) := by decide +kernel
theorem dX3_isFull_0 : decode cX3_isFull 0 = .ok (.aload_n 0, 1) := by decide +kernel
theorem dX3_isFull_1 : decode cX3_isFull 1 = .ok (.getfield 19, 3) := by decide +kernel
theorem dX3_isFull_4 : decode cX3_isFull 4 = .ok (.aload_n 0, 1) := by decide +kernel
theorem dX3_isFull_5 : decode cX3_isFull 5 = .ok (.getfield 7, 3) := by decide +kernel
theorem dX3_isFull_8 : decode cX3_isFull 8 = .ok (.arraylength, 1) := by decide +kernel
theorem dX3_isFull_9 : decode cX3_isFull 9 = .ok (.if_icmp .lt 7, 3) := by decide +kernel
theorem dX3_isFull_12 : decode cX3_isFull 12 = .ok (.iconst 1, 1) := by decide +kernel
theorem dX3_isFull_13 : decode cX3_isFull 13 = .ok (.goto 4, 3) := by decide +kernel
theorem dX3_isFull_16 : decode cX3_isFull 16 = .ok (.iconst 0, 1) := by decide +kernel
theorem dX3_isFull_17 : decode cX3_isFull 17 = .ok (.ireturn, 1) := by decide +kernel
theorem dX3_add_0 : decode cX3_add 0 = .ok (.aload_n 0, 1) := by decide +kernel
theorem dX3_add_1 : decode cX3_add 1 = .ok (.invokevirtual 23, 3) := by decide +kernel
theorem dX3_add_4 : decode cX3_add 4 = .ok (.ifCond .ne 43, 3) := by decide +kernel
theorem dX3_add_7 : decode cX3_add 7 = .ok (.aload_n 0, 1) := by decide +kernel
theorem dX3_add_8 : decode cX3_add 8 = .ok (.getfield 7, 3) := by decide +kernel
theorem dX3_add_11 : decode cX3_add 11 = .ok (.aload_n 0, 1) := by decide +kernel
theorem dX3_add_12 : decode cX3_add 12 = .ok (.getfield 19, 3) := by decide +kernel
theorem dX3_add_15 : decode cX3_add 15 = .ok (.iload_n 1, 1) := by decide +kernel
theorem dX3_add_16 : decode cX3_add 16 = .ok (.iastore, 1) := by decide +kernel
theorem dX3_add_17 : decode cX3_add 17 = .ok (.aload_n 0, 1) := by decide +kernel
theorem dX3_add_18 : decode cX3_add 18 = .ok (.getfield 13, 3) := by decide +kernel
theorem dX3_add_21 : decode cX3_add 21 = .ok (.aload_n 0, 1) := by decide +kernel
theorem dX3_add_22 : decode cX3_add 22 = .ok (.getfield 19, 3) := by decide +kernel
theorem dX3_add_25 : decode cX3_add 25 = .ok (.iload_n 2, 1) := by decide +kernel
theorem dX3_add_26 : decode cX3_add 26 = .ok (.iastore, 1) := by decide +kernel
theorem dX3_add_27 : decode cX3_add 27 = .ok (.aload_n 0, 1) := by decide +kernel
theorem dX3_add_28 : decode cX3_add 28 = .ok (.getfield 16, 3) := by decide +kernel
theorem dX3_add_31 : decode cX3_add 31 = .ok (.aload_n 0, 1) := by decide +kernel
theorem dX3_add_32 : decode cX3_add 32 = .ok (.getfield 19, 3) := by decide +kernel
theorem dX3_add_35 : decode cX3_add 35 = .ok (.iload_n 3, 1) := by decide +kernel
theorem dX3_add_36 : decode cX3_add 36 = .ok (.iastore, 1) := by decide +kernel
theorem dX3_add_37 : decode cX3_add 37 = .ok (.aload_n 0, 1) := by decide +kernel
theorem dX3_add_38 : decode cX3_add 38 = .ok (.dup, 1) := by decide +kernel
theorem dX3_add_39 : decode cX3_add 39 = .ok (.getfield 19, 3) := by decide +kernel
theorem dX3_add_42 : decode cX3_add 42 = .ok (.iconst 1, 1) := by decide +kernel
theorem dX3_add_43 : decode cX3_add 43 = .ok (.iadd, 1) := by decide +kernel
theorem dX3_add_44 : decode cX3_add 44 = .ok (.putfield 19, 3) := by decide +kernel
theorem dX3_add_47 : decode cX3_add 47 = .ok (.aload_n 0, 1) := by decide +kernel
theorem dX3_add_48 : decode cX3_add 48 = .ok (.getfield 19, 3) := by decide +kernel
theorem dX3_add_51 : decode cX3_add 51 = .ok (.ireturn, 1) := by decide +kernel
theorem dX3_copyFrom_0 : decode cX3_copyFrom 0 = .ok (.iconst 0, 1) := by decide +kernel
theorem dX3_copyFrom_1 : decode cX3_copyFrom 1 = .ok (.istore_n 2, 1) := by decide +kernel
theorem dX3_copyFrom_2 : decode cX3_copyFrom 2 = .ok (.iload_n 2, 1) := by decide +kernel
theorem dX3_copyFrom_3 : decode cX3_copyFrom 3 = .ok (.aload_n 1, 1) := by decide +kernel
theorem dX3_copyFrom_4 : decode cX3_copyFrom 4 = .ok (.getfield 19, 3) := by decide +kernel
theorem dX3_copyFrom_7 : decode cX3_copyFrom 7 = .ok (.if_icmp .ge 54, 3) := by decide +kernel
theorem dX3_copyFrom_10 : decode cX3_copyFrom 10 = .ok (.iload_n 2, 1) := by decide +kernel
theorem dX3_copyFrom_11 : decode cX3_copyFrom 11 = .ok (.aload_n 0, 1) := by decide +kernel
theorem dX3_copyFrom_12 : decode cX3_copyFrom 12 = .ok (.getfield 7, 3) := by decide +kernel
theorem dX3_copyFrom_15 : decode cX3_copyFrom 15 = .ok (.arraylength, 1) := by decide +kernel
theorem dX3_copyFrom_16 : decode cX3_copyFrom 16 = .ok (.if_icmp .ge 45, 3) := by decide +kernel
theorem dX3_copyFrom_19 : decode cX3_copyFrom 19 = .ok (.aload_n 0, 1) := by decide +kernel
theorem dX3_copyFrom_20 : decode cX3_copyFrom 20 = .ok (.getfield 7, 3) := by decide +kernel
theorem dX3_copyFrom_23 : decode cX3_copyFrom 23 = .ok (.iload_n 2, 1) := by decide +kernel
theorem dX3_copyFrom_24 : decode cX3_copyFrom 24 = .ok (.aload_n 1, 1) := by decide +kernel
theorem dX3_copyFrom_25 : decode cX3_copyFrom 25 = .ok (.getfield 7, 3) := by decide +kernel
theorem dX3_copyFrom_28 : decode cX3_copyFrom 28 = .ok (.iload_n 2, 1) := by decide +kernel
theorem dX3_copyFrom_29 : decode cX3_copyFrom 29 = .ok (.iaload, 1) := by decide +kernel
theorem dX3_copyFrom_30 : decode cX3_copyFrom 30 = .ok (.iastore, 1) := by decide +kernel
theorem dX3_copyFrom_31 : decode cX3_copyFrom 31 = .ok (.aload_n 0, 1) := by decide +kernel
theorem dX3_copyFrom_32 : decode cX3_copyFrom 32 = .ok (.getfield 13, 3) := by decide +kernel
theorem dX3_copyFrom_35 : decode cX3_copyFrom 35 = .ok (.iload_n 2, 1) := by decide +kernel
theorem dX3_copyFrom_36 : decode cX3_copyFrom 36 = .ok (.aload_n 1, 1) := by decide +kernel
theorem dX3_copyFrom_37 : decode cX3_copyFrom 37 = .ok (.getfield 13, 3) := by decide +kernel
theorem dX3_copyFrom_40 : decode cX3_copyFrom 40 = .ok (.iload_n 2, 1) := by decide +kernel
theorem dX3_copyFrom_41 : decode cX3_copyFrom 41 = .ok (.iaload, 1) := by decide +kernel
theorem dX3_copyFrom_42 : decode cX3_copyFrom 42 = .ok (.iastore, 1) := by decide +kernel
theorem dX3_copyFrom_43 : decode cX3_copyFrom 43 = .ok (.aload_n 0, 1) := by decide +kernel
theorem dX3_copyFrom_44 : decode cX3_copyFrom 44 = .ok (.getfield 16, 3) := by decide +kernel
theorem dX3_copyFrom_47 : decode cX3_copyFrom 47 = .ok (.iload_n 2, 1) := by decide +kernel
theorem dX3_copyFrom_48 : decode cX3_copyFrom 48 = .ok (.aload_n 1, 1) := by decide +kernel
theorem dX3_copyFrom_49 : decode cX3_copyFrom 49 = .ok (.getfield 16, 3) := by decide +kernel
theorem dX3_copyFrom_52 : decode cX3_copyFrom 52 = .ok (.iload_n 2, 1) := by decide +kernel
theorem dX3_copyFrom_53 : decode cX3_copyFrom 53 = .ok (.iaload, 1) := by decide +kernel
theorem dX3_copyFrom_54 : decode cX3_copyFrom 54 = .ok (.iastore, 1) := by decide +kernel
theorem dX3_copyFrom_55 : decode cX3_copyFrom 55 = .ok (.iinc 2 1, 3) := by decide +kernel
theorem dX3_copyFrom_58 : decode cX3_copyFrom 58 = .ok (.goto (-56), 3) := by decide +kernel
theorem dX3_copyFrom_61 : decode cX3_copyFrom 61 = .ok (.aload_n 0, 1) := by decide +kernel
theorem dX3_copyFrom_62 : decode cX3_copyFrom 62 = .ok (.aload_n 1, 1) := by decide +kernel
theorem dX3_copyFrom_63 : decode cX3_copyFrom 63 = .ok (.getfield 19, 3) := by decide +kernel
theorem dX3_copyFrom_66 : decode cX3_copyFrom 66 = .ok (.putfield 19, 3) := by decide +kernel
theorem dX3_copyFrom_69 : decode cX3_copyFrom 69 = .ok (.return_, 1) := by decide +kernel
theorem dX4_init_0 : decode cX4_init 0 = .ok (.aload_n 0, 1) := by decide +kernel
theorem dX4_init_1 : decode cX4_init 1 = .ok (.invokespecial 3, 3) := by decide +kernel
theorem dX4_init_4 : decode cX4_init 4 = .ok (.aload_n 0, 1) := by decide +kernel
theorem dX4_init_5 : decode cX4_init 5 = .ok (.bipush 12, 2) := by decide +kernel
theorem dX4_init_7 : decode cX4_init 7 = .ok (.newarray .int, 2) := by decide +kernel
theorem dX4_init_9 : decode cX4_init 9 = .ok (.putfield 9, 3) := by decide +kernel
theorem dX4_init_12 : decode cX4_init 12 = .ok (.return_, 1) := by decide +kernel
theorem dX4_copyFrom_0 : decode cX4_copyFrom 0 = .ok (.aload_n 1, 1) := by decide +kernel
theorem dX4_copyFrom_1 : decode cX4_copyFrom 1 = .ok (.getfield 9, 3) := by decide +kernel
theorem dX4_copyFrom_4 : decode cX4_copyFrom 4 = .ok (.iconst 0, 1) := by decide +kernel
theorem dX4_copyFrom_5 : decode cX4_copyFrom 5 = .ok (.aload_n 0, 1) := by decide +kernel
theorem dX4_copyFrom_6 : decode cX4_copyFrom 6 = .ok (.getfield 9, 3) := by decide +kernel
theorem dX4_copyFrom_9 : decode cX4_copyFrom 9 = .ok (.iconst 0, 1) := by decide +kernel
theorem dX4_copyFrom_10 : decode cX4_copyFrom 10 = .ok (.bipush 12, 2) := by decide +kernel
theorem dX4_copyFrom_12 : decode cX4_copyFrom 12 = .ok (.invokestatic 15, 3) := by decide +kernel
theorem dX4_copyFrom_15 : decode cX4_copyFrom 15 = .ok (.aload_n 0, 1) := by decide +kernel
theorem dX4_copyFrom_16 : decode cX4_copyFrom 16 = .ok (.aload_n 1, 1) := by decide +kernel
theorem dX4_copyFrom_17 : decode cX4_copyFrom 17 = .ok (.getfield 21, 3) := by decide +kernel
theorem dX4_copyFrom_20 : decode cX4_copyFrom 20 = .ok (.putfield 21, 3) := by decide +kernel
theorem dX4_copyFrom_23 : decode cX4_copyFrom 23 = .ok (.return_, 1) := by decide +kernel
theorem dX4_over_0 : decode cX4_over 0 = .ok (.iload_n 0, 1) := by decide +kernel
theorem dX4_over_1 : decode cX4_over 1 = .ok (.bipush 8, 2) := by decide +kernel
theorem dX4_over_3 : decode cX4_over 3 = .ok (.ishr, 1) := by decide +kernel
theorem dX4_over_4 : decode cX4_over 4 = .ok (.iload_n 0, 1) := by decide +kernel
theorem dX4_over_5 : decode cX4_over 5 = .ok (.sipush 255, 3) := by decide +kernel
theorem dX4_over_8 : decode cX4_over 8 = .ok (.iand, 1) := by decide +kernel
theorem dX4_over_9 : decode cX4_over 9 = .ok (.bipush 8, 2) := by decide +kernel
theorem dX4_over_11 : decode cX4_over 11 = .ok (.ishl, 1) := by decide +kernel
theorem dX4_over_12 : decode cX4_over 12 = .ok (.ior, 1) := by decide +kernel
theorem dX4_over_13 : decode cX4_over 13 = .ok (.ireturn, 1) := by decide +kernel
theorem dX4_about_0 : decode cX4_about 0 = .ok (.iload_n 0, 1) := by decide +kernel
theorem dX4_about_1 : decode cX4_about 1 = .ok (.ldc 25, 2) := by decide +kernel
theorem dX4_about_3 : decode cX4_about 3 = .ok (.ixor, 1) := by decide +kernel
theorem dX4_about_4 : decode cX4_about 4 = .ok (.ireturn, 1) := by decide +kernel
theorem dX4_sideOf_0 : decode cX4_sideOf 0 = .ok (.aload_n 0, 1) := by decide +kernel
theorem dX4_sideOf_1 : decode cX4_sideOf 1 = .ok (.getfield 9, 3) := by decide +kernel
theorem dX4_sideOf_4 : decode cX4_sideOf 4 = .ok (.iload_n 1, 1) := by decide +kernel
theorem dX4_sideOf_5 : decode cX4_sideOf 5 = .ok (.iaload, 1) := by decide +kernel
theorem dX4_sideOf_6 : decode cX4_sideOf 6 = .ok (.iload_n 2, 1) := by decide +kernel
theorem dX4_sideOf_7 : decode cX4_sideOf 7 = .ok (.bipush 8, 2) := by decide +kernel
theorem dX4_sideOf_9 : decode cX4_sideOf 9 = .ok (.imul, 1) := by decide +kernel
theorem dX4_sideOf_10 : decode cX4_sideOf 10 = .ok (.ishr, 1) := by decide +kernel
theorem dX4_sideOf_11 : decode cX4_sideOf 11 = .ok (.sipush 255, 3) := by decide +kernel
theorem dX4_sideOf_14 : decode cX4_sideOf 14 = .ok (.iand, 1) := by decide +kernel
theorem dX4_sideOf_15 : decode cX4_sideOf 15 = .ok (.ireturn, 1) := by decide +kernel
theorem dX4_pageOn_0 : decode cX4_pageOn 0 = .ok (.iload_n 1, 1) := by decide +kernel
theorem dX4_pageOn_1 : decode cX4_pageOn 1 = .ok (.ifCond .lt 11, 3) := by decide +kernel
theorem dX4_pageOn_4 : decode cX4_pageOn 4 = .ok (.iload_n 1, 1) := by decide +kernel
theorem dX4_pageOn_5 : decode cX4_pageOn 5 = .ok (.aload_n 0, 1) := by decide +kernel
theorem dX4_pageOn_6 : decode cX4_pageOn 6 = .ok (.getfield 21, 3) := by decide +kernel
theorem dX4_pageOn_9 : decode cX4_pageOn 9 = .ok (.if_icmp .lt 7, 3) := by decide +kernel
theorem dX4_pageOn_12 : decode cX4_pageOn 12 = .ok (.iconst 0, 1) := by decide +kernel
theorem dX4_pageOn_13 : decode cX4_pageOn 13 = .ok (.goto 12, 3) := by decide +kernel
theorem dX4_pageOn_16 : decode cX4_pageOn 16 = .ok (.aload_n 0, 1) := by decide +kernel
theorem dX4_pageOn_17 : decode cX4_pageOn 17 = .ok (.iload_n 1, 1) := by decide +kernel
theorem dX4_pageOn_18 : decode cX4_pageOn 18 = .ok (.iload_n 2, 1) := by decide +kernel
theorem dX4_pageOn_19 : decode cX4_pageOn 19 = .ok (.invokevirtual 26, 3) := by decide +kernel
theorem dX4_pageOn_22 : decode cX4_pageOn 22 = .ok (.bipush 127, 2) := by decide +kernel
theorem dX4_pageOn_24 : decode cX4_pageOn 24 = .ok (.iand, 1) := by decide +kernel
theorem dX4_pageOn_25 : decode cX4_pageOn 25 = .ok (.ireturn, 1) := by decide +kernel
theorem dX4_isDown_0 : decode cX4_isDown 0 = .ok (.aload_n 0, 1) := by decide +kernel
theorem dX4_isDown_1 : decode cX4_isDown 1 = .ok (.iload_n 1, 1) := by decide +kernel
theorem dX4_isDown_2 : decode cX4_isDown 2 = .ok (.iload_n 2, 1) := by decide +kernel
theorem dX4_isDown_3 : decode cX4_isDown 3 = .ok (.invokevirtual 26, 3) := by decide +kernel
theorem dX4_isDown_6 : decode cX4_isDown 6 = .ok (.sipush 128, 3) := by decide +kernel
theorem dX4_isDown_9 : decode cX4_isDown 9 = .ok (.iand, 1) := by decide +kernel
theorem dX4_isDown_10 : decode cX4_isDown 10 = .ok (.ifCond .eq 7, 3) := by decide +kernel
theorem dX4_isDown_13 : decode cX4_isDown 13 = .ok (.iconst 1, 1) := by decide +kernel
theorem dX4_isDown_14 : decode cX4_isDown 14 = .ok (.goto 4, 3) := by decide +kernel
theorem dX4_isDown_17 : decode cX4_isDown 17 = .ok (.iconst 0, 1) := by decide +kernel
theorem dX4_isDown_18 : decode cX4_isDown 18 = .ok (.ireturn, 1) := by decide +kernel
theorem dX4_isRight_0 : decode cX4_isRight 0 = .ok (.aload_n 0, 1) := by decide +kernel
theorem dX4_isRight_1 : decode cX4_isRight 1 = .ok (.iload_n 1, 1) := by decide +kernel
theorem dX4_isRight_2 : decode cX4_isRight 2 = .ok (.iconst 0, 1) := by decide +kernel
theorem dX4_isRight_3 : decode cX4_isRight 3 = .ok (.invokevirtual 26, 3) := by decide +kernel
theorem dX4_isRight_6 : decode cX4_isRight 6 = .ok (.iconst 2, 1) := by decide +kernel
theorem dX4_isRight_7 : decode cX4_isRight 7 = .ok (.iload_n 1, 1) := by decide +kernel
theorem dX4_isRight_8 : decode cX4_isRight 8 = .ok (.imul, 1) := by decide +kernel
theorem dX4_isRight_9 : decode cX4_isRight 9 = .ok (.iconst 1, 1) := by decide +kernel
theorem dX4_isRight_10 : decode cX4_isRight 10 = .ok (.iadd, 1) := by decide +kernel
theorem dX4_isRight_11 : decode cX4_isRight 11 = .ok (.if_icmp .ne 21, 3) := by decide +kernel
theorem dX4_isRight_14 : decode cX4_isRight 14 = .ok (.aload_n 0, 1) := by decide +kernel
theorem dX4_isRight_15 : decode cX4_isRight 15 = .ok (.iload_n 1, 1) := by decide +kernel
theorem dX4_isRight_16 : decode cX4_isRight 16 = .ok (.iconst 1, 1) := by decide +kernel
theorem dX4_isRight_17 : decode cX4_isRight 17 = .ok (.invokevirtual 26, 3) := by decide +kernel
theorem dX4_isRight_20 : decode cX4_isRight 20 = .ok (.iconst 2, 1) := by decide +kernel
theorem dX4_isRight_21 : decode cX4_isRight 21 = .ok (.iload_n 1, 1) := by decide +kernel
theorem dX4_isRight_22 : decode cX4_isRight 22 = .ok (.imul, 1) := by decide +kernel
theorem dX4_isRight_23 : decode cX4_isRight 23 = .ok (.iconst 2, 1) := by decide +kernel
theorem dX4_isRight_24 : decode cX4_isRight 24 = .ok (.iadd, 1) := by decide +kernel
theorem dX4_isRight_25 : decode cX4_isRight 25 = .ok (.if_icmp .ne 7, 3) := by decide +kernel
theorem dX4_isRight_28 : decode cX4_isRight 28 = .ok (.iconst 1, 1) := by decide +kernel
theorem dX4_isRight_29 : decode cX4_isRight 29 = .ok (.goto 4, 3) := by decide +kernel
theorem dX4_isRight_32 : decode cX4_isRight 32 = .ok (.iconst 0, 1) := by decide +kernel
theorem dX4_isRight_33 : decode cX4_isRight 33 = .ok (.ireturn, 1) := by decide +kernel
theorem dX4_rights_0 : decode cX4_rights 0 = .ok (.iconst 0, 1) := by decide +kernel
theorem dX4_rights_1 : decode cX4_rights 1 = .ok (.istore_n 1, 1) := by decide +kernel
theorem dX4_rights_2 : decode cX4_rights 2 = .ok (.iconst 0, 1) := by decide +kernel
theorem dX4_rights_3 : decode cX4_rights 3 = .ok (.istore_n 2, 1) := by decide +kernel
theorem dX4_rights_4 : decode cX4_rights 4 = .ok (.iload_n 2, 1) := by decide +kernel
theorem dX4_rights_5 : decode cX4_rights 5 = .ok (.aload_n 0, 1) := by decide +kernel
theorem dX4_rights_6 : decode cX4_rights 6 = .ok (.getfield 21, 3) := by decide +kernel
theorem dX4_rights_9 : decode cX4_rights 9 = .ok (.if_icmp .ge 20, 3) := by decide +kernel
theorem dX4_rights_12 : decode cX4_rights 12 = .ok (.aload_n 0, 1) := by decide +kernel
theorem dX4_rights_13 : decode cX4_rights 13 = .ok (.iload_n 2, 1) := by decide +kernel
theorem dX4_rights_14 : decode cX4_rights 14 = .ok (.invokevirtual 30, 3) := by decide +kernel
theorem dX4_rights_17 : decode cX4_rights 17 = .ok (.ifCond .eq 6, 3) := by decide +kernel
theorem dX4_rights_20 : decode cX4_rights 20 = .ok (.iinc 1 1, 3) := by decide +kernel
theorem dX4_rights_23 : decode cX4_rights 23 = .ok (.iinc 2 1, 3) := by decide +kernel
theorem dX4_rights_26 : decode cX4_rights 26 = .ok (.goto (-22), 3) := by decide +kernel
theorem dX4_rights_29 : decode cX4_rights 29 = .ok (.iload_n 1, 1) := by decide +kernel
theorem dX4_rights_30 : decode cX4_rights 30 = .ok (.ireturn, 1) := by decide +kernel
theorem dX4_sidesWith_0 : decode cX4_sidesWith 0 = .ok (.iconst 0, 1) := by decide +kernel
theorem dX4_sidesWith_1 : decode cX4_sidesWith 1 = .ok (.istore_n 2, 1) := by decide +kernel
theorem dX4_sidesWith_2 : decode cX4_sidesWith 2 = .ok (.iconst 0, 1) := by decide +kernel
theorem dX4_sidesWith_3 : decode cX4_sidesWith 3 = .ok (.istore_n 3, 1) := by decide +kernel
theorem dX4_sidesWith_4 : decode cX4_sidesWith 4 = .ok (.iload_n 3, 1) := by decide +kernel
theorem dX4_sidesWith_5 : decode cX4_sidesWith 5 = .ok (.aload_n 0, 1) := by decide +kernel
theorem dX4_sidesWith_6 : decode cX4_sidesWith 6 = .ok (.getfield 21, 3) := by decide +kernel
theorem dX4_sidesWith_9 : decode cX4_sidesWith 9 = .ok (.if_icmp .ge 45, 3) := by decide +kernel
theorem dX4_sidesWith_12 : decode cX4_sidesWith 12 = .ok (.iload_n 2, 1) := by decide +kernel
theorem dX4_sidesWith_13 : decode cX4_sidesWith 13 = .ok (.aload_n 0, 1) := by decide +kernel
theorem dX4_sidesWith_14 : decode cX4_sidesWith 14 = .ok (.iload_n 3, 1) := by decide +kernel
theorem dX4_sidesWith_15 : decode cX4_sidesWith 15 = .ok (.iconst 0, 1) := by decide +kernel
theorem dX4_sidesWith_16 : decode cX4_sidesWith 16 = .ok (.invokevirtual 34, 3) := by decide +kernel
theorem dX4_sidesWith_19 : decode cX4_sidesWith 19 = .ok (.iload_n 1, 1) := by decide +kernel
theorem dX4_sidesWith_20 : decode cX4_sidesWith 20 = .ok (.if_icmp .ne 7, 3) := by decide +kernel
theorem dX4_sidesWith_23 : decode cX4_sidesWith 23 = .ok (.iconst 1, 1) := by decide +kernel
theorem dX4_sidesWith_24 : decode cX4_sidesWith 24 = .ok (.goto 4, 3) := by decide +kernel
theorem dX4_sidesWith_27 : decode cX4_sidesWith 27 = .ok (.iconst 0, 1) := by decide +kernel
theorem dX4_sidesWith_28 : decode cX4_sidesWith 28 = .ok (.iadd, 1) := by decide +kernel
theorem dX4_sidesWith_29 : decode cX4_sidesWith 29 = .ok (.istore_n 2, 1) := by decide +kernel
theorem dX4_sidesWith_30 : decode cX4_sidesWith 30 = .ok (.iload_n 2, 1) := by decide +kernel
theorem dX4_sidesWith_31 : decode cX4_sidesWith 31 = .ok (.aload_n 0, 1) := by decide +kernel
theorem dX4_sidesWith_32 : decode cX4_sidesWith 32 = .ok (.iload_n 3, 1) := by decide +kernel
theorem dX4_sidesWith_33 : decode cX4_sidesWith 33 = .ok (.iconst 1, 1) := by decide +kernel
theorem dX4_sidesWith_34 : decode cX4_sidesWith 34 = .ok (.invokevirtual 34, 3) := by decide +kernel
theorem dX4_sidesWith_37 : decode cX4_sidesWith 37 = .ok (.iload_n 1, 1) := by decide +kernel
theorem dX4_sidesWith_38 : decode cX4_sidesWith 38 = .ok (.if_icmp .ne 7, 3) := by decide +kernel
theorem dX4_sidesWith_41 : decode cX4_sidesWith 41 = .ok (.iconst 1, 1) := by decide +kernel
theorem dX4_sidesWith_42 : decode cX4_sidesWith 42 = .ok (.goto 4, 3) := by decide +kernel
theorem dX4_sidesWith_45 : decode cX4_sidesWith 45 = .ok (.iconst 0, 1) := by decide +kernel
theorem dX4_sidesWith_46 : decode cX4_sidesWith 46 = .ok (.iadd, 1) := by decide +kernel
theorem dX4_sidesWith_47 : decode cX4_sidesWith 47 = .ok (.istore_n 2, 1) := by decide +kernel
theorem dX4_sidesWith_48 : decode cX4_sidesWith 48 = .ok (.iinc 3 1, 3) := by decide +kernel
theorem dX4_sidesWith_51 : decode cX4_sidesWith 51 = .ok (.goto (-47), 3) := by decide +kernel
theorem dX4_sidesWith_54 : decode cX4_sidesWith 54 = .ok (.iload_n 2, 1) := by decide +kernel
theorem dX4_sidesWith_55 : decode cX4_sidesWith 55 = .ok (.ireturn, 1) := by decide +kernel
theorem dX4_missing_0 : decode cX4_missing 0 = .ok (.iconst 0, 1) := by decide +kernel
theorem dX4_missing_1 : decode cX4_missing 1 = .ok (.istore_n 1, 1) := by decide +kernel
theorem dX4_missing_2 : decode cX4_missing 2 = .ok (.iconst 1, 1) := by decide +kernel
theorem dX4_missing_3 : decode cX4_missing 3 = .ok (.istore_n 2, 1) := by decide +kernel
theorem dX4_missing_4 : decode cX4_missing 4 = .ok (.iload_n 2, 1) := by decide +kernel
theorem dX4_missing_5 : decode cX4_missing 5 = .ok (.bipush 24, 2) := by decide +kernel
theorem dX4_missing_7 : decode cX4_missing 7 = .ok (.if_icmp .gt 25, 3) := by decide +kernel
theorem dX4_missing_10 : decode cX4_missing 10 = .ok (.aload_n 0, 1) := by decide +kernel
theorem dX4_missing_11 : decode cX4_missing 11 = .ok (.iload_n 2, 1) := by decide +kernel
theorem dX4_missing_12 : decode cX4_missing 12 = .ok (.invokevirtual 37, 3) := by decide +kernel
theorem dX4_missing_15 : decode cX4_missing 15 = .ok (.ifCond .ne 11, 3) := by decide +kernel
theorem dX4_missing_18 : decode cX4_missing 18 = .ok (.iload_n 1, 1) := by decide +kernel
theorem dX4_missing_19 : decode cX4_missing 19 = .ok (.iconst 1, 1) := by decide +kernel
theorem dX4_missing_20 : decode cX4_missing 20 = .ok (.iload_n 2, 1) := by decide +kernel
theorem dX4_missing_21 : decode cX4_missing 21 = .ok (.iconst 1, 1) := by decide +kernel
theorem dX4_missing_22 : decode cX4_missing 22 = .ok (.isub, 1) := by decide +kernel
theorem dX4_missing_23 : decode cX4_missing 23 = .ok (.ishl, 1) := by decide +kernel
theorem dX4_missing_24 : decode cX4_missing 24 = .ok (.ior, 1) := by decide +kernel
theorem dX4_missing_25 : decode cX4_missing 25 = .ok (.istore_n 1, 1) := by decide +kernel
theorem dX4_missing_26 : decode cX4_missing 26 = .ok (.iinc 2 1, 3) := by decide +kernel
theorem dX4_missing_29 : decode cX4_missing 29 = .ok (.goto (-25), 3) := by decide +kernel
theorem dX4_missing_32 : decode cX4_missing 32 = .ok (.iload_n 1, 1) := by decide +kernel
theorem dX4_missing_33 : decode cX4_missing 33 = .ok (.ireturn, 1) := by decide +kernel
theorem dX4_whereIs_0 : decode cX4_whereIs 0 = .ok (.iconst 0, 1) := by decide +kernel
theorem dX4_whereIs_1 : decode cX4_whereIs 1 = .ok (.istore_n 2, 1) := by decide +kernel
theorem dX4_whereIs_2 : decode cX4_whereIs 2 = .ok (.iload_n 2, 1) := by decide +kernel
theorem dX4_whereIs_3 : decode cX4_whereIs 3 = .ok (.aload_n 0, 1) := by decide +kernel
theorem dX4_whereIs_4 : decode cX4_whereIs 4 = .ok (.getfield 21, 3) := by decide +kernel
theorem dX4_whereIs_7 : decode cX4_whereIs 7 = .ok (.if_icmp .ge 39, 3) := by decide +kernel
theorem dX4_whereIs_10 : decode cX4_whereIs 10 = .ok (.iconst 0, 1) := by decide +kernel
theorem dX4_whereIs_11 : decode cX4_whereIs 11 = .ok (.istore_n 3, 1) := by decide +kernel
theorem dX4_whereIs_12 : decode cX4_whereIs 12 = .ok (.iload_n 3, 1) := by decide +kernel
theorem dX4_whereIs_13 : decode cX4_whereIs 13 = .ok (.iconst 2, 1) := by decide +kernel
theorem dX4_whereIs_14 : decode cX4_whereIs 14 = .ok (.if_icmp .ge 26, 3) := by decide +kernel
theorem dX4_whereIs_17 : decode cX4_whereIs 17 = .ok (.aload_n 0, 1) := by decide +kernel
theorem dX4_whereIs_18 : decode cX4_whereIs 18 = .ok (.iload_n 2, 1) := by decide +kernel
theorem dX4_whereIs_19 : decode cX4_whereIs 19 = .ok (.iload_n 3, 1) := by decide +kernel
theorem dX4_whereIs_20 : decode cX4_whereIs 20 = .ok (.invokevirtual 34, 3) := by decide +kernel
theorem dX4_whereIs_23 : decode cX4_whereIs 23 = .ok (.iload_n 1, 1) := by decide +kernel
theorem dX4_whereIs_24 : decode cX4_whereIs 24 = .ok (.if_icmp .ne 10, 3) := by decide +kernel
theorem dX4_whereIs_27 : decode cX4_whereIs 27 = .ok (.bipush 10, 2) := by decide +kernel
theorem dX4_whereIs_29 : decode cX4_whereIs 29 = .ok (.iload_n 2, 1) := by decide +kernel
theorem dX4_whereIs_30 : decode cX4_whereIs 30 = .ok (.imul, 1) := by decide +kernel
theorem dX4_whereIs_31 : decode cX4_whereIs 31 = .ok (.iload_n 3, 1) := by decide +kernel
theorem dX4_whereIs_32 : decode cX4_whereIs 32 = .ok (.iadd, 1) := by decide +kernel
theorem dX4_whereIs_33 : decode cX4_whereIs 33 = .ok (.ireturn, 1) := by decide +kernel
theorem dX4_whereIs_34 : decode cX4_whereIs 34 = .ok (.iinc 3 1, 3) := by decide +kernel
theorem dX4_whereIs_37 : decode cX4_whereIs 37 = .ok (.goto (-25), 3) := by decide +kernel
theorem dX4_whereIs_40 : decode cX4_whereIs 40 = .ok (.iinc 2 1, 3) := by decide +kernel
theorem dX4_whereIs_43 : decode cX4_whereIs 43 = .ok (.goto (-41), 3) := by decide +kernel
theorem dX4_whereIs_46 : decode cX4_whereIs 46 = .ok (.bipush (-5), 2) := by decide +kernel
theorem dX4_whereIs_48 : decode cX4_whereIs 48 = .ok (.ireturn, 1) := by decide +kernel
theorem dX4_putBlank_0 : decode cX4_putBlank 0 = .ok (.iload_n 1, 1) := by decide +kernel
theorem dX4_putBlank_1 : decode cX4_putBlank 1 = .ok (.bipush 12, 2) := by decide +kernel
theorem dX4_putBlank_3 : decode cX4_putBlank 3 = .ok (.aload_n 0, 1) := by decide +kernel
theorem dX4_putBlank_4 : decode cX4_putBlank 4 = .ok (.getfield 21, 3) := by decide +kernel
theorem dX4_putBlank_7 : decode cX4_putBlank 7 = .ok (.isub, 1) := by decide +kernel
theorem dX4_putBlank_8 : decode cX4_putBlank 8 = .ok (.invokestatic 41, 3) := by decide +kernel
theorem dX4_putBlank_11 : decode cX4_putBlank 11 = .ok (.istore_n 2, 1) := by decide +kernel
theorem dX4_putBlank_12 : decode cX4_putBlank 12 = .ok (.aload_n 0, 1) := by decide +kernel
theorem dX4_putBlank_13 : decode cX4_putBlank 13 = .ok (.getfield 21, 3) := by decide +kernel
theorem dX4_putBlank_16 : decode cX4_putBlank 16 = .ok (.iconst 1, 1) := by decide +kernel
theorem dX4_putBlank_17 : decode cX4_putBlank 17 = .ok (.isub, 1) := by decide +kernel
theorem dX4_putBlank_18 : decode cX4_putBlank 18 = .ok (.istore_n 3, 1) := by decide +kernel
theorem dX4_putBlank_19 : decode cX4_putBlank 19 = .ok (.iload_n 3, 1) := by decide +kernel
theorem dX4_putBlank_20 : decode cX4_putBlank 20 = .ok (.ifCond .lt 23, 3) := by decide +kernel
theorem dX4_putBlank_23 : decode cX4_putBlank 23 = .ok (.aload_n 0, 1) := by decide +kernel
theorem dX4_putBlank_24 : decode cX4_putBlank 24 = .ok (.getfield 9, 3) := by decide +kernel
theorem dX4_putBlank_27 : decode cX4_putBlank 27 = .ok (.iload_n 3, 1) := by decide +kernel
theorem dX4_putBlank_28 : decode cX4_putBlank 28 = .ok (.iload_n 2, 1) := by decide +kernel
theorem dX4_putBlank_29 : decode cX4_putBlank 29 = .ok (.iadd, 1) := by decide +kernel
theorem dX4_putBlank_30 : decode cX4_putBlank 30 = .ok (.aload_n 0, 1) := by decide +kernel
theorem dX4_putBlank_31 : decode cX4_putBlank 31 = .ok (.getfield 9, 3) := by decide +kernel
theorem dX4_putBlank_34 : decode cX4_putBlank 34 = .ok (.iload_n 3, 1) := by decide +kernel
theorem dX4_putBlank_35 : decode cX4_putBlank 35 = .ok (.iaload, 1) := by decide +kernel
theorem dX4_putBlank_36 : decode cX4_putBlank 36 = .ok (.iastore, 1) := by decide +kernel
theorem dX4_putBlank_37 : decode cX4_putBlank 37 = .ok (.iinc 3 (-1), 3) := by decide +kernel
theorem dX4_putBlank_40 : decode cX4_putBlank 40 = .ok (.goto (-21), 3) := by decide +kernel
theorem dX4_putBlank_43 : decode cX4_putBlank 43 = .ok (.iconst 0, 1) := by decide +kernel
theorem dX4_putBlank_44 : decode cX4_putBlank 44 = .ok (.istore_n 3, 1) := by decide +kernel
theorem dX4_putBlank_45 : decode cX4_putBlank 45 = .ok (.iload_n 3, 1) := by decide +kernel
theorem dX4_putBlank_46 : decode cX4_putBlank 46 = .ok (.iload_n 2, 1) := by decide +kernel
theorem dX4_putBlank_47 : decode cX4_putBlank 47 = .ok (.if_icmp .ge 16, 3) := by decide +kernel
theorem dX4_putBlank_50 : decode cX4_putBlank 50 = .ok (.aload_n 0, 1) := by decide +kernel
theorem dX4_putBlank_51 : decode cX4_putBlank 51 = .ok (.getfield 9, 3) := by decide +kernel
theorem dX4_putBlank_54 : decode cX4_putBlank 54 = .ok (.iload_n 3, 1) := by decide +kernel
theorem dX4_putBlank_55 : decode cX4_putBlank 55 = .ok (.iconst 0, 1) := by decide +kernel
theorem dX4_putBlank_56 : decode cX4_putBlank 56 = .ok (.iastore, 1) := by decide +kernel
theorem dX4_putBlank_57 : decode cX4_putBlank 57 = .ok (.iinc 3 1, 3) := by decide +kernel
theorem dX4_putBlank_60 : decode cX4_putBlank 60 = .ok (.goto (-15), 3) := by decide +kernel
theorem dX4_putBlank_63 : decode cX4_putBlank 63 = .ok (.aload_n 0, 1) := by decide +kernel
theorem dX4_putBlank_64 : decode cX4_putBlank 64 = .ok (.dup, 1) := by decide +kernel
theorem dX4_putBlank_65 : decode cX4_putBlank 65 = .ok (.getfield 21, 3) := by decide +kernel
theorem dX4_putBlank_68 : decode cX4_putBlank 68 = .ok (.iload_n 2, 1) := by decide +kernel
theorem dX4_putBlank_69 : decode cX4_putBlank 69 = .ok (.iadd, 1) := by decide +kernel
theorem dX4_putBlank_70 : decode cX4_putBlank 70 = .ok (.putfield 21, 3) := by decide +kernel
theorem dX4_putBlank_73 : decode cX4_putBlank 73 = .ok (.return_, 1) := by decide +kernel
theorem dX4_doWay_0 : decode cX4_doWay 0 = .ok (.iload_n 1, 1) := by decide +kernel
theorem dX4_doWay_1 : decode cX4_doWay 1 = .ok (.iconst 1, 1) := by decide +kernel
theorem dX4_doWay_2 : decode cX4_doWay 2 = .ok (.iand, 1) := by decide +kernel
theorem dX4_doWay_3 : decode cX4_doWay 3 = .ok (.ifCond .eq 7, 3) := by decide +kernel
theorem dX4_doWay_6 : decode cX4_doWay 6 = .ok (.aload_n 0, 1) := by decide +kernel
theorem dX4_doWay_7 : decode cX4_doWay 7 = .ok (.invokevirtual 46, 3) := by decide +kernel
theorem dX4_doWay_10 : decode cX4_doWay 10 = .ok (.iload_n 1, 1) := by decide +kernel
theorem dX4_doWay_11 : decode cX4_doWay 11 = .ok (.iconst 2, 1) := by decide +kernel
theorem dX4_doWay_12 : decode cX4_doWay 12 = .ok (.iand, 1) := by decide +kernel
theorem dX4_doWay_13 : decode cX4_doWay 13 = .ok (.ifCond .eq 34, 3) := by decide +kernel
theorem dX4_doWay_16 : decode cX4_doWay 16 = .ok (.iconst 0, 1) := by decide +kernel
theorem dX4_doWay_17 : decode cX4_doWay 17 = .ok (.istore_n 2, 1) := by decide +kernel
theorem dX4_doWay_18 : decode cX4_doWay 18 = .ok (.iload_n 2, 1) := by decide +kernel
theorem dX4_doWay_19 : decode cX4_doWay 19 = .ok (.aload_n 0, 1) := by decide +kernel
theorem dX4_doWay_20 : decode cX4_doWay 20 = .ok (.getfield 21, 3) := by decide +kernel
theorem dX4_doWay_23 : decode cX4_doWay 23 = .ok (.if_icmp .ge 24, 3) := by decide +kernel
theorem dX4_doWay_26 : decode cX4_doWay 26 = .ok (.aload_n 0, 1) := by decide +kernel
theorem dX4_doWay_27 : decode cX4_doWay 27 = .ok (.getfield 9, 3) := by decide +kernel
theorem dX4_doWay_30 : decode cX4_doWay 30 = .ok (.iload_n 2, 1) := by decide +kernel
theorem dX4_doWay_31 : decode cX4_doWay 31 = .ok (.aload_n 0, 1) := by decide +kernel
theorem dX4_doWay_32 : decode cX4_doWay 32 = .ok (.getfield 9, 3) := by decide +kernel
theorem dX4_doWay_35 : decode cX4_doWay 35 = .ok (.iload_n 2, 1) := by decide +kernel
theorem dX4_doWay_36 : decode cX4_doWay 36 = .ok (.iaload, 1) := by decide +kernel
theorem dX4_doWay_37 : decode cX4_doWay 37 = .ok (.invokestatic 49, 3) := by decide +kernel
theorem dX4_doWay_40 : decode cX4_doWay 40 = .ok (.iastore, 1) := by decide +kernel
theorem dX4_doWay_41 : decode cX4_doWay 41 = .ok (.iinc 2 1, 3) := by decide +kernel
theorem dX4_doWay_44 : decode cX4_doWay 44 = .ok (.goto (-26), 3) := by decide +kernel
theorem dX4_doWay_47 : decode cX4_doWay 47 = .ok (.return_, 1) := by decide +kernel
theorem dX4_turnWhole_0 : decode cX4_turnWhole 0 = .ok (.iconst 0, 1) := by decide +kernel
theorem dX4_turnWhole_1 : decode cX4_turnWhole 1 = .ok (.istore_n 1, 1) := by decide +kernel
theorem dX4_turnWhole_2 : decode cX4_turnWhole 2 = .ok (.aload_n 0, 1) := by decide +kernel
theorem dX4_turnWhole_3 : decode cX4_turnWhole 3 = .ok (.getfield 21, 3) := by decide +kernel
theorem dX4_turnWhole_6 : decode cX4_turnWhole 6 = .ok (.iconst 1, 1) := by decide +kernel
theorem dX4_turnWhole_7 : decode cX4_turnWhole 7 = .ok (.isub, 1) := by decide +kernel
theorem dX4_turnWhole_8 : decode cX4_turnWhole 8 = .ok (.istore_n 2, 1) := by decide +kernel
theorem dX4_turnWhole_9 : decode cX4_turnWhole 9 = .ok (.iload_n 1, 1) := by decide +kernel
theorem dX4_turnWhole_10 : decode cX4_turnWhole 10 = .ok (.iload_n 2, 1) := by decide +kernel
theorem dX4_turnWhole_11 : decode cX4_turnWhole 11 = .ok (.if_icmp .gt 44, 3) := by decide +kernel
theorem dX4_turnWhole_14 : decode cX4_turnWhole 14 = .ok (.aload_n 0, 1) := by decide +kernel
theorem dX4_turnWhole_15 : decode cX4_turnWhole 15 = .ok (.getfield 9, 3) := by decide +kernel
theorem dX4_turnWhole_18 : decode cX4_turnWhole 18 = .ok (.iload_n 1, 1) := by decide +kernel
theorem dX4_turnWhole_19 : decode cX4_turnWhole 19 = .ok (.iaload, 1) := by decide +kernel
theorem dX4_turnWhole_20 : decode cX4_turnWhole 20 = .ok (.invokestatic 52, 3) := by decide +kernel
theorem dX4_turnWhole_23 : decode cX4_turnWhole 23 = .ok (.istore_n 3, 1) := by decide +kernel
theorem dX4_turnWhole_24 : decode cX4_turnWhole 24 = .ok (.aload_n 0, 1) := by decide +kernel
theorem dX4_turnWhole_25 : decode cX4_turnWhole 25 = .ok (.getfield 9, 3) := by decide +kernel
theorem dX4_turnWhole_28 : decode cX4_turnWhole 28 = .ok (.iload_n 1, 1) := by decide +kernel
theorem dX4_turnWhole_29 : decode cX4_turnWhole 29 = .ok (.aload_n 0, 1) := by decide +kernel
theorem dX4_turnWhole_30 : decode cX4_turnWhole 30 = .ok (.getfield 9, 3) := by decide +kernel
theorem dX4_turnWhole_33 : decode cX4_turnWhole 33 = .ok (.iload_n 2, 1) := by decide +kernel
theorem dX4_turnWhole_34 : decode cX4_turnWhole 34 = .ok (.iaload, 1) := by decide +kernel
theorem dX4_turnWhole_35 : decode cX4_turnWhole 35 = .ok (.invokestatic 52, 3) := by decide +kernel
theorem dX4_turnWhole_38 : decode cX4_turnWhole 38 = .ok (.iastore, 1) := by decide +kernel
theorem dX4_turnWhole_39 : decode cX4_turnWhole 39 = .ok (.aload_n 0, 1) := by decide +kernel
theorem dX4_turnWhole_40 : decode cX4_turnWhole 40 = .ok (.getfield 9, 3) := by decide +kernel
theorem dX4_turnWhole_43 : decode cX4_turnWhole 43 = .ok (.iload_n 2, 1) := by decide +kernel
theorem dX4_turnWhole_44 : decode cX4_turnWhole 44 = .ok (.iload_n 3, 1) := by decide +kernel
theorem dX4_turnWhole_45 : decode cX4_turnWhole 45 = .ok (.iastore, 1) := by decide +kernel
theorem dX4_turnWhole_46 : decode cX4_turnWhole 46 = .ok (.iinc 1 1, 3) := by decide +kernel
theorem dX4_turnWhole_49 : decode cX4_turnWhole 49 = .ok (.iinc 2 (-1), 3) := by decide +kernel
theorem dX4_turnWhole_52 : decode cX4_turnWhole 52 = .ok (.goto (-43), 3) := by decide +kernel
theorem dX4_turnWhole_55 : decode cX4_turnWhole 55 = .ok (.return_, 1) := by decide +kernel
theorem dX4_firstOtherwise_0 : decode cX4_firstOtherwise 0 = .ok (.iconst 0, 1) := by decide +kernel
theorem dX4_firstOtherwise_1 : decode cX4_firstOtherwise 1 = .ok (.istore_n 2, 1) := by decide +kernel
theorem dX4_firstOtherwise_2 : decode cX4_firstOtherwise 2 = .ok (.iload_n 2, 1) := by decide +kernel
theorem dX4_firstOtherwise_3 : decode cX4_firstOtherwise 3 = .ok (.aload_n 1, 1) := by decide +kernel
theorem dX4_firstOtherwise_4 : decode cX4_firstOtherwise 4 = .ok (.getfield 55, 3) := by decide +kernel
theorem dX4_firstOtherwise_7 : decode cX4_firstOtherwise 7 = .ok (.if_icmp .ge 36, 3) := by decide +kernel
theorem dX4_firstOtherwise_10 : decode cX4_firstOtherwise 10 = .ok (.aload_n 0, 1) := by decide +kernel
theorem dX4_firstOtherwise_11 : decode cX4_firstOtherwise 11 = .ok (.aload_n 1, 1) := by decide +kernel
theorem dX4_firstOtherwise_12 : decode cX4_firstOtherwise 12 = .ok (.getfield 58, 3) := by decide +kernel
theorem dX4_firstOtherwise_15 : decode cX4_firstOtherwise 15 = .ok (.iload_n 2, 1) := by decide +kernel
theorem dX4_firstOtherwise_16 : decode cX4_firstOtherwise 16 = .ok (.iaload, 1) := by decide +kernel
theorem dX4_firstOtherwise_17 : decode cX4_firstOtherwise 17 = .ok (.aload_n 1, 1) := by decide +kernel
theorem dX4_firstOtherwise_18 : decode cX4_firstOtherwise 18 = .ok (.getfield 61, 3) := by decide +kernel
theorem dX4_firstOtherwise_21 : decode cX4_firstOtherwise 21 = .ok (.iload_n 2, 1) := by decide +kernel
theorem dX4_firstOtherwise_22 : decode cX4_firstOtherwise 22 = .ok (.iaload, 1) := by decide +kernel
theorem dX4_firstOtherwise_23 : decode cX4_firstOtherwise 23 = .ok (.invokevirtual 34, 3) := by decide +kernel
theorem dX4_firstOtherwise_26 : decode cX4_firstOtherwise 26 = .ok (.aload_n 1, 1) := by decide +kernel
theorem dX4_firstOtherwise_27 : decode cX4_firstOtherwise 27 = .ok (.getfield 64, 3) := by decide +kernel
theorem dX4_firstOtherwise_30 : decode cX4_firstOtherwise 30 = .ok (.iload_n 2, 1) := by decide +kernel
theorem dX4_firstOtherwise_31 : decode cX4_firstOtherwise 31 = .ok (.iaload, 1) := by decide +kernel
theorem dX4_firstOtherwise_32 : decode cX4_firstOtherwise 32 = .ok (.if_icmp .eq 5, 3) := by decide +kernel
theorem dX4_firstOtherwise_35 : decode cX4_firstOtherwise 35 = .ok (.iload_n 2, 1) := by decide +kernel
theorem dX4_firstOtherwise_36 : decode cX4_firstOtherwise 36 = .ok (.ireturn, 1) := by decide +kernel
theorem dX4_firstOtherwise_37 : decode cX4_firstOtherwise 37 = .ok (.iinc 2 1, 3) := by decide +kernel
theorem dX4_firstOtherwise_40 : decode cX4_firstOtherwise 40 = .ok (.goto (-38), 3) := by decide +kernel
theorem dX4_firstOtherwise_43 : decode cX4_firstOtherwise 43 = .ok (.bipush (-5), 2) := by decide +kernel
theorem dX4_firstOtherwise_45 : decode cX4_firstOtherwise 45 = .ok (.ireturn, 1) := by decide +kernel
theorem dX5_init_0 : decode cX5_init 0 = .ok (.aload_n 0, 1) := by decide +kernel
theorem dX5_init_1 : decode cX5_init 1 = .ok (.invokespecial 3, 3) := by decide +kernel
theorem dX5_init_4 : decode cX5_init 4 = .ok (.aload_n 0, 1) := by decide +kernel
theorem dX5_init_5 : decode cX5_init 5 = .ok (.bipush 100, 2) := by decide +kernel
theorem dX5_init_7 : decode cX5_init 7 = .ok (.newarray .int, 2) := by decide +kernel
theorem dX5_init_9 : decode cX5_init 9 = .ok (.putfield 9, 3) := by decide +kernel
theorem dX5_init_12 : decode cX5_init 12 = .ok (.aload_n 0, 1) := by decide +kernel
theorem dX5_init_13 : decode cX5_init 13 = .ok (.new 15, 3) := by decide +kernel
theorem dX5_init_16 : decode cX5_init 16 = .ok (.dup, 1) := by decide +kernel
theorem dX5_init_17 : decode cX5_init 17 = .ok (.invokespecial 17, 3) := by decide +kernel
theorem dX5_init_20 : decode cX5_init 20 = .ok (.putfield 18, 3) := by decide +kernel
theorem dX5_init_23 : decode cX5_init 23 = .ok (.aload_n 0, 1) := by decide +kernel
theorem dX5_init_24 : decode cX5_init 24 = .ok (.new 15, 3) := by decide +kernel
theorem dX5_init_27 : decode cX5_init 27 = .ok (.dup, 1) := by decide +kernel
theorem dX5_init_28 : decode cX5_init 28 = .ok (.invokespecial 17, 3) := by decide +kernel
theorem dX5_init_31 : decode cX5_init 31 = .ok (.putfield 22, 3) := by decide +kernel
theorem dX5_init_34 : decode cX5_init 34 = .ok (.aload_n 0, 1) := by decide +kernel
theorem dX5_init_35 : decode cX5_init 35 = .ok (.aload_n 0, 1) := by decide +kernel
theorem dX5_init_36 : decode cX5_init 36 = .ok (.getfield 18, 3) := by decide +kernel
theorem dX5_init_39 : decode cX5_init 39 = .ok (.putfield 25, 3) := by decide +kernel
theorem dX5_init_42 : decode cX5_init 42 = .ok (.return_, 1) := by decide +kernel
theorem dX5_fault_0 : decode cX5_fault 0 = .ok (.aload_n 0, 1) := by decide +kernel
theorem dX5_fault_1 : decode cX5_fault 1 = .ok (.getfield 28, 3) := by decide +kernel
theorem dX5_fault_4 : decode cX5_fault 4 = .ok (.ireturn, 1) := by decide +kernel
theorem dX5_made_0 : decode cX5_made 0 = .ok (.new 32, 3) := by decide +kernel
theorem dX5_made_3 : decode cX5_made 3 = .ok (.dup, 1) := by decide +kernel
theorem dX5_made_4 : decode cX5_made 4 = .ok (.aload_n 0, 1) := by decide +kernel
theorem dX5_made_5 : decode cX5_made 5 = .ok (.getfield 34, 3) := by decide +kernel
theorem dX5_made_8 : decode cX5_made 8 = .ok (.aload_n 0, 1) := by decide +kernel
theorem dX5_made_9 : decode cX5_made 9 = .ok (.getfield 37, 3) := by decide +kernel
theorem dX5_made_12 : decode cX5_made 12 = .ok (.aload_n 0, 1) := by decide +kernel
theorem dX5_made_13 : decode cX5_made 13 = .ok (.getfield 18, 3) := by decide +kernel
theorem dX5_made_16 : decode cX5_made 16 = .ok (.getfield 40, 3) := by decide +kernel
theorem dX5_made_19 : decode cX5_made 19 = .ok (.aload_n 0, 1) := by decide +kernel
theorem dX5_made_20 : decode cX5_made 20 = .ok (.getfield 18, 3) := by decide +kernel
theorem dX5_made_23 : decode cX5_made 23 = .ok (.getfield 43, 3) := by decide +kernel
theorem dX5_made_26 : decode cX5_made 26 = .ok (.invokestatic 46, 3) := by decide +kernel
theorem dX5_made_29 : decode cX5_made 29 = .ok (.aload_n 0, 1) := by decide +kernel
theorem dX5_made_30 : decode cX5_made 30 = .ok (.getfield 22, 3) := by decide +kernel
theorem dX5_made_33 : decode cX5_made 33 = .ok (.getfield 40, 3) := by decide +kernel
theorem dX5_made_36 : decode cX5_made 36 = .ok (.aload_n 0, 1) := by decide +kernel
theorem dX5_made_37 : decode cX5_made 37 = .ok (.getfield 22, 3) := by decide +kernel
theorem dX5_made_40 : decode cX5_made 40 = .ok (.getfield 43, 3) := by decide +kernel
theorem dX5_made_43 : decode cX5_made 43 = .ok (.invokestatic 46, 3) := by decide +kernel
theorem dX5_made_46 : decode cX5_made 46 = .ok (.invokespecial 52, 3) := by decide +kernel
theorem dX5_made_49 : decode cX5_made 49 = .ok (.areturn, 1) := by decide +kernel
theorem dX5_clauses_0 : decode cX5_clauses 0 = .ok (.aload_n 0, 1) := by decide +kernel
theorem dX5_clauses_1 : decode cX5_clauses 1 = .ok (.iconst 0, 1) := by decide +kernel
theorem dX5_clauses_2 : decode cX5_clauses 2 = .ok (.putfield 28, 3) := by decide +kernel
theorem dX5_clauses_5 : decode cX5_clauses 5 = .ok (.aload_n 0, 1) := by decide +kernel
theorem dX5_clauses_6 : decode cX5_clauses 6 = .ok (.iconst 1, 1) := by decide +kernel
theorem dX5_clauses_7 : decode cX5_clauses 7 = .ok (.putfield 34, 3) := by decide +kernel
theorem dX5_clauses_10 : decode cX5_clauses 10 = .ok (.aload_n 0, 1) := by decide +kernel
theorem dX5_clauses_11 : decode cX5_clauses 11 = .ok (.bipush 24, 2) := by decide +kernel
theorem dX5_clauses_13 : decode cX5_clauses 13 = .ok (.putfield 37, 3) := by decide +kernel
theorem dX5_clauses_16 : decode cX5_clauses 16 = .ok (.aload_n 0, 1) := by decide +kernel
theorem dX5_clauses_17 : decode cX5_clauses 17 = .ok (.getfield 18, 3) := by decide +kernel
theorem dX5_clauses_20 : decode cX5_clauses 20 = .ok (.iconst 0, 1) := by decide +kernel
theorem dX5_clauses_21 : decode cX5_clauses 21 = .ok (.putfield 43, 3) := by decide +kernel
theorem dX5_clauses_24 : decode cX5_clauses 24 = .ok (.aload_n 0, 1) := by decide +kernel
theorem dX5_clauses_25 : decode cX5_clauses 25 = .ok (.getfield 22, 3) := by decide +kernel
theorem dX5_clauses_28 : decode cX5_clauses 28 = .ok (.iconst 0, 1) := by decide +kernel
theorem dX5_clauses_29 : decode cX5_clauses 29 = .ok (.putfield 43, 3) := by decide +kernel
theorem dX5_clauses_32 : decode cX5_clauses 32 = .ok (.bipush 9, 2) := by decide +kernel
theorem dX5_clauses_34 : decode cX5_clauses 34 = .ok (.istore_n 1, 1) := by decide +kernel
theorem dX5_clauses_35 : decode cX5_clauses 35 = .ok (.iload_n 1, 1) := by decide +kernel
theorem dX5_clauses_36 : decode cX5_clauses 36 = .ok (.ifCond .lt 56, 3) := by decide +kernel
theorem dX5_clauses_39 : decode cX5_clauses 39 = .ok (.aload_n 0, 1) := by decide +kernel
theorem dX5_clauses_40 : decode cX5_clauses 40 = .ok (.invokevirtual 55, 3) := by decide +kernel
theorem dX5_clauses_43 : decode cX5_clauses 43 = .ok (.ifCond .ne 5, 3) := by decide +kernel
theorem dX5_clauses_46 : decode cX5_clauses 46 = .ok (.iconst 0, 1) := by decide +kernel
theorem dX5_clauses_47 : decode cX5_clauses 47 = .ok (.ireturn, 1) := by decide +kernel
theorem dX5_clauses_48 : decode cX5_clauses 48 = .ok (.aload_n 0, 1) := by decide +kernel
theorem dX5_clauses_49 : decode cX5_clauses 49 = .ok (.getfield 28, 3) := by decide +kernel
theorem dX5_clauses_52 : decode cX5_clauses 52 = .ok (.aload_n 0, 1) := by decide +kernel
theorem dX5_clauses_53 : decode cX5_clauses 53 = .ok (.getfield 59, 3) := by decide +kernel
theorem dX5_clauses_56 : decode cX5_clauses 56 = .ok (.if_icmp .lt 5, 3) := by decide +kernel
theorem dX5_clauses_59 : decode cX5_clauses 59 = .ok (.iconst 1, 1) := by decide +kernel
theorem dX5_clauses_60 : decode cX5_clauses 60 = .ok (.ireturn, 1) := by decide +kernel
theorem dX5_clauses_61 : decode cX5_clauses 61 = .ok (.iload_n 1, 1) := by decide +kernel
theorem dX5_clauses_62 : decode cX5_clauses 62 = .ok (.ifCond .eq 12, 3) := by decide +kernel
theorem dX5_clauses_65 : decode cX5_clauses 65 = .ok (.aload_n 0, 1) := by decide +kernel
theorem dX5_clauses_66 : decode cX5_clauses 66 = .ok (.invokevirtual 60, 3) := by decide +kernel
theorem dX5_clauses_69 : decode cX5_clauses 69 = .ok (.bipush 59, 2) := by decide +kernel
theorem dX5_clauses_71 : decode cX5_clauses 71 = .ok (.if_icmp .eq 5, 3) := by decide +kernel
theorem dX5_clauses_74 : decode cX5_clauses 74 = .ok (.iconst 0, 1) := by decide +kernel
theorem dX5_clauses_75 : decode cX5_clauses 75 = .ok (.ireturn, 1) := by decide +kernel
theorem dX5_clauses_76 : decode cX5_clauses 76 = .ok (.aload_n 0, 1) := by decide +kernel
theorem dX5_clauses_77 : decode cX5_clauses 77 = .ok (.dup, 1) := by decide +kernel
theorem dX5_clauses_78 : decode cX5_clauses 78 = .ok (.getfield 28, 3) := by decide +kernel
theorem dX5_clauses_81 : decode cX5_clauses 81 = .ok (.iconst 1, 1) := by decide +kernel
theorem dX5_clauses_82 : decode cX5_clauses 82 = .ok (.iadd, 1) := by decide +kernel
theorem dX5_clauses_83 : decode cX5_clauses 83 = .ok (.putfield 28, 3) := by decide +kernel
theorem dX5_clauses_86 : decode cX5_clauses 86 = .ok (.iinc 1 (-1), 3) := by decide +kernel
theorem dX5_clauses_89 : decode cX5_clauses 89 = .ok (.goto (-54), 3) := by decide +kernel
theorem dX5_clauses_92 : decode cX5_clauses 92 = .ok (.iconst 0, 1) := by decide +kernel
theorem dX5_clauses_93 : decode cX5_clauses 93 = .ok (.ireturn, 1) := by decide +kernel
theorem dX5_clause_0 : decode cX5_clause 0 = .ok (.aload_n 0, 1) := by decide +kernel
theorem dX5_clause_1 : decode cX5_clause 1 = .ok (.invokevirtual 64, 3) := by decide +kernel
theorem dX5_clause_4 : decode cX5_clause 4 = .ok (.istore_n 1, 1) := by decide +kernel
theorem dX5_clause_5 : decode cX5_clause 5 = .ok (.iload_n 1, 1) := by decide +kernel
theorem dX5_clause_6 : decode cX5_clause 6 = .ok (.ifCond .lt 12, 3) := by decide +kernel
theorem dX5_clause_9 : decode cX5_clause 9 = .ok (.aload_n 0, 1) := by decide +kernel
theorem dX5_clause_10 : decode cX5_clause 10 = .ok (.invokevirtual 60, 3) := by decide +kernel
theorem dX5_clause_13 : decode cX5_clause 13 = .ok (.bipush 32, 2) := by decide +kernel
theorem dX5_clause_15 : decode cX5_clause 15 = .ok (.if_icmp .eq 5, 3) := by decide +kernel
theorem dX5_clause_18 : decode cX5_clause 18 = .ok (.iconst 0, 1) := by decide +kernel
theorem dX5_clause_19 : decode cX5_clause 19 = .ok (.ireturn, 1) := by decide +kernel
theorem dX5_clause_20 : decode cX5_clause 20 = .ok (.aload_n 0, 1) := by decide +kernel
theorem dX5_clause_21 : decode cX5_clause 21 = .ok (.dup, 1) := by decide +kernel
theorem dX5_clause_22 : decode cX5_clause 22 = .ok (.getfield 28, 3) := by decide +kernel
theorem dX5_clause_25 : decode cX5_clause 25 = .ok (.iconst 1, 1) := by decide +kernel
theorem dX5_clause_26 : decode cX5_clause 26 = .ok (.iadd, 1) := by decide +kernel
theorem dX5_clause_27 : decode cX5_clause 27 = .ok (.putfield 28, 3) := by decide +kernel
theorem dX5_clause_30 : decode cX5_clause 30 = .ok (.iload_n 1, 1) := by decide +kernel
theorem dX5_clause_31 : decode cX5_clause 31 = .ok (.ifCond .eq 8, 3) := by decide +kernel
theorem dX5_clause_34 : decode cX5_clause 34 = .ok (.iload_n 1, 1) := by decide +kernel
theorem dX5_clause_35 : decode cX5_clause 35 = .ok (.iconst 1, 1) := by decide +kernel
theorem dX5_clause_36 : decode cX5_clause 36 = .ok (.if_icmp .ne 9, 3) := by decide +kernel
theorem dX5_clause_39 : decode cX5_clause 39 = .ok (.aload_n 0, 1) := by decide +kernel
theorem dX5_clause_40 : decode cX5_clause 40 = .ok (.iload_n 1, 1) := by decide +kernel
theorem dX5_clause_41 : decode cX5_clause 41 = .ok (.invokevirtual 67, 3) := by decide +kernel
theorem dX5_clause_44 : decode cX5_clause 44 = .ok (.ireturn, 1) := by decide +kernel
theorem dX5_clause_45 : decode cX5_clause 45 = .ok (.aload_n 0, 1) := by decide +kernel
theorem dX5_clause_46 : decode cX5_clause 46 = .ok (.iload_n 1, 1) := by decide +kernel
theorem dX5_clause_47 : decode cX5_clause 47 = .ok (.iconst 2, 1) := by decide +kernel
theorem dX5_clause_48 : decode cX5_clause 48 = .ok (.if_icmp .ne 10, 3) := by decide +kernel
theorem dX5_clause_51 : decode cX5_clause 51 = .ok (.aload_n 0, 1) := by decide +kernel
theorem dX5_clause_52 : decode cX5_clause 52 = .ok (.getfield 18, 3) := by decide +kernel
theorem dX5_clause_55 : decode cX5_clause 55 = .ok (.goto 7, 3) := by decide +kernel
theorem dX5_clause_58 : decode cX5_clause 58 = .ok (.aload_n 0, 1) := by decide +kernel
theorem dX5_clause_59 : decode cX5_clause 59 = .ok (.getfield 22, 3) := by decide +kernel
theorem dX5_clause_62 : decode cX5_clause 62 = .ok (.putfield 25, 3) := by decide +kernel
theorem dX5_clause_65 : decode cX5_clause 65 = .ok (.aload_n 0, 1) := by decide +kernel
theorem dX5_clause_66 : decode cX5_clause 66 = .ok (.getfield 25, 3) := by decide +kernel
theorem dX5_clause_69 : decode cX5_clause 69 = .ok (.getfield 43, 3) := by decide +kernel
theorem dX5_clause_72 : decode cX5_clause 72 = .ok (.ifCond .le 7, 3) := by decide +kernel
theorem dX5_clause_75 : decode cX5_clause 75 = .ok (.iconst 1, 1) := by decide +kernel
theorem dX5_clause_76 : decode cX5_clause 76 = .ok (.goto 4, 3) := by decide +kernel
theorem dX5_clause_79 : decode cX5_clause 79 = .ok (.iconst 0, 1) := by decide +kernel
theorem dX5_clause_80 : decode cX5_clause 80 = .ok (.istore_n 2, 1) := by decide +kernel
theorem dX5_clause_81 : decode cX5_clause 81 = .ok (.aload_n 0, 1) := by decide +kernel
theorem dX5_clause_82 : decode cX5_clause 82 = .ok (.iconst 0, 1) := by decide +kernel
theorem dX5_clause_83 : decode cX5_clause 83 = .ok (.invokevirtual 71, 3) := by decide +kernel
theorem dX5_clause_86 : decode cX5_clause 86 = .ok (.ifCond .ne 5, 3) := by decide +kernel
theorem dX5_clause_89 : decode cX5_clause 89 = .ok (.iconst 0, 1) := by decide +kernel
theorem dX5_clause_90 : decode cX5_clause 90 = .ok (.ireturn, 1) := by decide +kernel
theorem dX5_clause_91 : decode cX5_clause 91 = .ok (.iload_n 2, 1) := by decide +kernel
theorem dX5_clause_92 : decode cX5_clause 92 = .ok (.ifCond .eq 12, 3) := by decide +kernel
theorem dX5_clause_95 : decode cX5_clause 95 = .ok (.aload_n 0, 1) := by decide +kernel
theorem dX5_clause_96 : decode cX5_clause 96 = .ok (.getfield 25, 3) := by decide +kernel
theorem dX5_clause_99 : decode cX5_clause 99 = .ok (.bipush (-3), 2) := by decide +kernel
theorem dX5_clause_101 : decode cX5_clause 101 = .ok (.invokevirtual 74, 3) := by decide +kernel
theorem dX5_clause_104 : decode cX5_clause 104 = .ok (.iconst 1, 1) := by decide +kernel
theorem dX5_clause_105 : decode cX5_clause 105 = .ok (.ireturn, 1) := by decide +kernel
theorem dX5_bound_0 : decode cX5_bound 0 = .ok (.aload_n 0, 1) := by decide +kernel
theorem dX5_bound_1 : decode cX5_bound 1 = .ok (.invokevirtual 78, 3) := by decide +kernel
theorem dX5_bound_4 : decode cX5_bound 4 = .ok (.istore_n 2, 1) := by decide +kernel
theorem dX5_bound_5 : decode cX5_bound 5 = .ok (.iload_n 2, 1) := by decide +kernel
theorem dX5_bound_6 : decode cX5_bound 6 = .ok (.ifCond .ge 5, 3) := by decide +kernel
theorem dX5_bound_9 : decode cX5_bound 9 = .ok (.iconst 0, 1) := by decide +kernel
theorem dX5_bound_10 : decode cX5_bound 10 = .ok (.ireturn, 1) := by decide +kernel
theorem dX5_bound_11 : decode cX5_bound 11 = .ok (.iload_n 1, 1) := by decide +kernel
theorem dX5_bound_12 : decode cX5_bound 12 = .ok (.ifCond .ne 15, 3) := by decide +kernel
theorem dX5_bound_15 : decode cX5_bound 15 = .ok (.aload_n 0, 1) := by decide +kernel
theorem dX5_bound_16 : decode cX5_bound 16 = .ok (.iload_n 2, 1) := by decide +kernel
theorem dX5_bound_17 : decode cX5_bound 17 = .ok (.iconst 1, 1) := by decide +kernel
theorem dX5_bound_18 : decode cX5_bound 18 = .ok (.invokestatic 81, 3) := by decide +kernel
theorem dX5_bound_21 : decode cX5_bound 21 = .ok (.putfield 34, 3) := by decide +kernel
theorem dX5_bound_24 : decode cX5_bound 24 = .ok (.goto 13, 3) := by decide +kernel
theorem dX5_bound_27 : decode cX5_bound 27 = .ok (.aload_n 0, 1) := by decide +kernel
theorem dX5_bound_28 : decode cX5_bound 28 = .ok (.iload_n 2, 1) := by decide +kernel
theorem dX5_bound_29 : decode cX5_bound 29 = .ok (.bipush 24, 2) := by decide +kernel
theorem dX5_bound_31 : decode cX5_bound 31 = .ok (.invokestatic 87, 3) := by decide +kernel
theorem dX5_bound_34 : decode cX5_bound 34 = .ok (.putfield 37, 3) := by decide +kernel
theorem dX5_bound_37 : decode cX5_bound 37 = .ok (.iconst 1, 1) := by decide +kernel
theorem dX5_bound_38 : decode cX5_bound 38 = .ok (.ireturn, 1) := by decide +kernel
theorem dX5_anyOf_0 : decode cX5_anyOf 0 = .ok (.aload_n 0, 1) := by decide +kernel
theorem dX5_anyOf_1 : decode cX5_anyOf 1 = .ok (.iload_n 1, 1) := by decide +kernel
theorem dX5_anyOf_2 : decode cX5_anyOf 2 = .ok (.invokevirtual 90, 3) := by decide +kernel
theorem dX5_anyOf_5 : decode cX5_anyOf 5 = .ok (.ifCond .ne 5, 3) := by decide +kernel
theorem dX5_anyOf_8 : decode cX5_anyOf 8 = .ok (.iconst 0, 1) := by decide +kernel
theorem dX5_anyOf_9 : decode cX5_anyOf 9 = .ok (.ireturn, 1) := by decide +kernel
theorem dX5_anyOf_10 : decode cX5_anyOf 10 = .ok (.aload_n 0, 1) := by decide +kernel
theorem dX5_anyOf_11 : decode cX5_anyOf 11 = .ok (.getfield 28, 3) := by decide +kernel
theorem dX5_anyOf_14 : decode cX5_anyOf 14 = .ok (.aload_n 0, 1) := by decide +kernel
theorem dX5_anyOf_15 : decode cX5_anyOf 15 = .ok (.getfield 59, 3) := by decide +kernel
theorem dX5_anyOf_18 : decode cX5_anyOf 18 = .ok (.if_icmp .ge 49, 3) := by decide +kernel
theorem dX5_anyOf_21 : decode cX5_anyOf 21 = .ok (.aload_n 0, 1) := by decide +kernel
theorem dX5_anyOf_22 : decode cX5_anyOf 22 = .ok (.getfield 9, 3) := by decide +kernel
theorem dX5_anyOf_25 : decode cX5_anyOf 25 = .ok (.aload_n 0, 1) := by decide +kernel
theorem dX5_anyOf_26 : decode cX5_anyOf 26 = .ok (.getfield 28, 3) := by decide +kernel
theorem dX5_anyOf_29 : decode cX5_anyOf 29 = .ok (.iaload, 1) := by decide +kernel
theorem dX5_anyOf_30 : decode cX5_anyOf 30 = .ok (.bipush 124, 2) := by decide +kernel
theorem dX5_anyOf_32 : decode cX5_anyOf 32 = .ok (.if_icmp .ne 35, 3) := by decide +kernel
theorem dX5_anyOf_35 : decode cX5_anyOf 35 = .ok (.aload_n 0, 1) := by decide +kernel
theorem dX5_anyOf_36 : decode cX5_anyOf 36 = .ok (.dup, 1) := by decide +kernel
theorem dX5_anyOf_37 : decode cX5_anyOf 37 = .ok (.getfield 28, 3) := by decide +kernel
theorem dX5_anyOf_40 : decode cX5_anyOf 40 = .ok (.iconst 1, 1) := by decide +kernel
theorem dX5_anyOf_41 : decode cX5_anyOf 41 = .ok (.iadd, 1) := by decide +kernel
theorem dX5_anyOf_42 : decode cX5_anyOf 42 = .ok (.putfield 28, 3) := by decide +kernel
theorem dX5_anyOf_45 : decode cX5_anyOf 45 = .ok (.aload_n 0, 1) := by decide +kernel
theorem dX5_anyOf_46 : decode cX5_anyOf 46 = .ok (.iload_n 1, 1) := by decide +kernel
theorem dX5_anyOf_47 : decode cX5_anyOf 47 = .ok (.invokevirtual 90, 3) := by decide +kernel
theorem dX5_anyOf_50 : decode cX5_anyOf 50 = .ok (.ifCond .ne 5, 3) := by decide +kernel
theorem dX5_anyOf_53 : decode cX5_anyOf 53 = .ok (.iconst 0, 1) := by decide +kernel
theorem dX5_anyOf_54 : decode cX5_anyOf 54 = .ok (.ireturn, 1) := by decide +kernel
theorem dX5_anyOf_55 : decode cX5_anyOf 55 = .ok (.aload_n 0, 1) := by decide +kernel
theorem dX5_anyOf_56 : decode cX5_anyOf 56 = .ok (.getfield 25, 3) := by decide +kernel
theorem dX5_anyOf_59 : decode cX5_anyOf 59 = .ok (.bipush (-3), 2) := by decide +kernel
theorem dX5_anyOf_61 : decode cX5_anyOf 61 = .ok (.invokevirtual 74, 3) := by decide +kernel
theorem dX5_anyOf_64 : decode cX5_anyOf 64 = .ok (.goto (-54), 3) := by decide +kernel
theorem dX5_anyOf_67 : decode cX5_anyOf 67 = .ok (.iconst 1, 1) := by decide +kernel
theorem dX5_anyOf_68 : decode cX5_anyOf 68 = .ok (.ireturn, 1) := by decide +kernel
theorem dX5_allOf_0 : decode cX5_allOf 0 = .ok (.aload_n 0, 1) := by decide +kernel
theorem dX5_allOf_1 : decode cX5_allOf 1 = .ok (.iload_n 1, 1) := by decide +kernel
theorem dX5_allOf_2 : decode cX5_allOf 2 = .ok (.invokevirtual 93, 3) := by decide +kernel
theorem dX5_allOf_5 : decode cX5_allOf 5 = .ok (.ifCond .ne 5, 3) := by decide +kernel
theorem dX5_allOf_8 : decode cX5_allOf 8 = .ok (.iconst 0, 1) := by decide +kernel
theorem dX5_allOf_9 : decode cX5_allOf 9 = .ok (.ireturn, 1) := by decide +kernel
theorem dX5_allOf_10 : decode cX5_allOf 10 = .ok (.aload_n 0, 1) := by decide +kernel
theorem dX5_allOf_11 : decode cX5_allOf 11 = .ok (.getfield 28, 3) := by decide +kernel
theorem dX5_allOf_14 : decode cX5_allOf 14 = .ok (.aload_n 0, 1) := by decide +kernel
theorem dX5_allOf_15 : decode cX5_allOf 15 = .ok (.getfield 59, 3) := by decide +kernel
theorem dX5_allOf_18 : decode cX5_allOf 18 = .ok (.if_icmp .ge 49, 3) := by decide +kernel
theorem dX5_allOf_21 : decode cX5_allOf 21 = .ok (.aload_n 0, 1) := by decide +kernel
theorem dX5_allOf_22 : decode cX5_allOf 22 = .ok (.getfield 9, 3) := by decide +kernel
theorem dX5_allOf_25 : decode cX5_allOf 25 = .ok (.aload_n 0, 1) := by decide +kernel
theorem dX5_allOf_26 : decode cX5_allOf 26 = .ok (.getfield 28, 3) := by decide +kernel
theorem dX5_allOf_29 : decode cX5_allOf 29 = .ok (.iaload, 1) := by decide +kernel
theorem dX5_allOf_30 : decode cX5_allOf 30 = .ok (.bipush 38, 2) := by decide +kernel
theorem dX5_allOf_32 : decode cX5_allOf 32 = .ok (.if_icmp .ne 35, 3) := by decide +kernel
theorem dX5_allOf_35 : decode cX5_allOf 35 = .ok (.aload_n 0, 1) := by decide +kernel
theorem dX5_allOf_36 : decode cX5_allOf 36 = .ok (.dup, 1) := by decide +kernel
theorem dX5_allOf_37 : decode cX5_allOf 37 = .ok (.getfield 28, 3) := by decide +kernel
theorem dX5_allOf_40 : decode cX5_allOf 40 = .ok (.iconst 1, 1) := by decide +kernel
theorem dX5_allOf_41 : decode cX5_allOf 41 = .ok (.iadd, 1) := by decide +kernel
theorem dX5_allOf_42 : decode cX5_allOf 42 = .ok (.putfield 28, 3) := by decide +kernel
theorem dX5_allOf_45 : decode cX5_allOf 45 = .ok (.aload_n 0, 1) := by decide +kernel
theorem dX5_allOf_46 : decode cX5_allOf 46 = .ok (.iload_n 1, 1) := by decide +kernel
theorem dX5_allOf_47 : decode cX5_allOf 47 = .ok (.invokevirtual 93, 3) := by decide +kernel
theorem dX5_allOf_50 : decode cX5_allOf 50 = .ok (.ifCond .ne 5, 3) := by decide +kernel
theorem dX5_allOf_53 : decode cX5_allOf 53 = .ok (.iconst 0, 1) := by decide +kernel
theorem dX5_allOf_54 : decode cX5_allOf 54 = .ok (.ireturn, 1) := by decide +kernel
theorem dX5_allOf_55 : decode cX5_allOf 55 = .ok (.aload_n 0, 1) := by decide +kernel
theorem dX5_allOf_56 : decode cX5_allOf 56 = .ok (.getfield 25, 3) := by decide +kernel
theorem dX5_allOf_59 : decode cX5_allOf 59 = .ok (.bipush (-2), 2) := by decide +kernel
theorem dX5_allOf_61 : decode cX5_allOf 61 = .ok (.invokevirtual 74, 3) := by decide +kernel
theorem dX5_allOf_64 : decode cX5_allOf 64 = .ok (.goto (-54), 3) := by decide +kernel
theorem dX5_allOf_67 : decode cX5_allOf 67 = .ok (.iconst 1, 1) := by decide +kernel
theorem dX5_allOf_68 : decode cX5_allOf 68 = .ok (.ireturn, 1) := by decide +kernel
theorem dX5_one_0 : decode cX5_one 0 = .ok (.aload_n 0, 1) := by decide +kernel
theorem dX5_one_1 : decode cX5_one 1 = .ok (.invokevirtual 60, 3) := by decide +kernel
theorem dX5_one_4 : decode cX5_one 4 = .ok (.istore_n 2, 1) := by decide +kernel
theorem dX5_one_5 : decode cX5_one 5 = .ok (.iload_n 2, 1) := by decide +kernel
theorem dX5_one_6 : decode cX5_one 6 = .ok (.bipush 33, 2) := by decide +kernel
theorem dX5_one_8 : decode cX5_one 8 = .ok (.if_icmp .eq 15, 3) := by decide +kernel
theorem dX5_one_11 : decode cX5_one 11 = .ok (.iload_n 2, 1) := by decide +kernel
theorem dX5_one_12 : decode cX5_one 12 = .ok (.bipush 40, 2) := by decide +kernel
theorem dX5_one_14 : decode cX5_one 14 = .ok (.if_icmp .eq 9, 3) := by decide +kernel
theorem dX5_one_17 : decode cX5_one 17 = .ok (.aload_n 0, 1) := by decide +kernel
theorem dX5_one_18 : decode cX5_one 18 = .ok (.iload_n 2, 1) := by decide +kernel
theorem dX5_one_19 : decode cX5_one 19 = .ok (.invokevirtual 96, 3) := by decide +kernel
theorem dX5_one_22 : decode cX5_one 22 = .ok (.ireturn, 1) := by decide +kernel
theorem dX5_one_23 : decode cX5_one 23 = .ok (.iload_n 1, 1) := by decide +kernel
theorem dX5_one_24 : decode cX5_one 24 = .ok (.iconst 4, 1) := by decide +kernel
theorem dX5_one_25 : decode cX5_one 25 = .ok (.if_icmp .lt 5, 3) := by decide +kernel
theorem dX5_one_28 : decode cX5_one 28 = .ok (.iconst 0, 1) := by decide +kernel
theorem dX5_one_29 : decode cX5_one 29 = .ok (.ireturn, 1) := by decide +kernel
theorem dX5_one_30 : decode cX5_one 30 = .ok (.aload_n 0, 1) := by decide +kernel
theorem dX5_one_31 : decode cX5_one 31 = .ok (.dup, 1) := by decide +kernel
theorem dX5_one_32 : decode cX5_one 32 = .ok (.getfield 28, 3) := by decide +kernel
theorem dX5_one_35 : decode cX5_one 35 = .ok (.iconst 1, 1) := by decide +kernel
theorem dX5_one_36 : decode cX5_one 36 = .ok (.iadd, 1) := by decide +kernel
theorem dX5_one_37 : decode cX5_one 37 = .ok (.putfield 28, 3) := by decide +kernel
theorem dX5_one_40 : decode cX5_one 40 = .ok (.iload_n 2, 1) := by decide +kernel
theorem dX5_one_41 : decode cX5_one 41 = .ok (.bipush 33, 2) := by decide +kernel
theorem dX5_one_43 : decode cX5_one 43 = .ok (.if_icmp .ne 25, 3) := by decide +kernel
theorem dX5_one_46 : decode cX5_one 46 = .ok (.aload_n 0, 1) := by decide +kernel
theorem dX5_one_47 : decode cX5_one 47 = .ok (.iload_n 1, 1) := by decide +kernel
theorem dX5_one_48 : decode cX5_one 48 = .ok (.iconst 1, 1) := by decide +kernel
theorem dX5_one_49 : decode cX5_one 49 = .ok (.iadd, 1) := by decide +kernel
theorem dX5_one_50 : decode cX5_one 50 = .ok (.invokevirtual 93, 3) := by decide +kernel
theorem dX5_one_53 : decode cX5_one 53 = .ok (.ifCond .ne 5, 3) := by decide +kernel
theorem dX5_one_56 : decode cX5_one 56 = .ok (.iconst 0, 1) := by decide +kernel
theorem dX5_one_57 : decode cX5_one 57 = .ok (.ireturn, 1) := by decide +kernel
theorem dX5_one_58 : decode cX5_one 58 = .ok (.aload_n 0, 1) := by decide +kernel
theorem dX5_one_59 : decode cX5_one 59 = .ok (.getfield 25, 3) := by decide +kernel
theorem dX5_one_62 : decode cX5_one 62 = .ok (.iconst (-1), 1) := by decide +kernel
theorem dX5_one_63 : decode cX5_one 63 = .ok (.invokevirtual 74, 3) := by decide +kernel
theorem dX5_one_66 : decode cX5_one 66 = .ok (.iconst 1, 1) := by decide +kernel
theorem dX5_one_67 : decode cX5_one 67 = .ok (.ireturn, 1) := by decide +kernel
theorem dX5_one_68 : decode cX5_one 68 = .ok (.aload_n 0, 1) := by decide +kernel
theorem dX5_one_69 : decode cX5_one 69 = .ok (.iload_n 1, 1) := by decide +kernel
theorem dX5_one_70 : decode cX5_one 70 = .ok (.iconst 1, 1) := by decide +kernel
theorem dX5_one_71 : decode cX5_one 71 = .ok (.iadd, 1) := by decide +kernel
theorem dX5_one_72 : decode cX5_one 72 = .ok (.invokevirtual 71, 3) := by decide +kernel
theorem dX5_one_75 : decode cX5_one 75 = .ok (.ifCond .eq 12, 3) := by decide +kernel
theorem dX5_one_78 : decode cX5_one 78 = .ok (.aload_n 0, 1) := by decide +kernel
theorem dX5_one_79 : decode cX5_one 79 = .ok (.invokevirtual 60, 3) := by decide +kernel
theorem dX5_one_82 : decode cX5_one 82 = .ok (.bipush 41, 2) := by decide +kernel
theorem dX5_one_84 : decode cX5_one 84 = .ok (.if_icmp .eq 5, 3) := by decide +kernel
theorem dX5_one_87 : decode cX5_one 87 = .ok (.iconst 0, 1) := by decide +kernel
theorem dX5_one_88 : decode cX5_one 88 = .ok (.ireturn, 1) := by decide +kernel
theorem dX5_one_89 : decode cX5_one 89 = .ok (.aload_n 0, 1) := by decide +kernel
theorem dX5_one_90 : decode cX5_one 90 = .ok (.dup, 1) := by decide +kernel
theorem dX5_one_91 : decode cX5_one 91 = .ok (.getfield 28, 3) := by decide +kernel
theorem dX5_one_94 : decode cX5_one 94 = .ok (.iconst 1, 1) := by decide +kernel
theorem dX5_one_95 : decode cX5_one 95 = .ok (.iadd, 1) := by decide +kernel
theorem dX5_one_96 : decode cX5_one 96 = .ok (.putfield 28, 3) := by decide +kernel
theorem dX5_one_99 : decode cX5_one 99 = .ok (.iconst 1, 1) := by decide +kernel
theorem dX5_one_100 : decode cX5_one 100 = .ok (.ireturn, 1) := by decide +kernel
theorem dX5_test_0 : decode cX5_test 0 = .ok (.iload_n 1, 1) := by decide +kernel
theorem dX5_test_1 : decode cX5_test 1 = .ok (.ifCond .ge 7, 3) := by decide +kernel
theorem dX5_test_4 : decode cX5_test 4 = .ok (.iconst (-1), 1) := by decide +kernel
theorem dX5_test_5 : decode cX5_test 5 = .ok (.goto 10, 3) := by decide +kernel
theorem dX5_test_8 : decode cX5_test 8 = .ok (.ldc 99, 2) := by decide +kernel
theorem dX5_test_10 : decode cX5_test 10 = .ok (.iload_n 1, 1) := by decide +kernel
theorem dX5_test_11 : decode cX5_test 11 = .ok (.i2c, 1) := by decide +kernel
theorem dX5_test_12 : decode cX5_test 12 = .ok (.invokevirtual 101, 3) := by decide +kernel
theorem dX5_test_15 : decode cX5_test 15 = .ok (.istore_n 2, 1) := by decide +kernel
theorem dX5_test_16 : decode cX5_test 16 = .ok (.iload_n 2, 1) := by decide +kernel
theorem dX5_test_17 : decode cX5_test 17 = .ok (.ifCond .ge 5, 3) := by decide +kernel
theorem dX5_test_20 : decode cX5_test 20 = .ok (.iconst 0, 1) := by decide +kernel
theorem dX5_test_21 : decode cX5_test 21 = .ok (.ireturn, 1) := by decide +kernel
theorem dX5_test_22 : decode cX5_test 22 = .ok (.aload_n 0, 1) := by decide +kernel
theorem dX5_test_23 : decode cX5_test 23 = .ok (.dup, 1) := by decide +kernel
theorem dX5_test_24 : decode cX5_test 24 = .ok (.getfield 28, 3) := by decide +kernel
theorem dX5_test_27 : decode cX5_test 27 = .ok (.iconst 1, 1) := by decide +kernel
theorem dX5_test_28 : decode cX5_test 28 = .ok (.iadd, 1) := by decide +kernel
theorem dX5_test_29 : decode cX5_test 29 = .ok (.putfield 28, 3) := by decide +kernel
theorem dX5_test_32 : decode cX5_test 32 = .ok (.aload_n 0, 1) := by decide +kernel
theorem dX5_test_33 : decode cX5_test 33 = .ok (.getfield 28, 3) := by decide +kernel
theorem dX5_test_36 : decode cX5_test 36 = .ok (.aload_n 0, 1) := by decide +kernel
theorem dX5_test_37 : decode cX5_test 37 = .ok (.getfield 59, 3) := by decide +kernel
theorem dX5_test_40 : decode cX5_test 40 = .ok (.if_icmp .ge 21, 3) := by decide +kernel
theorem dX5_test_43 : decode cX5_test 43 = .ok (.ldc 107, 2) := by decide +kernel
theorem dX5_test_45 : decode cX5_test 45 = .ok (.aload_n 0, 1) := by decide +kernel
theorem dX5_test_46 : decode cX5_test 46 = .ok (.getfield 9, 3) := by decide +kernel
theorem dX5_test_49 : decode cX5_test 49 = .ok (.aload_n 0, 1) := by decide +kernel
theorem dX5_test_50 : decode cX5_test 50 = .ok (.getfield 28, 3) := by decide +kernel
theorem dX5_test_53 : decode cX5_test 53 = .ok (.iaload, 1) := by decide +kernel
theorem dX5_test_54 : decode cX5_test 54 = .ok (.i2c, 1) := by decide +kernel
theorem dX5_test_55 : decode cX5_test 55 = .ok (.invokevirtual 101, 3) := by decide +kernel
theorem dX5_test_58 : decode cX5_test 58 = .ok (.goto 4, 3) := by decide +kernel
theorem dX5_test_61 : decode cX5_test 61 = .ok (.iconst (-1), 1) := by decide +kernel
theorem dX5_test_62 : decode cX5_test 62 = .ok (.istore_n 3, 1) := by decide +kernel
theorem dX5_test_63 : decode cX5_test 63 = .ok (.iload_n 3, 1) := by decide +kernel
theorem dX5_test_64 : decode cX5_test 64 = .ok (.ifCond .ge 5, 3) := by decide +kernel
theorem dX5_test_67 : decode cX5_test 67 = .ok (.iconst 0, 1) := by decide +kernel
theorem dX5_test_68 : decode cX5_test 68 = .ok (.ireturn, 1) := by decide +kernel
theorem dX5_test_69 : decode cX5_test 69 = .ok (.aload_n 0, 1) := by decide +kernel
theorem dX5_test_70 : decode cX5_test 70 = .ok (.dup, 1) := by decide +kernel
theorem dX5_test_71 : decode cX5_test 71 = .ok (.getfield 28, 3) := by decide +kernel
theorem dX5_test_74 : decode cX5_test 74 = .ok (.iconst 1, 1) := by decide +kernel
theorem dX5_test_75 : decode cX5_test 75 = .ok (.iadd, 1) := by decide +kernel
theorem dX5_test_76 : decode cX5_test 76 = .ok (.putfield 28, 3) := by decide +kernel
theorem dX5_test_79 : decode cX5_test 79 = .ok (.aload_n 0, 1) := by decide +kernel
theorem dX5_test_80 : decode cX5_test 80 = .ok (.invokevirtual 78, 3) := by decide +kernel
theorem dX5_test_83 : decode cX5_test 83 = .ok (.istore 4, 2) := by decide +kernel
theorem dX5_test_85 : decode cX5_test 85 = .ok (.iload 4, 2) := by decide +kernel
theorem dX5_test_87 : decode cX5_test 87 = .ok (.ifCond .ge 5, 3) := by decide +kernel
theorem dX5_test_90 : decode cX5_test 90 = .ok (.iconst 0, 1) := by decide +kernel
theorem dX5_test_91 : decode cX5_test 91 = .ok (.ireturn, 1) := by decide +kernel
theorem dX5_test_92 : decode cX5_test 92 = .ok (.aload_n 0, 1) := by decide +kernel
theorem dX5_test_93 : decode cX5_test 93 = .ok (.getfield 25, 3) := by decide +kernel
theorem dX5_test_96 : decode cX5_test 96 = .ok (.iload_n 2, 1) := by decide +kernel
theorem dX5_test_97 : decode cX5_test 97 = .ok (.iconst 3, 1) := by decide +kernel
theorem dX5_test_98 : decode cX5_test 98 = .ok (.imul, 1) := by decide +kernel
theorem dX5_test_99 : decode cX5_test 99 = .ok (.iload_n 3, 1) := by decide +kernel
theorem dX5_test_100 : decode cX5_test 100 = .ok (.iadd, 1) := by decide +kernel
theorem dX5_test_101 : decode cX5_test 101 = .ok (.bipush 100, 2) := by decide +kernel
theorem dX5_test_103 : decode cX5_test 103 = .ok (.imul, 1) := by decide +kernel
theorem dX5_test_104 : decode cX5_test 104 = .ok (.iload 4, 2) := by decide +kernel
theorem dX5_test_106 : decode cX5_test 106 = .ok (.iadd, 1) := by decide +kernel
theorem dX5_test_107 : decode cX5_test 107 = .ok (.invokevirtual 74, 3) := by decide +kernel
theorem dX5_test_110 : decode cX5_test 110 = .ok (.iconst 1, 1) := by decide +kernel
theorem dX5_test_111 : decode cX5_test 111 = .ok (.ireturn, 1) := by decide +kernel
theorem dX5_word_0 : decode cX5_word 0 = .ok (.iconst 0, 1) := by decide +kernel
theorem dX5_word_1 : decode cX5_word 1 = .ok (.istore_n 1, 1) := by decide +kernel
theorem dX5_word_2 : decode cX5_word 2 = .ok (.iconst 0, 1) := by decide +kernel
theorem dX5_word_3 : decode cX5_word 3 = .ok (.istore_n 2, 1) := by decide +kernel
theorem dX5_word_4 : decode cX5_word 4 = .ok (.iload_n 2, 1) := by decide +kernel
theorem dX5_word_5 : decode cX5_word 5 = .ok (.iconst 4, 1) := by decide +kernel
theorem dX5_word_6 : decode cX5_word 6 = .ok (.if_icmp .ge 82, 3) := by decide +kernel
theorem dX5_word_9 : decode cX5_word 9 = .ok (.iconst 0, 1) := by decide +kernel
theorem dX5_word_10 : decode cX5_word 10 = .ok (.istore_n 3, 1) := by decide +kernel
theorem dX5_word_11 : decode cX5_word 11 = .ok (.iload_n 3, 1) := by decide +kernel
theorem dX5_word_12 : decode cX5_word 12 = .ok (.iconst 4, 1) := by decide +kernel
theorem dX5_word_13 : decode cX5_word 13 = .ok (.if_icmp .ge 46, 3) := by decide +kernel
theorem dX5_word_16 : decode cX5_word 16 = .ok (.aload_n 0, 1) := by decide +kernel
theorem dX5_word_17 : decode cX5_word 17 = .ok (.getfield 28, 3) := by decide +kernel
theorem dX5_word_20 : decode cX5_word 20 = .ok (.iload_n 3, 1) := by decide +kernel
theorem dX5_word_21 : decode cX5_word 21 = .ok (.iadd, 1) := by decide +kernel
theorem dX5_word_22 : decode cX5_word 22 = .ok (.aload_n 0, 1) := by decide +kernel
theorem dX5_word_23 : decode cX5_word 23 = .ok (.getfield 59, 3) := by decide +kernel
theorem dX5_word_26 : decode cX5_word 26 = .ok (.if_icmp .ge 33, 3) := by decide +kernel
theorem dX5_word_29 : decode cX5_word 29 = .ok (.aload_n 0, 1) := by decide +kernel
theorem dX5_word_30 : decode cX5_word 30 = .ok (.getfield 9, 3) := by decide +kernel
theorem dX5_word_33 : decode cX5_word 33 = .ok (.aload_n 0, 1) := by decide +kernel
theorem dX5_word_34 : decode cX5_word 34 = .ok (.getfield 28, 3) := by decide +kernel
theorem dX5_word_37 : decode cX5_word 37 = .ok (.iload_n 3, 1) := by decide +kernel
theorem dX5_word_38 : decode cX5_word 38 = .ok (.iadd, 1) := by decide +kernel
theorem dX5_word_39 : decode cX5_word 39 = .ok (.iaload, 1) := by decide +kernel
theorem dX5_word_40 : decode cX5_word 40 = .ok (.ldc 109, 2) := by decide +kernel
theorem dX5_word_42 : decode cX5_word 42 = .ok (.iload_n 2, 1) := by decide +kernel
theorem dX5_word_43 : decode cX5_word 43 = .ok (.iconst 4, 1) := by decide +kernel
theorem dX5_word_44 : decode cX5_word 44 = .ok (.imul, 1) := by decide +kernel
theorem dX5_word_45 : decode cX5_word 45 = .ok (.iload_n 3, 1) := by decide +kernel
theorem dX5_word_46 : decode cX5_word 46 = .ok (.iadd, 1) := by decide +kernel
theorem dX5_word_47 : decode cX5_word 47 = .ok (.invokevirtual 111, 3) := by decide +kernel
theorem dX5_word_50 : decode cX5_word 50 = .ok (.if_icmp .ne 9, 3) := by decide +kernel
theorem dX5_word_53 : decode cX5_word 53 = .ok (.iinc 3 1, 3) := by decide +kernel
theorem dX5_word_56 : decode cX5_word 56 = .ok (.goto (-45), 3) := by decide +kernel
theorem dX5_word_59 : decode cX5_word 59 = .ok (.iload_n 3, 1) := by decide +kernel
theorem dX5_word_60 : decode cX5_word 60 = .ok (.iconst 4, 1) := by decide +kernel
theorem dX5_word_61 : decode cX5_word 61 = .ok (.if_icmp .ne 15, 3) := by decide +kernel
theorem dX5_word_64 : decode cX5_word 64 = .ok (.aload_n 0, 1) := by decide +kernel
theorem dX5_word_65 : decode cX5_word 65 = .ok (.dup, 1) := by decide +kernel
theorem dX5_word_66 : decode cX5_word 66 = .ok (.getfield 28, 3) := by decide +kernel
theorem dX5_word_69 : decode cX5_word 69 = .ok (.iconst 4, 1) := by decide +kernel
theorem dX5_word_70 : decode cX5_word 70 = .ok (.iadd, 1) := by decide +kernel
theorem dX5_word_71 : decode cX5_word 71 = .ok (.putfield 28, 3) := by decide +kernel
theorem dX5_word_74 : decode cX5_word 74 = .ok (.iload_n 2, 1) := by decide +kernel
theorem dX5_word_75 : decode cX5_word 75 = .ok (.ireturn, 1) := by decide +kernel
theorem dX5_word_76 : decode cX5_word 76 = .ok (.iload_n 1, 1) := by decide +kernel
theorem dX5_word_77 : decode cX5_word 77 = .ok (.iload_n 3, 1) := by decide +kernel
theorem dX5_word_78 : decode cX5_word 78 = .ok (.invokestatic 81, 3) := by decide +kernel
theorem dX5_word_81 : decode cX5_word 81 = .ok (.istore_n 1, 1) := by decide +kernel
theorem dX5_word_82 : decode cX5_word 82 = .ok (.iinc 2 1, 3) := by decide +kernel
theorem dX5_word_85 : decode cX5_word 85 = .ok (.goto (-81), 3) := by decide +kernel
theorem dX5_word_88 : decode cX5_word 88 = .ok (.aload_n 0, 1) := by decide +kernel
theorem dX5_word_89 : decode cX5_word 89 = .ok (.dup, 1) := by decide +kernel
theorem dX5_word_90 : decode cX5_word 90 = .ok (.getfield 28, 3) := by decide +kernel
theorem dX5_word_93 : decode cX5_word 93 = .ok (.iload_n 1, 1) := by decide +kernel
theorem dX5_word_94 : decode cX5_word 94 = .ok (.iadd, 1) := by decide +kernel
theorem dX5_word_95 : decode cX5_word 95 = .ok (.putfield 28, 3) := by decide +kernel
theorem dX5_word_98 : decode cX5_word 98 = .ok (.iconst (-1), 1) := by decide +kernel
theorem dX5_word_99 : decode cX5_word 99 = .ok (.ireturn, 1) := by decide +kernel
theorem dX5_number_0 : decode cX5_number 0 = .ok (.iconst (-1), 1) := by decide +kernel
theorem dX5_number_1 : decode cX5_number 1 = .ok (.istore_n 1, 1) := by decide +kernel
theorem dX5_number_2 : decode cX5_number 2 = .ok (.iconst 0, 1) := by decide +kernel
theorem dX5_number_3 : decode cX5_number 3 = .ok (.istore_n 2, 1) := by decide +kernel
theorem dX5_number_4 : decode cX5_number 4 = .ok (.iload_n 2, 1) := by decide +kernel
theorem dX5_number_5 : decode cX5_number 5 = .ok (.iconst 2, 1) := by decide +kernel
theorem dX5_number_6 : decode cX5_number 6 = .ok (.if_icmp .ge 86, 3) := by decide +kernel
theorem dX5_number_9 : decode cX5_number 9 = .ok (.aload_n 0, 1) := by decide +kernel
theorem dX5_number_10 : decode cX5_number 10 = .ok (.getfield 28, 3) := by decide +kernel
theorem dX5_number_13 : decode cX5_number 13 = .ok (.aload_n 0, 1) := by decide +kernel
theorem dX5_number_14 : decode cX5_number 14 = .ok (.getfield 59, 3) := by decide +kernel
theorem dX5_number_17 : decode cX5_number 17 = .ok (.if_icmp .ge 75, 3) := by decide +kernel
theorem dX5_number_20 : decode cX5_number 20 = .ok (.aload_n 0, 1) := by decide +kernel
theorem dX5_number_21 : decode cX5_number 21 = .ok (.getfield 9, 3) := by decide +kernel
theorem dX5_number_24 : decode cX5_number 24 = .ok (.aload_n 0, 1) := by decide +kernel
theorem dX5_number_25 : decode cX5_number 25 = .ok (.getfield 28, 3) := by decide +kernel
theorem dX5_number_28 : decode cX5_number 28 = .ok (.iaload, 1) := by decide +kernel
theorem dX5_number_29 : decode cX5_number 29 = .ok (.bipush 48, 2) := by decide +kernel
theorem dX5_number_31 : decode cX5_number 31 = .ok (.if_icmp .lt 61, 3) := by decide +kernel
theorem dX5_number_34 : decode cX5_number 34 = .ok (.aload_n 0, 1) := by decide +kernel
theorem dX5_number_35 : decode cX5_number 35 = .ok (.getfield 9, 3) := by decide +kernel
theorem dX5_number_38 : decode cX5_number 38 = .ok (.aload_n 0, 1) := by decide +kernel
theorem dX5_number_39 : decode cX5_number 39 = .ok (.getfield 28, 3) := by decide +kernel
theorem dX5_number_42 : decode cX5_number 42 = .ok (.iaload, 1) := by decide +kernel
theorem dX5_number_43 : decode cX5_number 43 = .ok (.bipush 57, 2) := by decide +kernel
theorem dX5_number_45 : decode cX5_number 45 = .ok (.if_icmp .gt 47, 3) := by decide +kernel
theorem dX5_number_48 : decode cX5_number 48 = .ok (.aload_n 0, 1) := by decide +kernel
theorem dX5_number_49 : decode cX5_number 49 = .ok (.getfield 9, 3) := by decide +kernel
theorem dX5_number_52 : decode cX5_number 52 = .ok (.aload_n 0, 1) := by decide +kernel
theorem dX5_number_53 : decode cX5_number 53 = .ok (.getfield 28, 3) := by decide +kernel
theorem dX5_number_56 : decode cX5_number 56 = .ok (.iaload, 1) := by decide +kernel
theorem dX5_number_57 : decode cX5_number 57 = .ok (.bipush 48, 2) := by decide +kernel
theorem dX5_number_59 : decode cX5_number 59 = .ok (.isub, 1) := by decide +kernel
theorem dX5_number_60 : decode cX5_number 60 = .ok (.istore_n 3, 1) := by decide +kernel
theorem dX5_number_61 : decode cX5_number 61 = .ok (.iload_n 1, 1) := by decide +kernel
theorem dX5_number_62 : decode cX5_number 62 = .ok (.ifCond .ge 7, 3) := by decide +kernel
theorem dX5_number_65 : decode cX5_number 65 = .ok (.iload_n 3, 1) := by decide +kernel
theorem dX5_number_66 : decode cX5_number 66 = .ok (.goto 9, 3) := by decide +kernel
theorem dX5_number_69 : decode cX5_number 69 = .ok (.bipush 10, 2) := by decide +kernel
theorem dX5_number_71 : decode cX5_number 71 = .ok (.iload_n 1, 1) := by decide +kernel
theorem dX5_number_72 : decode cX5_number 72 = .ok (.imul, 1) := by decide +kernel
theorem dX5_number_73 : decode cX5_number 73 = .ok (.iload_n 3, 1) := by decide +kernel
theorem dX5_number_74 : decode cX5_number 74 = .ok (.iadd, 1) := by decide +kernel
theorem dX5_number_75 : decode cX5_number 75 = .ok (.istore_n 1, 1) := by decide +kernel
theorem dX5_number_76 : decode cX5_number 76 = .ok (.aload_n 0, 1) := by decide +kernel
theorem dX5_number_77 : decode cX5_number 77 = .ok (.dup, 1) := by decide +kernel
theorem dX5_number_78 : decode cX5_number 78 = .ok (.getfield 28, 3) := by decide +kernel
theorem dX5_number_81 : decode cX5_number 81 = .ok (.iconst 1, 1) := by decide +kernel
theorem dX5_number_82 : decode cX5_number 82 = .ok (.iadd, 1) := by decide +kernel
theorem dX5_number_83 : decode cX5_number 83 = .ok (.putfield 28, 3) := by decide +kernel
theorem dX5_number_86 : decode cX5_number 86 = .ok (.iinc 2 1, 3) := by decide +kernel
theorem dX5_number_89 : decode cX5_number 89 = .ok (.goto (-85), 3) := by decide +kernel
theorem dX5_number_92 : decode cX5_number 92 = .ok (.iload_n 1, 1) := by decide +kernel
theorem dX5_number_93 : decode cX5_number 93 = .ok (.ireturn, 1) := by decide +kernel
theorem dX5_sign_0 : decode cX5_sign 0 = .ok (.aload_n 0, 1) := by decide +kernel
theorem dX5_sign_1 : decode cX5_sign 1 = .ok (.getfield 28, 3) := by decide +kernel
theorem dX5_sign_4 : decode cX5_sign 4 = .ok (.aload_n 0, 1) := by decide +kernel
theorem dX5_sign_5 : decode cX5_sign 5 = .ok (.getfield 59, 3) := by decide +kernel
theorem dX5_sign_8 : decode cX5_sign 8 = .ok (.if_icmp .ge 15, 3) := by decide +kernel
theorem dX5_sign_11 : decode cX5_sign 11 = .ok (.aload_n 0, 1) := by decide +kernel
theorem dX5_sign_12 : decode cX5_sign 12 = .ok (.getfield 9, 3) := by decide +kernel
theorem dX5_sign_15 : decode cX5_sign 15 = .ok (.aload_n 0, 1) := by decide +kernel
theorem dX5_sign_16 : decode cX5_sign 16 = .ok (.getfield 28, 3) := by decide +kernel
theorem dX5_sign_19 : decode cX5_sign 19 = .ok (.iaload, 1) := by decide +kernel
theorem dX5_sign_20 : decode cX5_sign 20 = .ok (.goto 4, 3) := by decide +kernel
theorem dX5_sign_23 : decode cX5_sign 23 = .ok (.iconst (-1), 1) := by decide +kernel
theorem dX5_sign_24 : decode cX5_sign 24 = .ok (.ireturn, 1) := by decide +kernel
theorem dX6_init_0 : decode cX6_init 0 = .ok (.aload_n 0, 1) := by decide +kernel
theorem dX6_init_1 : decode cX6_init 1 = .ok (.invokespecial 3, 3) := by decide +kernel
theorem dX6_init_4 : decode cX6_init 4 = .ok (.aload_n 0, 1) := by decide +kernel
theorem dX6_init_5 : decode cX6_init 5 = .ok (.new 9, 3) := by decide +kernel
theorem dX6_init_8 : decode cX6_init 8 = .ok (.dup, 1) := by decide +kernel
theorem dX6_init_9 : decode cX6_init 9 = .ok (.invokespecial 11, 3) := by decide +kernel
theorem dX6_init_12 : decode cX6_init 12 = .ok (.putfield 12, 3) := by decide +kernel
theorem dX6_init_15 : decode cX6_init 15 = .ok (.aload_n 0, 1) := by decide +kernel
theorem dX6_init_16 : decode cX6_init 16 = .ok (.iconst 5, 1) := by decide +kernel
theorem dX6_init_17 : decode cX6_init 17 = .ok (.anewarray 18, 3) := by decide +kernel
theorem dX6_init_20 : decode cX6_init 20 = .ok (.putfield 20, 3) := by decide +kernel
theorem dX6_init_23 : decode cX6_init 23 = .ok (.aload_n 0, 1) := by decide +kernel
theorem dX6_init_24 : decode cX6_init 24 = .ok (.new 24, 3) := by decide +kernel
theorem dX6_init_27 : decode cX6_init 27 = .ok (.dup, 1) := by decide +kernel
theorem dX6_init_28 : decode cX6_init 28 = .ok (.iconst 5, 1) := by decide +kernel
theorem dX6_init_29 : decode cX6_init 29 = .ok (.invokespecial 26, 3) := by decide +kernel
theorem dX6_init_32 : decode cX6_init 32 = .ok (.putfield 29, 3) := by decide +kernel
theorem dX6_init_35 : decode cX6_init 35 = .ok (.aload_n 0, 1) := by decide +kernel
theorem dX6_init_36 : decode cX6_init 36 = .ok (.new 24, 3) := by decide +kernel
theorem dX6_init_39 : decode cX6_init 39 = .ok (.dup, 1) := by decide +kernel
theorem dX6_init_40 : decode cX6_init 40 = .ok (.bipush 6, 2) := by decide +kernel
theorem dX6_init_42 : decode cX6_init 42 = .ok (.invokespecial 26, 3) := by decide +kernel
theorem dX6_init_45 : decode cX6_init 45 = .ok (.putfield 33, 3) := by decide +kernel
theorem dX6_init_48 : decode cX6_init 48 = .ok (.aload_n 0, 1) := by decide +kernel
theorem dX6_init_49 : decode cX6_init 49 = .ok (.new 24, 3) := by decide +kernel
theorem dX6_init_52 : decode cX6_init 52 = .ok (.dup, 1) := by decide +kernel
theorem dX6_init_53 : decode cX6_init 53 = .ok (.bipush 8, 2) := by decide +kernel
theorem dX6_init_55 : decode cX6_init 55 = .ok (.invokespecial 26, 3) := by decide +kernel
theorem dX6_init_58 : decode cX6_init 58 = .ok (.putfield 36, 3) := by decide +kernel
theorem dX6_init_61 : decode cX6_init 61 = .ok (.iconst 0, 1) := by decide +kernel
theorem dX6_init_62 : decode cX6_init 62 = .ok (.istore_n 1, 1) := by decide +kernel
theorem dX6_init_63 : decode cX6_init 63 = .ok (.iload_n 1, 1) := by decide +kernel
theorem dX6_init_64 : decode cX6_init 64 = .ok (.iconst 5, 1) := by decide +kernel
theorem dX6_init_65 : decode cX6_init 65 = .ok (.if_icmp .ge 22, 3) := by decide +kernel
theorem dX6_init_68 : decode cX6_init 68 = .ok (.aload_n 0, 1) := by decide +kernel
theorem dX6_init_69 : decode cX6_init 69 = .ok (.getfield 20, 3) := by decide +kernel
theorem dX6_init_72 : decode cX6_init 72 = .ok (.iload_n 1, 1) := by decide +kernel
theorem dX6_init_73 : decode cX6_init 73 = .ok (.new 18, 3) := by decide +kernel
theorem dX6_init_76 : decode cX6_init 76 = .ok (.dup, 1) := by decide +kernel
theorem dX6_init_77 : decode cX6_init 77 = .ok (.invokespecial 39, 3) := by decide +kernel
theorem dX6_init_80 : decode cX6_init 80 = .ok (.aastore, 1) := by decide +kernel
theorem dX6_init_81 : decode cX6_init 81 = .ok (.iinc 1 1, 3) := by decide +kernel
theorem dX6_init_84 : decode cX6_init 84 = .ok (.goto (-21), 3) := by decide +kernel
theorem dX6_init_87 : decode cX6_init 87 = .ok (.return_, 1) := by decide +kernel
theorem dX6_copyFrom_0 : decode cX6_copyFrom 0 = .ok (.aload_n 0, 1) := by decide +kernel
theorem dX6_copyFrom_1 : decode cX6_copyFrom 1 = .ok (.getfield 12, 3) := by decide +kernel
theorem dX6_copyFrom_4 : decode cX6_copyFrom 4 = .ok (.aload_n 1, 1) := by decide +kernel
theorem dX6_copyFrom_5 : decode cX6_copyFrom 5 = .ok (.getfield 12, 3) := by decide +kernel
theorem dX6_copyFrom_8 : decode cX6_copyFrom 8 = .ok (.invokevirtual 40, 3) := by decide +kernel
theorem dX6_copyFrom_11 : decode cX6_copyFrom 11 = .ok (.iconst 0, 1) := by decide +kernel
theorem dX6_copyFrom_12 : decode cX6_copyFrom 12 = .ok (.istore_n 2, 1) := by decide +kernel
theorem dX6_copyFrom_13 : decode cX6_copyFrom 13 = .ok (.iload_n 2, 1) := by decide +kernel
theorem dX6_copyFrom_14 : decode cX6_copyFrom 14 = .ok (.iconst 5, 1) := by decide +kernel
theorem dX6_copyFrom_15 : decode cX6_copyFrom 15 = .ok (.if_icmp .ge 24, 3) := by decide +kernel
theorem dX6_copyFrom_18 : decode cX6_copyFrom 18 = .ok (.aload_n 0, 1) := by decide +kernel
theorem dX6_copyFrom_19 : decode cX6_copyFrom 19 = .ok (.getfield 20, 3) := by decide +kernel
theorem dX6_copyFrom_22 : decode cX6_copyFrom 22 = .ok (.iload_n 2, 1) := by decide +kernel
theorem dX6_copyFrom_23 : decode cX6_copyFrom 23 = .ok (.aaload, 1) := by decide +kernel
theorem dX6_copyFrom_24 : decode cX6_copyFrom 24 = .ok (.aload_n 1, 1) := by decide +kernel
theorem dX6_copyFrom_25 : decode cX6_copyFrom 25 = .ok (.getfield 20, 3) := by decide +kernel
theorem dX6_copyFrom_28 : decode cX6_copyFrom 28 = .ok (.iload_n 2, 1) := by decide +kernel
theorem dX6_copyFrom_29 : decode cX6_copyFrom 29 = .ok (.aaload, 1) := by decide +kernel
theorem dX6_copyFrom_30 : decode cX6_copyFrom 30 = .ok (.invokevirtual 44, 3) := by decide +kernel
theorem dX6_copyFrom_33 : decode cX6_copyFrom 33 = .ok (.iinc 2 1, 3) := by decide +kernel
theorem dX6_copyFrom_36 : decode cX6_copyFrom 36 = .ok (.goto (-23), 3) := by decide +kernel
theorem dX6_copyFrom_39 : decode cX6_copyFrom 39 = .ok (.aload_n 0, 1) := by decide +kernel
theorem dX6_copyFrom_40 : decode cX6_copyFrom 40 = .ok (.aload_n 1, 1) := by decide +kernel
theorem dX6_copyFrom_41 : decode cX6_copyFrom 41 = .ok (.getfield 47, 3) := by decide +kernel
theorem dX6_copyFrom_44 : decode cX6_copyFrom 44 = .ok (.putfield 47, 3) := by decide +kernel
theorem dX6_copyFrom_47 : decode cX6_copyFrom 47 = .ok (.aload_n 0, 1) := by decide +kernel
theorem dX6_copyFrom_48 : decode cX6_copyFrom 48 = .ok (.getfield 29, 3) := by decide +kernel
theorem dX6_copyFrom_51 : decode cX6_copyFrom 51 = .ok (.aload_n 1, 1) := by decide +kernel
theorem dX6_copyFrom_52 : decode cX6_copyFrom 52 = .ok (.getfield 29, 3) := by decide +kernel
theorem dX6_copyFrom_55 : decode cX6_copyFrom 55 = .ok (.invokevirtual 51, 3) := by decide +kernel
theorem dX6_copyFrom_58 : decode cX6_copyFrom 58 = .ok (.aload_n 0, 1) := by decide +kernel
theorem dX6_copyFrom_59 : decode cX6_copyFrom 59 = .ok (.getfield 33, 3) := by decide +kernel
theorem dX6_copyFrom_62 : decode cX6_copyFrom 62 = .ok (.aload_n 1, 1) := by decide +kernel
theorem dX6_copyFrom_63 : decode cX6_copyFrom 63 = .ok (.getfield 33, 3) := by decide +kernel
theorem dX6_copyFrom_66 : decode cX6_copyFrom 66 = .ok (.invokevirtual 51, 3) := by decide +kernel
theorem dX6_copyFrom_69 : decode cX6_copyFrom 69 = .ok (.aload_n 0, 1) := by decide +kernel
theorem dX6_copyFrom_70 : decode cX6_copyFrom 70 = .ok (.getfield 36, 3) := by decide +kernel
theorem dX6_copyFrom_73 : decode cX6_copyFrom 73 = .ok (.aload_n 1, 1) := by decide +kernel
theorem dX6_copyFrom_74 : decode cX6_copyFrom 74 = .ok (.getfield 36, 3) := by decide +kernel
theorem dX6_copyFrom_77 : decode cX6_copyFrom 77 = .ok (.invokevirtual 51, 3) := by decide +kernel
theorem dX6_copyFrom_80 : decode cX6_copyFrom 80 = .ok (.return_, 1) := by decide +kernel
theorem dX7_init_0 : decode cX7_init 0 = .ok (.aload_n 0, 1) := by decide +kernel
theorem dX7_init_1 : decode cX7_init 1 = .ok (.invokespecial 3, 3) := by decide +kernel
theorem dX7_init_4 : decode cX7_init 4 = .ok (.aload_n 0, 1) := by decide +kernel
theorem dX7_init_5 : decode cX7_init 5 = .ok (.bipush 100, 2) := by decide +kernel
theorem dX7_init_7 : decode cX7_init 7 = .ok (.newarray .int, 2) := by decide +kernel
theorem dX7_init_9 : decode cX7_init 9 = .ok (.putfield 9, 3) := by decide +kernel
theorem dX7_init_12 : decode cX7_init 12 = .ok (.return_, 1) := by decide +kernel
theorem dX7_add_0 : decode cX7_add 0 = .ok (.aload_n 0, 1) := by decide +kernel
theorem dX7_add_1 : decode cX7_add 1 = .ok (.getfield 15, 3) := by decide +kernel
theorem dX7_add_4 : decode cX7_add 4 = .ok (.bipush 100, 2) := by decide +kernel
theorem dX7_add_6 : decode cX7_add 6 = .ok (.if_icmp .ge 23, 3) := by decide +kernel
theorem dX7_add_9 : decode cX7_add 9 = .ok (.aload_n 0, 1) := by decide +kernel
theorem dX7_add_10 : decode cX7_add 10 = .ok (.getfield 9, 3) := by decide +kernel
theorem dX7_add_13 : decode cX7_add 13 = .ok (.aload_n 0, 1) := by decide +kernel
theorem dX7_add_14 : decode cX7_add 14 = .ok (.getfield 15, 3) := by decide +kernel
theorem dX7_add_17 : decode cX7_add 17 = .ok (.iload_n 1, 1) := by decide +kernel
theorem dX7_add_18 : decode cX7_add 18 = .ok (.iastore, 1) := by decide +kernel
theorem dX7_add_19 : decode cX7_add 19 = .ok (.aload_n 0, 1) := by decide +kernel
theorem dX7_add_20 : decode cX7_add 20 = .ok (.dup, 1) := by decide +kernel
theorem dX7_add_21 : decode cX7_add 21 = .ok (.getfield 15, 3) := by decide +kernel
theorem dX7_add_24 : decode cX7_add 24 = .ok (.iconst 1, 1) := by decide +kernel
theorem dX7_add_25 : decode cX7_add 25 = .ok (.iadd, 1) := by decide +kernel
theorem dX7_add_26 : decode cX7_add 26 = .ok (.putfield 15, 3) := by decide +kernel
theorem dX7_add_29 : decode cX7_add 29 = .ok (.return_, 1) := by decide +kernel
theorem dX8_init_0 : decode cX8_init 0 = .ok (.aload_n 0, 1) := by decide +kernel
theorem dX8_init_1 : decode cX8_init 1 = .ok (.invokespecial 3, 3) := by decide +kernel
theorem dX8_init_4 : decode cX8_init 4 = .ok (.aload_n 0, 1) := by decide +kernel
theorem dX8_init_5 : decode cX8_init 5 = .ok (.iconst (-1), 1) := by decide +kernel
theorem dX8_init_6 : decode cX8_init 6 = .ok (.putfield 9, 3) := by decide +kernel
theorem dX8_init_9 : decode cX8_init 9 = .ok (.aload_n 0, 1) := by decide +kernel
theorem dX8_init_10 : decode cX8_init 10 = .ok (.bipush 60, 2) := by decide +kernel
theorem dX8_init_12 : decode cX8_init 12 = .ok (.newarray .long, 2) := by decide +kernel
theorem dX8_init_14 : decode cX8_init 14 = .ok (.putfield 15, 3) := by decide +kernel
theorem dX8_init_17 : decode cX8_init 17 = .ok (.return_, 1) := by decide +kernel
theorem dX8_isRow_0 : decode cX8_isRow 0 = .ok (.aload_n 0, 1) := by decide +kernel
theorem dX8_isRow_1 : decode cX8_isRow 1 = .ok (.getfield 9, 3) := by decide +kernel
theorem dX8_isRow_4 : decode cX8_isRow 4 = .ok (.iconst (-1), 1) := by decide +kernel
theorem dX8_isRow_5 : decode cX8_isRow 5 = .ok (.if_icmp .eq 7, 3) := by decide +kernel
theorem dX8_isRow_8 : decode cX8_isRow 8 = .ok (.iconst 1, 1) := by decide +kernel
theorem dX8_isRow_9 : decode cX8_isRow 9 = .ok (.goto 4, 3) := by decide +kernel
theorem dX8_isRow_12 : decode cX8_isRow 12 = .ok (.iconst 0, 1) := by decide +kernel
theorem dX8_isRow_13 : decode cX8_isRow 13 = .ok (.ireturn, 1) := by decide +kernel
theorem dX8_has_0 : decode cX8_has 0 = .ok (.iload_n 1, 1) := by decide +kernel
theorem dX8_has_1 : decode cX8_has 1 = .ok (.ifCond .lt 15, 3) := by decide +kernel
theorem dX8_has_4 : decode cX8_has 4 = .ok (.iload_n 1, 1) := by decide +kernel
theorem dX8_has_5 : decode cX8_has 5 = .ok (.aload_n 0, 1) := by decide +kernel
theorem dX8_has_6 : decode cX8_has 6 = .ok (.getfield 19, 3) := by decide +kernel
theorem dX8_has_9 : decode cX8_has 9 = .ok (.if_icmp .ge 7, 3) := by decide +kernel
theorem dX8_has_12 : decode cX8_has 12 = .ok (.iconst 1, 1) := by decide +kernel
theorem dX8_has_13 : decode cX8_has 13 = .ok (.goto 4, 3) := by decide +kernel
theorem dX8_has_16 : decode cX8_has 16 = .ok (.iconst 0, 1) := by decide +kernel
theorem dX8_has_17 : decode cX8_has 17 = .ok (.ireturn, 1) := by decide +kernel
theorem dX8_begin_0 : decode cX8_begin 0 = .ok (.aload_n 0, 1) := by decide +kernel
theorem dX8_begin_1 : decode cX8_begin 1 = .ok (.iload_n 1, 1) := by decide +kernel
theorem dX8_begin_2 : decode cX8_begin 2 = .ok (.putfield 9, 3) := by decide +kernel
theorem dX8_begin_5 : decode cX8_begin 5 = .ok (.aload_n 0, 1) := by decide +kernel
theorem dX8_begin_6 : decode cX8_begin 6 = .ok (.iload_n 2, 1) := by decide +kernel
theorem dX8_begin_7 : decode cX8_begin 7 = .ok (.putfield 19, 3) := by decide +kernel
theorem dX8_begin_10 : decode cX8_begin 10 = .ok (.aload_n 0, 1) := by decide +kernel
theorem dX8_begin_11 : decode cX8_begin 11 = .ok (.getfield 15, 3) := by decide +kernel
theorem dX8_begin_14 : decode cX8_begin 14 = .ok (.lconst 0, 1) := by decide +kernel
theorem dX8_begin_15 : decode cX8_begin 15 = .ok (.invokestatic 22, 3) := by decide +kernel
theorem dX8_begin_18 : decode cX8_begin 18 = .ok (.return_, 1) := by decide +kernel
theorem dX8_asItem_0 : decode cX8_asItem 0 = .ok (.aload_n 0, 1) := by decide +kernel
theorem dX8_asItem_1 : decode cX8_asItem 1 = .ok (.getfield 9, 3) := by decide +kernel
theorem dX8_asItem_4 : decode cX8_asItem 4 = .ok (.tableswitch 62 0 4 #[36, 41, 46, 62, 50], 36) := by decide +kernel
theorem dX8_asItem_40 : decode cX8_asItem 40 = .ok (.lload_n 1, 1) := by decide +kernel
theorem dX8_asItem_41 : decode cX8_asItem 41 = .ok (.l2i, 1) := by decide +kernel
theorem dX8_asItem_42 : decode cX8_asItem 42 = .ok (.i2b, 1) := by decide +kernel
theorem dX8_asItem_43 : decode cX8_asItem 43 = .ok (.i2l, 1) := by decide +kernel
theorem dX8_asItem_44 : decode cX8_asItem 44 = .ok (.lreturn, 1) := by decide +kernel
theorem dX8_asItem_45 : decode cX8_asItem 45 = .ok (.lload_n 1, 1) := by decide +kernel
theorem dX8_asItem_46 : decode cX8_asItem 46 = .ok (.l2i, 1) := by decide +kernel
theorem dX8_asItem_47 : decode cX8_asItem 47 = .ok (.i2s, 1) := by decide +kernel
theorem dX8_asItem_48 : decode cX8_asItem 48 = .ok (.i2l, 1) := by decide +kernel
theorem dX8_asItem_49 : decode cX8_asItem 49 = .ok (.lreturn, 1) := by decide +kernel
theorem dX8_asItem_50 : decode cX8_asItem 50 = .ok (.lload_n 1, 1) := by decide +kernel
theorem dX8_asItem_51 : decode cX8_asItem 51 = .ok (.l2i, 1) := by decide +kernel
theorem dX8_asItem_52 : decode cX8_asItem 52 = .ok (.i2l, 1) := by decide +kernel
theorem dX8_asItem_53 : decode cX8_asItem 53 = .ok (.lreturn, 1) := by decide +kernel
theorem dX8_asItem_54 : decode cX8_asItem 54 = .ok (.lload_n 1, 1) := by decide +kernel
theorem dX8_asItem_55 : decode cX8_asItem 55 = .ok (.lconst 0, 1) := by decide +kernel
theorem dX8_asItem_56 : decode cX8_asItem 56 = .ok (.lcmp, 1) := by decide +kernel
theorem dX8_asItem_57 : decode cX8_asItem 57 = .ok (.ifCond .eq 7, 3) := by decide +kernel
theorem dX8_asItem_60 : decode cX8_asItem 60 = .ok (.lconst 1, 1) := by decide +kernel
theorem dX8_asItem_61 : decode cX8_asItem 61 = .ok (.goto 4, 3) := by decide +kernel
theorem dX8_asItem_64 : decode cX8_asItem 64 = .ok (.lconst 0, 1) := by decide +kernel
theorem dX8_asItem_65 : decode cX8_asItem 65 = .ok (.lreturn, 1) := by decide +kernel
theorem dX8_asItem_66 : decode cX8_asItem 66 = .ok (.lload_n 1, 1) := by decide +kernel
theorem dX8_asItem_67 : decode cX8_asItem 67 = .ok (.lreturn, 1) := by decide +kernel
theorem dX9_init_0 : decode cX9_init 0 = .ok (.aload_n 0, 1) := by decide +kernel
theorem dX9_init_1 : decode cX9_init 1 = .ok (.invokespecial 3, 3) := by decide +kernel
theorem dX9_init_4 : decode cX9_init 4 = .ok (.aload_n 0, 1) := by decide +kernel
theorem dX9_init_5 : decode cX9_init 5 = .ok (.iconst 4, 1) := by decide +kernel
theorem dX9_init_6 : decode cX9_init 6 = .ok (.newarray .int, 2) := by decide +kernel
theorem dX9_init_8 : decode cX9_init 8 = .ok (.putfield 9, 3) := by decide +kernel
theorem dX9_init_11 : decode cX9_init 11 = .ok (.return_, 1) := by decide +kernel
theorem dX9_begin_0 : decode cX9_begin 0 = .ok (.aload_n 0, 1) := by decide +kernel
theorem dX9_begin_1 : decode cX9_begin 1 = .ok (.iload_n 1, 1) := by decide +kernel
theorem dX9_begin_2 : decode cX9_begin 2 = .ok (.putfield 15, 3) := by decide +kernel
theorem dX9_begin_5 : decode cX9_begin 5 = .ok (.aload_n 0, 1) := by decide +kernel
theorem dX9_begin_6 : decode cX9_begin 6 = .ok (.iload_n 2, 1) := by decide +kernel
theorem dX9_begin_7 : decode cX9_begin 7 = .ok (.putfield 19, 3) := by decide +kernel
theorem dX9_begin_10 : decode cX9_begin 10 = .ok (.aload_n 0, 1) := by decide +kernel
theorem dX9_begin_11 : decode cX9_begin 11 = .ok (.iconst 0, 1) := by decide +kernel
theorem dX9_begin_12 : decode cX9_begin 12 = .ok (.putfield 22, 3) := by decide +kernel
theorem dX9_begin_15 : decode cX9_begin 15 = .ok (.aload_n 0, 1) := by decide +kernel
theorem dX9_begin_16 : decode cX9_begin 16 = .ok (.getfield 9, 3) := by decide +kernel
theorem dX9_begin_19 : decode cX9_begin 19 = .ok (.iconst 0, 1) := by decide +kernel
theorem dX9_begin_20 : decode cX9_begin 20 = .ok (.invokestatic 25, 3) := by decide +kernel
theorem dX9_begin_23 : decode cX9_begin 23 = .ok (.return_, 1) := by decide +kernel
theorem dX9_copyFrom_0 : decode cX9_copyFrom 0 = .ok (.aload_n 0, 1) := by decide +kernel
theorem dX9_copyFrom_1 : decode cX9_copyFrom 1 = .ok (.aload_n 1, 1) := by decide +kernel
theorem dX9_copyFrom_2 : decode cX9_copyFrom 2 = .ok (.getfield 15, 3) := by decide +kernel
theorem dX9_copyFrom_5 : decode cX9_copyFrom 5 = .ok (.putfield 15, 3) := by decide +kernel
theorem dX9_copyFrom_8 : decode cX9_copyFrom 8 = .ok (.aload_n 0, 1) := by decide +kernel
theorem dX9_copyFrom_9 : decode cX9_copyFrom 9 = .ok (.aload_n 1, 1) := by decide +kernel
theorem dX9_copyFrom_10 : decode cX9_copyFrom 10 = .ok (.getfield 19, 3) := by decide +kernel
theorem dX9_copyFrom_13 : decode cX9_copyFrom 13 = .ok (.putfield 19, 3) := by decide +kernel
theorem dX9_copyFrom_16 : decode cX9_copyFrom 16 = .ok (.aload_n 0, 1) := by decide +kernel
theorem dX9_copyFrom_17 : decode cX9_copyFrom 17 = .ok (.aload_n 1, 1) := by decide +kernel
theorem dX9_copyFrom_18 : decode cX9_copyFrom 18 = .ok (.getfield 22, 3) := by decide +kernel
theorem dX9_copyFrom_21 : decode cX9_copyFrom 21 = .ok (.putfield 22, 3) := by decide +kernel
theorem dX9_copyFrom_24 : decode cX9_copyFrom 24 = .ok (.aload_n 1, 1) := by decide +kernel
theorem dX9_copyFrom_25 : decode cX9_copyFrom 25 = .ok (.getfield 9, 3) := by decide +kernel
theorem dX9_copyFrom_28 : decode cX9_copyFrom 28 = .ok (.iconst 0, 1) := by decide +kernel
theorem dX9_copyFrom_29 : decode cX9_copyFrom 29 = .ok (.aload_n 0, 1) := by decide +kernel
theorem dX9_copyFrom_30 : decode cX9_copyFrom 30 = .ok (.getfield 9, 3) := by decide +kernel
theorem dX9_copyFrom_33 : decode cX9_copyFrom 33 = .ok (.iconst 0, 1) := by decide +kernel
theorem dX9_copyFrom_34 : decode cX9_copyFrom 34 = .ok (.iconst 4, 1) := by decide +kernel
theorem dX9_copyFrom_35 : decode cX9_copyFrom 35 = .ok (.invokestatic 31, 3) := by decide +kernel
theorem dX9_copyFrom_38 : decode cX9_copyFrom 38 = .ok (.return_, 1) := by decide +kernel
theorem dX10_init_0 : decode cX10_init 0 = .ok (.aload_n 0, 1) := by decide +kernel
theorem dX10_init_1 : decode cX10_init 1 = .ok (.invokespecial 3, 3) := by decide +kernel
theorem dX10_init_4 : decode cX10_init 4 = .ok (.aload_n 0, 1) := by decide +kernel
theorem dX10_init_5 : decode cX10_init 5 = .ok (.new 9, 3) := by decide +kernel
theorem dX10_init_8 : decode cX10_init 8 = .ok (.dup, 1) := by decide +kernel
theorem dX10_init_9 : decode cX10_init 9 = .ok (.invokespecial 11, 3) := by decide +kernel
theorem dX10_init_12 : decode cX10_init 12 = .ok (.putfield 12, 3) := by decide +kernel
theorem dX10_init_15 : decode cX10_init 15 = .ok (.aload_n 0, 1) := by decide +kernel
theorem dX10_init_16 : decode cX10_init 16 = .ok (.new 9, 3) := by decide +kernel
theorem dX10_init_19 : decode cX10_init 19 = .ok (.dup, 1) := by decide +kernel
theorem dX10_init_20 : decode cX10_init 20 = .ok (.invokespecial 11, 3) := by decide +kernel
theorem dX10_init_23 : decode cX10_init 23 = .ok (.putfield 18, 3) := by decide +kernel
theorem dX10_init_26 : decode cX10_init 26 = .ok (.aload_n 0, 1) := by decide +kernel
theorem dX10_init_27 : decode cX10_init 27 = .ok (.new 21, 3) := by decide +kernel
theorem dX10_init_30 : decode cX10_init 30 = .ok (.dup, 1) := by decide +kernel
theorem dX10_init_31 : decode cX10_init 31 = .ok (.invokespecial 23, 3) := by decide +kernel
theorem dX10_init_34 : decode cX10_init 34 = .ok (.putfield 24, 3) := by decide +kernel
theorem dX10_init_37 : decode cX10_init 37 = .ok (.aload_n 0, 1) := by decide +kernel
theorem dX10_init_38 : decode cX10_init 38 = .ok (.bipush 6, 2) := by decide +kernel
theorem dX10_init_40 : decode cX10_init 40 = .ok (.anewarray 28, 3) := by decide +kernel
theorem dX10_init_43 : decode cX10_init 43 = .ok (.putfield 30, 3) := by decide +kernel
theorem dX10_init_46 : decode cX10_init 46 = .ok (.aload_n 0, 1) := by decide +kernel
theorem dX10_init_47 : decode cX10_init 47 = .ok (.new 34, 3) := by decide +kernel
theorem dX10_init_50 : decode cX10_init 50 = .ok (.dup, 1) := by decide +kernel
theorem dX10_init_51 : decode cX10_init 51 = .ok (.invokespecial 36, 3) := by decide +kernel
theorem dX10_init_54 : decode cX10_init 54 = .ok (.putfield 37, 3) := by decide +kernel
theorem dX10_init_57 : decode cX10_init 57 = .ok (.aload_n 0, 1) := by decide +kernel
theorem dX10_init_58 : decode cX10_init 58 = .ok (.new 41, 3) := by decide +kernel
theorem dX10_init_61 : decode cX10_init 61 = .ok (.dup, 1) := by decide +kernel
theorem dX10_init_62 : decode cX10_init 62 = .ok (.invokespecial 43, 3) := by decide +kernel
theorem dX10_init_65 : decode cX10_init 65 = .ok (.putfield 44, 3) := by decide +kernel
theorem dX10_init_68 : decode cX10_init 68 = .ok (.aload_n 0, 1) := by decide +kernel
theorem dX10_init_69 : decode cX10_init 69 = .ok (.new 41, 3) := by decide +kernel
theorem dX10_init_72 : decode cX10_init 72 = .ok (.dup, 1) := by decide +kernel
theorem dX10_init_73 : decode cX10_init 73 = .ok (.invokespecial 43, 3) := by decide +kernel
theorem dX10_init_76 : decode cX10_init 76 = .ok (.putfield 48, 3) := by decide +kernel
theorem dX10_init_79 : decode cX10_init 79 = .ok (.aload_n 0, 1) := by decide +kernel
theorem dX10_init_80 : decode cX10_init 80 = .ok (.new 51, 3) := by decide +kernel
theorem dX10_init_83 : decode cX10_init 83 = .ok (.dup, 1) := by decide +kernel
theorem dX10_init_84 : decode cX10_init 84 = .ok (.invokespecial 53, 3) := by decide +kernel
theorem dX10_init_87 : decode cX10_init 87 = .ok (.putfield 54, 3) := by decide +kernel
theorem dX10_init_90 : decode cX10_init 90 = .ok (.aload_n 0, 1) := by decide +kernel
theorem dX10_init_91 : decode cX10_init 91 = .ok (.bipush 6, 2) := by decide +kernel
theorem dX10_init_93 : decode cX10_init 93 = .ok (.anewarray 58, 3) := by decide +kernel
theorem dX10_init_96 : decode cX10_init 96 = .ok (.putfield 60, 3) := by decide +kernel
theorem dX10_init_99 : decode cX10_init 99 = .ok (.iconst 0, 1) := by decide +kernel
theorem dX10_init_100 : decode cX10_init 100 = .ok (.istore_n 1, 1) := by decide +kernel
theorem dX10_init_101 : decode cX10_init 101 = .ok (.iload_n 1, 1) := by decide +kernel
theorem dX10_init_102 : decode cX10_init 102 = .ok (.bipush 6, 2) := by decide +kernel
theorem dX10_init_104 : decode cX10_init 104 = .ok (.if_icmp .ge 22, 3) := by decide +kernel
theorem dX10_init_107 : decode cX10_init 107 = .ok (.aload_n 0, 1) := by decide +kernel
theorem dX10_init_108 : decode cX10_init 108 = .ok (.getfield 60, 3) := by decide +kernel
theorem dX10_init_111 : decode cX10_init 111 = .ok (.iload_n 1, 1) := by decide +kernel
theorem dX10_init_112 : decode cX10_init 112 = .ok (.new 58, 3) := by decide +kernel
theorem dX10_init_115 : decode cX10_init 115 = .ok (.dup, 1) := by decide +kernel
theorem dX10_init_116 : decode cX10_init 116 = .ok (.invokespecial 64, 3) := by decide +kernel
theorem dX10_init_119 : decode cX10_init 119 = .ok (.aastore, 1) := by decide +kernel
theorem dX10_init_120 : decode cX10_init 120 = .ok (.iinc 1 1, 3) := by decide +kernel
theorem dX10_init_123 : decode cX10_init 123 = .ok (.goto (-22), 3) := by decide +kernel
theorem dX10_init_126 : decode cX10_init 126 = .ok (.return_, 1) := by decide +kernel
theorem dX10_isWithin_0 : decode cX10_isWithin 0 = .ok (.iload_n 0, 1) := by decide +kernel
theorem dX10_isWithin_1 : decode cX10_isWithin 1 = .ok (.iload_n 1, 1) := by decide +kernel
theorem dX10_isWithin_2 : decode cX10_isWithin 2 = .ok (.if_icmp .lt 12, 3) := by decide +kernel
theorem dX10_isWithin_5 : decode cX10_isWithin 5 = .ok (.iload_n 0, 1) := by decide +kernel
theorem dX10_isWithin_6 : decode cX10_isWithin 6 = .ok (.iload_n 2, 1) := by decide +kernel
theorem dX10_isWithin_7 : decode cX10_isWithin 7 = .ok (.if_icmp .gt 7, 3) := by decide +kernel
theorem dX10_isWithin_10 : decode cX10_isWithin 10 = .ok (.iconst 1, 1) := by decide +kernel
theorem dX10_isWithin_11 : decode cX10_isWithin 11 = .ok (.goto 4, 3) := by decide +kernel
theorem dX10_isWithin_14 : decode cX10_isWithin 14 = .ok (.iconst 0, 1) := by decide +kernel
theorem dX10_isWithin_15 : decode cX10_isWithin 15 = .ok (.ireturn, 1) := by decide +kernel
theorem dX10_isTray_0 : decode cX10_isTray 0 = .ok (.iload_n 1, 1) := by decide +kernel
theorem dX10_isTray_1 : decode cX10_isTray 1 = .ok (.iconst 0, 1) := by decide +kernel
theorem dX10_isTray_2 : decode cX10_isTray 2 = .ok (.aload_n 0, 1) := by decide +kernel
theorem dX10_isTray_3 : decode cX10_isTray 3 = .ok (.getfield 12, 3) := by decide +kernel
theorem dX10_isTray_6 : decode cX10_isTray 6 = .ok (.getfield 65, 3) := by decide +kernel
theorem dX10_isTray_9 : decode cX10_isTray 9 = .ok (.iconst 1, 1) := by decide +kernel
theorem dX10_isTray_10 : decode cX10_isTray 10 = .ok (.isub, 1) := by decide +kernel
theorem dX10_isTray_11 : decode cX10_isTray 11 = .ok (.invokestatic 69, 3) := by decide +kernel
theorem dX10_isTray_14 : decode cX10_isTray 14 = .ok (.ireturn, 1) := by decide +kernel
theorem dX10_isJob_0 : decode cX10_isJob 0 = .ok (.iload_n 1, 1) := by decide +kernel
theorem dX10_isJob_1 : decode cX10_isJob 1 = .ok (.iconst 0, 1) := by decide +kernel
theorem dX10_isJob_2 : decode cX10_isJob 2 = .ok (.aload_n 0, 1) := by decide +kernel
theorem dX10_isJob_3 : decode cX10_isJob 3 = .ok (.getfield 73, 3) := by decide +kernel
theorem dX10_isJob_6 : decode cX10_isJob 6 = .ok (.iconst 1, 1) := by decide +kernel
theorem dX10_isJob_7 : decode cX10_isJob 7 = .ok (.isub, 1) := by decide +kernel
theorem dX10_isJob_8 : decode cX10_isJob 8 = .ok (.invokestatic 69, 3) := by decide +kernel
theorem dX10_isJob_11 : decode cX10_isJob 11 = .ok (.ireturn, 1) := by decide +kernel
theorem dX10_isSheet_0 : decode cX10_isSheet 0 = .ok (.iload_n 1, 1) := by decide +kernel
theorem dX10_isSheet_1 : decode cX10_isSheet 1 = .ok (.iconst 0, 1) := by decide +kernel
theorem dX10_isSheet_2 : decode cX10_isSheet 2 = .ok (.aload_n 0, 1) := by decide +kernel
theorem dX10_isSheet_3 : decode cX10_isSheet 3 = .ok (.getfield 12, 3) := by decide +kernel
theorem dX10_isSheet_6 : decode cX10_isSheet 6 = .ok (.getfield 76, 3) := by decide +kernel
theorem dX10_isSheet_9 : decode cX10_isSheet 9 = .ok (.getfield 79, 3) := by decide +kernel
theorem dX10_isSheet_12 : decode cX10_isSheet 12 = .ok (.iconst 1, 1) := by decide +kernel
theorem dX10_isSheet_13 : decode cX10_isSheet 13 = .ok (.isub, 1) := by decide +kernel
theorem dX10_isSheet_14 : decode cX10_isSheet 14 = .ok (.invokestatic 69, 3) := by decide +kernel
theorem dX10_isSheet_17 : decode cX10_isSheet 17 = .ok (.ireturn, 1) := by decide +kernel
theorem dX10_isTape_0 : decode cX10_isTape 0 = .ok (.iload_n 0, 1) := by decide +kernel
theorem dX10_isTape_1 : decode cX10_isTape 1 = .ok (.iconst 0, 1) := by decide +kernel
theorem dX10_isTape_2 : decode cX10_isTape 2 = .ok (.iconst 5, 1) := by decide +kernel
theorem dX10_isTape_3 : decode cX10_isTape 3 = .ok (.invokestatic 69, 3) := by decide +kernel
theorem dX10_isTape_6 : decode cX10_isTape 6 = .ok (.ireturn, 1) := by decide +kernel
theorem dX10_isWay_0 : decode cX10_isWay 0 = .ok (.iload_n 0, 1) := by decide +kernel
theorem dX10_isWay_1 : decode cX10_isWay 1 = .ok (.iconst 0, 1) := by decide +kernel
theorem dX10_isWay_2 : decode cX10_isWay 2 = .ok (.iconst 3, 1) := by decide +kernel
theorem dX10_isWay_3 : decode cX10_isWay 3 = .ok (.invokestatic 69, 3) := by decide +kernel
theorem dX10_isWay_6 : decode cX10_isWay 6 = .ok (.ireturn, 1) := by decide +kernel
theorem dX10_isEither_0 : decode cX10_isEither 0 = .ok (.iload_n 0, 1) := by decide +kernel
theorem dX10_isEither_1 : decode cX10_isEither 1 = .ok (.iconst 0, 1) := by decide +kernel
theorem dX10_isEither_2 : decode cX10_isEither 2 = .ok (.iconst 1, 1) := by decide +kernel
theorem dX10_isEither_3 : decode cX10_isEither 3 = .ok (.invokestatic 69, 3) := by decide +kernel
theorem dX10_isEither_6 : decode cX10_isEither 6 = .ok (.ireturn, 1) := by decide +kernel
theorem dX10_isSide_0 : decode cX10_isSide 0 = .ok (.iload_n 0, 1) := by decide +kernel
theorem dX10_isSide_1 : decode cX10_isSide 1 = .ok (.iconst 0, 1) := by decide +kernel
theorem dX10_isSide_2 : decode cX10_isSide 2 = .ok (.bipush 11, 2) := by decide +kernel
theorem dX10_isSide_4 : decode cX10_isSide 4 = .ok (.invokestatic 69, 3) := by decide +kernel
theorem dX10_isSide_7 : decode cX10_isSide 7 = .ok (.ifCond .eq 30, 3) := by decide +kernel
theorem dX10_isSide_10 : decode cX10_isSide 10 = .ok (.iload_n 1, 1) := by decide +kernel
theorem dX10_isSide_11 : decode cX10_isSide 11 = .ok (.invokestatic 82, 3) := by decide +kernel
theorem dX10_isSide_14 : decode cX10_isSide 14 = .ok (.ifCond .eq 23, 3) := by decide +kernel
theorem dX10_isSide_17 : decode cX10_isSide 17 = .ok (.iload_n 2, 1) := by decide +kernel
theorem dX10_isSide_18 : decode cX10_isSide 18 = .ok (.iconst 0, 1) := by decide +kernel
theorem dX10_isSide_19 : decode cX10_isSide 19 = .ok (.bipush 60, 2) := by decide +kernel
theorem dX10_isSide_21 : decode cX10_isSide 21 = .ok (.invokestatic 69, 3) := by decide +kernel
theorem dX10_isSide_24 : decode cX10_isSide 24 = .ok (.ifCond .ne 9, 3) := by decide +kernel
theorem dX10_isSide_27 : decode cX10_isSide 27 = .ok (.iload_n 2, 1) := by decide +kernel
theorem dX10_isSide_28 : decode cX10_isSide 28 = .ok (.bipush 99, 2) := by decide +kernel
theorem dX10_isSide_30 : decode cX10_isSide 30 = .ok (.if_icmp .ne 7, 3) := by decide +kernel
theorem dX10_isSide_33 : decode cX10_isSide 33 = .ok (.iconst 1, 1) := by decide +kernel
theorem dX10_isSide_34 : decode cX10_isSide 34 = .ok (.goto 4, 3) := by decide +kernel
theorem dX10_isSide_37 : decode cX10_isSide 37 = .ok (.iconst 0, 1) := by decide +kernel
theorem dX10_isSide_38 : decode cX10_isSide 38 = .ok (.ireturn, 1) := by decide +kernel
theorem dX10_tray_0 : decode cX10_tray 0 = .ok (.iload_n 1, 1) := by decide +kernel
theorem dX10_tray_1 : decode cX10_tray 1 = .ok (.iconst 0, 1) := by decide +kernel
theorem dX10_tray_2 : decode cX10_tray 2 = .ok (.bipush 6, 2) := by decide +kernel
theorem dX10_tray_4 : decode cX10_tray 4 = .ok (.invokestatic 69, 3) := by decide +kernel
theorem dX10_tray_7 : decode cX10_tray 7 = .ok (.ifCond .ne 5, 3) := by decide +kernel
theorem dX10_tray_10 : decode cX10_tray 10 = .ok (.iconst (-1), 1) := by decide +kernel
theorem dX10_tray_11 : decode cX10_tray 11 = .ok (.ireturn, 1) := by decide +kernel
theorem dX10_tray_12 : decode cX10_tray 12 = .ok (.iload_n 2, 1) := by decide +kernel
theorem dX10_tray_13 : decode cX10_tray 13 = .ok (.iconst 0, 1) := by decide +kernel
theorem dX10_tray_14 : decode cX10_tray 14 = .ok (.bipush 9, 2) := by decide +kernel
theorem dX10_tray_16 : decode cX10_tray 16 = .ok (.invokestatic 69, 3) := by decide +kernel
theorem dX10_tray_19 : decode cX10_tray 19 = .ok (.ifCond .ne 6, 3) := by decide +kernel
theorem dX10_tray_22 : decode cX10_tray 22 = .ok (.bipush (-2), 2) := by decide +kernel
theorem dX10_tray_24 : decode cX10_tray 24 = .ok (.ireturn, 1) := by decide +kernel
theorem dX10_tray_25 : decode cX10_tray 25 = .ok (.aload_n 0, 1) := by decide +kernel
theorem dX10_tray_26 : decode cX10_tray 26 = .ok (.getfield 12, 3) := by decide +kernel
theorem dX10_tray_29 : decode cX10_tray 29 = .ok (.getfield 65, 3) := by decide +kernel
theorem dX10_tray_32 : decode cX10_tray 32 = .ok (.iconst 5, 1) := by decide +kernel
theorem dX10_tray_33 : decode cX10_tray 33 = .ok (.if_icmp .lt 6, 3) := by decide +kernel
theorem dX10_tray_36 : decode cX10_tray 36 = .ok (.bipush (-4), 2) := by decide +kernel
theorem dX10_tray_38 : decode cX10_tray 38 = .ok (.ireturn, 1) := by decide +kernel
theorem dX10_tray_39 : decode cX10_tray 39 = .ok (.aload_n 0, 1) := by decide +kernel
theorem dX10_tray_40 : decode cX10_tray 40 = .ok (.getfield 12, 3) := by decide +kernel
theorem dX10_tray_43 : decode cX10_tray 43 = .ok (.getfield 86, 3) := by decide +kernel
theorem dX10_tray_46 : decode cX10_tray 46 = .ok (.aload_n 0, 1) := by decide +kernel
theorem dX10_tray_47 : decode cX10_tray 47 = .ok (.getfield 12, 3) := by decide +kernel
theorem dX10_tray_50 : decode cX10_tray 50 = .ok (.getfield 65, 3) := by decide +kernel
theorem dX10_tray_53 : decode cX10_tray 53 = .ok (.aaload, 1) := by decide +kernel
theorem dX10_tray_54 : decode cX10_tray 54 = .ok (.iload_n 1, 1) := by decide +kernel
theorem dX10_tray_55 : decode cX10_tray 55 = .ok (.iload_n 2, 1) := by decide +kernel
theorem dX10_tray_56 : decode cX10_tray 56 = .ok (.invokevirtual 90, 3) := by decide +kernel
theorem dX10_tray_59 : decode cX10_tray 59 = .ok (.aload_n 0, 1) := by decide +kernel
theorem dX10_tray_60 : decode cX10_tray 60 = .ok (.getfield 12, 3) := by decide +kernel
theorem dX10_tray_63 : decode cX10_tray 63 = .ok (.dup, 1) := by decide +kernel
theorem dX10_tray_64 : decode cX10_tray 64 = .ok (.getfield 65, 3) := by decide +kernel
theorem dX10_tray_67 : decode cX10_tray 67 = .ok (.iconst 1, 1) := by decide +kernel
theorem dX10_tray_68 : decode cX10_tray 68 = .ok (.iadd, 1) := by decide +kernel
theorem dX10_tray_69 : decode cX10_tray 69 = .ok (.putfield 65, 3) := by decide +kernel
theorem dX10_tray_72 : decode cX10_tray 72 = .ok (.aload_n 0, 1) := by decide +kernel
theorem dX10_tray_73 : decode cX10_tray 73 = .ok (.getfield 12, 3) := by decide +kernel
theorem dX10_tray_76 : decode cX10_tray 76 = .ok (.getfield 65, 3) := by decide +kernel
theorem dX10_tray_79 : decode cX10_tray 79 = .ok (.iconst 1, 1) := by decide +kernel
theorem dX10_tray_80 : decode cX10_tray 80 = .ok (.isub, 1) := by decide +kernel
theorem dX10_tray_81 : decode cX10_tray 81 = .ok (.ireturn, 1) := by decide +kernel
theorem dX10_of_0 : decode cX10_of 0 = .ok (.aload_n 0, 1) := by decide +kernel
theorem dX10_of_1 : decode cX10_of 1 = .ok (.iload_n 1, 1) := by decide +kernel
theorem dX10_of_2 : decode cX10_of 2 = .ok (.invokevirtual 96, 3) := by decide +kernel
theorem dX10_of_5 : decode cX10_of 5 = .ok (.ifCond .ne 5, 3) := by decide +kernel
theorem dX10_of_8 : decode cX10_of 8 = .ok (.iconst (-1), 1) := by decide +kernel
theorem dX10_of_9 : decode cX10_of 9 = .ok (.ireturn, 1) := by decide +kernel
theorem dX10_of_10 : decode cX10_of 10 = .ok (.iload_n 2, 1) := by decide +kernel
theorem dX10_of_11 : decode cX10_of 11 = .ok (.tableswitch 64 0 2 #[25, 38, 51], 25) := by decide +kernel
theorem dX10_of_36 : decode cX10_of 36 = .ok (.aload_n 0, 1) := by decide +kernel
theorem dX10_of_37 : decode cX10_of 37 = .ok (.getfield 12, 3) := by decide +kernel
theorem dX10_of_40 : decode cX10_of 40 = .ok (.getfield 86, 3) := by decide +kernel
theorem dX10_of_43 : decode cX10_of 43 = .ok (.iload_n 1, 1) := by decide +kernel
theorem dX10_of_44 : decode cX10_of 44 = .ok (.aaload, 1) := by decide +kernel
theorem dX10_of_45 : decode cX10_of 45 = .ok (.getfield 99, 3) := by decide +kernel
theorem dX10_of_48 : decode cX10_of 48 = .ok (.ireturn, 1) := by decide +kernel
theorem dX10_of_49 : decode cX10_of 49 = .ok (.aload_n 0, 1) := by decide +kernel
theorem dX10_of_50 : decode cX10_of 50 = .ok (.getfield 12, 3) := by decide +kernel
theorem dX10_of_53 : decode cX10_of 53 = .ok (.getfield 86, 3) := by decide +kernel
theorem dX10_of_56 : decode cX10_of 56 = .ok (.iload_n 1, 1) := by decide +kernel
theorem dX10_of_57 : decode cX10_of 57 = .ok (.aaload, 1) := by decide +kernel
theorem dX10_of_58 : decode cX10_of 58 = .ok (.getfield 102, 3) := by decide +kernel
theorem dX10_of_61 : decode cX10_of 61 = .ok (.ireturn, 1) := by decide +kernel
theorem dX10_of_62 : decode cX10_of 62 = .ok (.aload_n 0, 1) := by decide +kernel
theorem dX10_of_63 : decode cX10_of 63 = .ok (.getfield 12, 3) := by decide +kernel
theorem dX10_of_66 : decode cX10_of 66 = .ok (.getfield 86, 3) := by decide +kernel
theorem dX10_of_69 : decode cX10_of 69 = .ok (.iload_n 1, 1) := by decide +kernel
theorem dX10_of_70 : decode cX10_of 70 = .ok (.aaload, 1) := by decide +kernel
theorem dX10_of_71 : decode cX10_of 71 = .ok (.getfield 105, 3) := by decide +kernel
theorem dX10_of_74 : decode cX10_of 74 = .ok (.ireturn, 1) := by decide +kernel
theorem dX10_of_75 : decode cX10_of 75 = .ok (.iconst (-1), 1) := by decide +kernel
theorem dX10_of_76 : decode cX10_of 76 = .ok (.ireturn, 1) := by decide +kernel
theorem dX10_row_0 : decode cX10_row 0 = .ok (.aload_n 0, 1) := by decide +kernel
theorem dX10_row_1 : decode cX10_row 1 = .ok (.iload_n 1, 1) := by decide +kernel
theorem dX10_row_2 : decode cX10_row 2 = .ok (.invokevirtual 96, 3) := by decide +kernel
theorem dX10_row_5 : decode cX10_row 5 = .ok (.ifCond .eq 12, 3) := by decide +kernel
theorem dX10_row_8 : decode cX10_row 8 = .ok (.iload_n 2, 1) := by decide +kernel
theorem dX10_row_9 : decode cX10_row 9 = .ok (.iconst 0, 1) := by decide +kernel
theorem dX10_row_10 : decode cX10_row 10 = .ok (.iconst 3, 1) := by decide +kernel
theorem dX10_row_11 : decode cX10_row 11 = .ok (.invokestatic 69, 3) := by decide +kernel
theorem dX10_row_14 : decode cX10_row 14 = .ok (.ifCond .ne 5, 3) := by decide +kernel
theorem dX10_row_17 : decode cX10_row 17 = .ok (.iconst (-1), 1) := by decide +kernel
theorem dX10_row_18 : decode cX10_row 18 = .ok (.ireturn, 1) := by decide +kernel
theorem dX10_row_19 : decode cX10_row 19 = .ok (.iload_n 3, 1) := by decide +kernel
theorem dX10_row_20 : decode cX10_row 20 = .ok (.iconst 0, 1) := by decide +kernel
theorem dX10_row_21 : decode cX10_row 21 = .ok (.bipush 9, 2) := by decide +kernel
theorem dX10_row_23 : decode cX10_row 23 = .ok (.invokestatic 69, 3) := by decide +kernel
theorem dX10_row_26 : decode cX10_row 26 = .ok (.ifCond .ne 6, 3) := by decide +kernel
theorem dX10_row_29 : decode cX10_row 29 = .ok (.bipush (-2), 2) := by decide +kernel
theorem dX10_row_31 : decode cX10_row 31 = .ok (.ireturn, 1) := by decide +kernel
theorem dX10_row_32 : decode cX10_row 32 = .ok (.aload_n 0, 1) := by decide +kernel
theorem dX10_row_33 : decode cX10_row 33 = .ok (.getfield 12, 3) := by decide +kernel
theorem dX10_row_36 : decode cX10_row 36 = .ok (.getfield 86, 3) := by decide +kernel
theorem dX10_row_39 : decode cX10_row 39 = .ok (.iload_n 1, 1) := by decide +kernel
theorem dX10_row_40 : decode cX10_row 40 = .ok (.aaload, 1) := by decide +kernel
theorem dX10_row_41 : decode cX10_row 41 = .ok (.getfield 99, 3) := by decide +kernel
theorem dX10_row_44 : decode cX10_row 44 = .ok (.bipush 6, 2) := by decide +kernel
theorem dX10_row_46 : decode cX10_row 46 = .ok (.if_icmp .eq 6, 3) := by decide +kernel
theorem dX10_row_49 : decode cX10_row 49 = .ok (.bipush (-3), 2) := by decide +kernel
theorem dX10_row_51 : decode cX10_row 51 = .ok (.ireturn, 1) := by decide +kernel
theorem dX10_row_52 : decode cX10_row 52 = .ok (.aload_n 0, 1) := by decide +kernel
theorem dX10_row_53 : decode cX10_row 53 = .ok (.getfield 12, 3) := by decide +kernel
theorem dX10_row_56 : decode cX10_row 56 = .ok (.getfield 86, 3) := by decide +kernel
theorem dX10_row_59 : decode cX10_row 59 = .ok (.iload_n 1, 1) := by decide +kernel
theorem dX10_row_60 : decode cX10_row 60 = .ok (.aaload, 1) := by decide +kernel
theorem dX10_row_61 : decode cX10_row 61 = .ok (.getfield 108, 3) := by decide +kernel
theorem dX10_row_64 : decode cX10_row 64 = .ok (.iload_n 2, 1) := by decide +kernel
theorem dX10_row_65 : decode cX10_row 65 = .ok (.iaload, 1) := by decide +kernel
theorem dX10_row_66 : decode cX10_row 66 = .ok (.istore 4, 2) := by decide +kernel
theorem dX10_row_68 : decode cX10_row 68 = .ok (.aload_n 0, 1) := by decide +kernel
theorem dX10_row_69 : decode cX10_row 69 = .ok (.getfield 12, 3) := by decide +kernel
theorem dX10_row_72 : decode cX10_row 72 = .ok (.getfield 86, 3) := by decide +kernel
theorem dX10_row_75 : decode cX10_row 75 = .ok (.iload_n 1, 1) := by decide +kernel
theorem dX10_row_76 : decode cX10_row 76 = .ok (.aaload, 1) := by decide +kernel
theorem dX10_row_77 : decode cX10_row 77 = .ok (.getfield 108, 3) := by decide +kernel
theorem dX10_row_80 : decode cX10_row 80 = .ok (.iload_n 2, 1) := by decide +kernel
theorem dX10_row_81 : decode cX10_row 81 = .ok (.iload_n 3, 1) := by decide +kernel
theorem dX10_row_82 : decode cX10_row 82 = .ok (.iastore, 1) := by decide +kernel
theorem dX10_row_83 : decode cX10_row 83 = .ok (.iload 4, 2) := by decide +kernel
theorem dX10_row_85 : decode cX10_row 85 = .ok (.ireturn, 1) := by decide +kernel
theorem dX10_feed_0 : decode cX10_feed 0 = .ok (.iload_n 1, 1) := by decide +kernel
theorem dX10_feed_1 : decode cX10_feed 1 = .ok (.iconst 0, 1) := by decide +kernel
theorem dX10_feed_2 : decode cX10_feed 2 = .ok (.bipush 127, 2) := by decide +kernel
theorem dX10_feed_4 : decode cX10_feed 4 = .ok (.invokestatic 69, 3) := by decide +kernel
theorem dX10_feed_7 : decode cX10_feed 7 = .ok (.ifCond .ne 6, 3) := by decide +kernel
theorem dX10_feed_10 : decode cX10_feed 10 = .ok (.bipush (-2), 2) := by decide +kernel
theorem dX10_feed_12 : decode cX10_feed 12 = .ok (.ireturn, 1) := by decide +kernel
theorem dX10_feed_13 : decode cX10_feed 13 = .ok (.aload_n 0, 1) := by decide +kernel
theorem dX10_feed_14 : decode cX10_feed 14 = .ok (.getfield 24, 3) := by decide +kernel
theorem dX10_feed_17 : decode cX10_feed 17 = .ok (.getfield 112, 3) := by decide +kernel
theorem dX10_feed_20 : decode cX10_feed 20 = .ok (.bipush 100, 2) := by decide +kernel
theorem dX10_feed_22 : decode cX10_feed 22 = .ok (.if_icmp .lt 6, 3) := by decide +kernel
theorem dX10_feed_25 : decode cX10_feed 25 = .ok (.bipush (-4), 2) := by decide +kernel
theorem dX10_feed_27 : decode cX10_feed 27 = .ok (.ireturn, 1) := by decide +kernel
theorem dX10_feed_28 : decode cX10_feed 28 = .ok (.aload_n 0, 1) := by decide +kernel
theorem dX10_feed_29 : decode cX10_feed 29 = .ok (.getfield 24, 3) := by decide +kernel
theorem dX10_feed_32 : decode cX10_feed 32 = .ok (.getfield 113, 3) := by decide +kernel
theorem dX10_feed_35 : decode cX10_feed 35 = .ok (.aload_n 0, 1) := by decide +kernel
theorem dX10_feed_36 : decode cX10_feed 36 = .ok (.getfield 24, 3) := by decide +kernel
theorem dX10_feed_39 : decode cX10_feed 39 = .ok (.getfield 112, 3) := by decide +kernel
theorem dX10_feed_42 : decode cX10_feed 42 = .ok (.iload_n 1, 1) := by decide +kernel
theorem dX10_feed_43 : decode cX10_feed 43 = .ok (.iastore, 1) := by decide +kernel
theorem dX10_feed_44 : decode cX10_feed 44 = .ok (.aload_n 0, 1) := by decide +kernel
theorem dX10_feed_45 : decode cX10_feed 45 = .ok (.getfield 24, 3) := by decide +kernel
theorem dX10_feed_48 : decode cX10_feed 48 = .ok (.dup, 1) := by decide +kernel
theorem dX10_feed_49 : decode cX10_feed 49 = .ok (.getfield 112, 3) := by decide +kernel
theorem dX10_feed_52 : decode cX10_feed 52 = .ok (.iconst 1, 1) := by decide +kernel
theorem dX10_feed_53 : decode cX10_feed 53 = .ok (.iadd, 1) := by decide +kernel
theorem dX10_feed_54 : decode cX10_feed 54 = .ok (.putfield 112, 3) := by decide +kernel
theorem dX10_feed_57 : decode cX10_feed 57 = .ok (.aload_n 0, 1) := by decide +kernel
theorem dX10_feed_58 : decode cX10_feed 58 = .ok (.getfield 24, 3) := by decide +kernel
theorem dX10_feed_61 : decode cX10_feed 61 = .ok (.getfield 112, 3) := by decide +kernel
theorem dX10_feed_64 : decode cX10_feed 64 = .ok (.ireturn, 1) := by decide +kernel
theorem dX10_job_0 : decode cX10_job 0 = .ok (.aload_n 0, 1) := by decide +kernel
theorem dX10_job_1 : decode cX10_job 1 = .ok (.getfield 73, 3) := by decide +kernel
theorem dX10_job_4 : decode cX10_job 4 = .ok (.bipush 6, 2) := by decide +kernel
theorem dX10_job_6 : decode cX10_job 6 = .ok (.if_icmp .lt 6, 3) := by decide +kernel
theorem dX10_job_9 : decode cX10_job 9 = .ok (.bipush (-4), 2) := by decide +kernel
theorem dX10_job_11 : decode cX10_job 11 = .ok (.ireturn, 1) := by decide +kernel
theorem dX10_job_12 : decode cX10_job 12 = .ok (.aload_n 0, 1) := by decide +kernel
theorem dX10_job_13 : decode cX10_job 13 = .ok (.getfield 24, 3) := by decide +kernel
theorem dX10_job_16 : decode cX10_job 16 = .ok (.invokevirtual 116, 3) := by decide +kernel
theorem dX10_job_19 : decode cX10_job 19 = .ok (.ifCond .eq 37, 3) := by decide +kernel
theorem dX10_job_22 : decode cX10_job 22 = .ok (.aload_n 0, 1) := by decide +kernel
theorem dX10_job_23 : decode cX10_job 23 = .ok (.getfield 30, 3) := by decide +kernel
theorem dX10_job_26 : decode cX10_job 26 = .ok (.aload_n 0, 1) := by decide +kernel
theorem dX10_job_27 : decode cX10_job 27 = .ok (.getfield 73, 3) := by decide +kernel
theorem dX10_job_30 : decode cX10_job 30 = .ok (.aload_n 0, 1) := by decide +kernel
theorem dX10_job_31 : decode cX10_job 31 = .ok (.getfield 24, 3) := by decide +kernel
theorem dX10_job_34 : decode cX10_job 34 = .ok (.invokevirtual 120, 3) := by decide +kernel
theorem dX10_job_37 : decode cX10_job 37 = .ok (.aastore, 1) := by decide +kernel
theorem dX10_job_38 : decode cX10_job 38 = .ok (.aload_n 0, 1) := by decide +kernel
theorem dX10_job_39 : decode cX10_job 39 = .ok (.getfield 73, 3) := by decide +kernel
theorem dX10_job_42 : decode cX10_job 42 = .ok (.istore_n 1, 1) := by decide +kernel
theorem dX10_job_43 : decode cX10_job 43 = .ok (.aload_n 0, 1) := by decide +kernel
theorem dX10_job_44 : decode cX10_job 44 = .ok (.dup, 1) := by decide +kernel
theorem dX10_job_45 : decode cX10_job 45 = .ok (.getfield 73, 3) := by decide +kernel
theorem dX10_job_48 : decode cX10_job 48 = .ok (.iconst 1, 1) := by decide +kernel
theorem dX10_job_49 : decode cX10_job 49 = .ok (.iadd, 1) := by decide +kernel
theorem dX10_job_50 : decode cX10_job 50 = .ok (.putfield 73, 3) := by decide +kernel
theorem dX10_job_53 : decode cX10_job 53 = .ok (.goto 14, 3) := by decide +kernel
theorem dX10_job_56 : decode cX10_job 56 = .ok (.bipush (-10), 2) := by decide +kernel
theorem dX10_job_58 : decode cX10_job 58 = .ok (.aload_n 0, 1) := by decide +kernel
theorem dX10_job_59 : decode cX10_job 59 = .ok (.getfield 24, 3) := by decide +kernel
theorem dX10_job_62 : decode cX10_job 62 = .ok (.invokevirtual 124, 3) := by decide +kernel
theorem dX10_job_65 : decode cX10_job 65 = .ok (.isub, 1) := by decide +kernel
theorem dX10_job_66 : decode cX10_job 66 = .ok (.istore_n 1, 1) := by decide +kernel
theorem dX10_job_67 : decode cX10_job 67 = .ok (.aload_n 0, 1) := by decide +kernel
theorem dX10_job_68 : decode cX10_job 68 = .ok (.getfield 24, 3) := by decide +kernel
theorem dX10_job_71 : decode cX10_job 71 = .ok (.iconst 0, 1) := by decide +kernel
theorem dX10_job_72 : decode cX10_job 72 = .ok (.putfield 112, 3) := by decide +kernel
theorem dX10_job_75 : decode cX10_job 75 = .ok (.iload_n 1, 1) := by decide +kernel
theorem dX10_job_76 : decode cX10_job 76 = .ok (.ireturn, 1) := by decide +kernel
theorem dX10_load_0 : decode cX10_load 0 = .ok (.iload_n 1, 1) := by decide +kernel
theorem dX10_load_1 : decode cX10_load 1 = .ok (.iconst 1, 1) := by decide +kernel
theorem dX10_load_2 : decode cX10_load 2 = .ok (.bipush 12, 2) := by decide +kernel
theorem dX10_load_4 : decode cX10_load 4 = .ok (.invokestatic 69, 3) := by decide +kernel
theorem dX10_load_7 : decode cX10_load 7 = .ok (.ifCond .ne 6, 3) := by decide +kernel
theorem dX10_load_10 : decode cX10_load 10 = .ok (.bipush (-2), 2) := by decide +kernel
theorem dX10_load_12 : decode cX10_load 12 = .ok (.ireturn, 1) := by decide +kernel
theorem dX10_load_13 : decode cX10_load 13 = .ok (.iload_n 1, 1) := by decide +kernel
theorem dX10_load_14 : decode cX10_load 14 = .ok (.bipush 12, 2) := by decide +kernel
theorem dX10_load_16 : decode cX10_load 16 = .ok (.aload_n 0, 1) := by decide +kernel
theorem dX10_load_17 : decode cX10_load 17 = .ok (.getfield 12, 3) := by decide +kernel
theorem dX10_load_20 : decode cX10_load 20 = .ok (.getfield 76, 3) := by decide +kernel
theorem dX10_load_23 : decode cX10_load 23 = .ok (.getfield 79, 3) := by decide +kernel
theorem dX10_load_26 : decode cX10_load 26 = .ok (.isub, 1) := by decide +kernel
theorem dX10_load_27 : decode cX10_load 27 = .ok (.if_icmp .le 6, 3) := by decide +kernel
theorem dX10_load_30 : decode cX10_load 30 = .ok (.bipush (-4), 2) := by decide +kernel
theorem dX10_load_32 : decode cX10_load 32 = .ok (.ireturn, 1) := by decide +kernel
theorem dX10_load_33 : decode cX10_load 33 = .ok (.aload_n 0, 1) := by decide +kernel
theorem dX10_load_34 : decode cX10_load 34 = .ok (.getfield 12, 3) := by decide +kernel
theorem dX10_load_37 : decode cX10_load 37 = .ok (.getfield 76, 3) := by decide +kernel
theorem dX10_load_40 : decode cX10_load 40 = .ok (.iload_n 1, 1) := by decide +kernel
theorem dX10_load_41 : decode cX10_load 41 = .ok (.invokevirtual 128, 3) := by decide +kernel
theorem dX10_load_44 : decode cX10_load 44 = .ok (.aload_n 0, 1) := by decide +kernel
theorem dX10_load_45 : decode cX10_load 45 = .ok (.getfield 12, 3) := by decide +kernel
theorem dX10_load_48 : decode cX10_load 48 = .ok (.getfield 76, 3) := by decide +kernel
theorem dX10_load_51 : decode cX10_load 51 = .ok (.getfield 79, 3) := by decide +kernel
theorem dX10_load_54 : decode cX10_load 54 = .ok (.ireturn, 1) := by decide +kernel
theorem dX10_empty_0 : decode cX10_empty 0 = .ok (.aload_n 0, 1) := by decide +kernel
theorem dX10_empty_1 : decode cX10_empty 1 = .ok (.getfield 12, 3) := by decide +kernel
theorem dX10_empty_4 : decode cX10_empty 4 = .ok (.getfield 76, 3) := by decide +kernel
theorem dX10_empty_7 : decode cX10_empty 7 = .ok (.getfield 79, 3) := by decide +kernel
theorem dX10_empty_10 : decode cX10_empty 10 = .ok (.istore_n 1, 1) := by decide +kernel
theorem dX10_empty_11 : decode cX10_empty 11 = .ok (.aload_n 0, 1) := by decide +kernel
theorem dX10_empty_12 : decode cX10_empty 12 = .ok (.getfield 12, 3) := by decide +kernel
theorem dX10_empty_15 : decode cX10_empty 15 = .ok (.getfield 76, 3) := by decide +kernel
theorem dX10_empty_18 : decode cX10_empty 18 = .ok (.iconst 0, 1) := by decide +kernel
theorem dX10_empty_19 : decode cX10_empty 19 = .ok (.putfield 79, 3) := by decide +kernel
theorem dX10_empty_22 : decode cX10_empty 22 = .ok (.iload_n 1, 1) := by decide +kernel
theorem dX10_empty_23 : decode cX10_empty 23 = .ok (.ireturn, 1) := by decide +kernel
theorem dX10_turn_0 : decode cX10_turn 0 = .ok (.iload_n 1, 1) := by decide +kernel
theorem dX10_turn_1 : decode cX10_turn 1 = .ok (.invokestatic 132, 3) := by decide +kernel
theorem dX10_turn_4 : decode cX10_turn 4 = .ok (.ifCond .ne 5, 3) := by decide +kernel
theorem dX10_turn_7 : decode cX10_turn 7 = .ok (.iconst (-1), 1) := by decide +kernel
theorem dX10_turn_8 : decode cX10_turn 8 = .ok (.ireturn, 1) := by decide +kernel
theorem dX10_turn_9 : decode cX10_turn 9 = .ok (.aload_n 0, 1) := by decide +kernel
theorem dX10_turn_10 : decode cX10_turn 10 = .ok (.getfield 12, 3) := by decide +kernel
theorem dX10_turn_13 : decode cX10_turn 13 = .ok (.getfield 76, 3) := by decide +kernel
theorem dX10_turn_16 : decode cX10_turn 16 = .ok (.iload_n 1, 1) := by decide +kernel
theorem dX10_turn_17 : decode cX10_turn 17 = .ok (.invokevirtual 135, 3) := by decide +kernel
theorem dX10_turn_20 : decode cX10_turn 20 = .ok (.aload_n 0, 1) := by decide +kernel
theorem dX10_turn_21 : decode cX10_turn 21 = .ok (.getfield 12, 3) := by decide +kernel
theorem dX10_turn_24 : decode cX10_turn 24 = .ok (.getfield 76, 3) := by decide +kernel
theorem dX10_turn_27 : decode cX10_turn 27 = .ok (.invokevirtual 138, 3) := by decide +kernel
theorem dX10_turn_30 : decode cX10_turn 30 = .ok (.ireturn, 1) := by decide +kernel
theorem dX10_sheet_0 : decode cX10_sheet 0 = .ok (.aload_n 0, 1) := by decide +kernel
theorem dX10_sheet_1 : decode cX10_sheet 1 = .ok (.iload_n 1, 1) := by decide +kernel
theorem dX10_sheet_2 : decode cX10_sheet 2 = .ok (.invokevirtual 141, 3) := by decide +kernel
theorem dX10_sheet_5 : decode cX10_sheet 5 = .ok (.ifCond .ne 5, 3) := by decide +kernel
theorem dX10_sheet_8 : decode cX10_sheet 8 = .ok (.iconst (-1), 1) := by decide +kernel
theorem dX10_sheet_9 : decode cX10_sheet 9 = .ok (.ireturn, 1) := by decide +kernel
theorem dX10_sheet_10 : decode cX10_sheet 10 = .ok (.iload_n 2, 1) := by decide +kernel
theorem dX10_sheet_11 : decode cX10_sheet 11 = .ok (.tableswitch 89 0 4 #[33, 33, 46, 46, 69], 33) := by decide +kernel
theorem dX10_sheet_44 : decode cX10_sheet 44 = .ok (.aload_n 0, 1) := by decide +kernel
theorem dX10_sheet_45 : decode cX10_sheet 45 = .ok (.getfield 12, 3) := by decide +kernel
theorem dX10_sheet_48 : decode cX10_sheet 48 = .ok (.getfield 76, 3) := by decide +kernel
theorem dX10_sheet_51 : decode cX10_sheet 51 = .ok (.iload_n 1, 1) := by decide +kernel
theorem dX10_sheet_52 : decode cX10_sheet 52 = .ok (.iload_n 2, 1) := by decide +kernel
theorem dX10_sheet_53 : decode cX10_sheet 53 = .ok (.invokevirtual 144, 3) := by decide +kernel
theorem dX10_sheet_56 : decode cX10_sheet 56 = .ok (.ireturn, 1) := by decide +kernel
theorem dX10_sheet_57 : decode cX10_sheet 57 = .ok (.aload_n 0, 1) := by decide +kernel
theorem dX10_sheet_58 : decode cX10_sheet 58 = .ok (.getfield 12, 3) := by decide +kernel
theorem dX10_sheet_61 : decode cX10_sheet 61 = .ok (.getfield 76, 3) := by decide +kernel
theorem dX10_sheet_64 : decode cX10_sheet 64 = .ok (.iload_n 1, 1) := by decide +kernel
theorem dX10_sheet_65 : decode cX10_sheet 65 = .ok (.iload_n 2, 1) := by decide +kernel
theorem dX10_sheet_66 : decode cX10_sheet 66 = .ok (.iconst 2, 1) := by decide +kernel
theorem dX10_sheet_67 : decode cX10_sheet 67 = .ok (.isub, 1) := by decide +kernel
theorem dX10_sheet_68 : decode cX10_sheet 68 = .ok (.invokevirtual 148, 3) := by decide +kernel
theorem dX10_sheet_71 : decode cX10_sheet 71 = .ok (.ifCond .eq 7, 3) := by decide +kernel
theorem dX10_sheet_74 : decode cX10_sheet 74 = .ok (.iconst 1, 1) := by decide +kernel
theorem dX10_sheet_75 : decode cX10_sheet 75 = .ok (.goto 4, 3) := by decide +kernel
theorem dX10_sheet_78 : decode cX10_sheet 78 = .ok (.iconst 0, 1) := by decide +kernel
theorem dX10_sheet_79 : decode cX10_sheet 79 = .ok (.ireturn, 1) := by decide +kernel
theorem dX10_sheet_80 : decode cX10_sheet 80 = .ok (.aload_n 0, 1) := by decide +kernel
theorem dX10_sheet_81 : decode cX10_sheet 81 = .ok (.getfield 12, 3) := by decide +kernel
theorem dX10_sheet_84 : decode cX10_sheet 84 = .ok (.getfield 76, 3) := by decide +kernel
theorem dX10_sheet_87 : decode cX10_sheet 87 = .ok (.iload_n 1, 1) := by decide +kernel
theorem dX10_sheet_88 : decode cX10_sheet 88 = .ok (.invokevirtual 152, 3) := by decide +kernel
theorem dX10_sheet_91 : decode cX10_sheet 91 = .ok (.ifCond .eq 7, 3) := by decide +kernel
theorem dX10_sheet_94 : decode cX10_sheet 94 = .ok (.iconst 1, 1) := by decide +kernel
theorem dX10_sheet_95 : decode cX10_sheet 95 = .ok (.goto 4, 3) := by decide +kernel
theorem dX10_sheet_98 : decode cX10_sheet 98 = .ok (.iconst 0, 1) := by decide +kernel
theorem dX10_sheet_99 : decode cX10_sheet 99 = .ok (.ireturn, 1) := by decide +kernel
theorem dX10_sheet_100 : decode cX10_sheet 100 = .ok (.iconst (-1), 1) := by decide +kernel
theorem dX10_sheet_101 : decode cX10_sheet 101 = .ok (.ireturn, 1) := by decide +kernel
theorem dX10_told_0 : decode cX10_told 0 = .ok (.iload_n 1, 1) := by decide +kernel
theorem dX10_told_1 : decode cX10_told 1 = .ok (.tableswitch 78 0 3 #[31, 42, 55, 67], 31) := by decide +kernel
theorem dX10_told_32 : decode cX10_told 32 = .ok (.aload_n 0, 1) := by decide +kernel
theorem dX10_told_33 : decode cX10_told 33 = .ok (.getfield 12, 3) := by decide +kernel
theorem dX10_told_36 : decode cX10_told 36 = .ok (.getfield 76, 3) := by decide +kernel
theorem dX10_told_39 : decode cX10_told 39 = .ok (.invokevirtual 138, 3) := by decide +kernel
theorem dX10_told_42 : decode cX10_told 42 = .ok (.ireturn, 1) := by decide +kernel
theorem dX10_told_43 : decode cX10_told 43 = .ok (.aload_n 0, 1) := by decide +kernel
theorem dX10_told_44 : decode cX10_told 44 = .ok (.getfield 12, 3) := by decide +kernel
theorem dX10_told_47 : decode cX10_told 47 = .ok (.getfield 76, 3) := by decide +kernel
theorem dX10_told_50 : decode cX10_told 50 = .ok (.bipush 99, 2) := by decide +kernel
theorem dX10_told_52 : decode cX10_told 52 = .ok (.invokevirtual 155, 3) := by decide +kernel
theorem dX10_told_55 : decode cX10_told 55 = .ok (.ireturn, 1) := by decide +kernel
theorem dX10_told_56 : decode cX10_told 56 = .ok (.aload_n 0, 1) := by decide +kernel
theorem dX10_told_57 : decode cX10_told 57 = .ok (.getfield 12, 3) := by decide +kernel
theorem dX10_told_60 : decode cX10_told 60 = .ok (.getfield 76, 3) := by decide +kernel
theorem dX10_told_63 : decode cX10_told 63 = .ok (.iconst 0, 1) := by decide +kernel
theorem dX10_told_64 : decode cX10_told 64 = .ok (.invokevirtual 155, 3) := by decide +kernel
theorem dX10_told_67 : decode cX10_told 67 = .ok (.ireturn, 1) := by decide +kernel
theorem dX10_told_68 : decode cX10_told 68 = .ok (.aload_n 0, 1) := by decide +kernel
theorem dX10_told_69 : decode cX10_told 69 = .ok (.getfield 12, 3) := by decide +kernel
theorem dX10_told_72 : decode cX10_told 72 = .ok (.getfield 76, 3) := by decide +kernel
theorem dX10_told_75 : decode cX10_told 75 = .ok (.invokevirtual 159, 3) := by decide +kernel
theorem dX10_told_78 : decode cX10_told 78 = .ok (.ireturn, 1) := by decide +kernel
theorem dX10_told_79 : decode cX10_told 79 = .ok (.iconst (-1), 1) := by decide +kernel
theorem dX10_told_80 : decode cX10_told 80 = .ok (.ireturn, 1) := by decide +kernel
theorem dX10_jobs_0 : decode cX10_jobs 0 = .ok (.aload_n 0, 1) := by decide +kernel
theorem dX10_jobs_1 : decode cX10_jobs 1 = .ok (.iload_n 1, 1) := by decide +kernel
theorem dX10_jobs_2 : decode cX10_jobs 2 = .ok (.invokevirtual 162, 3) := by decide +kernel
theorem dX10_jobs_5 : decode cX10_jobs 5 = .ok (.ifCond .eq 10, 3) := by decide +kernel
theorem dX10_jobs_8 : decode cX10_jobs 8 = .ok (.iload_n 2, 1) := by decide +kernel
theorem dX10_jobs_9 : decode cX10_jobs 9 = .ok (.invokestatic 82, 3) := by decide +kernel
theorem dX10_jobs_12 : decode cX10_jobs 12 = .ok (.ifCond .ne 5, 3) := by decide +kernel
theorem dX10_jobs_15 : decode cX10_jobs 15 = .ok (.iconst (-1), 1) := by decide +kernel
theorem dX10_jobs_16 : decode cX10_jobs 16 = .ok (.ireturn, 1) := by decide +kernel
theorem dX10_jobs_17 : decode cX10_jobs 17 = .ok (.iload_n 2, 1) := by decide +kernel
theorem dX10_jobs_18 : decode cX10_jobs 18 = .ok (.ifCond .ne 15, 3) := by decide +kernel
theorem dX10_jobs_21 : decode cX10_jobs 21 = .ok (.aload_n 0, 1) := by decide +kernel
theorem dX10_jobs_22 : decode cX10_jobs 22 = .ok (.getfield 30, 3) := by decide +kernel
theorem dX10_jobs_25 : decode cX10_jobs 25 = .ok (.iload_n 1, 1) := by decide +kernel
theorem dX10_jobs_26 : decode cX10_jobs 26 = .ok (.aaload, 1) := by decide +kernel
theorem dX10_jobs_27 : decode cX10_jobs 27 = .ok (.getfield 165, 3) := by decide +kernel
theorem dX10_jobs_30 : decode cX10_jobs 30 = .ok (.goto 12, 3) := by decide +kernel
theorem dX10_jobs_33 : decode cX10_jobs 33 = .ok (.aload_n 0, 1) := by decide +kernel
theorem dX10_jobs_34 : decode cX10_jobs 34 = .ok (.getfield 30, 3) := by decide +kernel
theorem dX10_jobs_37 : decode cX10_jobs 37 = .ok (.iload_n 1, 1) := by decide +kernel
theorem dX10_jobs_38 : decode cX10_jobs 38 = .ok (.aaload, 1) := by decide +kernel
theorem dX10_jobs_39 : decode cX10_jobs 39 = .ok (.getfield 168, 3) := by decide +kernel
theorem dX10_jobs_42 : decode cX10_jobs 42 = .ok (.ireturn, 1) := by decide +kernel
theorem dX10_run_0 : decode cX10_run 0 = .ok (.aload_n 0, 1) := by decide +kernel
theorem dX10_run_1 : decode cX10_run 1 = .ok (.iload_n 1, 1) := by decide +kernel
theorem dX10_run_2 : decode cX10_run 2 = .ok (.invokevirtual 96, 3) := by decide +kernel
theorem dX10_run_5 : decode cX10_run 5 = .ok (.ifCond .eq 11, 3) := by decide +kernel
theorem dX10_run_8 : decode cX10_run 8 = .ok (.aload_n 0, 1) := by decide +kernel
theorem dX10_run_9 : decode cX10_run 9 = .ok (.iload_n 2, 1) := by decide +kernel
theorem dX10_run_10 : decode cX10_run 10 = .ok (.invokevirtual 162, 3) := by decide +kernel
theorem dX10_run_13 : decode cX10_run 13 = .ok (.ifCond .ne 5, 3) := by decide +kernel
theorem dX10_run_16 : decode cX10_run 16 = .ok (.iconst (-1), 1) := by decide +kernel
theorem dX10_run_17 : decode cX10_run 17 = .ok (.ireturn, 1) := by decide +kernel
theorem dX10_run_18 : decode cX10_run 18 = .ok (.aload_n 0, 1) := by decide +kernel
theorem dX10_run_19 : decode cX10_run 19 = .ok (.getfield 12, 3) := by decide +kernel
theorem dX10_run_22 : decode cX10_run 22 = .ok (.getfield 86, 3) := by decide +kernel
theorem dX10_run_25 : decode cX10_run 25 = .ok (.iload_n 1, 1) := by decide +kernel
theorem dX10_run_26 : decode cX10_run 26 = .ok (.aaload, 1) := by decide +kernel
theorem dX10_run_27 : decode cX10_run 27 = .ok (.astore_n 3, 1) := by decide +kernel
theorem dX10_run_28 : decode cX10_run 28 = .ok (.aload_n 3, 1) := by decide +kernel
theorem dX10_run_29 : decode cX10_run 29 = .ok (.getfield 105, 3) := by decide +kernel
theorem dX10_run_32 : decode cX10_run 32 = .ok (.sipush 9999, 3) := by decide +kernel
theorem dX10_run_35 : decode cX10_run 35 = .ok (.if_icmp .lt 6, 3) := by decide +kernel
theorem dX10_run_38 : decode cX10_run 38 = .ok (.bipush (-3), 2) := by decide +kernel
theorem dX10_run_40 : decode cX10_run 40 = .ok (.ireturn, 1) := by decide +kernel
theorem dX10_run_41 : decode cX10_run 41 = .ok (.aload_n 0, 1) := by decide +kernel
theorem dX10_run_42 : decode cX10_run 42 = .ok (.getfield 37, 3) := by decide +kernel
theorem dX10_run_45 : decode cX10_run 45 = .ok (.aload_n 0, 1) := by decide +kernel
theorem dX10_run_46 : decode cX10_run 46 = .ok (.getfield 12, 3) := by decide +kernel
theorem dX10_run_49 : decode cX10_run 49 = .ok (.getfield 76, 3) := by decide +kernel
theorem dX10_run_52 : decode cX10_run 52 = .ok (.aload_n 3, 1) := by decide +kernel
theorem dX10_run_53 : decode cX10_run 53 = .ok (.aload_n 3, 1) := by decide +kernel
theorem dX10_run_54 : decode cX10_run 54 = .ok (.getfield 102, 3) := by decide +kernel
theorem dX10_run_57 : decode cX10_run 57 = .ok (.aload_n 0, 1) := by decide +kernel
theorem dX10_run_58 : decode cX10_run 58 = .ok (.getfield 30, 3) := by decide +kernel
theorem dX10_run_61 : decode cX10_run 61 = .ok (.iload_n 2, 1) := by decide +kernel
theorem dX10_run_62 : decode cX10_run 62 = .ok (.aaload, 1) := by decide +kernel
theorem dX10_run_63 : decode cX10_run 63 = .ok (.invokevirtual 171, 3) := by decide +kernel
theorem dX10_run_66 : decode cX10_run 66 = .ok (.aload_n 3, 1) := by decide +kernel
theorem dX10_run_67 : decode cX10_run 67 = .ok (.dup, 1) := by decide +kernel
theorem dX10_run_68 : decode cX10_run 68 = .ok (.getfield 105, 3) := by decide +kernel
theorem dX10_run_71 : decode cX10_run 71 = .ok (.iconst 1, 1) := by decide +kernel
theorem dX10_run_72 : decode cX10_run 72 = .ok (.iadd, 1) := by decide +kernel
theorem dX10_run_73 : decode cX10_run 73 = .ok (.putfield 105, 3) := by decide +kernel
theorem dX10_run_76 : decode cX10_run 76 = .ok (.aload_n 0, 1) := by decide +kernel
theorem dX10_run_77 : decode cX10_run 77 = .ok (.getfield 37, 3) := by decide +kernel
theorem dX10_run_80 : decode cX10_run 80 = .ok (.getfield 175, 3) := by decide +kernel
theorem dX10_run_83 : decode cX10_run 83 = .ok (.ireturn, 1) := by decide +kernel
theorem dX10_tryRun_0 : decode cX10_tryRun 0 = .ok (.aload_n 0, 1) := by decide +kernel
theorem dX10_tryRun_1 : decode cX10_tryRun 1 = .ok (.getfield 44, 3) := by decide +kernel
theorem dX10_tryRun_4 : decode cX10_tryRun 4 = .ok (.aload_n 0, 1) := by decide +kernel
theorem dX10_tryRun_5 : decode cX10_tryRun 5 = .ok (.getfield 12, 3) := by decide +kernel
theorem dX10_tryRun_8 : decode cX10_tryRun 8 = .ok (.getfield 76, 3) := by decide +kernel
theorem dX10_tryRun_11 : decode cX10_tryRun 11 = .ok (.invokevirtual 178, 3) := by decide +kernel
theorem dX10_tryRun_14 : decode cX10_tryRun 14 = .ok (.aload_n 0, 1) := by decide +kernel
theorem dX10_tryRun_15 : decode cX10_tryRun 15 = .ok (.getfield 37, 3) := by decide +kernel
theorem dX10_tryRun_18 : decode cX10_tryRun 18 = .ok (.aload_n 0, 1) := by decide +kernel
theorem dX10_tryRun_19 : decode cX10_tryRun 19 = .ok (.getfield 44, 3) := by decide +kernel
theorem dX10_tryRun_22 : decode cX10_tryRun 22 = .ok (.aload_n 0, 1) := by decide +kernel
theorem dX10_tryRun_23 : decode cX10_tryRun 23 = .ok (.getfield 12, 3) := by decide +kernel
theorem dX10_tryRun_26 : decode cX10_tryRun 26 = .ok (.getfield 86, 3) := by decide +kernel
theorem dX10_tryRun_29 : decode cX10_tryRun 29 = .ok (.iload_n 1, 1) := by decide +kernel
theorem dX10_tryRun_30 : decode cX10_tryRun 30 = .ok (.aaload, 1) := by decide +kernel
theorem dX10_tryRun_31 : decode cX10_tryRun 31 = .ok (.iload_n 2, 1) := by decide +kernel
theorem dX10_tryRun_32 : decode cX10_tryRun 32 = .ok (.aload_n 0, 1) := by decide +kernel
theorem dX10_tryRun_33 : decode cX10_tryRun 33 = .ok (.getfield 30, 3) := by decide +kernel
theorem dX10_tryRun_36 : decode cX10_tryRun 36 = .ok (.iload_n 3, 1) := by decide +kernel
theorem dX10_tryRun_37 : decode cX10_tryRun 37 = .ok (.aaload, 1) := by decide +kernel
theorem dX10_tryRun_38 : decode cX10_tryRun 38 = .ok (.invokevirtual 171, 3) := by decide +kernel
theorem dX10_tryRun_41 : decode cX10_tryRun 41 = .ok (.return_, 1) := by decide +kernel
theorem dX10_rightsAfter_0 : decode cX10_rightsAfter 0 = .ok (.aload_n 0, 1) := by decide +kernel
theorem dX10_rightsAfter_1 : decode cX10_rightsAfter 1 = .ok (.iload_n 1, 1) := by decide +kernel
theorem dX10_rightsAfter_2 : decode cX10_rightsAfter 2 = .ok (.aload_n 0, 1) := by decide +kernel
theorem dX10_rightsAfter_3 : decode cX10_rightsAfter 3 = .ok (.getfield 12, 3) := by decide +kernel
theorem dX10_rightsAfter_6 : decode cX10_rightsAfter 6 = .ok (.getfield 86, 3) := by decide +kernel
theorem dX10_rightsAfter_9 : decode cX10_rightsAfter 9 = .ok (.iload_n 1, 1) := by decide +kernel
theorem dX10_rightsAfter_10 : decode cX10_rightsAfter 10 = .ok (.aaload, 1) := by decide +kernel
theorem dX10_rightsAfter_11 : decode cX10_rightsAfter 11 = .ok (.getfield 102, 3) := by decide +kernel
theorem dX10_rightsAfter_14 : decode cX10_rightsAfter 14 = .ok (.iload_n 2, 1) := by decide +kernel
theorem dX10_rightsAfter_15 : decode cX10_rightsAfter 15 = .ok (.invokevirtual 182, 3) := by decide +kernel
theorem dX10_rightsAfter_18 : decode cX10_rightsAfter 18 = .ok (.aload_n 0, 1) := by decide +kernel
theorem dX10_rightsAfter_19 : decode cX10_rightsAfter 19 = .ok (.getfield 44, 3) := by decide +kernel
theorem dX10_rightsAfter_22 : decode cX10_rightsAfter 22 = .ok (.invokevirtual 138, 3) := by decide +kernel
theorem dX10_rightsAfter_25 : decode cX10_rightsAfter 25 = .ok (.ireturn, 1) := by decide +kernel
theorem dX10_rightsBehind_0 : decode cX10_rightsBehind 0 = .ok (.aload_n 0, 1) := by decide +kernel
theorem dX10_rightsBehind_1 : decode cX10_rightsBehind 1 = .ok (.getfield 48, 3) := by decide +kernel
theorem dX10_rightsBehind_4 : decode cX10_rightsBehind 4 = .ok (.aload_n 0, 1) := by decide +kernel
theorem dX10_rightsBehind_5 : decode cX10_rightsBehind 5 = .ok (.getfield 44, 3) := by decide +kernel
theorem dX10_rightsBehind_8 : decode cX10_rightsBehind 8 = .ok (.invokevirtual 178, 3) := by decide +kernel
theorem dX10_rightsBehind_11 : decode cX10_rightsBehind 11 = .ok (.aload_n 0, 1) := by decide +kernel
theorem dX10_rightsBehind_12 : decode cX10_rightsBehind 12 = .ok (.getfield 48, 3) := by decide +kernel
theorem dX10_rightsBehind_15 : decode cX10_rightsBehind 15 = .ok (.iload_n 1, 1) := by decide +kernel
theorem dX10_rightsBehind_16 : decode cX10_rightsBehind 16 = .ok (.invokevirtual 135, 3) := by decide +kernel
theorem dX10_rightsBehind_19 : decode cX10_rightsBehind 19 = .ok (.aload_n 0, 1) := by decide +kernel
theorem dX10_rightsBehind_20 : decode cX10_rightsBehind 20 = .ok (.getfield 37, 3) := by decide +kernel
theorem dX10_rightsBehind_23 : decode cX10_rightsBehind 23 = .ok (.aload_n 0, 1) := by decide +kernel
theorem dX10_rightsBehind_24 : decode cX10_rightsBehind 24 = .ok (.getfield 48, 3) := by decide +kernel
theorem dX10_rightsBehind_27 : decode cX10_rightsBehind 27 = .ok (.aload_n 0, 1) := by decide +kernel
theorem dX10_rightsBehind_28 : decode cX10_rightsBehind 28 = .ok (.getfield 12, 3) := by decide +kernel
theorem dX10_rightsBehind_31 : decode cX10_rightsBehind 31 = .ok (.getfield 86, 3) := by decide +kernel
theorem dX10_rightsBehind_34 : decode cX10_rightsBehind 34 = .ok (.iload_n 2, 1) := by decide +kernel
theorem dX10_rightsBehind_35 : decode cX10_rightsBehind 35 = .ok (.aaload, 1) := by decide +kernel
theorem dX10_rightsBehind_36 : decode cX10_rightsBehind 36 = .ok (.aload_n 0, 1) := by decide +kernel
theorem dX10_rightsBehind_37 : decode cX10_rightsBehind 37 = .ok (.getfield 12, 3) := by decide +kernel
theorem dX10_rightsBehind_40 : decode cX10_rightsBehind 40 = .ok (.getfield 86, 3) := by decide +kernel
theorem dX10_rightsBehind_43 : decode cX10_rightsBehind 43 = .ok (.iload_n 2, 1) := by decide +kernel
theorem dX10_rightsBehind_44 : decode cX10_rightsBehind 44 = .ok (.aaload, 1) := by decide +kernel
theorem dX10_rightsBehind_45 : decode cX10_rightsBehind 45 = .ok (.getfield 102, 3) := by decide +kernel
theorem dX10_rightsBehind_48 : decode cX10_rightsBehind 48 = .ok (.aload_n 0, 1) := by decide +kernel
theorem dX10_rightsBehind_49 : decode cX10_rightsBehind 49 = .ok (.getfield 30, 3) := by decide +kernel
theorem dX10_rightsBehind_52 : decode cX10_rightsBehind 52 = .ok (.iload_n 3, 1) := by decide +kernel
theorem dX10_rightsBehind_53 : decode cX10_rightsBehind 53 = .ok (.aaload, 1) := by decide +kernel
theorem dX10_rightsBehind_54 : decode cX10_rightsBehind 54 = .ok (.invokevirtual 171, 3) := by decide +kernel
theorem dX10_rightsBehind_57 : decode cX10_rightsBehind 57 = .ok (.aload_n 0, 1) := by decide +kernel
theorem dX10_rightsBehind_58 : decode cX10_rightsBehind 58 = .ok (.getfield 48, 3) := by decide +kernel
theorem dX10_rightsBehind_61 : decode cX10_rightsBehind 61 = .ok (.invokevirtual 138, 3) := by decide +kernel
theorem dX10_rightsBehind_64 : decode cX10_rightsBehind 64 = .ok (.ireturn, 1) := by decide +kernel
theorem dX10_after_0 : decode cX10_after 0 = .ok (.aload_n 0, 1) := by decide +kernel
theorem dX10_after_1 : decode cX10_after 1 = .ok (.iload_n 1, 1) := by decide +kernel
theorem dX10_after_2 : decode cX10_after 2 = .ok (.invokevirtual 96, 3) := by decide +kernel
theorem dX10_after_5 : decode cX10_after 5 = .ok (.ifCond .eq 11, 3) := by decide +kernel
theorem dX10_after_8 : decode cX10_after 8 = .ok (.aload_n 0, 1) := by decide +kernel
theorem dX10_after_9 : decode cX10_after 9 = .ok (.iload_n 2, 1) := by decide +kernel
theorem dX10_after_10 : decode cX10_after 10 = .ok (.invokevirtual 162, 3) := by decide +kernel
theorem dX10_after_13 : decode cX10_after 13 = .ok (.ifCond .ne 5, 3) := by decide +kernel
theorem dX10_after_16 : decode cX10_after 16 = .ok (.iconst (-1), 1) := by decide +kernel
theorem dX10_after_17 : decode cX10_after 17 = .ok (.ireturn, 1) := by decide +kernel
theorem dX10_after_18 : decode cX10_after 18 = .ok (.aload_n 0, 1) := by decide +kernel
theorem dX10_after_19 : decode cX10_after 19 = .ok (.iload_n 1, 1) := by decide +kernel
theorem dX10_after_20 : decode cX10_after 20 = .ok (.aload_n 0, 1) := by decide +kernel
theorem dX10_after_21 : decode cX10_after 21 = .ok (.getfield 12, 3) := by decide +kernel
theorem dX10_after_24 : decode cX10_after 24 = .ok (.getfield 86, 3) := by decide +kernel
theorem dX10_after_27 : decode cX10_after 27 = .ok (.iload_n 1, 1) := by decide +kernel
theorem dX10_after_28 : decode cX10_after 28 = .ok (.aaload, 1) := by decide +kernel
theorem dX10_after_29 : decode cX10_after 29 = .ok (.getfield 102, 3) := by decide +kernel
theorem dX10_after_32 : decode cX10_after 32 = .ok (.iload_n 2, 1) := by decide +kernel
theorem dX10_after_33 : decode cX10_after 33 = .ok (.invokevirtual 182, 3) := by decide +kernel
theorem dX10_after_36 : decode cX10_after 36 = .ok (.iload_n 3, 1) := by decide +kernel
theorem dX10_after_37 : decode cX10_after 37 = .ok (.ifCond .ne 11, 3) := by decide +kernel
theorem dX10_after_40 : decode cX10_after 40 = .ok (.aload_n 0, 1) := by decide +kernel
theorem dX10_after_41 : decode cX10_after 41 = .ok (.getfield 44, 3) := by decide +kernel
theorem dX10_after_44 : decode cX10_after 44 = .ok (.invokevirtual 138, 3) := by decide +kernel
theorem dX10_after_47 : decode cX10_after 47 = .ok (.ireturn, 1) := by decide +kernel
theorem dX10_after_48 : decode cX10_after 48 = .ok (.iload_n 3, 1) := by decide +kernel
theorem dX10_after_49 : decode cX10_after 49 = .ok (.iconst 1, 1) := by decide +kernel
theorem dX10_after_50 : decode cX10_after 50 = .ok (.if_icmp .ne 11, 3) := by decide +kernel
theorem dX10_after_53 : decode cX10_after 53 = .ok (.aload_n 0, 1) := by decide +kernel
theorem dX10_after_54 : decode cX10_after 54 = .ok (.getfield 37, 3) := by decide +kernel
theorem dX10_after_57 : decode cX10_after 57 = .ok (.getfield 175, 3) := by decide +kernel
theorem dX10_after_60 : decode cX10_after 60 = .ok (.ireturn, 1) := by decide +kernel
theorem dX10_after_61 : decode cX10_after 61 = .ok (.iload_n 3, 1) := by decide +kernel
theorem dX10_after_62 : decode cX10_after 62 = .ok (.iconst 2, 1) := by decide +kernel
theorem dX10_after_63 : decode cX10_after 63 = .ok (.if_icmp .ne 13, 3) := by decide +kernel
theorem dX10_after_66 : decode cX10_after 66 = .ok (.aload_n 0, 1) := by decide +kernel
theorem dX10_after_67 : decode cX10_after 67 = .ok (.getfield 44, 3) := by decide +kernel
theorem dX10_after_70 : decode cX10_after 70 = .ok (.bipush 99, 2) := by decide +kernel
theorem dX10_after_72 : decode cX10_after 72 = .ok (.invokevirtual 155, 3) := by decide +kernel
theorem dX10_after_75 : decode cX10_after 75 = .ok (.ireturn, 1) := by decide +kernel
theorem dX10_after_76 : decode cX10_after 76 = .ok (.iload_n 3, 1) := by decide +kernel
theorem dX10_after_77 : decode cX10_after 77 = .ok (.bipush 10, 2) := by decide +kernel
theorem dX10_after_79 : decode cX10_after 79 = .ok (.bipush 10, 2) := by decide +kernel
theorem dX10_after_81 : decode cX10_after 81 = .ok (.aload_n 0, 1) := by decide +kernel
theorem dX10_after_82 : decode cX10_after 82 = .ok (.getfield 44, 3) := by decide +kernel
theorem dX10_after_85 : decode cX10_after 85 = .ok (.getfield 79, 3) := by decide +kernel
theorem dX10_after_88 : decode cX10_after 88 = .ok (.iadd, 1) := by decide +kernel
theorem dX10_after_89 : decode cX10_after 89 = .ok (.iconst 1, 1) := by decide +kernel
theorem dX10_after_90 : decode cX10_after 90 = .ok (.isub, 1) := by decide +kernel
theorem dX10_after_91 : decode cX10_after 91 = .ok (.invokestatic 69, 3) := by decide +kernel
theorem dX10_after_94 : decode cX10_after 94 = .ok (.ifCond .eq 16, 3) := by decide +kernel
theorem dX10_after_97 : decode cX10_after 97 = .ok (.aload_n 0, 1) := by decide +kernel
theorem dX10_after_98 : decode cX10_after 98 = .ok (.getfield 44, 3) := by decide +kernel
theorem dX10_after_101 : decode cX10_after 101 = .ok (.iload_n 3, 1) := by decide +kernel
theorem dX10_after_102 : decode cX10_after 102 = .ok (.bipush 10, 2) := by decide +kernel
theorem dX10_after_104 : decode cX10_after 104 = .ok (.isub, 1) := by decide +kernel
theorem dX10_after_105 : decode cX10_after 105 = .ok (.iconst 0, 1) := by decide +kernel
theorem dX10_after_106 : decode cX10_after 106 = .ok (.invokevirtual 144, 3) := by decide +kernel
theorem dX10_after_109 : decode cX10_after 109 = .ok (.ireturn, 1) := by decide +kernel
theorem dX10_after_110 : decode cX10_after 110 = .ok (.iload_n 3, 1) := by decide +kernel
theorem dX10_after_111 : decode cX10_after 111 = .ok (.bipush 30, 2) := by decide +kernel
theorem dX10_after_113 : decode cX10_after 113 = .ok (.bipush 30, 2) := by decide +kernel
theorem dX10_after_115 : decode cX10_after 115 = .ok (.aload_n 0, 1) := by decide +kernel
theorem dX10_after_116 : decode cX10_after 116 = .ok (.getfield 44, 3) := by decide +kernel
theorem dX10_after_119 : decode cX10_after 119 = .ok (.getfield 79, 3) := by decide +kernel
theorem dX10_after_122 : decode cX10_after 122 = .ok (.iadd, 1) := by decide +kernel
theorem dX10_after_123 : decode cX10_after 123 = .ok (.iconst 1, 1) := by decide +kernel
theorem dX10_after_124 : decode cX10_after 124 = .ok (.isub, 1) := by decide +kernel
theorem dX10_after_125 : decode cX10_after 125 = .ok (.invokestatic 69, 3) := by decide +kernel
theorem dX10_after_128 : decode cX10_after 128 = .ok (.ifCond .eq 16, 3) := by decide +kernel
theorem dX10_after_131 : decode cX10_after 131 = .ok (.aload_n 0, 1) := by decide +kernel
theorem dX10_after_132 : decode cX10_after 132 = .ok (.getfield 44, 3) := by decide +kernel
theorem dX10_after_135 : decode cX10_after 135 = .ok (.iload_n 3, 1) := by decide +kernel
theorem dX10_after_136 : decode cX10_after 136 = .ok (.bipush 30, 2) := by decide +kernel
theorem dX10_after_138 : decode cX10_after 138 = .ok (.isub, 1) := by decide +kernel
theorem dX10_after_139 : decode cX10_after 139 = .ok (.iconst 1, 1) := by decide +kernel
theorem dX10_after_140 : decode cX10_after 140 = .ok (.invokevirtual 144, 3) := by decide +kernel
theorem dX10_after_143 : decode cX10_after 143 = .ok (.ireturn, 1) := by decide +kernel
theorem dX10_after_144 : decode cX10_after 144 = .ok (.iconst (-1), 1) := by decide +kernel
theorem dX10_after_145 : decode cX10_after 145 = .ok (.ireturn, 1) := by decide +kernel
theorem dX10_best_0 : decode cX10_best 0 = .ok (.aload_n 0, 1) := by decide +kernel
theorem dX10_best_1 : decode cX10_best 1 = .ok (.iload_n 1, 1) := by decide +kernel
theorem dX10_best_2 : decode cX10_best 2 = .ok (.invokevirtual 162, 3) := by decide +kernel
theorem dX10_best_5 : decode cX10_best 5 = .ok (.ifCond .ne 5, 3) := by decide +kernel
theorem dX10_best_8 : decode cX10_best 8 = .ok (.iconst (-1), 1) := by decide +kernel
theorem dX10_best_9 : decode cX10_best 9 = .ok (.ireturn, 1) := by decide +kernel
theorem dX10_best_10 : decode cX10_best 10 = .ok (.iconst (-1), 1) := by decide +kernel
theorem dX10_best_11 : decode cX10_best 11 = .ok (.istore_n 2, 1) := by decide +kernel
theorem dX10_best_12 : decode cX10_best 12 = .ok (.bipush (-5), 2) := by decide +kernel
theorem dX10_best_14 : decode cX10_best 14 = .ok (.istore_n 3, 1) := by decide +kernel
theorem dX10_best_15 : decode cX10_best 15 = .ok (.iconst 0, 1) := by decide +kernel
theorem dX10_best_16 : decode cX10_best 16 = .ok (.istore 4, 2) := by decide +kernel
theorem dX10_best_18 : decode cX10_best 18 = .ok (.iload 4, 2) := by decide +kernel
theorem dX10_best_20 : decode cX10_best 20 = .ok (.aload_n 0, 1) := by decide +kernel
theorem dX10_best_21 : decode cX10_best 21 = .ok (.getfield 12, 3) := by decide +kernel
theorem dX10_best_24 : decode cX10_best 24 = .ok (.getfield 65, 3) := by decide +kernel
theorem dX10_best_27 : decode cX10_best 27 = .ok (.if_icmp .ge 30, 3) := by decide +kernel
theorem dX10_best_30 : decode cX10_best 30 = .ok (.aload_n 0, 1) := by decide +kernel
theorem dX10_best_31 : decode cX10_best 31 = .ok (.iload 4, 2) := by decide +kernel
theorem dX10_best_33 : decode cX10_best 33 = .ok (.iload_n 1, 1) := by decide +kernel
theorem dX10_best_34 : decode cX10_best 34 = .ok (.invokevirtual 186, 3) := by decide +kernel
theorem dX10_best_37 : decode cX10_best 37 = .ok (.istore 5, 2) := by decide +kernel
theorem dX10_best_39 : decode cX10_best 39 = .ok (.iload 5, 2) := by decide +kernel
theorem dX10_best_41 : decode cX10_best 41 = .ok (.iload_n 2, 1) := by decide +kernel
theorem dX10_best_42 : decode cX10_best 42 = .ok (.if_icmp .le 9, 3) := by decide +kernel
theorem dX10_best_45 : decode cX10_best 45 = .ok (.iload 5, 2) := by decide +kernel
theorem dX10_best_47 : decode cX10_best 47 = .ok (.istore_n 2, 1) := by decide +kernel
theorem dX10_best_48 : decode cX10_best 48 = .ok (.iload 4, 2) := by decide +kernel
theorem dX10_best_50 : decode cX10_best 50 = .ok (.istore_n 3, 1) := by decide +kernel
theorem dX10_best_51 : decode cX10_best 51 = .ok (.iinc 4 1, 3) := by decide +kernel
theorem dX10_best_54 : decode cX10_best 54 = .ok (.goto (-36), 3) := by decide +kernel
theorem dX10_best_57 : decode cX10_best 57 = .ok (.iload_n 3, 1) := by decide +kernel
theorem dX10_best_58 : decode cX10_best 58 = .ok (.ireturn, 1) := by decide +kernel
theorem dX10_uses_0 : decode cX10_uses 0 = .ok (.aload_n 0, 1) := by decide +kernel
theorem dX10_uses_1 : decode cX10_uses 1 = .ok (.iload_n 1, 1) := by decide +kernel
theorem dX10_uses_2 : decode cX10_uses 2 = .ok (.invokevirtual 96, 3) := by decide +kernel
theorem dX10_uses_5 : decode cX10_uses 5 = .ok (.ifCond .eq 11, 3) := by decide +kernel
theorem dX10_uses_8 : decode cX10_uses 8 = .ok (.aload_n 0, 1) := by decide +kernel
theorem dX10_uses_9 : decode cX10_uses 9 = .ok (.iload_n 2, 1) := by decide +kernel
theorem dX10_uses_10 : decode cX10_uses 10 = .ok (.invokevirtual 162, 3) := by decide +kernel
theorem dX10_uses_13 : decode cX10_uses 13 = .ok (.ifCond .ne 5, 3) := by decide +kernel
theorem dX10_uses_16 : decode cX10_uses 16 = .ok (.iconst (-1), 1) := by decide +kernel
theorem dX10_uses_17 : decode cX10_uses 17 = .ok (.ireturn, 1) := by decide +kernel
theorem dX10_uses_18 : decode cX10_uses 18 = .ok (.aload_n 0, 1) := by decide +kernel
theorem dX10_uses_19 : decode cX10_uses 19 = .ok (.getfield 44, 3) := by decide +kernel
theorem dX10_uses_22 : decode cX10_uses 22 = .ok (.iconst 0, 1) := by decide +kernel
theorem dX10_uses_23 : decode cX10_uses 23 = .ok (.putfield 79, 3) := by decide +kernel
theorem dX10_uses_26 : decode cX10_uses 26 = .ok (.aload_n 0, 1) := by decide +kernel
theorem dX10_uses_27 : decode cX10_uses 27 = .ok (.getfield 44, 3) := by decide +kernel
theorem dX10_uses_30 : decode cX10_uses 30 = .ok (.bipush 12, 2) := by decide +kernel
theorem dX10_uses_32 : decode cX10_uses 32 = .ok (.invokevirtual 128, 3) := by decide +kernel
theorem dX10_uses_35 : decode cX10_uses 35 = .ok (.aload_n 0, 1) := by decide +kernel
theorem dX10_uses_36 : decode cX10_uses 36 = .ok (.getfield 37, 3) := by decide +kernel
theorem dX10_uses_39 : decode cX10_uses 39 = .ok (.aload_n 0, 1) := by decide +kernel
theorem dX10_uses_40 : decode cX10_uses 40 = .ok (.getfield 44, 3) := by decide +kernel
theorem dX10_uses_43 : decode cX10_uses 43 = .ok (.aload_n 0, 1) := by decide +kernel
theorem dX10_uses_44 : decode cX10_uses 44 = .ok (.getfield 12, 3) := by decide +kernel
theorem dX10_uses_47 : decode cX10_uses 47 = .ok (.getfield 86, 3) := by decide +kernel
theorem dX10_uses_50 : decode cX10_uses 50 = .ok (.iload_n 1, 1) := by decide +kernel
theorem dX10_uses_51 : decode cX10_uses 51 = .ok (.aaload, 1) := by decide +kernel
theorem dX10_uses_52 : decode cX10_uses 52 = .ok (.aload_n 0, 1) := by decide +kernel
theorem dX10_uses_53 : decode cX10_uses 53 = .ok (.getfield 12, 3) := by decide +kernel
theorem dX10_uses_56 : decode cX10_uses 56 = .ok (.getfield 86, 3) := by decide +kernel
theorem dX10_uses_59 : decode cX10_uses 59 = .ok (.iload_n 1, 1) := by decide +kernel
theorem dX10_uses_60 : decode cX10_uses 60 = .ok (.aaload, 1) := by decide +kernel
theorem dX10_uses_61 : decode cX10_uses 61 = .ok (.getfield 102, 3) := by decide +kernel
theorem dX10_uses_64 : decode cX10_uses 64 = .ok (.aload_n 0, 1) := by decide +kernel
theorem dX10_uses_65 : decode cX10_uses 65 = .ok (.getfield 30, 3) := by decide +kernel
theorem dX10_uses_68 : decode cX10_uses 68 = .ok (.iload_n 2, 1) := by decide +kernel
theorem dX10_uses_69 : decode cX10_uses 69 = .ok (.aaload, 1) := by decide +kernel
theorem dX10_uses_70 : decode cX10_uses 70 = .ok (.invokevirtual 171, 3) := by decide +kernel
theorem dX10_uses_73 : decode cX10_uses 73 = .ok (.aload_n 0, 1) := by decide +kernel
theorem dX10_uses_74 : decode cX10_uses 74 = .ok (.getfield 37, 3) := by decide +kernel
theorem dX10_uses_77 : decode cX10_uses 77 = .ok (.getfield 189, 3) := by decide +kernel
theorem dX10_uses_80 : decode cX10_uses 80 = .ok (.ireturn, 1) := by decide +kernel
theorem dX10_way_0 : decode cX10_way 0 = .ok (.aload_n 0, 1) := by decide +kernel
theorem dX10_way_1 : decode cX10_way 1 = .ok (.iload_n 1, 1) := by decide +kernel
theorem dX10_way_2 : decode cX10_way 2 = .ok (.invokevirtual 96, 3) := by decide +kernel
theorem dX10_way_5 : decode cX10_way 5 = .ok (.ifCond .eq 36, 3) := by decide +kernel
theorem dX10_way_8 : decode cX10_way 8 = .ok (.aload_n 0, 1) := by decide +kernel
theorem dX10_way_9 : decode cX10_way 9 = .ok (.iload_n 2, 1) := by decide +kernel
theorem dX10_way_10 : decode cX10_way 10 = .ok (.invokevirtual 162, 3) := by decide +kernel
theorem dX10_way_13 : decode cX10_way 13 = .ok (.ifCond .eq 28, 3) := by decide +kernel
theorem dX10_way_16 : decode cX10_way 16 = .ok (.aload_n 0, 1) := by decide +kernel
theorem dX10_way_17 : decode cX10_way 17 = .ok (.iload_n 3, 1) := by decide +kernel
theorem dX10_way_18 : decode cX10_way 18 = .ok (.invokevirtual 96, 3) := by decide +kernel
theorem dX10_way_21 : decode cX10_way 21 = .ok (.ifCond .eq 20, 3) := by decide +kernel
theorem dX10_way_24 : decode cX10_way 24 = .ok (.aload_n 0, 1) := by decide +kernel
theorem dX10_way_25 : decode cX10_way 25 = .ok (.iload 4, 2) := by decide +kernel
theorem dX10_way_27 : decode cX10_way 27 = .ok (.invokevirtual 162, 3) := by decide +kernel
theorem dX10_way_30 : decode cX10_way 30 = .ok (.ifCond .eq 11, 3) := by decide +kernel
theorem dX10_way_33 : decode cX10_way 33 = .ok (.iload 5, 2) := by decide +kernel
theorem dX10_way_35 : decode cX10_way 35 = .ok (.invokestatic 82, 3) := by decide +kernel
theorem dX10_way_38 : decode cX10_way 38 = .ok (.ifCond .ne 5, 3) := by decide +kernel
theorem dX10_way_41 : decode cX10_way 41 = .ok (.iconst (-1), 1) := by decide +kernel
theorem dX10_way_42 : decode cX10_way 42 = .ok (.ireturn, 1) := by decide +kernel
theorem dX10_way_43 : decode cX10_way 43 = .ok (.aload_n 0, 1) := by decide +kernel
theorem dX10_way_44 : decode cX10_way 44 = .ok (.iload_n 1, 1) := by decide +kernel
theorem dX10_way_45 : decode cX10_way 45 = .ok (.aload_n 0, 1) := by decide +kernel
theorem dX10_way_46 : decode cX10_way 46 = .ok (.getfield 12, 3) := by decide +kernel
theorem dX10_way_49 : decode cX10_way 49 = .ok (.getfield 86, 3) := by decide +kernel
theorem dX10_way_52 : decode cX10_way 52 = .ok (.iload_n 1, 1) := by decide +kernel
theorem dX10_way_53 : decode cX10_way 53 = .ok (.aaload, 1) := by decide +kernel
theorem dX10_way_54 : decode cX10_way 54 = .ok (.getfield 102, 3) := by decide +kernel
theorem dX10_way_57 : decode cX10_way 57 = .ok (.iload_n 2, 1) := by decide +kernel
theorem dX10_way_58 : decode cX10_way 58 = .ok (.invokevirtual 182, 3) := by decide +kernel
theorem dX10_way_61 : decode cX10_way 61 = .ok (.iconst (-1), 1) := by decide +kernel
theorem dX10_way_62 : decode cX10_way 62 = .ok (.istore 6, 2) := by decide +kernel
theorem dX10_way_64 : decode cX10_way 64 = .ok (.iconst 0, 1) := by decide +kernel
theorem dX10_way_65 : decode cX10_way 65 = .ok (.istore 7, 2) := by decide +kernel
theorem dX10_way_67 : decode cX10_way 67 = .ok (.iconst 0, 1) := by decide +kernel
theorem dX10_way_68 : decode cX10_way 68 = .ok (.istore 8, 2) := by decide +kernel
theorem dX10_way_70 : decode cX10_way 70 = .ok (.iload 8, 2) := by decide +kernel
theorem dX10_way_72 : decode cX10_way 72 = .ok (.iconst 4, 1) := by decide +kernel
theorem dX10_way_73 : decode cX10_way 73 = .ok (.if_icmp .ge 35, 3) := by decide +kernel
theorem dX10_way_76 : decode cX10_way 76 = .ok (.aload_n 0, 1) := by decide +kernel
theorem dX10_way_77 : decode cX10_way 77 = .ok (.iload 8, 2) := by decide +kernel
theorem dX10_way_79 : decode cX10_way 79 = .ok (.iload_n 3, 1) := by decide +kernel
theorem dX10_way_80 : decode cX10_way 80 = .ok (.iload 4, 2) := by decide +kernel
theorem dX10_way_82 : decode cX10_way 82 = .ok (.invokevirtual 192, 3) := by decide +kernel
theorem dX10_way_85 : decode cX10_way 85 = .ok (.istore 9, 2) := by decide +kernel
theorem dX10_way_87 : decode cX10_way 87 = .ok (.iload 9, 2) := by decide +kernel
theorem dX10_way_89 : decode cX10_way 89 = .ok (.iload 6, 2) := by decide +kernel
theorem dX10_way_91 : decode cX10_way 91 = .ok (.if_icmp .le 11, 3) := by decide +kernel
theorem dX10_way_94 : decode cX10_way 94 = .ok (.iload 9, 2) := by decide +kernel
theorem dX10_way_96 : decode cX10_way 96 = .ok (.istore 6, 2) := by decide +kernel
theorem dX10_way_98 : decode cX10_way 98 = .ok (.iload 8, 2) := by decide +kernel
theorem dX10_way_100 : decode cX10_way 100 = .ok (.istore 7, 2) := by decide +kernel
theorem dX10_way_102 : decode cX10_way 102 = .ok (.iinc 8 1, 3) := by decide +kernel
theorem dX10_way_105 : decode cX10_way 105 = .ok (.goto (-35), 3) := by decide +kernel
theorem dX10_way_108 : decode cX10_way 108 = .ok (.iload 5, 2) := by decide +kernel
theorem dX10_way_110 : decode cX10_way 110 = .ok (.ifCond .ne 8, 3) := by decide +kernel
theorem dX10_way_113 : decode cX10_way 113 = .ok (.iload 7, 2) := by decide +kernel
theorem dX10_way_115 : decode cX10_way 115 = .ok (.goto 5, 3) := by decide +kernel
theorem dX10_way_118 : decode cX10_way 118 = .ok (.iload 6, 2) := by decide +kernel
theorem dX10_way_120 : decode cX10_way 120 = .ok (.ireturn, 1) := by decide +kernel
theorem dX10_twice_0 : decode cX10_twice 0 = .ok (.aload_n 0, 1) := by decide +kernel
theorem dX10_twice_1 : decode cX10_twice 1 = .ok (.iload_n 1, 1) := by decide +kernel
theorem dX10_twice_2 : decode cX10_twice 2 = .ok (.invokevirtual 162, 3) := by decide +kernel
theorem dX10_twice_5 : decode cX10_twice 5 = .ok (.ifCond .eq 18, 3) := by decide +kernel
theorem dX10_twice_8 : decode cX10_twice 8 = .ok (.aload_n 0, 1) := by decide +kernel
theorem dX10_twice_9 : decode cX10_twice 9 = .ok (.iload_n 2, 1) := by decide +kernel
theorem dX10_twice_10 : decode cX10_twice 10 = .ok (.invokevirtual 162, 3) := by decide +kernel
theorem dX10_twice_13 : decode cX10_twice 13 = .ok (.ifCond .eq 10, 3) := by decide +kernel
theorem dX10_twice_16 : decode cX10_twice 16 = .ok (.iload_n 3, 1) := by decide +kernel
theorem dX10_twice_17 : decode cX10_twice 17 = .ok (.invokestatic 82, 3) := by decide +kernel
theorem dX10_twice_20 : decode cX10_twice 20 = .ok (.ifCond .ne 5, 3) := by decide +kernel
theorem dX10_twice_23 : decode cX10_twice 23 = .ok (.iconst (-1), 1) := by decide +kernel
theorem dX10_twice_24 : decode cX10_twice 24 = .ok (.ireturn, 1) := by decide +kernel
theorem dX10_twice_25 : decode cX10_twice 25 = .ok (.iconst (-1), 1) := by decide +kernel
theorem dX10_twice_26 : decode cX10_twice 26 = .ok (.istore 4, 2) := by decide +kernel
theorem dX10_twice_28 : decode cX10_twice 28 = .ok (.bipush (-5), 2) := by decide +kernel
theorem dX10_twice_30 : decode cX10_twice 30 = .ok (.istore 5, 2) := by decide +kernel
theorem dX10_twice_32 : decode cX10_twice 32 = .ok (.iconst 0, 1) := by decide +kernel
theorem dX10_twice_33 : decode cX10_twice 33 = .ok (.istore 6, 2) := by decide +kernel
theorem dX10_twice_35 : decode cX10_twice 35 = .ok (.iload 6, 2) := by decide +kernel
theorem dX10_twice_37 : decode cX10_twice 37 = .ok (.aload_n 0, 1) := by decide +kernel
theorem dX10_twice_38 : decode cX10_twice 38 = .ok (.getfield 12, 3) := by decide +kernel
theorem dX10_twice_41 : decode cX10_twice 41 = .ok (.getfield 65, 3) := by decide +kernel
theorem dX10_twice_44 : decode cX10_twice 44 = .ok (.if_icmp .ge 103, 3) := by decide +kernel
theorem dX10_twice_47 : decode cX10_twice 47 = .ok (.aload_n 0, 1) := by decide +kernel
theorem dX10_twice_48 : decode cX10_twice 48 = .ok (.iload 6, 2) := by decide +kernel
theorem dX10_twice_50 : decode cX10_twice 50 = .ok (.aload_n 0, 1) := by decide +kernel
theorem dX10_twice_51 : decode cX10_twice 51 = .ok (.getfield 12, 3) := by decide +kernel
theorem dX10_twice_54 : decode cX10_twice 54 = .ok (.getfield 86, 3) := by decide +kernel
theorem dX10_twice_57 : decode cX10_twice 57 = .ok (.iload 6, 2) := by decide +kernel
theorem dX10_twice_59 : decode cX10_twice 59 = .ok (.aaload, 1) := by decide +kernel
theorem dX10_twice_60 : decode cX10_twice 60 = .ok (.getfield 102, 3) := by decide +kernel
theorem dX10_twice_63 : decode cX10_twice 63 = .ok (.iload_n 1, 1) := by decide +kernel
theorem dX10_twice_64 : decode cX10_twice 64 = .ok (.invokevirtual 182, 3) := by decide +kernel
theorem dX10_twice_67 : decode cX10_twice 67 = .ok (.iconst 0, 1) := by decide +kernel
theorem dX10_twice_68 : decode cX10_twice 68 = .ok (.istore 7, 2) := by decide +kernel
theorem dX10_twice_70 : decode cX10_twice 70 = .ok (.iload 7, 2) := by decide +kernel
theorem dX10_twice_72 : decode cX10_twice 72 = .ok (.iconst 4, 1) := by decide +kernel
theorem dX10_twice_73 : decode cX10_twice 73 = .ok (.if_icmp .ge 68, 3) := by decide +kernel
theorem dX10_twice_76 : decode cX10_twice 76 = .ok (.iconst 0, 1) := by decide +kernel
theorem dX10_twice_77 : decode cX10_twice 77 = .ok (.istore 8, 2) := by decide +kernel
theorem dX10_twice_79 : decode cX10_twice 79 = .ok (.iload 8, 2) := by decide +kernel
theorem dX10_twice_81 : decode cX10_twice 81 = .ok (.aload_n 0, 1) := by decide +kernel
theorem dX10_twice_82 : decode cX10_twice 82 = .ok (.getfield 12, 3) := by decide +kernel
theorem dX10_twice_85 : decode cX10_twice 85 = .ok (.getfield 65, 3) := by decide +kernel
theorem dX10_twice_88 : decode cX10_twice 88 = .ok (.if_icmp .ge 47, 3) := by decide +kernel
theorem dX10_twice_91 : decode cX10_twice 91 = .ok (.aload_n 0, 1) := by decide +kernel
theorem dX10_twice_92 : decode cX10_twice 92 = .ok (.iload 7, 2) := by decide +kernel
theorem dX10_twice_94 : decode cX10_twice 94 = .ok (.iload 8, 2) := by decide +kernel
theorem dX10_twice_96 : decode cX10_twice 96 = .ok (.iload_n 2, 1) := by decide +kernel
theorem dX10_twice_97 : decode cX10_twice 97 = .ok (.invokevirtual 192, 3) := by decide +kernel
theorem dX10_twice_100 : decode cX10_twice 100 = .ok (.istore 9, 2) := by decide +kernel
theorem dX10_twice_102 : decode cX10_twice 102 = .ok (.iload 9, 2) := by decide +kernel
theorem dX10_twice_104 : decode cX10_twice 104 = .ok (.iload 4, 2) := by decide +kernel
theorem dX10_twice_106 : decode cX10_twice 106 = .ok (.if_icmp .le 23, 3) := by decide +kernel
theorem dX10_twice_109 : decode cX10_twice 109 = .ok (.iload 9, 2) := by decide +kernel
theorem dX10_twice_111 : decode cX10_twice 111 = .ok (.istore 4, 2) := by decide +kernel
theorem dX10_twice_113 : decode cX10_twice 113 = .ok (.bipush 100, 2) := by decide +kernel
theorem dX10_twice_115 : decode cX10_twice 115 = .ok (.iload 6, 2) := by decide +kernel
theorem dX10_twice_117 : decode cX10_twice 117 = .ok (.imul, 1) := by decide +kernel
theorem dX10_twice_118 : decode cX10_twice 118 = .ok (.bipush 10, 2) := by decide +kernel
theorem dX10_twice_120 : decode cX10_twice 120 = .ok (.iload 7, 2) := by decide +kernel
theorem dX10_twice_122 : decode cX10_twice 122 = .ok (.imul, 1) := by decide +kernel
theorem dX10_twice_123 : decode cX10_twice 123 = .ok (.iadd, 1) := by decide +kernel
theorem dX10_twice_124 : decode cX10_twice 124 = .ok (.iload 8, 2) := by decide +kernel
theorem dX10_twice_126 : decode cX10_twice 126 = .ok (.iadd, 1) := by decide +kernel
theorem dX10_twice_127 : decode cX10_twice 127 = .ok (.istore 5, 2) := by decide +kernel
theorem dX10_twice_129 : decode cX10_twice 129 = .ok (.iinc 8 1, 3) := by decide +kernel
theorem dX10_twice_132 : decode cX10_twice 132 = .ok (.goto (-53), 3) := by decide +kernel
theorem dX10_twice_135 : decode cX10_twice 135 = .ok (.iinc 7 1, 3) := by decide +kernel
theorem dX10_twice_138 : decode cX10_twice 138 = .ok (.goto (-68), 3) := by decide +kernel
theorem dX10_twice_141 : decode cX10_twice 141 = .ok (.iinc 6 1, 3) := by decide +kernel
theorem dX10_twice_144 : decode cX10_twice 144 = .ok (.goto (-109), 3) := by decide +kernel
theorem dX10_twice_147 : decode cX10_twice 147 = .ok (.iload_n 3, 1) := by decide +kernel
theorem dX10_twice_148 : decode cX10_twice 148 = .ok (.ifCond .ne 8, 3) := by decide +kernel
theorem dX10_twice_151 : decode cX10_twice 151 = .ok (.iload 5, 2) := by decide +kernel
theorem dX10_twice_153 : decode cX10_twice 153 = .ok (.goto 9, 3) := by decide +kernel
theorem dX10_twice_156 : decode cX10_twice 156 = .ok (.iload 4, 2) := by decide +kernel
theorem dX10_twice_158 : decode cX10_twice 158 = .ok (.iconst 0, 1) := by decide +kernel
theorem dX10_twice_159 : decode cX10_twice 159 = .ok (.invokestatic 196, 3) := by decide +kernel
theorem dX10_twice_162 : decode cX10_twice 162 = .ok (.ireturn, 1) := by decide +kernel
theorem dX10_find_0 : decode cX10_find 0 = .ok (.iload_n 1, 1) := by decide +kernel
theorem dX10_find_1 : decode cX10_find 1 = .ok (.iconst 1, 1) := by decide +kernel
theorem dX10_find_2 : decode cX10_find 2 = .ok (.bipush 60, 2) := by decide +kernel
theorem dX10_find_4 : decode cX10_find 4 = .ok (.invokestatic 69, 3) := by decide +kernel
theorem dX10_find_7 : decode cX10_find 7 = .ok (.ifCond .eq 17, 3) := by decide +kernel
theorem dX10_find_10 : decode cX10_find 10 = .ok (.aload_n 0, 1) := by decide +kernel
theorem dX10_find_11 : decode cX10_find 11 = .ok (.getfield 12, 3) := by decide +kernel
theorem dX10_find_14 : decode cX10_find 14 = .ok (.getfield 76, 3) := by decide +kernel
theorem dX10_find_17 : decode cX10_find 17 = .ok (.iload_n 1, 1) := by decide +kernel
theorem dX10_find_18 : decode cX10_find 18 = .ok (.invokevirtual 201, 3) := by decide +kernel
theorem dX10_find_21 : decode cX10_find 21 = .ok (.goto 5, 3) := by decide +kernel
theorem dX10_find_24 : decode cX10_find 24 = .ok (.bipush (-2), 2) := by decide +kernel
theorem dX10_find_26 : decode cX10_find 26 = .ok (.ireturn, 1) := by decide +kernel
theorem dX10_see_0 : decode cX10_see 0 = .ok (.aload_n 0, 1) := by decide +kernel
theorem dX10_see_1 : decode cX10_see 1 = .ok (.getfield 12, 3) := by decide +kernel
theorem dX10_see_4 : decode cX10_see 4 = .ok (.getfield 204, 3) := by decide +kernel
theorem dX10_see_7 : decode cX10_see 7 = .ok (.iload_n 1, 1) := by decide +kernel
theorem dX10_see_8 : decode cX10_see 8 = .ok (.iload_n 2, 1) := by decide +kernel
theorem dX10_see_9 : decode cX10_see 9 = .ok (.iload_n 3, 1) := by decide +kernel
theorem dX10_see_10 : decode cX10_see 10 = .ok (.invokestatic 208, 3) := by decide +kernel
theorem dX10_see_13 : decode cX10_see 13 = .ok (.ireturn, 1) := by decide +kernel
theorem dX10_note_0 : decode cX10_note 0 = .ok (.iload_n 1, 1) := by decide +kernel
theorem dX10_note_1 : decode cX10_note 1 = .ok (.iconst (-1), 1) := by decide +kernel
theorem dX10_note_2 : decode cX10_note 2 = .ok (.if_icmp .ne 10, 3) := by decide +kernel
theorem dX10_note_5 : decode cX10_note 5 = .ok (.aload_n 0, 1) := by decide +kernel
theorem dX10_note_6 : decode cX10_note 6 = .ok (.iconst 0, 1) := by decide +kernel
theorem dX10_note_7 : decode cX10_note 7 = .ok (.putfield 212, 3) := by decide +kernel
theorem dX10_note_10 : decode cX10_note 10 = .ok (.iconst 0, 1) := by decide +kernel
theorem dX10_note_11 : decode cX10_note 11 = .ok (.ireturn, 1) := by decide +kernel
theorem dX10_note_12 : decode cX10_note 12 = .ok (.iload_n 1, 1) := by decide +kernel
theorem dX10_note_13 : decode cX10_note 13 = .ok (.iload_n 2, 1) := by decide +kernel
theorem dX10_note_14 : decode cX10_note 14 = .ok (.iload_n 3, 1) := by decide +kernel
theorem dX10_note_15 : decode cX10_note 15 = .ok (.invokestatic 215, 3) := by decide +kernel
theorem dX10_note_18 : decode cX10_note 18 = .ok (.ifCond .ne 6, 3) := by decide +kernel
theorem dX10_note_21 : decode cX10_note 21 = .ok (.bipush (-2), 2) := by decide +kernel
theorem dX10_note_23 : decode cX10_note 23 = .ok (.ireturn, 1) := by decide +kernel
theorem dX10_note_24 : decode cX10_note 24 = .ok (.aload_n 0, 1) := by decide +kernel
theorem dX10_note_25 : decode cX10_note 25 = .ok (.invokevirtual 218, 3) := by decide +kernel
theorem dX10_note_28 : decode cX10_note 28 = .ok (.ifCond .eq 8, 3) := by decide +kernel
theorem dX10_note_31 : decode cX10_note 31 = .ok (.bipush (-4), 2) := by decide +kernel
theorem dX10_note_33 : decode cX10_note 33 = .ok (.goto 10, 3) := by decide +kernel
theorem dX10_note_36 : decode cX10_note 36 = .ok (.aload_n 0, 1) := by decide +kernel
theorem dX10_note_37 : decode cX10_note 37 = .ok (.iload_n 1, 1) := by decide +kernel
theorem dX10_note_38 : decode cX10_note 38 = .ok (.iload_n 2, 1) := by decide +kernel
theorem dX10_note_39 : decode cX10_note 39 = .ok (.iload_n 3, 1) := by decide +kernel
theorem dX10_note_40 : decode cX10_note 40 = .ok (.invokevirtual 221, 3) := by decide +kernel
theorem dX10_note_43 : decode cX10_note 43 = .ok (.ireturn, 1) := by decide +kernel
theorem dX10_isSeenAfter_0 : decode cX10_isSeenAfter 0 = .ok (.aload_n 0, 1) := by decide +kernel
theorem dX10_isSeenAfter_1 : decode cX10_isSeenAfter 1 = .ok (.iload_n 1, 1) := by decide +kernel
theorem dX10_isSeenAfter_2 : decode cX10_isSeenAfter 2 = .ok (.iload_n 2, 1) := by decide +kernel
theorem dX10_isSeenAfter_3 : decode cX10_isSeenAfter 3 = .ok (.iload_n 3, 1) := by decide +kernel
theorem dX10_isSeenAfter_4 : decode cX10_isSeenAfter 4 = .ok (.invokevirtual 182, 3) := by decide +kernel
theorem dX10_isSeenAfter_7 : decode cX10_isSeenAfter 7 = .ok (.aload_n 0, 1) := by decide +kernel
theorem dX10_isSeenAfter_8 : decode cX10_isSeenAfter 8 = .ok (.getfield 44, 3) := by decide +kernel
theorem dX10_isSeenAfter_11 : decode cX10_isSeenAfter 11 = .ok (.aload_n 0, 1) := by decide +kernel
theorem dX10_isSeenAfter_12 : decode cX10_isSeenAfter 12 = .ok (.getfield 12, 3) := by decide +kernel
theorem dX10_isSeenAfter_15 : decode cX10_isSeenAfter 15 = .ok (.getfield 204, 3) := by decide +kernel
theorem dX10_isSeenAfter_18 : decode cX10_isSeenAfter 18 = .ok (.invokevirtual 224, 3) := by decide +kernel
theorem dX10_isSeenAfter_21 : decode cX10_isSeenAfter 21 = .ok (.bipush (-5), 2) := by decide +kernel
theorem dX10_isSeenAfter_23 : decode cX10_isSeenAfter 23 = .ok (.if_icmp .ne 7, 3) := by decide +kernel
theorem dX10_isSeenAfter_26 : decode cX10_isSeenAfter 26 = .ok (.iconst 1, 1) := by decide +kernel
theorem dX10_isSeenAfter_27 : decode cX10_isSeenAfter 27 = .ok (.goto 4, 3) := by decide +kernel
theorem dX10_isSeenAfter_30 : decode cX10_isSeenAfter 30 = .ok (.iconst 0, 1) := by decide +kernel
theorem dX10_isSeenAfter_31 : decode cX10_isSeenAfter 31 = .ok (.ireturn, 1) := by decide +kernel
theorem dX10_which_0 : decode cX10_which 0 = .ok (.aload_n 0, 1) := by decide +kernel
theorem dX10_which_1 : decode cX10_which 1 = .ok (.iload_n 1, 1) := by decide +kernel
theorem dX10_which_2 : decode cX10_which 2 = .ok (.invokevirtual 162, 3) := by decide +kernel
theorem dX10_which_5 : decode cX10_which 5 = .ok (.ifCond .ne 5, 3) := by decide +kernel
theorem dX10_which_8 : decode cX10_which 8 = .ok (.iconst (-1), 1) := by decide +kernel
theorem dX10_which_9 : decode cX10_which 9 = .ok (.ireturn, 1) := by decide +kernel
theorem dX10_which_10 : decode cX10_which 10 = .ok (.iconst 0, 1) := by decide +kernel
theorem dX10_which_11 : decode cX10_which 11 = .ok (.istore_n 2, 1) := by decide +kernel
theorem dX10_which_12 : decode cX10_which 12 = .ok (.iconst 0, 1) := by decide +kernel
theorem dX10_which_13 : decode cX10_which 13 = .ok (.istore_n 3, 1) := by decide +kernel
theorem dX10_which_14 : decode cX10_which 14 = .ok (.iload_n 3, 1) := by decide +kernel
theorem dX10_which_15 : decode cX10_which 15 = .ok (.aload_n 0, 1) := by decide +kernel
theorem dX10_which_16 : decode cX10_which 16 = .ok (.getfield 12, 3) := by decide +kernel
theorem dX10_which_19 : decode cX10_which 19 = .ok (.getfield 65, 3) := by decide +kernel
theorem dX10_which_22 : decode cX10_which 22 = .ok (.if_icmp .ge 36, 3) := by decide +kernel
theorem dX10_which_25 : decode cX10_which 25 = .ok (.aload_n 0, 1) := by decide +kernel
theorem dX10_which_26 : decode cX10_which 26 = .ok (.iload_n 3, 1) := by decide +kernel
theorem dX10_which_27 : decode cX10_which 27 = .ok (.aload_n 0, 1) := by decide +kernel
theorem dX10_which_28 : decode cX10_which 28 = .ok (.getfield 12, 3) := by decide +kernel
theorem dX10_which_31 : decode cX10_which 31 = .ok (.getfield 86, 3) := by decide +kernel
theorem dX10_which_34 : decode cX10_which 34 = .ok (.iload_n 3, 1) := by decide +kernel
theorem dX10_which_35 : decode cX10_which 35 = .ok (.aaload, 1) := by decide +kernel
theorem dX10_which_36 : decode cX10_which 36 = .ok (.getfield 102, 3) := by decide +kernel
theorem dX10_which_39 : decode cX10_which 39 = .ok (.iload_n 1, 1) := by decide +kernel
theorem dX10_which_40 : decode cX10_which 40 = .ok (.invokevirtual 228, 3) := by decide +kernel
theorem dX10_which_43 : decode cX10_which 43 = .ok (.ifCond .eq 9, 3) := by decide +kernel
theorem dX10_which_46 : decode cX10_which 46 = .ok (.iload_n 2, 1) := by decide +kernel
theorem dX10_which_47 : decode cX10_which 47 = .ok (.iconst 1, 1) := by decide +kernel
theorem dX10_which_48 : decode cX10_which 48 = .ok (.iload_n 3, 1) := by decide +kernel
theorem dX10_which_49 : decode cX10_which 49 = .ok (.ishl, 1) := by decide +kernel
theorem dX10_which_50 : decode cX10_which 50 = .ok (.ior, 1) := by decide +kernel
theorem dX10_which_51 : decode cX10_which 51 = .ok (.istore_n 2, 1) := by decide +kernel
theorem dX10_which_52 : decode cX10_which 52 = .ok (.iinc 3 1, 3) := by decide +kernel
theorem dX10_which_55 : decode cX10_which 55 = .ok (.goto (-41), 3) := by decide +kernel
theorem dX10_which_58 : decode cX10_which 58 = .ok (.iload_n 2, 1) := by decide +kernel
theorem dX10_which_59 : decode cX10_which 59 = .ok (.ireturn, 1) := by decide +kernel
theorem dX10_can_0 : decode cX10_can 0 = .ok (.aload_n 0, 1) := by decide +kernel
theorem dX10_can_1 : decode cX10_can 1 = .ok (.iload_n 1, 1) := by decide +kernel
theorem dX10_can_2 : decode cX10_can 2 = .ok (.invokevirtual 96, 3) := by decide +kernel
theorem dX10_can_5 : decode cX10_can 5 = .ok (.ifCond .eq 18, 3) := by decide +kernel
theorem dX10_can_8 : decode cX10_can 8 = .ok (.aload_n 0, 1) := by decide +kernel
theorem dX10_can_9 : decode cX10_can 9 = .ok (.iload_n 2, 1) := by decide +kernel
theorem dX10_can_10 : decode cX10_can 10 = .ok (.invokevirtual 162, 3) := by decide +kernel
theorem dX10_can_13 : decode cX10_can 13 = .ok (.ifCond .eq 10, 3) := by decide +kernel
theorem dX10_can_16 : decode cX10_can 16 = .ok (.iload_n 3, 1) := by decide +kernel
theorem dX10_can_17 : decode cX10_can 17 = .ok (.invokestatic 82, 3) := by decide +kernel
theorem dX10_can_20 : decode cX10_can 20 = .ok (.ifCond .ne 5, 3) := by decide +kernel
theorem dX10_can_23 : decode cX10_can 23 = .ok (.iconst (-1), 1) := by decide +kernel
theorem dX10_can_24 : decode cX10_can 24 = .ok (.ireturn, 1) := by decide +kernel
theorem dX10_can_25 : decode cX10_can 25 = .ok (.iconst 0, 1) := by decide +kernel
theorem dX10_can_26 : decode cX10_can 26 = .ok (.istore 4, 2) := by decide +kernel
theorem dX10_can_28 : decode cX10_can 28 = .ok (.bipush (-5), 2) := by decide +kernel
theorem dX10_can_30 : decode cX10_can 30 = .ok (.istore 5, 2) := by decide +kernel
theorem dX10_can_32 : decode cX10_can 32 = .ok (.bipush 9, 2) := by decide +kernel
theorem dX10_can_34 : decode cX10_can 34 = .ok (.istore 6, 2) := by decide +kernel
theorem dX10_can_36 : decode cX10_can 36 = .ok (.iload 6, 2) := by decide +kernel
theorem dX10_can_38 : decode cX10_can 38 = .ok (.ifCond .lt 27, 3) := by decide +kernel
theorem dX10_can_41 : decode cX10_can 41 = .ok (.aload_n 0, 1) := by decide +kernel
theorem dX10_can_42 : decode cX10_can 42 = .ok (.iload_n 1, 1) := by decide +kernel
theorem dX10_can_43 : decode cX10_can 43 = .ok (.iload 6, 2) := by decide +kernel
theorem dX10_can_45 : decode cX10_can 45 = .ok (.iload_n 2, 1) := by decide +kernel
theorem dX10_can_46 : decode cX10_can 46 = .ok (.invokevirtual 228, 3) := by decide +kernel
theorem dX10_can_49 : decode cX10_can 49 = .ok (.ifCond .eq 10, 3) := by decide +kernel
theorem dX10_can_52 : decode cX10_can 52 = .ok (.iinc 4 1, 3) := by decide +kernel
theorem dX10_can_55 : decode cX10_can 55 = .ok (.iload 6, 2) := by decide +kernel
theorem dX10_can_57 : decode cX10_can 57 = .ok (.istore 5, 2) := by decide +kernel
theorem dX10_can_59 : decode cX10_can 59 = .ok (.iinc 6 (-1), 3) := by decide +kernel
theorem dX10_can_62 : decode cX10_can 62 = .ok (.goto (-26), 3) := by decide +kernel
theorem dX10_can_65 : decode cX10_can 65 = .ok (.iload_n 3, 1) := by decide +kernel
theorem dX10_can_66 : decode cX10_can 66 = .ok (.ifCond .ne 8, 3) := by decide +kernel
theorem dX10_can_69 : decode cX10_can 69 = .ok (.iload 4, 2) := by decide +kernel
theorem dX10_can_71 : decode cX10_can 71 = .ok (.goto 5, 3) := by decide +kernel
theorem dX10_can_74 : decode cX10_can 74 = .ok (.iload 5, 2) := by decide +kernel
theorem dX10_can_76 : decode cX10_can 76 = .ok (.ireturn, 1) := by decide +kernel
theorem dX10_odds_0 : decode cX10_odds 0 = .ok (.aload_n 0, 1) := by decide +kernel
theorem dX10_odds_1 : decode cX10_odds 1 = .ok (.iload_n 1, 1) := by decide +kernel
theorem dX10_odds_2 : decode cX10_odds 2 = .ok (.invokevirtual 162, 3) := by decide +kernel
theorem dX10_odds_5 : decode cX10_odds 5 = .ok (.ifCond .eq 30, 3) := by decide +kernel
theorem dX10_odds_8 : decode cX10_odds 8 = .ok (.iload_n 2, 1) := by decide +kernel
theorem dX10_odds_9 : decode cX10_odds 9 = .ok (.iconst 0, 1) := by decide +kernel
theorem dX10_odds_10 : decode cX10_odds 10 = .ok (.bipush 12, 2) := by decide +kernel
theorem dX10_odds_12 : decode cX10_odds 12 = .ok (.invokestatic 69, 3) := by decide +kernel
theorem dX10_odds_15 : decode cX10_odds 15 = .ok (.ifCond .eq 20, 3) := by decide +kernel
theorem dX10_odds_18 : decode cX10_odds 18 = .ok (.iload_n 3, 1) := by decide +kernel
theorem dX10_odds_19 : decode cX10_odds 19 = .ok (.invokestatic 82, 3) := by decide +kernel
theorem dX10_odds_22 : decode cX10_odds 22 = .ok (.ifCond .eq 13, 3) := by decide +kernel
theorem dX10_odds_25 : decode cX10_odds 25 = .ok (.aload_n 0, 1) := by decide +kernel
theorem dX10_odds_26 : decode cX10_odds 26 = .ok (.getfield 12, 3) := by decide +kernel
theorem dX10_odds_29 : decode cX10_odds 29 = .ok (.getfield 65, 3) := by decide +kernel
theorem dX10_odds_32 : decode cX10_odds 32 = .ok (.ifCond .ne 7, 3) := by decide +kernel
theorem dX10_odds_35 : decode cX10_odds 35 = .ok (.ldc2_w 231, 3) := by decide +kernel
theorem dX10_odds_38 : decode cX10_odds 38 = .ok (.lreturn, 1) := by decide +kernel
theorem dX10_odds_39 : decode cX10_odds 39 = .ok (.iconst 0, 1) := by decide +kernel
theorem dX10_odds_40 : decode cX10_odds 40 = .ok (.istore 4, 2) := by decide +kernel
theorem dX10_odds_42 : decode cX10_odds 42 = .ok (.iconst 0, 1) := by decide +kernel
theorem dX10_odds_43 : decode cX10_odds 43 = .ok (.istore 5, 2) := by decide +kernel
theorem dX10_odds_45 : decode cX10_odds 45 = .ok (.iload 5, 2) := by decide +kernel
theorem dX10_odds_47 : decode cX10_odds 47 = .ok (.aload_n 0, 1) := by decide +kernel
theorem dX10_odds_48 : decode cX10_odds 48 = .ok (.getfield 12, 3) := by decide +kernel
theorem dX10_odds_51 : decode cX10_odds 51 = .ok (.getfield 65, 3) := by decide +kernel
theorem dX10_odds_54 : decode cX10_odds 54 = .ok (.if_icmp .ge 23, 3) := by decide +kernel
theorem dX10_odds_57 : decode cX10_odds 57 = .ok (.aload_n 0, 1) := by decide +kernel
theorem dX10_odds_58 : decode cX10_odds 58 = .ok (.iload 5, 2) := by decide +kernel
theorem dX10_odds_60 : decode cX10_odds 60 = .ok (.iload_n 1, 1) := by decide +kernel
theorem dX10_odds_61 : decode cX10_odds 61 = .ok (.invokevirtual 186, 3) := by decide +kernel
theorem dX10_odds_64 : decode cX10_odds 64 = .ok (.iload_n 2, 1) := by decide +kernel
theorem dX10_odds_65 : decode cX10_odds 65 = .ok (.if_icmp .lt 6, 3) := by decide +kernel
theorem dX10_odds_68 : decode cX10_odds 68 = .ok (.iinc 4 1, 3) := by decide +kernel
theorem dX10_odds_71 : decode cX10_odds 71 = .ok (.iinc 5 1, 3) := by decide +kernel
theorem dX10_odds_74 : decode cX10_odds 74 = .ok (.goto (-29), 3) := by decide +kernel
theorem dX10_odds_77 : decode cX10_odds 77 = .ok (.iload 4, 2) := by decide +kernel
theorem dX10_odds_79 : decode cX10_odds 79 = .ok (.aload_n 0, 1) := by decide +kernel
theorem dX10_odds_80 : decode cX10_odds 80 = .ok (.getfield 12, 3) := by decide +kernel
theorem dX10_odds_83 : decode cX10_odds 83 = .ok (.getfield 65, 3) := by decide +kernel
theorem dX10_odds_86 : decode cX10_odds 86 = .ok (.iload_n 3, 1) := by decide +kernel
theorem dX10_odds_87 : decode cX10_odds 87 = .ok (.invokestatic 233, 3) := by decide +kernel
theorem dX10_odds_90 : decode cX10_odds 90 = .ok (.lreturn, 1) := by decide +kernel
theorem dX10_mean_0 : decode cX10_mean 0 = .ok (.aload_n 0, 1) := by decide +kernel
theorem dX10_mean_1 : decode cX10_mean 1 = .ok (.iload_n 1, 1) := by decide +kernel
theorem dX10_mean_2 : decode cX10_mean 2 = .ok (.invokevirtual 162, 3) := by decide +kernel
theorem dX10_mean_5 : decode cX10_mean 5 = .ok (.ifCond .eq 20, 3) := by decide +kernel
theorem dX10_mean_8 : decode cX10_mean 8 = .ok (.iload_n 2, 1) := by decide +kernel
theorem dX10_mean_9 : decode cX10_mean 9 = .ok (.invokestatic 82, 3) := by decide +kernel
theorem dX10_mean_12 : decode cX10_mean 12 = .ok (.ifCond .eq 13, 3) := by decide +kernel
theorem dX10_mean_15 : decode cX10_mean 15 = .ok (.aload_n 0, 1) := by decide +kernel
theorem dX10_mean_16 : decode cX10_mean 16 = .ok (.getfield 12, 3) := by decide +kernel
theorem dX10_mean_19 : decode cX10_mean 19 = .ok (.getfield 65, 3) := by decide +kernel
theorem dX10_mean_22 : decode cX10_mean 22 = .ok (.ifCond .ne 7, 3) := by decide +kernel
theorem dX10_mean_25 : decode cX10_mean 25 = .ok (.ldc2_w 231, 3) := by decide +kernel
theorem dX10_mean_28 : decode cX10_mean 28 = .ok (.lreturn, 1) := by decide +kernel
theorem dX10_mean_29 : decode cX10_mean 29 = .ok (.iconst 0, 1) := by decide +kernel
theorem dX10_mean_30 : decode cX10_mean 30 = .ok (.istore_n 3, 1) := by decide +kernel
theorem dX10_mean_31 : decode cX10_mean 31 = .ok (.iconst 0, 1) := by decide +kernel
theorem dX10_mean_32 : decode cX10_mean 32 = .ok (.istore 4, 2) := by decide +kernel
theorem dX10_mean_34 : decode cX10_mean 34 = .ok (.iload 4, 2) := by decide +kernel
theorem dX10_mean_36 : decode cX10_mean 36 = .ok (.aload_n 0, 1) := by decide +kernel
theorem dX10_mean_37 : decode cX10_mean 37 = .ok (.getfield 12, 3) := by decide +kernel
theorem dX10_mean_40 : decode cX10_mean 40 = .ok (.getfield 65, 3) := by decide +kernel
theorem dX10_mean_43 : decode cX10_mean 43 = .ok (.if_icmp .ge 19, 3) := by decide +kernel
theorem dX10_mean_46 : decode cX10_mean 46 = .ok (.iload_n 3, 1) := by decide +kernel
theorem dX10_mean_47 : decode cX10_mean 47 = .ok (.aload_n 0, 1) := by decide +kernel
theorem dX10_mean_48 : decode cX10_mean 48 = .ok (.iload 4, 2) := by decide +kernel
theorem dX10_mean_50 : decode cX10_mean 50 = .ok (.iload_n 1, 1) := by decide +kernel
theorem dX10_mean_51 : decode cX10_mean 51 = .ok (.invokevirtual 186, 3) := by decide +kernel
theorem dX10_mean_54 : decode cX10_mean 54 = .ok (.iadd, 1) := by decide +kernel
theorem dX10_mean_55 : decode cX10_mean 55 = .ok (.istore_n 3, 1) := by decide +kernel
theorem dX10_mean_56 : decode cX10_mean 56 = .ok (.iinc 4 1, 3) := by decide +kernel
theorem dX10_mean_59 : decode cX10_mean 59 = .ok (.goto (-25), 3) := by decide +kernel
theorem dX10_mean_62 : decode cX10_mean 62 = .ok (.iload_n 3, 1) := by decide +kernel
theorem dX10_mean_63 : decode cX10_mean 63 = .ok (.aload_n 0, 1) := by decide +kernel
theorem dX10_mean_64 : decode cX10_mean 64 = .ok (.getfield 12, 3) := by decide +kernel
theorem dX10_mean_67 : decode cX10_mean 67 = .ok (.getfield 65, 3) := by decide +kernel
theorem dX10_mean_70 : decode cX10_mean 70 = .ok (.iload_n 2, 1) := by decide +kernel
theorem dX10_mean_71 : decode cX10_mean 71 = .ok (.invokestatic 233, 3) := by decide +kernel
theorem dX10_mean_74 : decode cX10_mean 74 = .ok (.lreturn, 1) := by decide +kernel
theorem dX10_partInLowest_0 : decode cX10_partInLowest 0 = .ok (.iconst 1, 1) := by decide +kernel
theorem dX10_partInLowest_1 : decode cX10_partInLowest 1 = .ok (.istore_n 3, 1) := by decide +kernel
theorem dX10_partInLowest_2 : decode cX10_partInLowest 2 = .ok (.iconst 2, 1) := by decide +kernel
theorem dX10_partInLowest_3 : decode cX10_partInLowest 3 = .ok (.istore 4, 2) := by decide +kernel
theorem dX10_partInLowest_5 : decode cX10_partInLowest 5 = .ok (.iload 4, 2) := by decide +kernel
theorem dX10_partInLowest_7 : decode cX10_partInLowest 7 = .ok (.iload_n 1, 1) := by decide +kernel
theorem dX10_partInLowest_8 : decode cX10_partInLowest 8 = .ok (.if_icmp .gt 26, 3) := by decide +kernel
theorem dX10_partInLowest_11 : decode cX10_partInLowest 11 = .ok (.iload_n 0, 1) := by decide +kernel
theorem dX10_partInLowest_12 : decode cX10_partInLowest 12 = .ok (.iload 4, 2) := by decide +kernel
theorem dX10_partInLowest_14 : decode cX10_partInLowest 14 = .ok (.irem, 1) := by decide +kernel
theorem dX10_partInLowest_15 : decode cX10_partInLowest 15 = .ok (.ifCond .ne 13, 3) := by decide +kernel
theorem dX10_partInLowest_18 : decode cX10_partInLowest 18 = .ok (.iload_n 1, 1) := by decide +kernel
theorem dX10_partInLowest_19 : decode cX10_partInLowest 19 = .ok (.iload 4, 2) := by decide +kernel
theorem dX10_partInLowest_21 : decode cX10_partInLowest 21 = .ok (.irem, 1) := by decide +kernel
theorem dX10_partInLowest_22 : decode cX10_partInLowest 22 = .ok (.ifCond .ne 6, 3) := by decide +kernel
theorem dX10_partInLowest_25 : decode cX10_partInLowest 25 = .ok (.iload 4, 2) := by decide +kernel
theorem dX10_partInLowest_27 : decode cX10_partInLowest 27 = .ok (.istore_n 3, 1) := by decide +kernel
theorem dX10_partInLowest_28 : decode cX10_partInLowest 28 = .ok (.iinc 4 1, 3) := by decide +kernel
theorem dX10_partInLowest_31 : decode cX10_partInLowest 31 = .ok (.goto (-26), 3) := by decide +kernel
theorem dX10_partInLowest_34 : decode cX10_partInLowest 34 = .ok (.iload_n 2, 1) := by decide +kernel
theorem dX10_partInLowest_35 : decode cX10_partInLowest 35 = .ok (.ifCond .ne 7, 3) := by decide +kernel
theorem dX10_partInLowest_38 : decode cX10_partInLowest 38 = .ok (.iload_n 0, 1) := by decide +kernel
theorem dX10_partInLowest_39 : decode cX10_partInLowest 39 = .ok (.goto 4, 3) := by decide +kernel
theorem dX10_partInLowest_42 : decode cX10_partInLowest 42 = .ok (.iload_n 1, 1) := by decide +kernel
theorem dX10_partInLowest_43 : decode cX10_partInLowest 43 = .ok (.iload_n 3, 1) := by decide +kernel
theorem dX10_partInLowest_44 : decode cX10_partInLowest 44 = .ok (.idiv, 1) := by decide +kernel
theorem dX10_partInLowest_45 : decode cX10_partInLowest 45 = .ok (.i2l, 1) := by decide +kernel
theorem dX10_partInLowest_46 : decode cX10_partInLowest 46 = .ok (.lreturn, 1) := by decide +kernel
theorem dX10_plan_0 : decode cX10_plan 0 = .ok (.iload_n 1, 1) := by decide +kernel
theorem dX10_plan_1 : decode cX10_plan 1 = .ok (.iconst (-1), 1) := by decide +kernel
theorem dX10_plan_2 : decode cX10_plan 2 = .ok (.if_icmp .ne 16, 3) := by decide +kernel
theorem dX10_plan_5 : decode cX10_plan 5 = .ok (.aload_n 0, 1) := by decide +kernel
theorem dX10_plan_6 : decode cX10_plan 6 = .ok (.getfield 12, 3) := by decide +kernel
theorem dX10_plan_9 : decode cX10_plan 9 = .ok (.getfield 237, 3) := by decide +kernel
theorem dX10_plan_12 : decode cX10_plan 12 = .ok (.iconst 0, 1) := by decide +kernel
theorem dX10_plan_13 : decode cX10_plan 13 = .ok (.putfield 212, 3) := by decide +kernel
theorem dX10_plan_16 : decode cX10_plan 16 = .ok (.iconst 0, 1) := by decide +kernel
theorem dX10_plan_17 : decode cX10_plan 17 = .ok (.ireturn, 1) := by decide +kernel
theorem dX10_plan_18 : decode cX10_plan 18 = .ok (.iload_n 1, 1) := by decide +kernel
theorem dX10_plan_19 : decode cX10_plan 19 = .ok (.tableswitch 65 0 2 #[25, 43, 52], 25) := by decide +kernel
theorem dX10_plan_44 : decode cX10_plan 44 = .ok (.aload_n 0, 1) := by decide +kernel
theorem dX10_plan_45 : decode cX10_plan 45 = .ok (.iload_n 2, 1) := by decide +kernel
theorem dX10_plan_46 : decode cX10_plan 46 = .ok (.invokevirtual 96, 3) := by decide +kernel
theorem dX10_plan_49 : decode cX10_plan 49 = .ok (.ifCond .eq 11, 3) := by decide +kernel
theorem dX10_plan_52 : decode cX10_plan 52 = .ok (.aload_n 0, 1) := by decide +kernel
theorem dX10_plan_53 : decode cX10_plan 53 = .ok (.iload_n 3, 1) := by decide +kernel
theorem dX10_plan_54 : decode cX10_plan 54 = .ok (.invokevirtual 162, 3) := by decide +kernel
theorem dX10_plan_57 : decode cX10_plan 57 = .ok (.ifCond .ne 29, 3) := by decide +kernel
theorem dX10_plan_60 : decode cX10_plan 60 = .ok (.iconst (-1), 1) := by decide +kernel
theorem dX10_plan_61 : decode cX10_plan 61 = .ok (.ireturn, 1) := by decide +kernel
theorem dX10_plan_62 : decode cX10_plan 62 = .ok (.iload_n 2, 1) := by decide +kernel
theorem dX10_plan_63 : decode cX10_plan 63 = .ok (.invokestatic 132, 3) := by decide +kernel
theorem dX10_plan_66 : decode cX10_plan 66 = .ok (.ifCond .ne 20, 3) := by decide +kernel
theorem dX10_plan_69 : decode cX10_plan 69 = .ok (.iconst (-1), 1) := by decide +kernel
theorem dX10_plan_70 : decode cX10_plan 70 = .ok (.ireturn, 1) := by decide +kernel
theorem dX10_plan_71 : decode cX10_plan 71 = .ok (.iload_n 2, 1) := by decide +kernel
theorem dX10_plan_72 : decode cX10_plan 72 = .ok (.iconst 1, 1) := by decide +kernel
theorem dX10_plan_73 : decode cX10_plan 73 = .ok (.bipush 12, 2) := by decide +kernel
theorem dX10_plan_75 : decode cX10_plan 75 = .ok (.invokestatic 69, 3) := by decide +kernel
theorem dX10_plan_78 : decode cX10_plan 78 = .ok (.ifCond .ne 8, 3) := by decide +kernel
theorem dX10_plan_81 : decode cX10_plan 81 = .ok (.bipush (-2), 2) := by decide +kernel
theorem dX10_plan_83 : decode cX10_plan 83 = .ok (.ireturn, 1) := by decide +kernel
theorem dX10_plan_84 : decode cX10_plan 84 = .ok (.iconst (-1), 1) := by decide +kernel
theorem dX10_plan_85 : decode cX10_plan 85 = .ok (.ireturn, 1) := by decide +kernel
theorem dX10_plan_86 : decode cX10_plan 86 = .ok (.aload_n 0, 1) := by decide +kernel
theorem dX10_plan_87 : decode cX10_plan 87 = .ok (.getfield 12, 3) := by decide +kernel
theorem dX10_plan_90 : decode cX10_plan 90 = .ok (.getfield 237, 3) := by decide +kernel
theorem dX10_plan_93 : decode cX10_plan 93 = .ok (.invokevirtual 218, 3) := by decide +kernel
theorem dX10_plan_96 : decode cX10_plan 96 = .ok (.ifCond .eq 8, 3) := by decide +kernel
theorem dX10_plan_99 : decode cX10_plan 99 = .ok (.bipush (-4), 2) := by decide +kernel
theorem dX10_plan_101 : decode cX10_plan 101 = .ok (.goto 16, 3) := by decide +kernel
theorem dX10_plan_104 : decode cX10_plan 104 = .ok (.aload_n 0, 1) := by decide +kernel
theorem dX10_plan_105 : decode cX10_plan 105 = .ok (.getfield 12, 3) := by decide +kernel
theorem dX10_plan_108 : decode cX10_plan 108 = .ok (.getfield 237, 3) := by decide +kernel
theorem dX10_plan_111 : decode cX10_plan 111 = .ok (.iload_n 1, 1) := by decide +kernel
theorem dX10_plan_112 : decode cX10_plan 112 = .ok (.iload_n 2, 1) := by decide +kernel
theorem dX10_plan_113 : decode cX10_plan 113 = .ok (.iload_n 3, 1) := by decide +kernel
theorem dX10_plan_114 : decode cX10_plan 114 = .ok (.invokevirtual 221, 3) := by decide +kernel
theorem dX10_plan_117 : decode cX10_plan 117 = .ok (.ireturn, 1) := by decide +kernel
theorem dX10_done_0 : decode cX10_done 0 = .ok (.iload_n 1, 1) := by decide +kernel
theorem dX10_done_1 : decode cX10_done 1 = .ok (.invokestatic 82, 3) := by decide +kernel
theorem dX10_done_4 : decode cX10_done 4 = .ok (.ifCond .ne 5, 3) := by decide +kernel
theorem dX10_done_7 : decode cX10_done 7 = .ok (.iconst (-1), 1) := by decide +kernel
theorem dX10_done_8 : decode cX10_done 8 = .ok (.ireturn, 1) := by decide +kernel
theorem dX10_done_9 : decode cX10_done 9 = .ok (.aload_n 0, 1) := by decide +kernel
theorem dX10_done_10 : decode cX10_done 10 = .ok (.getfield 44, 3) := by decide +kernel
theorem dX10_done_13 : decode cX10_done 13 = .ok (.aload_n 0, 1) := by decide +kernel
theorem dX10_done_14 : decode cX10_done 14 = .ok (.getfield 12, 3) := by decide +kernel
theorem dX10_done_17 : decode cX10_done 17 = .ok (.getfield 76, 3) := by decide +kernel
theorem dX10_done_20 : decode cX10_done 20 = .ok (.invokevirtual 178, 3) := by decide +kernel
theorem dX10_done_23 : decode cX10_done 23 = .ok (.iconst 0, 1) := by decide +kernel
theorem dX10_done_24 : decode cX10_done 24 = .ok (.istore_n 2, 1) := by decide +kernel
theorem dX10_done_25 : decode cX10_done 25 = .ok (.iload_n 2, 1) := by decide +kernel
theorem dX10_done_26 : decode cX10_done 26 = .ok (.aload_n 0, 1) := by decide +kernel
theorem dX10_done_27 : decode cX10_done 27 = .ok (.getfield 12, 3) := by decide +kernel
theorem dX10_done_30 : decode cX10_done 30 = .ok (.getfield 237, 3) := by decide +kernel
theorem dX10_done_33 : decode cX10_done 33 = .ok (.getfield 212, 3) := by decide +kernel
theorem dX10_done_36 : decode cX10_done 36 = .ok (.if_icmp .ge 49, 3) := by decide +kernel
theorem dX10_done_39 : decode cX10_done 39 = .ok (.aload_n 0, 1) := by decide +kernel
theorem dX10_done_40 : decode cX10_done 40 = .ok (.aload_n 0, 1) := by decide +kernel
theorem dX10_done_41 : decode cX10_done 41 = .ok (.getfield 12, 3) := by decide +kernel
theorem dX10_done_44 : decode cX10_done 44 = .ok (.getfield 237, 3) := by decide +kernel
theorem dX10_done_47 : decode cX10_done 47 = .ok (.getfield 240, 3) := by decide +kernel
theorem dX10_done_50 : decode cX10_done 50 = .ok (.iload_n 2, 1) := by decide +kernel
theorem dX10_done_51 : decode cX10_done 51 = .ok (.iaload, 1) := by decide +kernel
theorem dX10_done_52 : decode cX10_done 52 = .ok (.aload_n 0, 1) := by decide +kernel
theorem dX10_done_53 : decode cX10_done 53 = .ok (.getfield 12, 3) := by decide +kernel
theorem dX10_done_56 : decode cX10_done 56 = .ok (.getfield 237, 3) := by decide +kernel
theorem dX10_done_59 : decode cX10_done 59 = .ok (.getfield 243, 3) := by decide +kernel
theorem dX10_done_62 : decode cX10_done 62 = .ok (.iload_n 2, 1) := by decide +kernel
theorem dX10_done_63 : decode cX10_done 63 = .ok (.iaload, 1) := by decide +kernel
theorem dX10_done_64 : decode cX10_done 64 = .ok (.aload_n 0, 1) := by decide +kernel
theorem dX10_done_65 : decode cX10_done 65 = .ok (.getfield 12, 3) := by decide +kernel
theorem dX10_done_68 : decode cX10_done 68 = .ok (.getfield 237, 3) := by decide +kernel
theorem dX10_done_71 : decode cX10_done 71 = .ok (.getfield 246, 3) := by decide +kernel
theorem dX10_done_74 : decode cX10_done 74 = .ok (.iload_n 2, 1) := by decide +kernel
theorem dX10_done_75 : decode cX10_done 75 = .ok (.iaload, 1) := by decide +kernel
theorem dX10_done_76 : decode cX10_done 76 = .ok (.invokevirtual 249, 3) := by decide +kernel
theorem dX10_done_79 : decode cX10_done 79 = .ok (.iinc 2 1, 3) := by decide +kernel
theorem dX10_done_82 : decode cX10_done 82 = .ok (.goto (-57), 3) := by decide +kernel
theorem dX10_done_85 : decode cX10_done 85 = .ok (.iload_n 1, 1) := by decide +kernel
theorem dX10_done_86 : decode cX10_done 86 = .ok (.ifCond .ne 13, 3) := by decide +kernel
theorem dX10_done_89 : decode cX10_done 89 = .ok (.aload_n 0, 1) := by decide +kernel
theorem dX10_done_90 : decode cX10_done 90 = .ok (.getfield 44, 3) := by decide +kernel
theorem dX10_done_93 : decode cX10_done 93 = .ok (.invokevirtual 138, 3) := by decide +kernel
theorem dX10_done_96 : decode cX10_done 96 = .ok (.goto 12, 3) := by decide +kernel
theorem dX10_done_99 : decode cX10_done 99 = .ok (.aload_n 0, 1) := by decide +kernel
theorem dX10_done_100 : decode cX10_done 100 = .ok (.getfield 44, 3) := by decide +kernel
theorem dX10_done_103 : decode cX10_done 103 = .ok (.bipush 99, 2) := by decide +kernel
theorem dX10_done_105 : decode cX10_done 105 = .ok (.invokevirtual 155, 3) := by decide +kernel
theorem dX10_done_108 : decode cX10_done 108 = .ok (.ireturn, 1) := by decide +kernel
theorem dX10_doPlanned_0 : decode cX10_doPlanned 0 = .ok (.iload_n 1, 1) := by decide +kernel
theorem dX10_doPlanned_1 : decode cX10_doPlanned 1 = .ok (.iconst 1, 1) := by decide +kernel
theorem dX10_doPlanned_2 : decode cX10_doPlanned 2 = .ok (.if_icmp .ne 14, 3) := by decide +kernel
theorem dX10_doPlanned_5 : decode cX10_doPlanned 5 = .ok (.aload_n 0, 1) := by decide +kernel
theorem dX10_doPlanned_6 : decode cX10_doPlanned 6 = .ok (.getfield 44, 3) := by decide +kernel
theorem dX10_doPlanned_9 : decode cX10_doPlanned 9 = .ok (.iload_n 2, 1) := by decide +kernel
theorem dX10_doPlanned_10 : decode cX10_doPlanned 10 = .ok (.invokevirtual 135, 3) := by decide +kernel
theorem dX10_doPlanned_13 : decode cX10_doPlanned 13 = .ok (.goto 73, 3) := by decide +kernel
theorem dX10_doPlanned_16 : decode cX10_doPlanned 16 = .ok (.iload_n 1, 1) := by decide +kernel
theorem dX10_doPlanned_17 : decode cX10_doPlanned 17 = .ok (.iconst 2, 1) := by decide +kernel
theorem dX10_doPlanned_18 : decode cX10_doPlanned 18 = .ok (.if_icmp .ne 14, 3) := by decide +kernel
theorem dX10_doPlanned_21 : decode cX10_doPlanned 21 = .ok (.aload_n 0, 1) := by decide +kernel
theorem dX10_doPlanned_22 : decode cX10_doPlanned 22 = .ok (.getfield 44, 3) := by decide +kernel
theorem dX10_doPlanned_25 : decode cX10_doPlanned 25 = .ok (.iload_n 2, 1) := by decide +kernel
theorem dX10_doPlanned_26 : decode cX10_doPlanned 26 = .ok (.invokevirtual 128, 3) := by decide +kernel
theorem dX10_doPlanned_29 : decode cX10_doPlanned 29 = .ok (.goto 57, 3) := by decide +kernel
theorem dX10_doPlanned_32 : decode cX10_doPlanned 32 = .ok (.aload_n 0, 1) := by decide +kernel
theorem dX10_doPlanned_33 : decode cX10_doPlanned 33 = .ok (.iload_n 2, 1) := by decide +kernel
theorem dX10_doPlanned_34 : decode cX10_doPlanned 34 = .ok (.invokevirtual 96, 3) := by decide +kernel
theorem dX10_doPlanned_37 : decode cX10_doPlanned 37 = .ok (.ifCond .eq 49, 3) := by decide +kernel
theorem dX10_doPlanned_40 : decode cX10_doPlanned 40 = .ok (.aload_n 0, 1) := by decide +kernel
theorem dX10_doPlanned_41 : decode cX10_doPlanned 41 = .ok (.iload_n 3, 1) := by decide +kernel
theorem dX10_doPlanned_42 : decode cX10_doPlanned 42 = .ok (.invokevirtual 162, 3) := by decide +kernel
theorem dX10_doPlanned_45 : decode cX10_doPlanned 45 = .ok (.ifCond .eq 41, 3) := by decide +kernel
theorem dX10_doPlanned_48 : decode cX10_doPlanned 48 = .ok (.aload_n 0, 1) := by decide +kernel
theorem dX10_doPlanned_49 : decode cX10_doPlanned 49 = .ok (.getfield 37, 3) := by decide +kernel
theorem dX10_doPlanned_52 : decode cX10_doPlanned 52 = .ok (.aload_n 0, 1) := by decide +kernel
theorem dX10_doPlanned_53 : decode cX10_doPlanned 53 = .ok (.getfield 44, 3) := by decide +kernel
theorem dX10_doPlanned_56 : decode cX10_doPlanned 56 = .ok (.aload_n 0, 1) := by decide +kernel
theorem dX10_doPlanned_57 : decode cX10_doPlanned 57 = .ok (.getfield 12, 3) := by decide +kernel
theorem dX10_doPlanned_60 : decode cX10_doPlanned 60 = .ok (.getfield 86, 3) := by decide +kernel
theorem dX10_doPlanned_63 : decode cX10_doPlanned 63 = .ok (.iload_n 2, 1) := by decide +kernel
theorem dX10_doPlanned_64 : decode cX10_doPlanned 64 = .ok (.aaload, 1) := by decide +kernel
theorem dX10_doPlanned_65 : decode cX10_doPlanned 65 = .ok (.aload_n 0, 1) := by decide +kernel
theorem dX10_doPlanned_66 : decode cX10_doPlanned 66 = .ok (.getfield 12, 3) := by decide +kernel
theorem dX10_doPlanned_69 : decode cX10_doPlanned 69 = .ok (.getfield 86, 3) := by decide +kernel
theorem dX10_doPlanned_72 : decode cX10_doPlanned 72 = .ok (.iload_n 2, 1) := by decide +kernel
theorem dX10_doPlanned_73 : decode cX10_doPlanned 73 = .ok (.aaload, 1) := by decide +kernel
theorem dX10_doPlanned_74 : decode cX10_doPlanned 74 = .ok (.getfield 102, 3) := by decide +kernel
theorem dX10_doPlanned_77 : decode cX10_doPlanned 77 = .ok (.aload_n 0, 1) := by decide +kernel
theorem dX10_doPlanned_78 : decode cX10_doPlanned 78 = .ok (.getfield 30, 3) := by decide +kernel
theorem dX10_doPlanned_81 : decode cX10_doPlanned 81 = .ok (.iload_n 3, 1) := by decide +kernel
theorem dX10_doPlanned_82 : decode cX10_doPlanned 82 = .ok (.aaload, 1) := by decide +kernel
theorem dX10_doPlanned_83 : decode cX10_doPlanned 83 = .ok (.invokevirtual 171, 3) := by decide +kernel
theorem dX10_doPlanned_86 : decode cX10_doPlanned 86 = .ok (.return_, 1) := by decide +kernel
theorem dX10_book_0 : decode cX10_book 0 = .ok (.aload_n 0, 1) := by decide +kernel
theorem dX10_book_1 : decode cX10_book 1 = .ok (.getfield 12, 3) := by decide +kernel
theorem dX10_book_4 : decode cX10_book 4 = .ok (.getfield 252, 3) := by decide +kernel
theorem dX10_book_7 : decode cX10_book 7 = .ok (.iload_n 1, 1) := by decide +kernel
theorem dX10_book_8 : decode cX10_book 8 = .ok (.iload_n 2, 1) := by decide +kernel
theorem dX10_book_9 : decode cX10_book 9 = .ok (.iload_n 3, 1) := by decide +kernel
theorem dX10_book_10 : decode cX10_book 10 = .ok (.invokestatic 208, 3) := by decide +kernel
theorem dX10_book_13 : decode cX10_book 13 = .ok (.ireturn, 1) := by decide +kernel
theorem dX10_looked_0 : decode cX10_looked 0 = .ok (.aload_n 0, 1) := by decide +kernel
theorem dX10_looked_1 : decode cX10_looked 1 = .ok (.getfield 12, 3) := by decide +kernel
theorem dX10_looked_4 : decode cX10_looked 4 = .ok (.getfield 76, 3) := by decide +kernel
theorem dX10_looked_7 : decode cX10_looked 7 = .ok (.aload_n 0, 1) := by decide +kernel
theorem dX10_looked_8 : decode cX10_looked 8 = .ok (.getfield 12, 3) := by decide +kernel
theorem dX10_looked_11 : decode cX10_looked 11 = .ok (.getfield 252, 3) := by decide +kernel
theorem dX10_looked_14 : decode cX10_looked 14 = .ok (.invokevirtual 224, 3) := by decide +kernel
theorem dX10_looked_17 : decode cX10_looked 17 = .ok (.ireturn, 1) := by decide +kernel
theorem dX10_judge_0 : decode cX10_judge 0 = .ok (.iload_n 1, 1) := by decide +kernel
theorem dX10_judge_1 : decode cX10_judge 1 = .ok (.invokestatic 255, 3) := by decide +kernel
theorem dX10_judge_4 : decode cX10_judge 4 = .ok (.ifCond .ne 5, 3) := by decide +kernel
theorem dX10_judge_7 : decode cX10_judge 7 = .ok (.iconst (-1), 1) := by decide +kernel
theorem dX10_judge_8 : decode cX10_judge 8 = .ok (.ireturn, 1) := by decide +kernel
theorem dX10_judge_9 : decode cX10_judge 9 = .ok (.aload_n 0, 1) := by decide +kernel
theorem dX10_judge_10 : decode cX10_judge 10 = .ok (.getfield 60, 3) := by decide +kernel
theorem dX10_judge_13 : decode cX10_judge 13 = .ok (.iload_n 1, 1) := by decide +kernel
theorem dX10_judge_14 : decode cX10_judge 14 = .ok (.aaload, 1) := by decide +kernel
theorem dX10_judge_15 : decode cX10_judge 15 = .ok (.astore_n 3, 1) := by decide +kernel
theorem dX10_judge_16 : decode cX10_judge 16 = .ok (.aload_n 3, 1) := by decide +kernel
theorem dX10_judge_17 : decode cX10_judge 17 = .ok (.invokevirtual 258, 3) := by decide +kernel
theorem dX10_judge_20 : decode cX10_judge 20 = .ok (.ifCond .eq 13, 3) := by decide +kernel
theorem dX10_judge_23 : decode cX10_judge 23 = .ok (.aload_n 3, 1) := by decide +kernel
theorem dX10_judge_24 : decode cX10_judge 24 = .ok (.getfield 261, 3) := by decide +kernel
theorem dX10_judge_27 : decode cX10_judge 27 = .ok (.ifCond .eq 6, 3) := by decide +kernel
theorem dX10_judge_30 : decode cX10_judge 30 = .ok (.bipush (-12), 2) := by decide +kernel
theorem dX10_judge_32 : decode cX10_judge 32 = .ok (.ireturn, 1) := by decide +kernel
theorem dX10_judge_33 : decode cX10_judge 33 = .ok (.iconst 0, 1) := by decide +kernel
theorem dX10_judge_34 : decode cX10_judge 34 = .ok (.istore 4, 2) := by decide +kernel
theorem dX10_judge_36 : decode cX10_judge 36 = .ok (.iload 4, 2) := by decide +kernel
theorem dX10_judge_38 : decode cX10_judge 38 = .ok (.aload_n 0, 1) := by decide +kernel
theorem dX10_judge_39 : decode cX10_judge 39 = .ok (.getfield 12, 3) := by decide +kernel
theorem dX10_judge_42 : decode cX10_judge 42 = .ok (.getfield 76, 3) := by decide +kernel
theorem dX10_judge_45 : decode cX10_judge 45 = .ok (.getfield 79, 3) := by decide +kernel
theorem dX10_judge_48 : decode cX10_judge 48 = .ok (.if_icmp .ge 67, 3) := by decide +kernel
theorem dX10_judge_51 : decode cX10_judge 51 = .ok (.aload_n 3, 1) := by decide +kernel
theorem dX10_judge_52 : decode cX10_judge 52 = .ok (.invokevirtual 258, 3) := by decide +kernel
theorem dX10_judge_55 : decode cX10_judge 55 = .ok (.ifCond .eq 18, 3) := by decide +kernel
theorem dX10_judge_58 : decode cX10_judge 58 = .ok (.iload_n 2, 1) := by decide +kernel
theorem dX10_judge_59 : decode cX10_judge 59 = .ok (.ifCond .lt 14, 3) := by decide +kernel
theorem dX10_judge_62 : decode cX10_judge 62 = .ok (.iload_n 2, 1) := by decide +kernel
theorem dX10_judge_63 : decode cX10_judge 63 = .ok (.aload_n 3, 1) := by decide +kernel
theorem dX10_judge_64 : decode cX10_judge 64 = .ok (.getfield 264, 3) := by decide +kernel
theorem dX10_judge_67 : decode cX10_judge 67 = .ok (.iload 4, 2) := by decide +kernel
theorem dX10_judge_69 : decode cX10_judge 69 = .ok (.isub, 1) := by decide +kernel
theorem dX10_judge_70 : decode cX10_judge 70 = .ok (.if_icmp .lt 9, 3) := by decide +kernel
theorem dX10_judge_73 : decode cX10_judge 73 = .ok (.bipush 100, 2) := by decide +kernel
theorem dX10_judge_75 : decode cX10_judge 75 = .ok (.iload 4, 2) := by decide +kernel
theorem dX10_judge_77 : decode cX10_judge 77 = .ok (.iadd, 1) := by decide +kernel
theorem dX10_judge_78 : decode cX10_judge 78 = .ok (.ireturn, 1) := by decide +kernel
theorem dX10_judge_79 : decode cX10_judge 79 = .ok (.aload_n 3, 1) := by decide +kernel
theorem dX10_judge_80 : decode cX10_judge 80 = .ok (.getfield 267, 3) := by decide +kernel
theorem dX10_judge_83 : decode cX10_judge 83 = .ok (.iload_n 2, 1) := by decide +kernel
theorem dX10_judge_84 : decode cX10_judge 84 = .ok (.iload 4, 2) := by decide +kernel
theorem dX10_judge_86 : decode cX10_judge 86 = .ok (.iadd, 1) := by decide +kernel
theorem dX10_judge_87 : decode cX10_judge 87 = .ok (.laload, 1) := by decide +kernel
theorem dX10_judge_88 : decode cX10_judge 88 = .ok (.aload_n 0, 1) := by decide +kernel
theorem dX10_judge_89 : decode cX10_judge 89 = .ok (.getfield 12, 3) := by decide +kernel
theorem dX10_judge_92 : decode cX10_judge 92 = .ok (.getfield 76, 3) := by decide +kernel
theorem dX10_judge_95 : decode cX10_judge 95 = .ok (.iload 4, 2) := by decide +kernel
theorem dX10_judge_97 : decode cX10_judge 97 = .ok (.iconst 0, 1) := by decide +kernel
theorem dX10_judge_98 : decode cX10_judge 98 = .ok (.invokevirtual 144, 3) := by decide +kernel
theorem dX10_judge_101 : decode cX10_judge 101 = .ok (.i2l, 1) := by decide +kernel
theorem dX10_judge_102 : decode cX10_judge 102 = .ok (.lcmp, 1) := by decide +kernel
theorem dX10_judge_103 : decode cX10_judge 103 = .ok (.ifCond .eq 6, 3) := by decide +kernel
theorem dX10_judge_106 : decode cX10_judge 106 = .ok (.iload 4, 2) := by decide +kernel
theorem dX10_judge_108 : decode cX10_judge 108 = .ok (.ireturn, 1) := by decide +kernel
theorem dX10_judge_109 : decode cX10_judge 109 = .ok (.iinc 4 1, 3) := by decide +kernel
theorem dX10_judge_112 : decode cX10_judge 112 = .ok (.goto (-76), 3) := by decide +kernel
theorem dX10_judge_115 : decode cX10_judge 115 = .ok (.bipush (-5), 2) := by decide +kernel
theorem dX10_judge_117 : decode cX10_judge 117 = .ok (.ireturn, 1) := by decide +kernel
theorem dX10_image_0 : decode cX10_image 0 = .ok (.aload_n 0, 1) := by decide +kernel
theorem dX10_image_1 : decode cX10_image 1 = .ok (.getfield 18, 3) := by decide +kernel
theorem dX10_image_4 : decode cX10_image 4 = .ok (.aload_n 0, 1) := by decide +kernel
theorem dX10_image_5 : decode cX10_image 5 = .ok (.getfield 12, 3) := by decide +kernel
theorem dX10_image_8 : decode cX10_image 8 = .ok (.invokevirtual 271, 3) := by decide +kernel
theorem dX10_image_11 : decode cX10_image 11 = .ok (.aload_n 0, 1) := by decide +kernel
theorem dX10_image_12 : decode cX10_image 12 = .ok (.iconst 1, 1) := by decide +kernel
theorem dX10_image_13 : decode cX10_image 13 = .ok (.putfield 274, 3) := by decide +kernel
theorem dX10_image_16 : decode cX10_image 16 = .ok (.aload_n 0, 1) := by decide +kernel
theorem dX10_image_17 : decode cX10_image 17 = .ok (.getfield 12, 3) := by decide +kernel
theorem dX10_image_20 : decode cX10_image 20 = .ok (.getfield 76, 3) := by decide +kernel
theorem dX10_image_23 : decode cX10_image 23 = .ok (.getfield 79, 3) := by decide +kernel
theorem dX10_image_26 : decode cX10_image 26 = .ok (.ireturn, 1) := by decide +kernel
theorem dX10_undo_0 : decode cX10_undo 0 = .ok (.aload_n 0, 1) := by decide +kernel
theorem dX10_undo_1 : decode cX10_undo 1 = .ok (.getfield 274, 3) := by decide +kernel
theorem dX10_undo_4 : decode cX10_undo 4 = .ok (.ifCond .ne 6, 3) := by decide +kernel
theorem dX10_undo_7 : decode cX10_undo 7 = .ok (.bipush (-3), 2) := by decide +kernel
theorem dX10_undo_9 : decode cX10_undo 9 = .ok (.ireturn, 1) := by decide +kernel
theorem dX10_undo_10 : decode cX10_undo 10 = .ok (.aload_n 0, 1) := by decide +kernel
theorem dX10_undo_11 : decode cX10_undo 11 = .ok (.getfield 12, 3) := by decide +kernel
theorem dX10_undo_14 : decode cX10_undo 14 = .ok (.aload_n 0, 1) := by decide +kernel
theorem dX10_undo_15 : decode cX10_undo 15 = .ok (.getfield 18, 3) := by decide +kernel
theorem dX10_undo_18 : decode cX10_undo 18 = .ok (.invokevirtual 271, 3) := by decide +kernel
theorem dX10_undo_21 : decode cX10_undo 21 = .ok (.aload_n 0, 1) := by decide +kernel
theorem dX10_undo_22 : decode cX10_undo 22 = .ok (.getfield 12, 3) := by decide +kernel
theorem dX10_undo_25 : decode cX10_undo 25 = .ok (.getfield 76, 3) := by decide +kernel
theorem dX10_undo_28 : decode cX10_undo 28 = .ok (.getfield 79, 3) := by decide +kernel
theorem dX10_undo_31 : decode cX10_undo 31 = .ok (.ireturn, 1) := by decide +kernel
theorem dX10_act_0 : decode cX10_act 0 = .ok (.aload_n 0, 1) := by decide +kernel
theorem dX10_act_1 : decode cX10_act 1 = .ok (.getfield 54, 3) := by decide +kernel
theorem dX10_act_4 : decode cX10_act 4 = .ok (.invokevirtual 278, 3) := by decide +kernel
theorem dX10_act_7 : decode cX10_act 7 = .ok (.aload_n 0, 1) := by decide +kernel
theorem dX10_act_8 : decode cX10_act 8 = .ok (.iload_n 1, 1) := by decide +kernel
theorem dX10_act_9 : decode cX10_act 9 = .ok (.invokevirtual 96, 3) := by decide +kernel
theorem dX10_act_12 : decode cX10_act 12 = .ok (.ifCond .eq 25, 3) := by decide +kernel
theorem dX10_act_15 : decode cX10_act 15 = .ok (.aload_n 0, 1) := by decide +kernel
theorem dX10_act_16 : decode cX10_act 16 = .ok (.getfield 54, 3) := by decide +kernel
theorem dX10_act_19 : decode cX10_act 19 = .ok (.iload_n 1, 1) := by decide +kernel
theorem dX10_act_20 : decode cX10_act 20 = .ok (.aload_n 0, 1) := by decide +kernel
theorem dX10_act_21 : decode cX10_act 21 = .ok (.getfield 12, 3) := by decide +kernel
theorem dX10_act_24 : decode cX10_act 24 = .ok (.getfield 86, 3) := by decide +kernel
theorem dX10_act_27 : decode cX10_act 27 = .ok (.iload_n 1, 1) := by decide +kernel
theorem dX10_act_28 : decode cX10_act 28 = .ok (.aaload, 1) := by decide +kernel
theorem dX10_act_29 : decode cX10_act 29 = .ok (.iload_n 2, 1) := by decide +kernel
theorem dX10_act_30 : decode cX10_act 30 = .ok (.iload_n 3, 1) := by decide +kernel
theorem dX10_act_31 : decode cX10_act 31 = .ok (.invokevirtual 281, 3) := by decide +kernel
theorem dX10_act_34 : decode cX10_act 34 = .ok (.goto 4, 3) := by decide +kernel
theorem dX10_act_37 : decode cX10_act 37 = .ok (.iconst 0, 1) := by decide +kernel
theorem dX10_act_38 : decode cX10_act 38 = .ok (.ireturn, 1) := by decide +kernel
theorem dX10_trace_0 : decode cX10_trace 0 = .ok (.aload_n 0, 1) := by decide +kernel
theorem dX10_trace_1 : decode cX10_trace 1 = .ok (.getfield 54, 3) := by decide +kernel
theorem dX10_trace_4 : decode cX10_trace 4 = .ok (.iload_n 1, 1) := by decide +kernel
theorem dX10_trace_5 : decode cX10_trace 5 = .ok (.invokevirtual 285, 3) := by decide +kernel
theorem dX10_trace_8 : decode cX10_trace 8 = .ok (.ireturn, 1) := by decide +kernel
theorem dX10_taken_0 : decode cX10_taken 0 = .ok (.iload_n 2, 1) := by decide +kernel
theorem dX10_taken_1 : decode cX10_taken 1 = .ok (.iconst 0, 1) := by decide +kernel
theorem dX10_taken_2 : decode cX10_taken 2 = .ok (.bipush 6, 2) := by decide +kernel
theorem dX10_taken_4 : decode cX10_taken 4 = .ok (.invokestatic 69, 3) := by decide +kernel
theorem dX10_taken_7 : decode cX10_taken 7 = .ok (.ifCond .ne 6, 3) := by decide +kernel
theorem dX10_taken_10 : decode cX10_taken 10 = .ok (.bipush (-2), 2) := by decide +kernel
theorem dX10_taken_12 : decode cX10_taken 12 = .ok (.ireturn, 1) := by decide +kernel
theorem dX10_taken_13 : decode cX10_taken 13 = .ok (.aload_n 0, 1) := by decide +kernel
theorem dX10_taken_14 : decode cX10_taken 14 = .ok (.iload_n 1, 1) := by decide +kernel
theorem dX10_taken_15 : decode cX10_taken 15 = .ok (.invokevirtual 96, 3) := by decide +kernel
theorem dX10_taken_18 : decode cX10_taken 18 = .ok (.ifCond .ne 6, 3) := by decide +kernel
theorem dX10_taken_21 : decode cX10_taken 21 = .ok (.bipush (-11), 2) := by decide +kernel
theorem dX10_taken_23 : decode cX10_taken 23 = .ok (.ireturn, 1) := by decide +kernel
theorem dX10_taken_24 : decode cX10_taken 24 = .ok (.aload_n 0, 1) := by decide +kernel
theorem dX10_taken_25 : decode cX10_taken 25 = .ok (.getfield 12, 3) := by decide +kernel
theorem dX10_taken_28 : decode cX10_taken 28 = .ok (.getfield 86, 3) := by decide +kernel
theorem dX10_taken_31 : decode cX10_taken 31 = .ok (.iload_n 1, 1) := by decide +kernel
theorem dX10_taken_32 : decode cX10_taken 32 = .ok (.aaload, 1) := by decide +kernel
theorem dX10_taken_33 : decode cX10_taken 33 = .ok (.getfield 99, 3) := by decide +kernel
theorem dX10_taken_36 : decode cX10_taken 36 = .ok (.istore_n 3, 1) := by decide +kernel
theorem dX10_taken_37 : decode cX10_taken 37 = .ok (.iload_n 3, 1) := by decide +kernel
theorem dX10_taken_38 : decode cX10_taken 38 = .ok (.iload_n 2, 1) := by decide +kernel
theorem dX10_taken_39 : decode cX10_taken 39 = .ok (.invokestatic 288, 3) := by decide +kernel
theorem dX10_taken_42 : decode cX10_taken 42 = .ok (.ifCond .eq 7, 3) := by decide +kernel
theorem dX10_taken_45 : decode cX10_taken 45 = .ok (.iload_n 3, 1) := by decide +kernel
theorem dX10_taken_46 : decode cX10_taken 46 = .ok (.goto 5, 3) := by decide +kernel
theorem dX10_taken_49 : decode cX10_taken 49 = .ok (.bipush (-12), 2) := by decide +kernel
theorem dX10_taken_51 : decode cX10_taken 51 = .ok (.ireturn, 1) := by decide +kernel
theorem dX10_isKindOrUnder_0 : decode cX10_isKindOrUnder 0 = .ok (.iload_n 0, 1) := by decide +kernel
theorem dX10_isKindOrUnder_1 : decode cX10_isKindOrUnder 1 = .ok (.istore_n 2, 1) := by decide +kernel
theorem dX10_isKindOrUnder_2 : decode cX10_isKindOrUnder 2 = .ok (.iconst 0, 1) := by decide +kernel
theorem dX10_isKindOrUnder_3 : decode cX10_isKindOrUnder 3 = .ok (.istore_n 3, 1) := by decide +kernel
theorem dX10_isKindOrUnder_4 : decode cX10_isKindOrUnder 4 = .ok (.iload_n 3, 1) := by decide +kernel
theorem dX10_isKindOrUnder_5 : decode cX10_isKindOrUnder 5 = .ok (.getstatic 291, 3) := by decide +kernel
theorem dX10_isKindOrUnder_8 : decode cX10_isKindOrUnder 8 = .ok (.arraylength, 1) := by decide +kernel
theorem dX10_isKindOrUnder_9 : decode cX10_isKindOrUnder 9 = .ok (.if_icmp .ge 20, 3) := by decide +kernel
theorem dX10_isKindOrUnder_12 : decode cX10_isKindOrUnder 12 = .ok (.iload_n 2, 1) := by decide +kernel
theorem dX10_isKindOrUnder_13 : decode cX10_isKindOrUnder 13 = .ok (.iload_n 1, 1) := by decide +kernel
theorem dX10_isKindOrUnder_14 : decode cX10_isKindOrUnder 14 = .ok (.if_icmp .le 15, 3) := by decide +kernel
theorem dX10_isKindOrUnder_17 : decode cX10_isKindOrUnder 17 = .ok (.getstatic 291, 3) := by decide +kernel
theorem dX10_isKindOrUnder_20 : decode cX10_isKindOrUnder 20 = .ok (.iload_n 2, 1) := by decide +kernel
theorem dX10_isKindOrUnder_21 : decode cX10_isKindOrUnder 21 = .ok (.iaload, 1) := by decide +kernel
theorem dX10_isKindOrUnder_22 : decode cX10_isKindOrUnder 22 = .ok (.istore_n 2, 1) := by decide +kernel
theorem dX10_isKindOrUnder_23 : decode cX10_isKindOrUnder 23 = .ok (.iinc 3 1, 3) := by decide +kernel
theorem dX10_isKindOrUnder_26 : decode cX10_isKindOrUnder 26 = .ok (.goto (-22), 3) := by decide +kernel
theorem dX10_isKindOrUnder_29 : decode cX10_isKindOrUnder 29 = .ok (.iload_n 2, 1) := by decide +kernel
theorem dX10_isKindOrUnder_30 : decode cX10_isKindOrUnder 30 = .ok (.iload_n 1, 1) := by decide +kernel
theorem dX10_isKindOrUnder_31 : decode cX10_isKindOrUnder 31 = .ok (.if_icmp .ne 7, 3) := by decide +kernel
theorem dX10_isKindOrUnder_34 : decode cX10_isKindOrUnder 34 = .ok (.iconst 1, 1) := by decide +kernel
theorem dX10_isKindOrUnder_35 : decode cX10_isKindOrUnder 35 = .ok (.goto 4, 3) := by decide +kernel
theorem dX10_isKindOrUnder_38 : decode cX10_isKindOrUnder 38 = .ok (.iconst 0, 1) := by decide +kernel
theorem dX10_isKindOrUnder_39 : decode cX10_isKindOrUnder 39 = .ok (.ireturn, 1) := by decide +kernel
theorem dX10_count_0 : decode cX10_count 0 = .ok (.iload_n 1, 1) := by decide +kernel
theorem dX10_count_1 : decode cX10_count 1 = .ok (.tableswitch 120 0 7 #[47, 58, 66, 71, 82, 93, 104, 112], 47) := by decide +kernel
theorem dX10_count_48 : decode cX10_count 48 = .ok (.aload_n 0, 1) := by decide +kernel
theorem dX10_count_49 : decode cX10_count 49 = .ok (.getfield 12, 3) := by decide +kernel
theorem dX10_count_52 : decode cX10_count 52 = .ok (.getfield 76, 3) := by decide +kernel
theorem dX10_count_55 : decode cX10_count 55 = .ok (.getfield 79, 3) := by decide +kernel
theorem dX10_count_58 : decode cX10_count 58 = .ok (.ireturn, 1) := by decide +kernel
theorem dX10_count_59 : decode cX10_count 59 = .ok (.aload_n 0, 1) := by decide +kernel
theorem dX10_count_60 : decode cX10_count 60 = .ok (.getfield 12, 3) := by decide +kernel
theorem dX10_count_63 : decode cX10_count 63 = .ok (.getfield 65, 3) := by decide +kernel
theorem dX10_count_66 : decode cX10_count 66 = .ok (.ireturn, 1) := by decide +kernel
theorem dX10_count_67 : decode cX10_count 67 = .ok (.aload_n 0, 1) := by decide +kernel
theorem dX10_count_68 : decode cX10_count 68 = .ok (.getfield 73, 3) := by decide +kernel
theorem dX10_count_71 : decode cX10_count 71 = .ok (.ireturn, 1) := by decide +kernel
theorem dX10_count_72 : decode cX10_count 72 = .ok (.aload_n 0, 1) := by decide +kernel
theorem dX10_count_73 : decode cX10_count 73 = .ok (.getfield 12, 3) := by decide +kernel
theorem dX10_count_76 : decode cX10_count 76 = .ok (.getfield 204, 3) := by decide +kernel
theorem dX10_count_79 : decode cX10_count 79 = .ok (.getfield 212, 3) := by decide +kernel
theorem dX10_count_82 : decode cX10_count 82 = .ok (.ireturn, 1) := by decide +kernel
theorem dX10_count_83 : decode cX10_count 83 = .ok (.aload_n 0, 1) := by decide +kernel
theorem dX10_count_84 : decode cX10_count 84 = .ok (.getfield 12, 3) := by decide +kernel
theorem dX10_count_87 : decode cX10_count 87 = .ok (.getfield 237, 3) := by decide +kernel
theorem dX10_count_90 : decode cX10_count 90 = .ok (.getfield 212, 3) := by decide +kernel
theorem dX10_count_93 : decode cX10_count 93 = .ok (.ireturn, 1) := by decide +kernel
theorem dX10_count_94 : decode cX10_count 94 = .ok (.aload_n 0, 1) := by decide +kernel
theorem dX10_count_95 : decode cX10_count 95 = .ok (.getfield 12, 3) := by decide +kernel
theorem dX10_count_98 : decode cX10_count 98 = .ok (.getfield 252, 3) := by decide +kernel
theorem dX10_count_101 : decode cX10_count 101 = .ok (.getfield 212, 3) := by decide +kernel
theorem dX10_count_104 : decode cX10_count 104 = .ok (.ireturn, 1) := by decide +kernel
theorem dX10_count_105 : decode cX10_count 105 = .ok (.aload_n 0, 1) := by decide +kernel
theorem dX10_count_106 : decode cX10_count 106 = .ok (.getfield 24, 3) := by decide +kernel
theorem dX10_count_109 : decode cX10_count 109 = .ok (.getfield 112, 3) := by decide +kernel
theorem dX10_count_112 : decode cX10_count 112 = .ok (.ireturn, 1) := by decide +kernel
theorem dX10_count_113 : decode cX10_count 113 = .ok (.aload_n 0, 1) := by decide +kernel
theorem dX10_count_114 : decode cX10_count 114 = .ok (.getfield 54, 3) := by decide +kernel
theorem dX10_count_117 : decode cX10_count 117 = .ok (.getfield 294, 3) := by decide +kernel
theorem dX10_count_120 : decode cX10_count 120 = .ok (.ireturn, 1) := by decide +kernel
theorem dX10_count_121 : decode cX10_count 121 = .ok (.bipush (-2), 2) := by decide +kernel
theorem dX10_count_123 : decode cX10_count 123 = .ok (.ireturn, 1) := by decide +kernel
theorem dX10_tape_0 : decode cX10_tape 0 = .ok (.iload_n 1, 1) := by decide +kernel
theorem dX10_tape_1 : decode cX10_tape 1 = .ok (.invokestatic 255, 3) := by decide +kernel
theorem dX10_tape_4 : decode cX10_tape 4 = .ok (.ifCond .ne 5, 3) := by decide +kernel
theorem dX10_tape_7 : decode cX10_tape 7 = .ok (.iconst (-1), 1) := by decide +kernel
theorem dX10_tape_8 : decode cX10_tape 8 = .ok (.ireturn, 1) := by decide +kernel
theorem dX10_tape_9 : decode cX10_tape 9 = .ok (.iload_n 2, 1) := by decide +kernel
theorem dX10_tape_10 : decode cX10_tape 10 = .ok (.iconst (-1), 1) := by decide +kernel
theorem dX10_tape_11 : decode cX10_tape 11 = .ok (.if_icmp .ne 16, 3) := by decide +kernel
theorem dX10_tape_14 : decode cX10_tape 14 = .ok (.aload_n 0, 1) := by decide +kernel
theorem dX10_tape_15 : decode cX10_tape 15 = .ok (.getfield 60, 3) := by decide +kernel
theorem dX10_tape_18 : decode cX10_tape 18 = .ok (.iload_n 1, 1) := by decide +kernel
theorem dX10_tape_19 : decode cX10_tape 19 = .ok (.aaload, 1) := by decide +kernel
theorem dX10_tape_20 : decode cX10_tape 20 = .ok (.iconst (-1), 1) := by decide +kernel
theorem dX10_tape_21 : decode cX10_tape 21 = .ok (.iconst 0, 1) := by decide +kernel
theorem dX10_tape_22 : decode cX10_tape 22 = .ok (.invokevirtual 295, 3) := by decide +kernel
theorem dX10_tape_25 : decode cX10_tape 25 = .ok (.iconst 1, 1) := by decide +kernel
theorem dX10_tape_26 : decode cX10_tape 26 = .ok (.ireturn, 1) := by decide +kernel
theorem dX10_tape_27 : decode cX10_tape 27 = .ok (.iload_n 2, 1) := by decide +kernel
theorem dX10_tape_28 : decode cX10_tape 28 = .ok (.iconst 0, 1) := by decide +kernel
theorem dX10_tape_29 : decode cX10_tape 29 = .ok (.iconst 4, 1) := by decide +kernel
theorem dX10_tape_30 : decode cX10_tape 30 = .ok (.invokestatic 69, 3) := by decide +kernel
theorem dX10_tape_33 : decode cX10_tape 33 = .ok (.ifCond .eq 9, 3) := by decide +kernel
theorem dX10_tape_36 : decode cX10_tape 36 = .ok (.iload_n 3, 1) := by decide +kernel
theorem dX10_tape_37 : decode cX10_tape 37 = .ok (.bipush 60, 2) := by decide +kernel
theorem dX10_tape_39 : decode cX10_tape 39 = .ok (.if_icmp .le 6, 3) := by decide +kernel
theorem dX10_tape_42 : decode cX10_tape 42 = .ok (.bipush (-2), 2) := by decide +kernel
theorem dX10_tape_44 : decode cX10_tape 44 = .ok (.ireturn, 1) := by decide +kernel
theorem dX10_tape_45 : decode cX10_tape 45 = .ok (.iload_n 3, 1) := by decide +kernel
theorem dX10_tape_46 : decode cX10_tape 46 = .ok (.ifCond .ge 6, 3) := by decide +kernel
theorem dX10_tape_49 : decode cX10_tape 49 = .ok (.bipush (-14), 2) := by decide +kernel
theorem dX10_tape_51 : decode cX10_tape 51 = .ok (.ireturn, 1) := by decide +kernel
theorem dX10_tape_52 : decode cX10_tape 52 = .ok (.aload_n 0, 1) := by decide +kernel
theorem dX10_tape_53 : decode cX10_tape 53 = .ok (.getfield 60, 3) := by decide +kernel
theorem dX10_tape_56 : decode cX10_tape 56 = .ok (.iload_n 1, 1) := by decide +kernel
theorem dX10_tape_57 : decode cX10_tape 57 = .ok (.aaload, 1) := by decide +kernel
theorem dX10_tape_58 : decode cX10_tape 58 = .ok (.iload_n 2, 1) := by decide +kernel
theorem dX10_tape_59 : decode cX10_tape 59 = .ok (.iload_n 3, 1) := by decide +kernel
theorem dX10_tape_60 : decode cX10_tape 60 = .ok (.invokevirtual 295, 3) := by decide +kernel
theorem dX10_tape_63 : decode cX10_tape 63 = .ok (.iconst 1, 1) := by decide +kernel
theorem dX10_tape_64 : decode cX10_tape 64 = .ok (.ireturn, 1) := by decide +kernel
theorem dX10_item_0 : decode cX10_item 0 = .ok (.iload_n 1, 1) := by decide +kernel
theorem dX10_item_1 : decode cX10_item 1 = .ok (.invokestatic 255, 3) := by decide +kernel
theorem dX10_item_4 : decode cX10_item 4 = .ok (.ifCond .ne 5, 3) := by decide +kernel
theorem dX10_item_7 : decode cX10_item 7 = .ok (.iconst (-1), 1) := by decide +kernel
theorem dX10_item_8 : decode cX10_item 8 = .ok (.ireturn, 1) := by decide +kernel
theorem dX10_item_9 : decode cX10_item 9 = .ok (.aload_n 0, 1) := by decide +kernel
theorem dX10_item_10 : decode cX10_item 10 = .ok (.getfield 60, 3) := by decide +kernel
theorem dX10_item_13 : decode cX10_item 13 = .ok (.iload_n 1, 1) := by decide +kernel
theorem dX10_item_14 : decode cX10_item 14 = .ok (.aaload, 1) := by decide +kernel
theorem dX10_item_15 : decode cX10_item 15 = .ok (.astore 5, 2) := by decide +kernel
theorem dX10_item_17 : decode cX10_item 17 = .ok (.aload 5, 2) := by decide +kernel
theorem dX10_item_19 : decode cX10_item 19 = .ok (.invokevirtual 258, 3) := by decide +kernel
theorem dX10_item_22 : decode cX10_item 22 = .ok (.ifCond .ne 6, 3) := by decide +kernel
theorem dX10_item_25 : decode cX10_item 25 = .ok (.bipush (-11), 2) := by decide +kernel
theorem dX10_item_27 : decode cX10_item 27 = .ok (.ireturn, 1) := by decide +kernel
theorem dX10_item_28 : decode cX10_item 28 = .ok (.aload 5, 2) := by decide +kernel
theorem dX10_item_30 : decode cX10_item 30 = .ok (.iload_n 2, 1) := by decide +kernel
theorem dX10_item_31 : decode cX10_item 31 = .ok (.invokevirtual 296, 3) := by decide +kernel
theorem dX10_item_34 : decode cX10_item 34 = .ok (.ifCond .ne 6, 3) := by decide +kernel
theorem dX10_item_37 : decode cX10_item 37 = .ok (.bipush (-13), 2) := by decide +kernel
theorem dX10_item_39 : decode cX10_item 39 = .ok (.ireturn, 1) := by decide +kernel
theorem dX10_item_40 : decode cX10_item 40 = .ok (.aload 5, 2) := by decide +kernel
theorem dX10_item_42 : decode cX10_item 42 = .ok (.getfield 267, 3) := by decide +kernel
theorem dX10_item_45 : decode cX10_item 45 = .ok (.iload_n 2, 1) := by decide +kernel
theorem dX10_item_46 : decode cX10_item 46 = .ok (.aload 5, 2) := by decide +kernel
theorem dX10_item_48 : decode cX10_item 48 = .ok (.lload_n 3, 1) := by decide +kernel
theorem dX10_item_49 : decode cX10_item 49 = .ok (.invokevirtual 299, 3) := by decide +kernel
theorem dX10_item_52 : decode cX10_item 52 = .ok (.lastore, 1) := by decide +kernel
theorem dX10_item_53 : decode cX10_item 53 = .ok (.iconst 1, 1) := by decide +kernel
theorem dX10_item_54 : decode cX10_item 54 = .ok (.ireturn, 1) := by decide +kernel
theorem dX10_read_0 : decode cX10_read 0 = .ok (.iload_n 1, 1) := by decide +kernel
theorem dX10_read_1 : decode cX10_read 1 = .ok (.invokestatic 255, 3) := by decide +kernel
theorem dX10_read_4 : decode cX10_read 4 = .ok (.ifCond .eq 30, 3) := by decide +kernel
theorem dX10_read_7 : decode cX10_read 7 = .ok (.aload_n 0, 1) := by decide +kernel
theorem dX10_read_8 : decode cX10_read 8 = .ok (.getfield 60, 3) := by decide +kernel
theorem dX10_read_11 : decode cX10_read 11 = .ok (.iload_n 1, 1) := by decide +kernel
theorem dX10_read_12 : decode cX10_read 12 = .ok (.aaload, 1) := by decide +kernel
theorem dX10_read_13 : decode cX10_read 13 = .ok (.iload_n 2, 1) := by decide +kernel
theorem dX10_read_14 : decode cX10_read 14 = .ok (.invokevirtual 296, 3) := by decide +kernel
theorem dX10_read_17 : decode cX10_read 17 = .ok (.ifCond .eq 17, 3) := by decide +kernel
theorem dX10_read_20 : decode cX10_read 20 = .ok (.aload_n 0, 1) := by decide +kernel
theorem dX10_read_21 : decode cX10_read 21 = .ok (.getfield 60, 3) := by decide +kernel
theorem dX10_read_24 : decode cX10_read 24 = .ok (.iload_n 1, 1) := by decide +kernel
theorem dX10_read_25 : decode cX10_read 25 = .ok (.aaload, 1) := by decide +kernel
theorem dX10_read_26 : decode cX10_read 26 = .ok (.getfield 267, 3) := by decide +kernel
theorem dX10_read_29 : decode cX10_read 29 = .ok (.iload_n 2, 1) := by decide +kernel
theorem dX10_read_30 : decode cX10_read 30 = .ok (.laload, 1) := by decide +kernel
theorem dX10_read_31 : decode cX10_read 31 = .ok (.goto 6, 3) := by decide +kernel
theorem dX10_read_34 : decode cX10_read 34 = .ok (.ldc2_w 231, 3) := by decide +kernel
theorem dX10_read_37 : decode cX10_read 37 = .ok (.lreturn, 1) := by decide +kernel
theorem dX10_shift_0 : decode cX10_shift 0 = .ok (.iload_n 1, 1) := by decide +kernel
theorem dX10_shift_1 : decode cX10_shift 1 = .ok (.invokestatic 255, 3) := by decide +kernel
theorem dX10_shift_4 : decode cX10_shift 4 = .ok (.ifCond .eq 10, 3) := by decide +kernel
theorem dX10_shift_7 : decode cX10_shift 7 = .ok (.iload_n 3, 1) := by decide +kernel
theorem dX10_shift_8 : decode cX10_shift 8 = .ok (.invokestatic 255, 3) := by decide +kernel
theorem dX10_shift_11 : decode cX10_shift 11 = .ok (.ifCond .ne 5, 3) := by decide +kernel
theorem dX10_shift_14 : decode cX10_shift 14 = .ok (.iconst (-1), 1) := by decide +kernel
theorem dX10_shift_15 : decode cX10_shift 15 = .ok (.ireturn, 1) := by decide +kernel
theorem dX10_shift_16 : decode cX10_shift 16 = .ok (.aload_n 0, 1) := by decide +kernel
theorem dX10_shift_17 : decode cX10_shift 17 = .ok (.getfield 60, 3) := by decide +kernel
theorem dX10_shift_20 : decode cX10_shift 20 = .ok (.iload_n 1, 1) := by decide +kernel
theorem dX10_shift_21 : decode cX10_shift 21 = .ok (.aaload, 1) := by decide +kernel
theorem dX10_shift_22 : decode cX10_shift 22 = .ok (.astore 6, 2) := by decide +kernel
theorem dX10_shift_24 : decode cX10_shift 24 = .ok (.aload_n 0, 1) := by decide +kernel
theorem dX10_shift_25 : decode cX10_shift 25 = .ok (.getfield 60, 3) := by decide +kernel
theorem dX10_shift_28 : decode cX10_shift 28 = .ok (.iload_n 3, 1) := by decide +kernel
theorem dX10_shift_29 : decode cX10_shift 29 = .ok (.aaload, 1) := by decide +kernel
theorem dX10_shift_30 : decode cX10_shift 30 = .ok (.astore 7, 2) := by decide +kernel
theorem dX10_shift_32 : decode cX10_shift 32 = .ok (.aload 6, 2) := by decide +kernel
theorem dX10_shift_34 : decode cX10_shift 34 = .ok (.invokevirtual 258, 3) := by decide +kernel
theorem dX10_shift_37 : decode cX10_shift 37 = .ok (.ifCond .eq 11, 3) := by decide +kernel
theorem dX10_shift_40 : decode cX10_shift 40 = .ok (.aload 7, 2) := by decide +kernel
theorem dX10_shift_42 : decode cX10_shift 42 = .ok (.invokevirtual 258, 3) := by decide +kernel
theorem dX10_shift_45 : decode cX10_shift 45 = .ok (.ifCond .ne 6, 3) := by decide +kernel
theorem dX10_shift_48 : decode cX10_shift 48 = .ok (.bipush (-11), 2) := by decide +kernel
theorem dX10_shift_50 : decode cX10_shift 50 = .ok (.ireturn, 1) := by decide +kernel
theorem dX10_shift_51 : decode cX10_shift 51 = .ok (.aload 6, 2) := by decide +kernel
theorem dX10_shift_53 : decode cX10_shift 53 = .ok (.getfield 261, 3) := by decide +kernel
theorem dX10_shift_56 : decode cX10_shift 56 = .ok (.aload 7, 2) := by decide +kernel
theorem dX10_shift_58 : decode cX10_shift 58 = .ok (.getfield 261, 3) := by decide +kernel
theorem dX10_shift_61 : decode cX10_shift 61 = .ok (.if_icmp .eq 6, 3) := by decide +kernel
theorem dX10_shift_64 : decode cX10_shift 64 = .ok (.bipush (-12), 2) := by decide +kernel
theorem dX10_shift_66 : decode cX10_shift 66 = .ok (.ireturn, 1) := by decide +kernel
theorem dX10_shift_67 : decode cX10_shift 67 = .ok (.iload 5, 2) := by decide +kernel
theorem dX10_shift_69 : decode cX10_shift 69 = .ok (.ifCond .lt 37, 3) := by decide +kernel
theorem dX10_shift_72 : decode cX10_shift 72 = .ok (.iload_n 2, 1) := by decide +kernel
theorem dX10_shift_73 : decode cX10_shift 73 = .ok (.ifCond .lt 33, 3) := by decide +kernel
theorem dX10_shift_76 : decode cX10_shift 76 = .ok (.iload 4, 2) := by decide +kernel
theorem dX10_shift_78 : decode cX10_shift 78 = .ok (.ifCond .lt 28, 3) := by decide +kernel
theorem dX10_shift_81 : decode cX10_shift 81 = .ok (.iload_n 2, 1) := by decide +kernel
theorem dX10_shift_82 : decode cX10_shift 82 = .ok (.aload 6, 2) := by decide +kernel
theorem dX10_shift_84 : decode cX10_shift 84 = .ok (.getfield 264, 3) := by decide +kernel
theorem dX10_shift_87 : decode cX10_shift 87 = .ok (.iload 5, 2) := by decide +kernel
theorem dX10_shift_89 : decode cX10_shift 89 = .ok (.isub, 1) := by decide +kernel
theorem dX10_shift_90 : decode cX10_shift 90 = .ok (.if_icmp .gt 16, 3) := by decide +kernel
theorem dX10_shift_93 : decode cX10_shift 93 = .ok (.iload 4, 2) := by decide +kernel
theorem dX10_shift_95 : decode cX10_shift 95 = .ok (.aload 7, 2) := by decide +kernel
theorem dX10_shift_97 : decode cX10_shift 97 = .ok (.getfield 264, 3) := by decide +kernel
theorem dX10_shift_100 : decode cX10_shift 100 = .ok (.iload 5, 2) := by decide +kernel
theorem dX10_shift_102 : decode cX10_shift 102 = .ok (.isub, 1) := by decide +kernel
theorem dX10_shift_103 : decode cX10_shift 103 = .ok (.if_icmp .le 6, 3) := by decide +kernel
theorem dX10_shift_106 : decode cX10_shift 106 = .ok (.bipush (-13), 2) := by decide +kernel
theorem dX10_shift_108 : decode cX10_shift 108 = .ok (.ireturn, 1) := by decide +kernel
theorem dX10_shift_109 : decode cX10_shift 109 = .ok (.aload 6, 2) := by decide +kernel
theorem dX10_shift_111 : decode cX10_shift 111 = .ok (.getfield 267, 3) := by decide +kernel
theorem dX10_shift_114 : decode cX10_shift 114 = .ok (.iload_n 2, 1) := by decide +kernel
theorem dX10_shift_115 : decode cX10_shift 115 = .ok (.aload 7, 2) := by decide +kernel
theorem dX10_shift_117 : decode cX10_shift 117 = .ok (.getfield 267, 3) := by decide +kernel
theorem dX10_shift_120 : decode cX10_shift 120 = .ok (.iload 4, 2) := by decide +kernel
theorem dX10_shift_122 : decode cX10_shift 122 = .ok (.iload 5, 2) := by decide +kernel
theorem dX10_shift_124 : decode cX10_shift 124 = .ok (.invokestatic 303, 3) := by decide +kernel
theorem dX10_shift_127 : decode cX10_shift 127 = .ok (.iload 5, 2) := by decide +kernel
theorem dX10_shift_129 : decode cX10_shift 129 = .ok (.ireturn, 1) := by decide +kernel
theorem dX11_init_0 : decode cX11_init 0 = .ok (.aload_n 0, 1) := by decide +kernel
theorem dX11_init_1 : decode cX11_init 1 = .ok (.invokespecial 1, 3) := by decide +kernel
theorem dX11_init_4 : decode cX11_init 4 = .ok (.aload_n 0, 1) := by decide +kernel
theorem dX11_init_5 : decode cX11_init 5 = .ok (.iconst 0, 1) := by decide +kernel
theorem dX11_init_6 : decode cX11_init 6 = .ok (.putfield 7, 3) := by decide +kernel
theorem dX11_init_9 : decode cX11_init 9 = .ok (.aload_n 0, 1) := by decide +kernel
theorem dX11_init_10 : decode cX11_init 10 = .ok (.iconst 5, 1) := by decide +kernel
theorem dX11_init_11 : decode cX11_init 11 = .ok (.newarray .int, 2) := by decide +kernel
theorem dX11_init_13 : decode cX11_init 13 = .ok (.putfield 13, 3) := by decide +kernel
theorem dX11_init_16 : decode cX11_init 16 = .ok (.aload_n 0, 1) := by decide +kernel
theorem dX11_init_17 : decode cX11_init 17 = .ok (.iconst 5, 1) := by decide +kernel
theorem dX11_init_18 : decode cX11_init 18 = .ok (.newarray .int, 2) := by decide +kernel
theorem dX11_init_20 : decode cX11_init 20 = .ok (.putfield 17, 3) := by decide +kernel
theorem dX11_init_23 : decode cX11_init 23 = .ok (.aload_n 0, 1) := by decide +kernel
theorem dX11_init_24 : decode cX11_init 24 = .ok (.iconst 5, 1) := by decide +kernel
theorem dX11_init_25 : decode cX11_init 25 = .ok (.newarray .int, 2) := by decide +kernel
theorem dX11_init_27 : decode cX11_init 27 = .ok (.putfield 20, 3) := by decide +kernel
theorem dX11_init_30 : decode cX11_init 30 = .ok (.aload_n 0, 1) := by decide +kernel
theorem dX11_init_31 : decode cX11_init 31 = .ok (.bipush 20, 2) := by decide +kernel
theorem dX11_init_33 : decode cX11_init 33 = .ok (.newarray .int, 2) := by decide +kernel
theorem dX11_init_35 : decode cX11_init 35 = .ok (.putfield 23, 3) := by decide +kernel
theorem dX11_init_38 : decode cX11_init 38 = .ok (.aload_n 0, 1) := by decide +kernel
theorem dX11_init_39 : decode cX11_init 39 = .ok (.iconst 0, 1) := by decide +kernel
theorem dX11_init_40 : decode cX11_init 40 = .ok (.putfield 26, 3) := by decide +kernel
theorem dX11_init_43 : decode cX11_init 43 = .ok (.aload_n 0, 1) := by decide +kernel
theorem dX11_init_44 : decode cX11_init 44 = .ok (.iconst 0, 1) := by decide +kernel
theorem dX11_init_45 : decode cX11_init 45 = .ok (.putfield 29, 3) := by decide +kernel
theorem dX11_init_48 : decode cX11_init 48 = .ok (.aload_n 0, 1) := by decide +kernel
theorem dX11_init_49 : decode cX11_init 49 = .ok (.iconst 0, 1) := by decide +kernel
theorem dX11_init_50 : decode cX11_init 50 = .ok (.putfield 32, 3) := by decide +kernel
theorem dX11_init_53 : decode cX11_init 53 = .ok (.aload_n 0, 1) := by decide +kernel
theorem dX11_init_54 : decode cX11_init 54 = .ok (.iconst 0, 1) := by decide +kernel
theorem dX11_init_55 : decode cX11_init 55 = .ok (.putfield 35, 3) := by decide +kernel
theorem dX11_init_58 : decode cX11_init 58 = .ok (.aload_n 0, 1) := by decide +kernel
theorem dX11_init_59 : decode cX11_init 59 = .ok (.bipush 100, 2) := by decide +kernel
theorem dX11_init_61 : decode cX11_init 61 = .ok (.newarray .int, 2) := by decide +kernel
theorem dX11_init_63 : decode cX11_init 63 = .ok (.putfield 38, 3) := by decide +kernel
theorem dX11_init_66 : decode cX11_init 66 = .ok (.aload_n 0, 1) := by decide +kernel
theorem dX11_init_67 : decode cX11_init 67 = .ok (.bipush 6, 2) := by decide +kernel
theorem dX11_init_69 : decode cX11_init 69 = .ok (.newarray .int, 2) := by decide +kernel
theorem dX11_init_71 : decode cX11_init 71 = .ok (.putfield 41, 3) := by decide +kernel
theorem dX11_init_74 : decode cX11_init 74 = .ok (.aload_n 0, 1) := by decide +kernel
theorem dX11_init_75 : decode cX11_init 75 = .ok (.bipush 60, 2) := by decide +kernel
theorem dX11_init_77 : decode cX11_init 77 = .ok (.newarray .int, 2) := by decide +kernel
theorem dX11_init_79 : decode cX11_init 79 = .ok (.putfield 44, 3) := by decide +kernel
theorem dX11_init_82 : decode cX11_init 82 = .ok (.aload_n 0, 1) := by decide +kernel
theorem dX11_init_83 : decode cX11_init 83 = .ok (.bipush 60, 2) := by decide +kernel
theorem dX11_init_85 : decode cX11_init 85 = .ok (.newarray .int, 2) := by decide +kernel
theorem dX11_init_87 : decode cX11_init 87 = .ok (.putfield 47, 3) := by decide +kernel
theorem dX11_init_90 : decode cX11_init 90 = .ok (.aload_n 0, 1) := by decide +kernel
theorem dX11_init_91 : decode cX11_init 91 = .ok (.bipush 60, 2) := by decide +kernel
theorem dX11_init_93 : decode cX11_init 93 = .ok (.newarray .int, 2) := by decide +kernel
theorem dX11_init_95 : decode cX11_init 95 = .ok (.putfield 50, 3) := by decide +kernel
theorem dX11_init_98 : decode cX11_init 98 = .ok (.aload_n 0, 1) := by decide +kernel
theorem dX11_init_99 : decode cX11_init 99 = .ok (.bipush 60, 2) := by decide +kernel
theorem dX11_init_101 : decode cX11_init 101 = .ok (.newarray .int, 2) := by decide +kernel
theorem dX11_init_103 : decode cX11_init 103 = .ok (.putfield 53, 3) := by decide +kernel
theorem dX11_init_106 : decode cX11_init 106 = .ok (.aload_n 0, 1) := by decide +kernel
theorem dX11_init_107 : decode cX11_init 107 = .ok (.sipush 600, 3) := by decide +kernel
theorem dX11_init_110 : decode cX11_init 110 = .ok (.newarray .int, 2) := by decide +kernel
theorem dX11_init_112 : decode cX11_init 112 = .ok (.putfield 56, 3) := by decide +kernel
theorem dX11_init_115 : decode cX11_init 115 = .ok (.aload_n 0, 1) := by decide +kernel
theorem dX11_init_116 : decode cX11_init 116 = .ok (.bipush 101, 2) := by decide +kernel
theorem dX11_init_118 : decode cX11_init 118 = .ok (.newarray .int, 2) := by decide +kernel
theorem dX11_init_120 : decode cX11_init 120 = .ok (.putfield 59, 3) := by decide +kernel
theorem dX11_init_123 : decode cX11_init 123 = .ok (.aload_n 0, 1) := by decide +kernel
theorem dX11_init_124 : decode cX11_init 124 = .ok (.iconst 0, 1) := by decide +kernel
theorem dX11_init_125 : decode cX11_init 125 = .ok (.putfield 62, 3) := by decide +kernel
theorem dX11_init_128 : decode cX11_init 128 = .ok (.aload_n 0, 1) := by decide +kernel
theorem dX11_init_129 : decode cX11_init 129 = .ok (.iconst 0, 1) := by decide +kernel
theorem dX11_init_130 : decode cX11_init 130 = .ok (.putfield 65, 3) := by decide +kernel
theorem dX11_init_133 : decode cX11_init 133 = .ok (.aload_n 0, 1) := by decide +kernel
theorem dX11_init_134 : decode cX11_init 134 = .ok (.iconst 0, 1) := by decide +kernel
theorem dX11_init_135 : decode cX11_init 135 = .ok (.putfield 68, 3) := by decide +kernel
theorem dX11_init_138 : decode cX11_init 138 = .ok (.aload_n 0, 1) := by decide +kernel
theorem dX11_init_139 : decode cX11_init 139 = .ok (.bipush 16, 2) := by decide +kernel
theorem dX11_init_141 : decode cX11_init 141 = .ok (.newarray .int, 2) := by decide +kernel
theorem dX11_init_143 : decode cX11_init 143 = .ok (.dup, 1) := by decide +kernel
theorem dX11_init_144 : decode cX11_init 144 = .ok (.iconst 0, 1) := by decide +kernel
theorem dX11_init_145 : decode cX11_init 145 = .ok (.bipush 102, 2) := by decide +kernel
theorem dX11_init_147 : decode cX11_init 147 = .ok (.iastore, 1) := by decide +kernel
theorem dX11_init_148 : decode cX11_init 148 = .ok (.dup, 1) := by decide +kernel
theorem dX11_init_149 : decode cX11_init 149 = .ok (.iconst 1, 1) := by decide +kernel
theorem dX11_init_150 : decode cX11_init 150 = .ok (.bipush 114, 2) := by decide +kernel
theorem dX11_init_152 : decode cX11_init 152 = .ok (.iastore, 1) := by decide +kernel
theorem dX11_init_153 : decode cX11_init 153 = .ok (.dup, 1) := by decide +kernel
theorem dX11_init_154 : decode cX11_init 154 = .ok (.iconst 2, 1) := by decide +kernel
theorem dX11_init_155 : decode cX11_init 155 = .ok (.bipush 111, 2) := by decide +kernel
theorem dX11_init_157 : decode cX11_init 157 = .ok (.iastore, 1) := by decide +kernel
theorem dX11_init_158 : decode cX11_init 158 = .ok (.dup, 1) := by decide +kernel
theorem dX11_init_159 : decode cX11_init 159 = .ok (.iconst 3, 1) := by decide +kernel
theorem dX11_init_160 : decode cX11_init 160 = .ok (.bipush 109, 2) := by decide +kernel
theorem dX11_init_162 : decode cX11_init 162 = .ok (.iastore, 1) := by decide +kernel
theorem dX11_init_163 : decode cX11_init 163 = .ok (.dup, 1) := by decide +kernel
theorem dX11_init_164 : decode cX11_init 164 = .ok (.iconst 4, 1) := by decide +kernel
theorem dX11_init_165 : decode cX11_init 165 = .ok (.bipush 116, 2) := by decide +kernel
theorem dX11_init_167 : decode cX11_init 167 = .ok (.iastore, 1) := by decide +kernel
theorem dX11_init_168 : decode cX11_init 168 = .ok (.dup, 1) := by decide +kernel
theorem dX11_init_169 : decode cX11_init 169 = .ok (.iconst 5, 1) := by decide +kernel
theorem dX11_init_170 : decode cX11_init 170 = .ok (.bipush 105, 2) := by decide +kernel
theorem dX11_init_172 : decode cX11_init 172 = .ok (.iastore, 1) := by decide +kernel
theorem dX11_init_173 : decode cX11_init 173 = .ok (.dup, 1) := by decide +kernel
theorem dX11_init_174 : decode cX11_init 174 = .ok (.bipush 6, 2) := by decide +kernel
theorem dX11_init_176 : decode cX11_init 176 = .ok (.bipush 108, 2) := by decide +kernel
theorem dX11_init_178 : decode cX11_init 178 = .ok (.iastore, 1) := by decide +kernel
theorem dX11_init_179 : decode cX11_init 179 = .ok (.dup, 1) := by decide +kernel
theorem dX11_init_180 : decode cX11_init 180 = .ok (.bipush 7, 2) := by decide +kernel
theorem dX11_init_182 : decode cX11_init 182 = .ok (.bipush 108, 2) := by decide +kernel
theorem dX11_init_184 : decode cX11_init 184 = .ok (.iastore, 1) := by decide +kernel
theorem dX11_init_185 : decode cX11_init 185 = .ok (.dup, 1) := by decide +kernel
theorem dX11_init_186 : decode cX11_init 186 = .ok (.bipush 8, 2) := by decide +kernel
theorem dX11_init_188 : decode cX11_init 188 = .ok (.bipush 115, 2) := by decide +kernel
theorem dX11_init_190 : decode cX11_init 190 = .ok (.iastore, 1) := by decide +kernel
theorem dX11_init_191 : decode cX11_init 191 = .ok (.dup, 1) := by decide +kernel
theorem dX11_init_192 : decode cX11_init 192 = .ok (.bipush 9, 2) := by decide +kernel
theorem dX11_init_194 : decode cX11_init 194 = .ok (.bipush 107, 2) := by decide +kernel
theorem dX11_init_196 : decode cX11_init 196 = .ok (.iastore, 1) := by decide +kernel
theorem dX11_init_197 : decode cX11_init 197 = .ok (.dup, 1) := by decide +kernel
theorem dX11_init_198 : decode cX11_init 198 = .ok (.bipush 10, 2) := by decide +kernel
theorem dX11_init_200 : decode cX11_init 200 = .ok (.bipush 105, 2) := by decide +kernel
theorem dX11_init_202 : decode cX11_init 202 = .ok (.iastore, 1) := by decide +kernel
theorem dX11_init_203 : decode cX11_init 203 = .ok (.dup, 1) := by decide +kernel
theorem dX11_init_204 : decode cX11_init 204 = .ok (.bipush 11, 2) := by decide +kernel
theorem dX11_init_206 : decode cX11_init 206 = .ok (.bipush 112, 2) := by decide +kernel
theorem dX11_init_208 : decode cX11_init 208 = .ok (.iastore, 1) := by decide +kernel
theorem dX11_init_209 : decode cX11_init 209 = .ok (.dup, 1) := by decide +kernel
theorem dX11_init_210 : decode cX11_init 210 = .ok (.bipush 12, 2) := by decide +kernel
theorem dX11_init_212 : decode cX11_init 212 = .ok (.bipush 116, 2) := by decide +kernel
theorem dX11_init_214 : decode cX11_init 214 = .ok (.iastore, 1) := by decide +kernel
theorem dX11_init_215 : decode cX11_init 215 = .ok (.dup, 1) := by decide +kernel
theorem dX11_init_216 : decode cX11_init 216 = .ok (.bipush 13, 2) := by decide +kernel
theorem dX11_init_218 : decode cX11_init 218 = .ok (.bipush 117, 2) := by decide +kernel
theorem dX11_init_220 : decode cX11_init 220 = .ok (.iastore, 1) := by decide +kernel
theorem dX11_init_221 : decode cX11_init 221 = .ok (.dup, 1) := by decide +kernel
theorem dX11_init_222 : decode cX11_init 222 = .ok (.bipush 14, 2) := by decide +kernel
theorem dX11_init_224 : decode cX11_init 224 = .ok (.bipush 114, 2) := by decide +kernel
theorem dX11_init_226 : decode cX11_init 226 = .ok (.iastore, 1) := by decide +kernel
theorem dX11_init_227 : decode cX11_init 227 = .ok (.dup, 1) := by decide +kernel
theorem dX11_init_228 : decode cX11_init 228 = .ok (.bipush 15, 2) := by decide +kernel
theorem dX11_init_230 : decode cX11_init 230 = .ok (.bipush 110, 2) := by decide +kernel
theorem dX11_init_232 : decode cX11_init 232 = .ok (.iastore, 1) := by decide +kernel
theorem dX11_init_233 : decode cX11_init 233 = .ok (.putfield 71, 3) := by decide +kernel
theorem dX11_init_236 : decode cX11_init 236 = .ok (.aload_n 0, 1) := by decide +kernel
theorem dX11_init_237 : decode cX11_init 237 = .ok (.bipush 100, 2) := by decide +kernel
theorem dX11_init_239 : decode cX11_init 239 = .ok (.newarray .boolean, 2) := by decide +kernel
theorem dX11_init_241 : decode cX11_init 241 = .ok (.putfield 74, 3) := by decide +kernel
theorem dX11_init_244 : decode cX11_init 244 = .ok (.aload_n 0, 1) := by decide +kernel
theorem dX11_init_245 : decode cX11_init 245 = .ok (.iconst 0, 1) := by decide +kernel
theorem dX11_init_246 : decode cX11_init 246 = .ok (.putfield 78, 3) := by decide +kernel
theorem dX11_init_249 : decode cX11_init 249 = .ok (.aload_n 0, 1) := by decide +kernel
theorem dX11_init_250 : decode cX11_init 250 = .ok (.bipush 24, 2) := by decide +kernel
theorem dX11_init_252 : decode cX11_init 252 = .ok (.newarray .int, 2) := by decide +kernel
theorem dX11_init_254 : decode cX11_init 254 = .ok (.putfield 81, 3) := by decide +kernel
theorem dX11_init_257 : decode cX11_init 257 = .ok (.aload_n 0, 1) := by decide +kernel
theorem dX11_init_258 : decode cX11_init 258 = .ok (.bipush 24, 2) := by decide +kernel
theorem dX11_init_260 : decode cX11_init 260 = .ok (.newarray .int, 2) := by decide +kernel
theorem dX11_init_262 : decode cX11_init 262 = .ok (.putfield 84, 3) := by decide +kernel
theorem dX11_init_265 : decode cX11_init 265 = .ok (.aload_n 0, 1) := by decide +kernel
theorem dX11_init_266 : decode cX11_init 266 = .ok (.bipush 24, 2) := by decide +kernel
theorem dX11_init_268 : decode cX11_init 268 = .ok (.newarray .int, 2) := by decide +kernel
theorem dX11_init_270 : decode cX11_init 270 = .ok (.putfield 87, 3) := by decide +kernel
theorem dX11_init_273 : decode cX11_init 273 = .ok (.aload_n 0, 1) := by decide +kernel
theorem dX11_init_274 : decode cX11_init 274 = .ok (.bipush 24, 2) := by decide +kernel
theorem dX11_init_276 : decode cX11_init 276 = .ok (.newarray .boolean, 2) := by decide +kernel
theorem dX11_init_278 : decode cX11_init 278 = .ok (.putfield 90, 3) := by decide +kernel
theorem dX11_init_281 : decode cX11_init 281 = .ok (.aload_n 0, 1) := by decide +kernel
theorem dX11_init_282 : decode cX11_init 282 = .ok (.bipush 24, 2) := by decide +kernel
theorem dX11_init_284 : decode cX11_init 284 = .ok (.newarray .boolean, 2) := by decide +kernel
theorem dX11_init_286 : decode cX11_init 286 = .ok (.putfield 93, 3) := by decide +kernel
theorem dX11_init_289 : decode cX11_init 289 = .ok (.aload_n 0, 1) := by decide +kernel
theorem dX11_init_290 : decode cX11_init 290 = .ok (.bipush 24, 2) := by decide +kernel
theorem dX11_init_292 : decode cX11_init 292 = .ok (.newarray .boolean, 2) := by decide +kernel
theorem dX11_init_294 : decode cX11_init 294 = .ok (.putfield 96, 3) := by decide +kernel
theorem dX11_init_297 : decode cX11_init 297 = .ok (.aload_n 0, 1) := by decide +kernel
theorem dX11_init_298 : decode cX11_init 298 = .ok (.iconst 0, 1) := by decide +kernel
theorem dX11_init_299 : decode cX11_init 299 = .ok (.putfield 99, 3) := by decide +kernel
theorem dX11_init_302 : decode cX11_init 302 = .ok (.aload_n 0, 1) := by decide +kernel
theorem dX11_init_303 : decode cX11_init 303 = .ok (.iconst 0, 1) := by decide +kernel
theorem dX11_init_304 : decode cX11_init 304 = .ok (.putfield 102, 3) := by decide +kernel
theorem dX11_init_307 : decode cX11_init 307 = .ok (.aload_n 0, 1) := by decide +kernel
theorem dX11_init_308 : decode cX11_init 308 = .ok (.iconst 0, 1) := by decide +kernel
theorem dX11_init_309 : decode cX11_init 309 = .ok (.putfield 105, 3) := by decide +kernel
theorem dX11_init_312 : decode cX11_init 312 = .ok (.aload_n 0, 1) := by decide +kernel
theorem dX11_init_313 : decode cX11_init 313 = .ok (.bipush 24, 2) := by decide +kernel
theorem dX11_init_315 : decode cX11_init 315 = .ok (.newarray .int, 2) := by decide +kernel
theorem dX11_init_317 : decode cX11_init 317 = .ok (.putfield 108, 3) := by decide +kernel
theorem dX11_init_320 : decode cX11_init 320 = .ok (.aload_n 0, 1) := by decide +kernel
theorem dX11_init_321 : decode cX11_init 321 = .ok (.bipush 24, 2) := by decide +kernel
theorem dX11_init_323 : decode cX11_init 323 = .ok (.newarray .boolean, 2) := by decide +kernel
theorem dX11_init_325 : decode cX11_init 325 = .ok (.putfield 111, 3) := by decide +kernel
theorem dX11_init_328 : decode cX11_init 328 = .ok (.aload_n 0, 1) := by decide +kernel
theorem dX11_init_329 : decode cX11_init 329 = .ok (.iconst 0, 1) := by decide +kernel
theorem dX11_init_330 : decode cX11_init 330 = .ok (.putfield 114, 3) := by decide +kernel
theorem dX11_init_333 : decode cX11_init 333 = .ok (.aload_n 0, 1) := by decide +kernel
theorem dX11_init_334 : decode cX11_init 334 = .ok (.iconst 5, 1) := by decide +kernel
theorem dX11_init_335 : decode cX11_init 335 = .ok (.newarray .int, 2) := by decide +kernel
theorem dX11_init_337 : decode cX11_init 337 = .ok (.putfield 117, 3) := by decide +kernel
theorem dX11_init_340 : decode cX11_init 340 = .ok (.aload_n 0, 1) := by decide +kernel
theorem dX11_init_341 : decode cX11_init 341 = .ok (.iconst 5, 1) := by decide +kernel
theorem dX11_init_342 : decode cX11_init 342 = .ok (.newarray .int, 2) := by decide +kernel
theorem dX11_init_344 : decode cX11_init 344 = .ok (.putfield 120, 3) := by decide +kernel
theorem dX11_init_347 : decode cX11_init 347 = .ok (.aload_n 0, 1) := by decide +kernel
theorem dX11_init_348 : decode cX11_init 348 = .ok (.iconst 0, 1) := by decide +kernel
theorem dX11_init_349 : decode cX11_init 349 = .ok (.putfield 123, 3) := by decide +kernel
theorem dX11_init_352 : decode cX11_init 352 = .ok (.aload_n 0, 1) := by decide +kernel
theorem dX11_init_353 : decode cX11_init 353 = .ok (.iconst 0, 1) := by decide +kernel
theorem dX11_init_354 : decode cX11_init 354 = .ok (.putfield 126, 3) := by decide +kernel
theorem dX11_init_357 : decode cX11_init 357 = .ok (.aload_n 0, 1) := by decide +kernel
theorem dX11_init_358 : decode cX11_init 358 = .ok (.bipush 6, 2) := by decide +kernel
theorem dX11_init_360 : decode cX11_init 360 = .ok (.newarray .int, 2) := by decide +kernel
theorem dX11_init_362 : decode cX11_init 362 = .ok (.putfield 129, 3) := by decide +kernel
theorem dX11_init_365 : decode cX11_init 365 = .ok (.aload_n 0, 1) := by decide +kernel
theorem dX11_init_366 : decode cX11_init 366 = .ok (.bipush 6, 2) := by decide +kernel
theorem dX11_init_368 : decode cX11_init 368 = .ok (.newarray .int, 2) := by decide +kernel
theorem dX11_init_370 : decode cX11_init 370 = .ok (.putfield 132, 3) := by decide +kernel
theorem dX11_init_373 : decode cX11_init 373 = .ok (.aload_n 0, 1) := by decide +kernel
theorem dX11_init_374 : decode cX11_init 374 = .ok (.bipush 6, 2) := by decide +kernel
theorem dX11_init_376 : decode cX11_init 376 = .ok (.newarray .int, 2) := by decide +kernel
theorem dX11_init_378 : decode cX11_init 378 = .ok (.putfield 135, 3) := by decide +kernel
theorem dX11_init_381 : decode cX11_init 381 = .ok (.aload_n 0, 1) := by decide +kernel
theorem dX11_init_382 : decode cX11_init 382 = .ok (.bipush 8, 2) := by decide +kernel
theorem dX11_init_384 : decode cX11_init 384 = .ok (.newarray .int, 2) := by decide +kernel
theorem dX11_init_386 : decode cX11_init 386 = .ok (.putfield 138, 3) := by decide +kernel
theorem dX11_init_389 : decode cX11_init 389 = .ok (.aload_n 0, 1) := by decide +kernel
theorem dX11_init_390 : decode cX11_init 390 = .ok (.bipush 8, 2) := by decide +kernel
theorem dX11_init_392 : decode cX11_init 392 = .ok (.newarray .int, 2) := by decide +kernel
theorem dX11_init_394 : decode cX11_init 394 = .ok (.putfield 141, 3) := by decide +kernel
theorem dX11_init_397 : decode cX11_init 397 = .ok (.aload_n 0, 1) := by decide +kernel
theorem dX11_init_398 : decode cX11_init 398 = .ok (.iconst 0, 1) := by decide +kernel
theorem dX11_init_399 : decode cX11_init 399 = .ok (.putfield 144, 3) := by decide +kernel
theorem dX11_init_402 : decode cX11_init 402 = .ok (.aload_n 0, 1) := by decide +kernel
theorem dX11_init_403 : decode cX11_init 403 = .ok (.iconst 0, 1) := by decide +kernel
theorem dX11_init_404 : decode cX11_init 404 = .ok (.putfield 148, 3) := by decide +kernel
theorem dX11_init_407 : decode cX11_init 407 = .ok (.aload_n 0, 1) := by decide +kernel
theorem dX11_init_408 : decode cX11_init 408 = .ok (.iconst 0, 1) := by decide +kernel
theorem dX11_init_409 : decode cX11_init 409 = .ok (.putfield 151, 3) := by decide +kernel
theorem dX11_init_412 : decode cX11_init 412 = .ok (.aload_n 0, 1) := by decide +kernel
theorem dX11_init_413 : decode cX11_init 413 = .ok (.iconst 0, 1) := by decide +kernel
theorem dX11_init_414 : decode cX11_init 414 = .ok (.putfield 154, 3) := by decide +kernel
theorem dX11_init_417 : decode cX11_init 417 = .ok (.aload_n 0, 1) := by decide +kernel
theorem dX11_init_418 : decode cX11_init 418 = .ok (.iconst 0, 1) := by decide +kernel
theorem dX11_init_419 : decode cX11_init 419 = .ok (.putfield 157, 3) := by decide +kernel
theorem dX11_init_422 : decode cX11_init 422 = .ok (.aload_n 0, 1) := by decide +kernel
theorem dX11_init_423 : decode cX11_init 423 = .ok (.iconst 0, 1) := by decide +kernel
theorem dX11_init_424 : decode cX11_init 424 = .ok (.putfield 160, 3) := by decide +kernel
theorem dX11_init_427 : decode cX11_init 427 = .ok (.aload_n 0, 1) := by decide +kernel
theorem dX11_init_428 : decode cX11_init 428 = .ok (.bipush 24, 2) := by decide +kernel
theorem dX11_init_430 : decode cX11_init 430 = .ok (.newarray .int, 2) := by decide +kernel
theorem dX11_init_432 : decode cX11_init 432 = .ok (.putfield 163, 3) := by decide +kernel
theorem dX11_init_435 : decode cX11_init 435 = .ok (.aload_n 0, 1) := by decide +kernel
theorem dX11_init_436 : decode cX11_init 436 = .ok (.iconst 5, 1) := by decide +kernel
theorem dX11_init_437 : decode cX11_init 437 = .ok (.newarray .int, 2) := by decide +kernel
theorem dX11_init_439 : decode cX11_init 439 = .ok (.putfield 166, 3) := by decide +kernel
theorem dX11_init_442 : decode cX11_init 442 = .ok (.aload_n 0, 1) := by decide +kernel
theorem dX11_init_443 : decode cX11_init 443 = .ok (.iconst 5, 1) := by decide +kernel
theorem dX11_init_444 : decode cX11_init 444 = .ok (.newarray .int, 2) := by decide +kernel
theorem dX11_init_446 : decode cX11_init 446 = .ok (.putfield 169, 3) := by decide +kernel
theorem dX11_init_449 : decode cX11_init 449 = .ok (.aload_n 0, 1) := by decide +kernel
theorem dX11_init_450 : decode cX11_init 450 = .ok (.iconst 5, 1) := by decide +kernel
theorem dX11_init_451 : decode cX11_init 451 = .ok (.newarray .int, 2) := by decide +kernel
theorem dX11_init_453 : decode cX11_init 453 = .ok (.putfield 172, 3) := by decide +kernel
theorem dX11_init_456 : decode cX11_init 456 = .ok (.aload_n 0, 1) := by decide +kernel
theorem dX11_init_457 : decode cX11_init 457 = .ok (.bipush 20, 2) := by decide +kernel
theorem dX11_init_459 : decode cX11_init 459 = .ok (.newarray .int, 2) := by decide +kernel
theorem dX11_init_461 : decode cX11_init 461 = .ok (.putfield 175, 3) := by decide +kernel
theorem dX11_init_464 : decode cX11_init 464 = .ok (.aload_n 0, 1) := by decide +kernel
theorem dX11_init_465 : decode cX11_init 465 = .ok (.iconst 5, 1) := by decide +kernel
theorem dX11_init_466 : decode cX11_init 466 = .ok (.newarray .int, 2) := by decide +kernel
theorem dX11_init_468 : decode cX11_init 468 = .ok (.putfield 178, 3) := by decide +kernel
theorem dX11_init_471 : decode cX11_init 471 = .ok (.aload_n 0, 1) := by decide +kernel
theorem dX11_init_472 : decode cX11_init 472 = .ok (.iconst 5, 1) := by decide +kernel
theorem dX11_init_473 : decode cX11_init 473 = .ok (.newarray .int, 2) := by decide +kernel
theorem dX11_init_475 : decode cX11_init 475 = .ok (.putfield 181, 3) := by decide +kernel
theorem dX11_init_478 : decode cX11_init 478 = .ok (.aload_n 0, 1) := by decide +kernel
theorem dX11_init_479 : decode cX11_init 479 = .ok (.bipush 6, 2) := by decide +kernel
theorem dX11_init_481 : decode cX11_init 481 = .ok (.newarray .int, 2) := by decide +kernel
theorem dX11_init_483 : decode cX11_init 483 = .ok (.putfield 184, 3) := by decide +kernel
theorem dX11_init_486 : decode cX11_init 486 = .ok (.aload_n 0, 1) := by decide +kernel
theorem dX11_init_487 : decode cX11_init 487 = .ok (.bipush 6, 2) := by decide +kernel
theorem dX11_init_489 : decode cX11_init 489 = .ok (.newarray .int, 2) := by decide +kernel
theorem dX11_init_491 : decode cX11_init 491 = .ok (.putfield 187, 3) := by decide +kernel
theorem dX11_init_494 : decode cX11_init 494 = .ok (.aload_n 0, 1) := by decide +kernel
theorem dX11_init_495 : decode cX11_init 495 = .ok (.bipush 6, 2) := by decide +kernel
theorem dX11_init_497 : decode cX11_init 497 = .ok (.newarray .int, 2) := by decide +kernel
theorem dX11_init_499 : decode cX11_init 499 = .ok (.putfield 190, 3) := by decide +kernel
theorem dX11_init_502 : decode cX11_init 502 = .ok (.aload_n 0, 1) := by decide +kernel
theorem dX11_init_503 : decode cX11_init 503 = .ok (.bipush 8, 2) := by decide +kernel
theorem dX11_init_505 : decode cX11_init 505 = .ok (.newarray .int, 2) := by decide +kernel
theorem dX11_init_507 : decode cX11_init 507 = .ok (.putfield 193, 3) := by decide +kernel
theorem dX11_init_510 : decode cX11_init 510 = .ok (.aload_n 0, 1) := by decide +kernel
theorem dX11_init_511 : decode cX11_init 511 = .ok (.bipush 8, 2) := by decide +kernel
theorem dX11_init_513 : decode cX11_init 513 = .ok (.newarray .int, 2) := by decide +kernel
theorem dX11_init_515 : decode cX11_init 515 = .ok (.putfield 196, 3) := by decide +kernel
theorem dX11_init_518 : decode cX11_init 518 = .ok (.aload_n 0, 1) := by decide +kernel
theorem dX11_init_519 : decode cX11_init 519 = .ok (.bipush 24, 2) := by decide +kernel
theorem dX11_init_521 : decode cX11_init 521 = .ok (.newarray .boolean, 2) := by decide +kernel
theorem dX11_init_523 : decode cX11_init 523 = .ok (.putfield 199, 3) := by decide +kernel
theorem dX11_init_526 : decode cX11_init 526 = .ok (.aload_n 0, 1) := by decide +kernel
theorem dX11_init_527 : decode cX11_init 527 = .ok (.iconst 0, 1) := by decide +kernel
theorem dX11_init_528 : decode cX11_init 528 = .ok (.putfield 202, 3) := by decide +kernel
theorem dX11_init_531 : decode cX11_init 531 = .ok (.aload_n 0, 1) := by decide +kernel
theorem dX11_init_532 : decode cX11_init 532 = .ok (.bipush 20, 2) := by decide +kernel
theorem dX11_init_534 : decode cX11_init 534 = .ok (.newarray .int, 2) := by decide +kernel
theorem dX11_init_536 : decode cX11_init 536 = .ok (.putfield 205, 3) := by decide +kernel
theorem dX11_init_539 : decode cX11_init 539 = .ok (.aload_n 0, 1) := by decide +kernel
theorem dX11_init_540 : decode cX11_init 540 = .ok (.bipush 6, 2) := by decide +kernel
theorem dX11_init_542 : decode cX11_init 542 = .ok (.newarray .int, 2) := by decide +kernel
theorem dX11_init_544 : decode cX11_init 544 = .ok (.dup, 1) := by decide +kernel
theorem dX11_init_545 : decode cX11_init 545 = .ok (.iconst 0, 1) := by decide +kernel
theorem dX11_init_546 : decode cX11_init 546 = .ok (.iconst (-1), 1) := by decide +kernel
theorem dX11_init_547 : decode cX11_init 547 = .ok (.iastore, 1) := by decide +kernel
theorem dX11_init_548 : decode cX11_init 548 = .ok (.dup, 1) := by decide +kernel
theorem dX11_init_549 : decode cX11_init 549 = .ok (.iconst 1, 1) := by decide +kernel
theorem dX11_init_550 : decode cX11_init 550 = .ok (.iconst (-1), 1) := by decide +kernel
theorem dX11_init_551 : decode cX11_init 551 = .ok (.iastore, 1) := by decide +kernel
theorem dX11_init_552 : decode cX11_init 552 = .ok (.dup, 1) := by decide +kernel
theorem dX11_init_553 : decode cX11_init 553 = .ok (.iconst 2, 1) := by decide +kernel
theorem dX11_init_554 : decode cX11_init 554 = .ok (.iconst (-1), 1) := by decide +kernel
theorem dX11_init_555 : decode cX11_init 555 = .ok (.iastore, 1) := by decide +kernel
theorem dX11_init_556 : decode cX11_init 556 = .ok (.dup, 1) := by decide +kernel
theorem dX11_init_557 : decode cX11_init 557 = .ok (.iconst 3, 1) := by decide +kernel
theorem dX11_init_558 : decode cX11_init 558 = .ok (.iconst (-1), 1) := by decide +kernel
theorem dX11_init_559 : decode cX11_init 559 = .ok (.iastore, 1) := by decide +kernel
theorem dX11_init_560 : decode cX11_init 560 = .ok (.dup, 1) := by decide +kernel
theorem dX11_init_561 : decode cX11_init 561 = .ok (.iconst 4, 1) := by decide +kernel
theorem dX11_init_562 : decode cX11_init 562 = .ok (.iconst (-1), 1) := by decide +kernel
theorem dX11_init_563 : decode cX11_init 563 = .ok (.iastore, 1) := by decide +kernel
theorem dX11_init_564 : decode cX11_init 564 = .ok (.dup, 1) := by decide +kernel
theorem dX11_init_565 : decode cX11_init 565 = .ok (.iconst 5, 1) := by decide +kernel
theorem dX11_init_566 : decode cX11_init 566 = .ok (.iconst (-1), 1) := by decide +kernel
theorem dX11_init_567 : decode cX11_init 567 = .ok (.iastore, 1) := by decide +kernel
theorem dX11_init_568 : decode cX11_init 568 = .ok (.putfield 208, 3) := by decide +kernel
theorem dX11_init_571 : decode cX11_init 571 = .ok (.aload_n 0, 1) := by decide +kernel
theorem dX11_init_572 : decode cX11_init 572 = .ok (.bipush 6, 2) := by decide +kernel
theorem dX11_init_574 : decode cX11_init 574 = .ok (.newarray .int, 2) := by decide +kernel
theorem dX11_init_576 : decode cX11_init 576 = .ok (.putfield 211, 3) := by decide +kernel
theorem dX11_init_579 : decode cX11_init 579 = .ok (.aload_n 0, 1) := by decide +kernel
theorem dX11_init_580 : decode cX11_init 580 = .ok (.sipush 360, 3) := by decide +kernel
theorem dX11_init_583 : decode cX11_init 583 = .ok (.newarray .long, 2) := by decide +kernel
theorem dX11_init_585 : decode cX11_init 585 = .ok (.putfield 214, 3) := by decide +kernel
theorem dX11_init_588 : decode cX11_init 588 = .ok (.aload_n 0, 1) := by decide +kernel
theorem dX11_init_589 : decode cX11_init 589 = .ok (.bipush 60, 2) := by decide +kernel
theorem dX11_init_591 : decode cX11_init 591 = .ok (.newarray .long, 2) := by decide +kernel
theorem dX11_init_593 : decode cX11_init 593 = .ok (.putfield 218, 3) := by decide +kernel
theorem dX11_init_596 : decode cX11_init 596 = .ok (.return_, 1) := by decide +kernel
theorem dX11_in_0 : decode cX11_in 0 = .ok (.iload_n 1, 1) := by decide +kernel
theorem dX11_in_1 : decode cX11_in 1 = .ok (.iload_n 2, 1) := by decide +kernel
theorem dX11_in_2 : decode cX11_in 2 = .ok (.if_icmp .lt 12, 3) := by decide +kernel
theorem dX11_in_5 : decode cX11_in 5 = .ok (.iload_n 1, 1) := by decide +kernel
theorem dX11_in_6 : decode cX11_in 6 = .ok (.iload_n 3, 1) := by decide +kernel
theorem dX11_in_7 : decode cX11_in 7 = .ok (.if_icmp .gt 7, 3) := by decide +kernel
theorem dX11_in_10 : decode cX11_in 10 = .ok (.iconst 1, 1) := by decide +kernel
theorem dX11_in_11 : decode cX11_in 11 = .ok (.goto 4, 3) := by decide +kernel
theorem dX11_in_14 : decode cX11_in 14 = .ok (.iconst 0, 1) := by decide +kernel
theorem dX11_in_15 : decode cX11_in 15 = .ok (.ireturn, 1) := by decide +kernel
theorem dX11_isTray_0 : decode cX11_isTray 0 = .ok (.aload_n 0, 1) := by decide +kernel
theorem dX11_isTray_1 : decode cX11_isTray 1 = .ok (.iload_n 1, 1) := by decide +kernel
theorem dX11_isTray_2 : decode cX11_isTray 2 = .ok (.iconst 0, 1) := by decide +kernel
theorem dX11_isTray_3 : decode cX11_isTray 3 = .ok (.aload_n 0, 1) := by decide +kernel
theorem dX11_isTray_4 : decode cX11_isTray 4 = .ok (.getfield 7, 3) := by decide +kernel
theorem dX11_isTray_7 : decode cX11_isTray 7 = .ok (.iconst 1, 1) := by decide +kernel
theorem dX11_isTray_8 : decode cX11_isTray 8 = .ok (.isub, 1) := by decide +kernel
theorem dX11_isTray_9 : decode cX11_isTray 9 = .ok (.invokevirtual 221, 3) := by decide +kernel
theorem dX11_isTray_12 : decode cX11_isTray 12 = .ok (.ireturn, 1) := by decide +kernel
theorem dX11_tray_0 : decode cX11_tray 0 = .ok (.aload_n 0, 1) := by decide +kernel
theorem dX11_tray_1 : decode cX11_tray 1 = .ok (.iload_n 1, 1) := by decide +kernel
theorem dX11_tray_2 : decode cX11_tray 2 = .ok (.iconst 0, 1) := by decide +kernel
theorem dX11_tray_3 : decode cX11_tray 3 = .ok (.bipush 6, 2) := by decide +kernel
theorem dX11_tray_5 : decode cX11_tray 5 = .ok (.invokevirtual 221, 3) := by decide +kernel
theorem dX11_tray_8 : decode cX11_tray 8 = .ok (.ifCond .ne 5, 3) := by decide +kernel
theorem dX11_tray_11 : decode cX11_tray 11 = .ok (.iconst (-1), 1) := by decide +kernel
theorem dX11_tray_12 : decode cX11_tray 12 = .ok (.ireturn, 1) := by decide +kernel
theorem dX11_tray_13 : decode cX11_tray 13 = .ok (.aload_n 0, 1) := by decide +kernel
theorem dX11_tray_14 : decode cX11_tray 14 = .ok (.iload_n 2, 1) := by decide +kernel
theorem dX11_tray_15 : decode cX11_tray 15 = .ok (.iconst 0, 1) := by decide +kernel
theorem dX11_tray_16 : decode cX11_tray 16 = .ok (.bipush 9, 2) := by decide +kernel
theorem dX11_tray_18 : decode cX11_tray 18 = .ok (.invokevirtual 221, 3) := by decide +kernel
theorem dX11_tray_21 : decode cX11_tray 21 = .ok (.ifCond .ne 6, 3) := by decide +kernel
theorem dX11_tray_24 : decode cX11_tray 24 = .ok (.bipush (-2), 2) := by decide +kernel
theorem dX11_tray_26 : decode cX11_tray 26 = .ok (.ireturn, 1) := by decide +kernel
theorem dX11_tray_27 : decode cX11_tray 27 = .ok (.aload_n 0, 1) := by decide +kernel
theorem dX11_tray_28 : decode cX11_tray 28 = .ok (.getfield 7, 3) := by decide +kernel
theorem dX11_tray_31 : decode cX11_tray 31 = .ok (.iconst 5, 1) := by decide +kernel
theorem dX11_tray_32 : decode cX11_tray 32 = .ok (.if_icmp .ne 6, 3) := by decide +kernel
theorem dX11_tray_35 : decode cX11_tray 35 = .ok (.bipush (-4), 2) := by decide +kernel
theorem dX11_tray_37 : decode cX11_tray 37 = .ok (.ireturn, 1) := by decide +kernel
theorem dX11_tray_38 : decode cX11_tray 38 = .ok (.aload_n 0, 1) := by decide +kernel
theorem dX11_tray_39 : decode cX11_tray 39 = .ok (.getfield 13, 3) := by decide +kernel
theorem dX11_tray_42 : decode cX11_tray 42 = .ok (.aload_n 0, 1) := by decide +kernel
theorem dX11_tray_43 : decode cX11_tray 43 = .ok (.getfield 7, 3) := by decide +kernel
theorem dX11_tray_46 : decode cX11_tray 46 = .ok (.iload_n 1, 1) := by decide +kernel
theorem dX11_tray_47 : decode cX11_tray 47 = .ok (.iastore, 1) := by decide +kernel
theorem dX11_tray_48 : decode cX11_tray 48 = .ok (.aload_n 0, 1) := by decide +kernel
theorem dX11_tray_49 : decode cX11_tray 49 = .ok (.getfield 17, 3) := by decide +kernel
theorem dX11_tray_52 : decode cX11_tray 52 = .ok (.aload_n 0, 1) := by decide +kernel
theorem dX11_tray_53 : decode cX11_tray 53 = .ok (.getfield 7, 3) := by decide +kernel
theorem dX11_tray_56 : decode cX11_tray 56 = .ok (.iload_n 2, 1) := by decide +kernel
theorem dX11_tray_57 : decode cX11_tray 57 = .ok (.iastore, 1) := by decide +kernel
theorem dX11_tray_58 : decode cX11_tray 58 = .ok (.aload_n 0, 1) := by decide +kernel
theorem dX11_tray_59 : decode cX11_tray 59 = .ok (.getfield 20, 3) := by decide +kernel
theorem dX11_tray_62 : decode cX11_tray 62 = .ok (.aload_n 0, 1) := by decide +kernel
theorem dX11_tray_63 : decode cX11_tray 63 = .ok (.getfield 7, 3) := by decide +kernel
theorem dX11_tray_66 : decode cX11_tray 66 = .ok (.iconst 0, 1) := by decide +kernel
theorem dX11_tray_67 : decode cX11_tray 67 = .ok (.iastore, 1) := by decide +kernel
theorem dX11_tray_68 : decode cX11_tray 68 = .ok (.iconst 0, 1) := by decide +kernel
theorem dX11_tray_69 : decode cX11_tray 69 = .ok (.istore_n 3, 1) := by decide +kernel
theorem dX11_tray_70 : decode cX11_tray 70 = .ok (.iload_n 3, 1) := by decide +kernel
theorem dX11_tray_71 : decode cX11_tray 71 = .ok (.iconst 4, 1) := by decide +kernel
theorem dX11_tray_72 : decode cX11_tray 72 = .ok (.if_icmp .ge 23, 3) := by decide +kernel
theorem dX11_tray_75 : decode cX11_tray 75 = .ok (.aload_n 0, 1) := by decide +kernel
theorem dX11_tray_76 : decode cX11_tray 76 = .ok (.getfield 23, 3) := by decide +kernel
theorem dX11_tray_79 : decode cX11_tray 79 = .ok (.iconst 4, 1) := by decide +kernel
theorem dX11_tray_80 : decode cX11_tray 80 = .ok (.aload_n 0, 1) := by decide +kernel
theorem dX11_tray_81 : decode cX11_tray 81 = .ok (.getfield 7, 3) := by decide +kernel
theorem dX11_tray_84 : decode cX11_tray 84 = .ok (.imul, 1) := by decide +kernel
theorem dX11_tray_85 : decode cX11_tray 85 = .ok (.iload_n 3, 1) := by decide +kernel
theorem dX11_tray_86 : decode cX11_tray 86 = .ok (.iadd, 1) := by decide +kernel
theorem dX11_tray_87 : decode cX11_tray 87 = .ok (.iconst 0, 1) := by decide +kernel
theorem dX11_tray_88 : decode cX11_tray 88 = .ok (.iastore, 1) := by decide +kernel
theorem dX11_tray_89 : decode cX11_tray 89 = .ok (.iinc 3 1, 3) := by decide +kernel
theorem dX11_tray_92 : decode cX11_tray 92 = .ok (.goto (-22), 3) := by decide +kernel
theorem dX11_tray_95 : decode cX11_tray 95 = .ok (.aload_n 0, 1) := by decide +kernel
theorem dX11_tray_96 : decode cX11_tray 96 = .ok (.dup, 1) := by decide +kernel
theorem dX11_tray_97 : decode cX11_tray 97 = .ok (.getfield 7, 3) := by decide +kernel
theorem dX11_tray_100 : decode cX11_tray 100 = .ok (.iconst 1, 1) := by decide +kernel
theorem dX11_tray_101 : decode cX11_tray 101 = .ok (.iadd, 1) := by decide +kernel
theorem dX11_tray_102 : decode cX11_tray 102 = .ok (.putfield 7, 3) := by decide +kernel
theorem dX11_tray_105 : decode cX11_tray 105 = .ok (.aload_n 0, 1) := by decide +kernel
theorem dX11_tray_106 : decode cX11_tray 106 = .ok (.getfield 7, 3) := by decide +kernel
theorem dX11_tray_109 : decode cX11_tray 109 = .ok (.iconst 1, 1) := by decide +kernel
theorem dX11_tray_110 : decode cX11_tray 110 = .ok (.isub, 1) := by decide +kernel
theorem dX11_tray_111 : decode cX11_tray 111 = .ok (.ireturn, 1) := by decide +kernel
theorem dX11_of_0 : decode cX11_of 0 = .ok (.aload_n 0, 1) := by decide +kernel
theorem dX11_of_1 : decode cX11_of 1 = .ok (.iload_n 1, 1) := by decide +kernel
theorem dX11_of_2 : decode cX11_of 2 = .ok (.invokevirtual 225, 3) := by decide +kernel
theorem dX11_of_5 : decode cX11_of 5 = .ok (.ifCond .ne 5, 3) := by decide +kernel
theorem dX11_of_8 : decode cX11_of 8 = .ok (.iconst (-1), 1) := by decide +kernel
theorem dX11_of_9 : decode cX11_of 9 = .ok (.ireturn, 1) := by decide +kernel
theorem dX11_of_10 : decode cX11_of 10 = .ok (.iload_n 2, 1) := by decide +kernel
theorem dX11_of_11 : decode cX11_of 11 = .ok (.tableswitch 46 0 2 #[25, 32, 39], 25) := by decide +kernel
theorem dX11_of_36 : decode cX11_of 36 = .ok (.aload_n 0, 1) := by decide +kernel
theorem dX11_of_37 : decode cX11_of 37 = .ok (.getfield 13, 3) := by decide +kernel
theorem dX11_of_40 : decode cX11_of 40 = .ok (.iload_n 1, 1) := by decide +kernel
theorem dX11_of_41 : decode cX11_of 41 = .ok (.iaload, 1) := by decide +kernel
theorem dX11_of_42 : decode cX11_of 42 = .ok (.ireturn, 1) := by decide +kernel
theorem dX11_of_43 : decode cX11_of 43 = .ok (.aload_n 0, 1) := by decide +kernel
theorem dX11_of_44 : decode cX11_of 44 = .ok (.getfield 17, 3) := by decide +kernel
theorem dX11_of_47 : decode cX11_of 47 = .ok (.iload_n 1, 1) := by decide +kernel
theorem dX11_of_48 : decode cX11_of 48 = .ok (.iaload, 1) := by decide +kernel
theorem dX11_of_49 : decode cX11_of 49 = .ok (.ireturn, 1) := by decide +kernel
theorem dX11_of_50 : decode cX11_of 50 = .ok (.aload_n 0, 1) := by decide +kernel
theorem dX11_of_51 : decode cX11_of 51 = .ok (.getfield 20, 3) := by decide +kernel
theorem dX11_of_54 : decode cX11_of 54 = .ok (.iload_n 1, 1) := by decide +kernel
theorem dX11_of_55 : decode cX11_of 55 = .ok (.iaload, 1) := by decide +kernel
theorem dX11_of_56 : decode cX11_of 56 = .ok (.ireturn, 1) := by decide +kernel
theorem dX11_of_57 : decode cX11_of 57 = .ok (.iconst (-1), 1) := by decide +kernel
theorem dX11_of_58 : decode cX11_of 58 = .ok (.ireturn, 1) := by decide +kernel
theorem dX11_row_0 : decode cX11_row 0 = .ok (.aload_n 0, 1) := by decide +kernel
theorem dX11_row_1 : decode cX11_row 1 = .ok (.iload_n 1, 1) := by decide +kernel
theorem dX11_row_2 : decode cX11_row 2 = .ok (.invokevirtual 225, 3) := by decide +kernel
theorem dX11_row_5 : decode cX11_row 5 = .ok (.ifCond .eq 13, 3) := by decide +kernel
theorem dX11_row_8 : decode cX11_row 8 = .ok (.aload_n 0, 1) := by decide +kernel
theorem dX11_row_9 : decode cX11_row 9 = .ok (.iload_n 2, 1) := by decide +kernel
theorem dX11_row_10 : decode cX11_row 10 = .ok (.iconst 0, 1) := by decide +kernel
theorem dX11_row_11 : decode cX11_row 11 = .ok (.iconst 3, 1) := by decide +kernel
theorem dX11_row_12 : decode cX11_row 12 = .ok (.invokevirtual 221, 3) := by decide +kernel
theorem dX11_row_15 : decode cX11_row 15 = .ok (.ifCond .ne 5, 3) := by decide +kernel
theorem dX11_row_18 : decode cX11_row 18 = .ok (.iconst (-1), 1) := by decide +kernel
theorem dX11_row_19 : decode cX11_row 19 = .ok (.ireturn, 1) := by decide +kernel
theorem dX11_row_20 : decode cX11_row 20 = .ok (.aload_n 0, 1) := by decide +kernel
theorem dX11_row_21 : decode cX11_row 21 = .ok (.iload_n 3, 1) := by decide +kernel
theorem dX11_row_22 : decode cX11_row 22 = .ok (.iconst 0, 1) := by decide +kernel
theorem dX11_row_23 : decode cX11_row 23 = .ok (.bipush 9, 2) := by decide +kernel
theorem dX11_row_25 : decode cX11_row 25 = .ok (.invokevirtual 221, 3) := by decide +kernel
theorem dX11_row_28 : decode cX11_row 28 = .ok (.ifCond .ne 6, 3) := by decide +kernel
theorem dX11_row_31 : decode cX11_row 31 = .ok (.bipush (-2), 2) := by decide +kernel
theorem dX11_row_33 : decode cX11_row 33 = .ok (.ireturn, 1) := by decide +kernel
theorem dX11_row_34 : decode cX11_row 34 = .ok (.aload_n 0, 1) := by decide +kernel
theorem dX11_row_35 : decode cX11_row 35 = .ok (.getfield 13, 3) := by decide +kernel
theorem dX11_row_38 : decode cX11_row 38 = .ok (.iload_n 1, 1) := by decide +kernel
theorem dX11_row_39 : decode cX11_row 39 = .ok (.iaload, 1) := by decide +kernel
theorem dX11_row_40 : decode cX11_row 40 = .ok (.bipush 6, 2) := by decide +kernel
theorem dX11_row_42 : decode cX11_row 42 = .ok (.if_icmp .eq 6, 3) := by decide +kernel
theorem dX11_row_45 : decode cX11_row 45 = .ok (.bipush (-3), 2) := by decide +kernel
theorem dX11_row_47 : decode cX11_row 47 = .ok (.ireturn, 1) := by decide +kernel
theorem dX11_row_48 : decode cX11_row 48 = .ok (.aload_n 0, 1) := by decide +kernel
theorem dX11_row_49 : decode cX11_row 49 = .ok (.getfield 23, 3) := by decide +kernel
theorem dX11_row_52 : decode cX11_row 52 = .ok (.iconst 4, 1) := by decide +kernel
theorem dX11_row_53 : decode cX11_row 53 = .ok (.iload_n 1, 1) := by decide +kernel
theorem dX11_row_54 : decode cX11_row 54 = .ok (.imul, 1) := by decide +kernel
theorem dX11_row_55 : decode cX11_row 55 = .ok (.iload_n 2, 1) := by decide +kernel
theorem dX11_row_56 : decode cX11_row 56 = .ok (.iadd, 1) := by decide +kernel
theorem dX11_row_57 : decode cX11_row 57 = .ok (.iaload, 1) := by decide +kernel
theorem dX11_row_58 : decode cX11_row 58 = .ok (.istore 4, 2) := by decide +kernel
theorem dX11_row_60 : decode cX11_row 60 = .ok (.aload_n 0, 1) := by decide +kernel
theorem dX11_row_61 : decode cX11_row 61 = .ok (.getfield 23, 3) := by decide +kernel
theorem dX11_row_64 : decode cX11_row 64 = .ok (.iconst 4, 1) := by decide +kernel
theorem dX11_row_65 : decode cX11_row 65 = .ok (.iload_n 1, 1) := by decide +kernel
theorem dX11_row_66 : decode cX11_row 66 = .ok (.imul, 1) := by decide +kernel
theorem dX11_row_67 : decode cX11_row 67 = .ok (.iload_n 2, 1) := by decide +kernel
theorem dX11_row_68 : decode cX11_row 68 = .ok (.iadd, 1) := by decide +kernel
theorem dX11_row_69 : decode cX11_row 69 = .ok (.iload_n 3, 1) := by decide +kernel
theorem dX11_row_70 : decode cX11_row 70 = .ok (.iastore, 1) := by decide +kernel
theorem dX11_row_71 : decode cX11_row 71 = .ok (.iload 4, 2) := by decide +kernel
theorem dX11_row_73 : decode cX11_row 73 = .ok (.ireturn, 1) := by decide +kernel
theorem dX11_feed_0 : decode cX11_feed 0 = .ok (.aload_n 0, 1) := by decide +kernel
theorem dX11_feed_1 : decode cX11_feed 1 = .ok (.iload_n 1, 1) := by decide +kernel
theorem dX11_feed_2 : decode cX11_feed 2 = .ok (.iconst 0, 1) := by decide +kernel
theorem dX11_feed_3 : decode cX11_feed 3 = .ok (.bipush 127, 2) := by decide +kernel
theorem dX11_feed_5 : decode cX11_feed 5 = .ok (.invokevirtual 221, 3) := by decide +kernel
theorem dX11_feed_8 : decode cX11_feed 8 = .ok (.ifCond .ne 6, 3) := by decide +kernel
theorem dX11_feed_11 : decode cX11_feed 11 = .ok (.bipush (-2), 2) := by decide +kernel
theorem dX11_feed_13 : decode cX11_feed 13 = .ok (.ireturn, 1) := by decide +kernel
theorem dX11_feed_14 : decode cX11_feed 14 = .ok (.aload_n 0, 1) := by decide +kernel
theorem dX11_feed_15 : decode cX11_feed 15 = .ok (.getfield 29, 3) := by decide +kernel
theorem dX11_feed_18 : decode cX11_feed 18 = .ok (.bipush 100, 2) := by decide +kernel
theorem dX11_feed_20 : decode cX11_feed 20 = .ok (.if_icmp .ne 6, 3) := by decide +kernel
theorem dX11_feed_23 : decode cX11_feed 23 = .ok (.bipush (-4), 2) := by decide +kernel
theorem dX11_feed_25 : decode cX11_feed 25 = .ok (.ireturn, 1) := by decide +kernel
theorem dX11_feed_26 : decode cX11_feed 26 = .ok (.aload_n 0, 1) := by decide +kernel
theorem dX11_feed_27 : decode cX11_feed 27 = .ok (.getfield 38, 3) := by decide +kernel
theorem dX11_feed_30 : decode cX11_feed 30 = .ok (.aload_n 0, 1) := by decide +kernel
theorem dX11_feed_31 : decode cX11_feed 31 = .ok (.getfield 29, 3) := by decide +kernel
theorem dX11_feed_34 : decode cX11_feed 34 = .ok (.iload_n 1, 1) := by decide +kernel
theorem dX11_feed_35 : decode cX11_feed 35 = .ok (.iastore, 1) := by decide +kernel
theorem dX11_feed_36 : decode cX11_feed 36 = .ok (.aload_n 0, 1) := by decide +kernel
theorem dX11_feed_37 : decode cX11_feed 37 = .ok (.dup, 1) := by decide +kernel
theorem dX11_feed_38 : decode cX11_feed 38 = .ok (.getfield 29, 3) := by decide +kernel
theorem dX11_feed_41 : decode cX11_feed 41 = .ok (.iconst 1, 1) := by decide +kernel
theorem dX11_feed_42 : decode cX11_feed 42 = .ok (.iadd, 1) := by decide +kernel
theorem dX11_feed_43 : decode cX11_feed 43 = .ok (.putfield 29, 3) := by decide +kernel
theorem dX11_feed_46 : decode cX11_feed 46 = .ok (.aload_n 0, 1) := by decide +kernel
theorem dX11_feed_47 : decode cX11_feed 47 = .ok (.getfield 29, 3) := by decide +kernel
theorem dX11_feed_50 : decode cX11_feed 50 = .ok (.ireturn, 1) := by decide +kernel
theorem dX11_next_0 : decode cX11_next 0 = .ok (.aload_n 0, 1) := by decide +kernel
theorem dX11_next_1 : decode cX11_next 1 = .ok (.getfield 32, 3) := by decide +kernel
theorem dX11_next_4 : decode cX11_next 4 = .ok (.aload_n 0, 1) := by decide +kernel
theorem dX11_next_5 : decode cX11_next 5 = .ok (.getfield 29, 3) := by decide +kernel
theorem dX11_next_8 : decode cX11_next 8 = .ok (.if_icmp .ge 15, 3) := by decide +kernel
theorem dX11_next_11 : decode cX11_next 11 = .ok (.aload_n 0, 1) := by decide +kernel
theorem dX11_next_12 : decode cX11_next 12 = .ok (.getfield 38, 3) := by decide +kernel
theorem dX11_next_15 : decode cX11_next 15 = .ok (.aload_n 0, 1) := by decide +kernel
theorem dX11_next_16 : decode cX11_next 16 = .ok (.getfield 32, 3) := by decide +kernel
theorem dX11_next_19 : decode cX11_next 19 = .ok (.iaload, 1) := by decide +kernel
theorem dX11_next_20 : decode cX11_next 20 = .ok (.goto 4, 3) := by decide +kernel
theorem dX11_next_23 : decode cX11_next 23 = .ok (.iconst (-1), 1) := by decide +kernel
theorem dX11_next_24 : decode cX11_next 24 = .ok (.ireturn, 1) := by decide +kernel
theorem dX11_second_0 : decode cX11_second 0 = .ok (.aload_n 0, 1) := by decide +kernel
theorem dX11_second_1 : decode cX11_second 1 = .ok (.getfield 32, 3) := by decide +kernel
theorem dX11_second_4 : decode cX11_second 4 = .ok (.iconst 1, 1) := by decide +kernel
theorem dX11_second_5 : decode cX11_second 5 = .ok (.iadd, 1) := by decide +kernel
theorem dX11_second_6 : decode cX11_second 6 = .ok (.aload_n 0, 1) := by decide +kernel
theorem dX11_second_7 : decode cX11_second 7 = .ok (.getfield 29, 3) := by decide +kernel
theorem dX11_second_10 : decode cX11_second 10 = .ok (.if_icmp .ge 17, 3) := by decide +kernel
theorem dX11_second_13 : decode cX11_second 13 = .ok (.aload_n 0, 1) := by decide +kernel
theorem dX11_second_14 : decode cX11_second 14 = .ok (.getfield 38, 3) := by decide +kernel
theorem dX11_second_17 : decode cX11_second 17 = .ok (.aload_n 0, 1) := by decide +kernel
theorem dX11_second_18 : decode cX11_second 18 = .ok (.getfield 32, 3) := by decide +kernel
theorem dX11_second_21 : decode cX11_second 21 = .ok (.iconst 1, 1) := by decide +kernel
theorem dX11_second_22 : decode cX11_second 22 = .ok (.iadd, 1) := by decide +kernel
theorem dX11_second_23 : decode cX11_second 23 = .ok (.iaload, 1) := by decide +kernel
theorem dX11_second_24 : decode cX11_second 24 = .ok (.goto 4, 3) := by decide +kernel
theorem dX11_second_27 : decode cX11_second 27 = .ok (.iconst (-1), 1) := by decide +kernel
theorem dX11_second_28 : decode cX11_second 28 = .ok (.ireturn, 1) := by decide +kernel
theorem dX11_takes_0 : decode cX11_takes 0 = .ok (.aload_n 0, 1) := by decide +kernel
theorem dX11_takes_1 : decode cX11_takes 1 = .ok (.invokevirtual 229, 3) := by decide +kernel
theorem dX11_takes_4 : decode cX11_takes 4 = .ok (.iload_n 1, 1) := by decide +kernel
theorem dX11_takes_5 : decode cX11_takes 5 = .ok (.if_icmp .eq 5, 3) := by decide +kernel
theorem dX11_takes_8 : decode cX11_takes 8 = .ok (.iconst 0, 1) := by decide +kernel
theorem dX11_takes_9 : decode cX11_takes 9 = .ok (.ireturn, 1) := by decide +kernel
theorem dX11_takes_10 : decode cX11_takes 10 = .ok (.aload_n 0, 1) := by decide +kernel
theorem dX11_takes_11 : decode cX11_takes 11 = .ok (.dup, 1) := by decide +kernel
theorem dX11_takes_12 : decode cX11_takes 12 = .ok (.getfield 32, 3) := by decide +kernel
theorem dX11_takes_15 : decode cX11_takes 15 = .ok (.iconst 1, 1) := by decide +kernel
theorem dX11_takes_16 : decode cX11_takes 16 = .ok (.iadd, 1) := by decide +kernel
theorem dX11_takes_17 : decode cX11_takes 17 = .ok (.putfield 32, 3) := by decide +kernel
theorem dX11_takes_20 : decode cX11_takes 20 = .ok (.iconst 1, 1) := by decide +kernel
theorem dX11_takes_21 : decode cX11_takes 21 = .ok (.ireturn, 1) := by decide +kernel
theorem dX11_takesWord_0 : decode cX11_takesWord 0 = .ok (.iconst 0, 1) := by decide +kernel
theorem dX11_takesWord_1 : decode cX11_takesWord 1 = .ok (.istore_n 3, 1) := by decide +kernel
theorem dX11_takesWord_2 : decode cX11_takesWord 2 = .ok (.iload_n 3, 1) := by decide +kernel
theorem dX11_takesWord_3 : decode cX11_takesWord 3 = .ok (.iload_n 2, 1) := by decide +kernel
theorem dX11_takesWord_4 : decode cX11_takesWord 4 = .ok (.if_icmp .ge 26, 3) := by decide +kernel
theorem dX11_takesWord_7 : decode cX11_takesWord 7 = .ok (.aload_n 0, 1) := by decide +kernel
theorem dX11_takesWord_8 : decode cX11_takesWord 8 = .ok (.aload_n 0, 1) := by decide +kernel
theorem dX11_takesWord_9 : decode cX11_takesWord 9 = .ok (.getfield 71, 3) := by decide +kernel
theorem dX11_takesWord_12 : decode cX11_takesWord 12 = .ok (.iload_n 1, 1) := by decide +kernel
theorem dX11_takesWord_13 : decode cX11_takesWord 13 = .ok (.iload_n 3, 1) := by decide +kernel
theorem dX11_takesWord_14 : decode cX11_takesWord 14 = .ok (.iadd, 1) := by decide +kernel
theorem dX11_takesWord_15 : decode cX11_takesWord 15 = .ok (.iaload, 1) := by decide +kernel
theorem dX11_takesWord_16 : decode cX11_takesWord 16 = .ok (.invokevirtual 233, 3) := by decide +kernel
theorem dX11_takesWord_19 : decode cX11_takesWord 19 = .ok (.ifCond .ne 5, 3) := by decide +kernel
theorem dX11_takesWord_22 : decode cX11_takesWord 22 = .ok (.iconst 0, 1) := by decide +kernel
theorem dX11_takesWord_23 : decode cX11_takesWord 23 = .ok (.ireturn, 1) := by decide +kernel
theorem dX11_takesWord_24 : decode cX11_takesWord 24 = .ok (.iinc 3 1, 3) := by decide +kernel
theorem dX11_takesWord_27 : decode cX11_takesWord 27 = .ok (.goto (-25), 3) := by decide +kernel
theorem dX11_takesWord_30 : decode cX11_takesWord 30 = .ok (.aload_n 0, 1) := by decide +kernel
theorem dX11_takesWord_31 : decode cX11_takesWord 31 = .ok (.bipush 32, 2) := by decide +kernel
theorem dX11_takesWord_33 : decode cX11_takesWord 33 = .ok (.invokevirtual 233, 3) := by decide +kernel
theorem dX11_takesWord_36 : decode cX11_takesWord 36 = .ok (.ireturn, 1) := by decide +kernel
theorem dX11_isDigit_0 : decode cX11_isDigit 0 = .ok (.aload_n 0, 1) := by decide +kernel
theorem dX11_isDigit_1 : decode cX11_isDigit 1 = .ok (.aload_n 0, 1) := by decide +kernel
theorem dX11_isDigit_2 : decode cX11_isDigit 2 = .ok (.invokevirtual 229, 3) := by decide +kernel
theorem dX11_isDigit_5 : decode cX11_isDigit 5 = .ok (.bipush 48, 2) := by decide +kernel
theorem dX11_isDigit_7 : decode cX11_isDigit 7 = .ok (.bipush 57, 2) := by decide +kernel
theorem dX11_isDigit_9 : decode cX11_isDigit 9 = .ok (.invokevirtual 221, 3) := by decide +kernel
theorem dX11_isDigit_12 : decode cX11_isDigit 12 = .ok (.ireturn, 1) := by decide +kernel
theorem dX11_takesNumber_0 : decode cX11_takesNumber 0 = .ok (.aload_n 0, 1) := by decide +kernel
theorem dX11_takesNumber_1 : decode cX11_takesNumber 1 = .ok (.invokevirtual 236, 3) := by decide +kernel
theorem dX11_takesNumber_4 : decode cX11_takesNumber 4 = .ok (.ifCond .ne 5, 3) := by decide +kernel
theorem dX11_takesNumber_7 : decode cX11_takesNumber 7 = .ok (.iconst 0, 1) := by decide +kernel
theorem dX11_takesNumber_8 : decode cX11_takesNumber 8 = .ok (.ireturn, 1) := by decide +kernel
theorem dX11_takesNumber_9 : decode cX11_takesNumber 9 = .ok (.aload_n 0, 1) := by decide +kernel
theorem dX11_takesNumber_10 : decode cX11_takesNumber 10 = .ok (.iconst 0, 1) := by decide +kernel
theorem dX11_takesNumber_11 : decode cX11_takesNumber 11 = .ok (.putfield 35, 3) := by decide +kernel
theorem dX11_takesNumber_14 : decode cX11_takesNumber 14 = .ok (.iconst 0, 1) := by decide +kernel
theorem dX11_takesNumber_15 : decode cX11_takesNumber 15 = .ok (.istore_n 1, 1) := by decide +kernel
theorem dX11_takesNumber_16 : decode cX11_takesNumber 16 = .ok (.iload_n 1, 1) := by decide +kernel
theorem dX11_takesNumber_17 : decode cX11_takesNumber 17 = .ok (.iconst 2, 1) := by decide +kernel
theorem dX11_takesNumber_18 : decode cX11_takesNumber 18 = .ok (.if_icmp .ge 45, 3) := by decide +kernel
theorem dX11_takesNumber_21 : decode cX11_takesNumber 21 = .ok (.aload_n 0, 1) := by decide +kernel
theorem dX11_takesNumber_22 : decode cX11_takesNumber 22 = .ok (.invokevirtual 236, 3) := by decide +kernel
theorem dX11_takesNumber_25 : decode cX11_takesNumber 25 = .ok (.ifCond .eq 38, 3) := by decide +kernel
theorem dX11_takesNumber_28 : decode cX11_takesNumber 28 = .ok (.aload_n 0, 1) := by decide +kernel
theorem dX11_takesNumber_29 : decode cX11_takesNumber 29 = .ok (.bipush 10, 2) := by decide +kernel
theorem dX11_takesNumber_31 : decode cX11_takesNumber 31 = .ok (.aload_n 0, 1) := by decide +kernel
theorem dX11_takesNumber_32 : decode cX11_takesNumber 32 = .ok (.getfield 35, 3) := by decide +kernel
theorem dX11_takesNumber_35 : decode cX11_takesNumber 35 = .ok (.imul, 1) := by decide +kernel
theorem dX11_takesNumber_36 : decode cX11_takesNumber 36 = .ok (.aload_n 0, 1) := by decide +kernel
theorem dX11_takesNumber_37 : decode cX11_takesNumber 37 = .ok (.invokevirtual 229, 3) := by decide +kernel
theorem dX11_takesNumber_40 : decode cX11_takesNumber 40 = .ok (.iadd, 1) := by decide +kernel
theorem dX11_takesNumber_41 : decode cX11_takesNumber 41 = .ok (.bipush 48, 2) := by decide +kernel
theorem dX11_takesNumber_43 : decode cX11_takesNumber 43 = .ok (.isub, 1) := by decide +kernel
theorem dX11_takesNumber_44 : decode cX11_takesNumber 44 = .ok (.putfield 35, 3) := by decide +kernel
theorem dX11_takesNumber_47 : decode cX11_takesNumber 47 = .ok (.aload_n 0, 1) := by decide +kernel
theorem dX11_takesNumber_48 : decode cX11_takesNumber 48 = .ok (.dup, 1) := by decide +kernel
theorem dX11_takesNumber_49 : decode cX11_takesNumber 49 = .ok (.getfield 32, 3) := by decide +kernel
theorem dX11_takesNumber_52 : decode cX11_takesNumber 52 = .ok (.iconst 1, 1) := by decide +kernel
theorem dX11_takesNumber_53 : decode cX11_takesNumber 53 = .ok (.iadd, 1) := by decide +kernel
theorem dX11_takesNumber_54 : decode cX11_takesNumber 54 = .ok (.putfield 32, 3) := by decide +kernel
theorem dX11_takesNumber_57 : decode cX11_takesNumber 57 = .ok (.iinc 1 1, 3) := by decide +kernel
theorem dX11_takesNumber_60 : decode cX11_takesNumber 60 = .ok (.goto (-44), 3) := by decide +kernel
theorem dX11_takesNumber_63 : decode cX11_takesNumber 63 = .ok (.iconst 1, 1) := by decide +kernel
theorem dX11_takesNumber_64 : decode cX11_takesNumber 64 = .ok (.ireturn, 1) := by decide +kernel
theorem dX11_emits_0 : decode cX11_emits 0 = .ok (.aload_n 0, 1) := by decide +kernel
theorem dX11_emits_1 : decode cX11_emits 1 = .ok (.getfield 56, 3) := by decide +kernel
theorem dX11_emits_4 : decode cX11_emits 4 = .ok (.aload_n 0, 1) := by decide +kernel
theorem dX11_emits_5 : decode cX11_emits 5 = .ok (.getfield 62, 3) := by decide +kernel
theorem dX11_emits_8 : decode cX11_emits 8 = .ok (.iload_n 1, 1) := by decide +kernel
theorem dX11_emits_9 : decode cX11_emits 9 = .ok (.iastore, 1) := by decide +kernel
theorem dX11_emits_10 : decode cX11_emits 10 = .ok (.aload_n 0, 1) := by decide +kernel
theorem dX11_emits_11 : decode cX11_emits 11 = .ok (.dup, 1) := by decide +kernel
theorem dX11_emits_12 : decode cX11_emits 12 = .ok (.getfield 62, 3) := by decide +kernel
theorem dX11_emits_15 : decode cX11_emits 15 = .ok (.iconst 1, 1) := by decide +kernel
theorem dX11_emits_16 : decode cX11_emits 16 = .ok (.iadd, 1) := by decide +kernel
theorem dX11_emits_17 : decode cX11_emits 17 = .ok (.putfield 62, 3) := by decide +kernel
theorem dX11_emits_20 : decode cX11_emits 20 = .ok (.return_, 1) := by decide +kernel
theorem dX11_whole_0 : decode cX11_whole 0 = .ok (.aload_n 0, 1) := by decide +kernel
theorem dX11_whole_1 : decode cX11_whole 1 = .ok (.getfield 65, 3) := by decide +kernel
theorem dX11_whole_4 : decode cX11_whole 4 = .ok (.ifCond .le 48, 3) := by decide +kernel
theorem dX11_whole_7 : decode cX11_whole 7 = .ok (.aload_n 0, 1) := by decide +kernel
theorem dX11_whole_8 : decode cX11_whole 8 = .ok (.getfield 59, 3) := by decide +kernel
theorem dX11_whole_11 : decode cX11_whole 11 = .ok (.aload_n 0, 1) := by decide +kernel
theorem dX11_whole_12 : decode cX11_whole 12 = .ok (.getfield 65, 3) := by decide +kernel
theorem dX11_whole_15 : decode cX11_whole 15 = .ok (.iconst 1, 1) := by decide +kernel
theorem dX11_whole_16 : decode cX11_whole 16 = .ok (.isub, 1) := by decide +kernel
theorem dX11_whole_17 : decode cX11_whole 17 = .ok (.iaload, 1) := by decide +kernel
theorem dX11_whole_18 : decode cX11_whole 18 = .ok (.bipush 33, 2) := by decide +kernel
theorem dX11_whole_20 : decode cX11_whole 20 = .ok (.if_icmp .ne 32, 3) := by decide +kernel
theorem dX11_whole_23 : decode cX11_whole 23 = .ok (.aload_n 0, 1) := by decide +kernel
theorem dX11_whole_24 : decode cX11_whole 24 = .ok (.bipush (-33), 2) := by decide +kernel
theorem dX11_whole_26 : decode cX11_whole 26 = .ok (.invokevirtual 240, 3) := by decide +kernel
theorem dX11_whole_29 : decode cX11_whole 29 = .ok (.aload_n 0, 1) := by decide +kernel
theorem dX11_whole_30 : decode cX11_whole 30 = .ok (.dup, 1) := by decide +kernel
theorem dX11_whole_31 : decode cX11_whole 31 = .ok (.getfield 65, 3) := by decide +kernel
theorem dX11_whole_34 : decode cX11_whole 34 = .ok (.iconst 1, 1) := by decide +kernel
theorem dX11_whole_35 : decode cX11_whole 35 = .ok (.isub, 1) := by decide +kernel
theorem dX11_whole_36 : decode cX11_whole 36 = .ok (.putfield 65, 3) := by decide +kernel
theorem dX11_whole_39 : decode cX11_whole 39 = .ok (.aload_n 0, 1) := by decide +kernel
theorem dX11_whole_40 : decode cX11_whole 40 = .ok (.dup, 1) := by decide +kernel
theorem dX11_whole_41 : decode cX11_whole 41 = .ok (.getfield 68, 3) := by decide +kernel
theorem dX11_whole_44 : decode cX11_whole 44 = .ok (.iconst 1, 1) := by decide +kernel
theorem dX11_whole_45 : decode cX11_whole 45 = .ok (.isub, 1) := by decide +kernel
theorem dX11_whole_46 : decode cX11_whole 46 = .ok (.putfield 68, 3) := by decide +kernel
theorem dX11_whole_49 : decode cX11_whole 49 = .ok (.goto (-49), 3) := by decide +kernel
theorem dX11_whole_52 : decode cX11_whole 52 = .ok (.return_, 1) := by decide +kernel
theorem dX11_settle_0 : decode cX11_settle 0 = .ok (.aload_n 0, 1) := by decide +kernel
theorem dX11_settle_1 : decode cX11_settle 1 = .ok (.getfield 65, 3) := by decide +kernel
theorem dX11_settle_4 : decode cX11_settle 4 = .ok (.ifCond .le 68, 3) := by decide +kernel
theorem dX11_settle_7 : decode cX11_settle 7 = .ok (.aload_n 0, 1) := by decide +kernel
theorem dX11_settle_8 : decode cX11_settle 8 = .ok (.getfield 59, 3) := by decide +kernel
theorem dX11_settle_11 : decode cX11_settle 11 = .ok (.aload_n 0, 1) := by decide +kernel
theorem dX11_settle_12 : decode cX11_settle 12 = .ok (.getfield 65, 3) := by decide +kernel
theorem dX11_settle_15 : decode cX11_settle 15 = .ok (.iconst 1, 1) := by decide +kernel
theorem dX11_settle_16 : decode cX11_settle 16 = .ok (.isub, 1) := by decide +kernel
theorem dX11_settle_17 : decode cX11_settle 17 = .ok (.iaload, 1) := by decide +kernel
theorem dX11_settle_18 : decode cX11_settle 18 = .ok (.bipush 38, 2) := by decide +kernel
theorem dX11_settle_20 : decode cX11_settle 20 = .ok (.if_icmp .eq 25, 3) := by decide +kernel
theorem dX11_settle_23 : decode cX11_settle 23 = .ok (.aload_n 0, 1) := by decide +kernel
theorem dX11_settle_24 : decode cX11_settle 24 = .ok (.getfield 59, 3) := by decide +kernel
theorem dX11_settle_27 : decode cX11_settle 27 = .ok (.aload_n 0, 1) := by decide +kernel
theorem dX11_settle_28 : decode cX11_settle 28 = .ok (.getfield 65, 3) := by decide +kernel
theorem dX11_settle_31 : decode cX11_settle 31 = .ok (.iconst 1, 1) := by decide +kernel
theorem dX11_settle_32 : decode cX11_settle 32 = .ok (.isub, 1) := by decide +kernel
theorem dX11_settle_33 : decode cX11_settle 33 = .ok (.iaload, 1) := by decide +kernel
theorem dX11_settle_34 : decode cX11_settle 34 = .ok (.bipush 124, 2) := by decide +kernel
theorem dX11_settle_36 : decode cX11_settle 36 = .ok (.if_icmp .ne 36, 3) := by decide +kernel
theorem dX11_settle_39 : decode cX11_settle 39 = .ok (.iload_n 1, 1) := by decide +kernel
theorem dX11_settle_40 : decode cX11_settle 40 = .ok (.bipush 38, 2) := by decide +kernel
theorem dX11_settle_42 : decode cX11_settle 42 = .ok (.if_icmp .eq 30, 3) := by decide +kernel
theorem dX11_settle_45 : decode cX11_settle 45 = .ok (.aload_n 0, 1) := by decide +kernel
theorem dX11_settle_46 : decode cX11_settle 46 = .ok (.dup, 1) := by decide +kernel
theorem dX11_settle_47 : decode cX11_settle 47 = .ok (.getfield 65, 3) := by decide +kernel
theorem dX11_settle_50 : decode cX11_settle 50 = .ok (.iconst 1, 1) := by decide +kernel
theorem dX11_settle_51 : decode cX11_settle 51 = .ok (.isub, 1) := by decide +kernel
theorem dX11_settle_52 : decode cX11_settle 52 = .ok (.putfield 65, 3) := by decide +kernel
theorem dX11_settle_55 : decode cX11_settle 55 = .ok (.aload_n 0, 1) := by decide +kernel
theorem dX11_settle_56 : decode cX11_settle 56 = .ok (.aload_n 0, 1) := by decide +kernel
theorem dX11_settle_57 : decode cX11_settle 57 = .ok (.getfield 59, 3) := by decide +kernel
theorem dX11_settle_60 : decode cX11_settle 60 = .ok (.aload_n 0, 1) := by decide +kernel
theorem dX11_settle_61 : decode cX11_settle 61 = .ok (.getfield 65, 3) := by decide +kernel
theorem dX11_settle_64 : decode cX11_settle 64 = .ok (.iaload, 1) := by decide +kernel
theorem dX11_settle_65 : decode cX11_settle 65 = .ok (.ineg, 1) := by decide +kernel
theorem dX11_settle_66 : decode cX11_settle 66 = .ok (.invokevirtual 240, 3) := by decide +kernel
theorem dX11_settle_69 : decode cX11_settle 69 = .ok (.goto (-69), 3) := by decide +kernel
theorem dX11_settle_72 : decode cX11_settle 72 = .ok (.return_, 1) := by decide +kernel
theorem dX11_place_0 : decode cX11_place 0 = .ok (.iload_n 1, 1) := by decide +kernel
theorem dX11_place_1 : decode cX11_place 1 = .ok (.tableswitch 75 107 118 #[69, 75, 75, 73, 65, 63, 75, 75, 75, 67, 75, 71], 63) := by decide +kernel
theorem dX11_place_64 : decode cX11_place 64 = .ok (.iconst 0, 1) := by decide +kernel
theorem dX11_place_65 : decode cX11_place 65 = .ok (.ireturn, 1) := by decide +kernel
theorem dX11_place_66 : decode cX11_place 66 = .ok (.iconst 1, 1) := by decide +kernel
theorem dX11_place_67 : decode cX11_place 67 = .ok (.ireturn, 1) := by decide +kernel
theorem dX11_place_68 : decode cX11_place 68 = .ok (.iconst 2, 1) := by decide +kernel
theorem dX11_place_69 : decode cX11_place 69 = .ok (.ireturn, 1) := by decide +kernel
theorem dX11_place_70 : decode cX11_place 70 = .ok (.iconst 3, 1) := by decide +kernel
theorem dX11_place_71 : decode cX11_place 71 = .ok (.ireturn, 1) := by decide +kernel
theorem dX11_place_72 : decode cX11_place 72 = .ok (.iconst 4, 1) := by decide +kernel
theorem dX11_place_73 : decode cX11_place 73 = .ok (.ireturn, 1) := by decide +kernel
theorem dX11_place_74 : decode cX11_place 74 = .ok (.iconst 5, 1) := by decide +kernel
theorem dX11_place_75 : decode cX11_place 75 = .ok (.ireturn, 1) := by decide +kernel
theorem dX11_place_76 : decode cX11_place 76 = .ok (.iconst (-1), 1) := by decide +kernel
theorem dX11_place_77 : decode cX11_place 77 = .ok (.ireturn, 1) := by decide +kernel
theorem dX11_takesTest_0 : decode cX11_takesTest 0 = .ok (.aload_n 0, 1) := by decide +kernel
theorem dX11_takesTest_1 : decode cX11_takesTest 1 = .ok (.aload_n 0, 1) := by decide +kernel
theorem dX11_takesTest_2 : decode cX11_takesTest 2 = .ok (.invokevirtual 229, 3) := by decide +kernel
theorem dX11_takesTest_5 : decode cX11_takesTest 5 = .ok (.invokevirtual 244, 3) := by decide +kernel
theorem dX11_takesTest_8 : decode cX11_takesTest 8 = .ok (.istore_n 1, 1) := by decide +kernel
theorem dX11_takesTest_9 : decode cX11_takesTest 9 = .ok (.iload_n 1, 1) := by decide +kernel
theorem dX11_takesTest_10 : decode cX11_takesTest 10 = .ok (.ifCond .ge 5, 3) := by decide +kernel
theorem dX11_takesTest_13 : decode cX11_takesTest 13 = .ok (.iconst 0, 1) := by decide +kernel
theorem dX11_takesTest_14 : decode cX11_takesTest 14 = .ok (.ireturn, 1) := by decide +kernel
theorem dX11_takesTest_15 : decode cX11_takesTest 15 = .ok (.aload_n 0, 1) := by decide +kernel
theorem dX11_takesTest_16 : decode cX11_takesTest 16 = .ok (.dup, 1) := by decide +kernel
theorem dX11_takesTest_17 : decode cX11_takesTest 17 = .ok (.getfield 32, 3) := by decide +kernel
theorem dX11_takesTest_20 : decode cX11_takesTest 20 = .ok (.iconst 1, 1) := by decide +kernel
theorem dX11_takesTest_21 : decode cX11_takesTest 21 = .ok (.iadd, 1) := by decide +kernel
theorem dX11_takesTest_22 : decode cX11_takesTest 22 = .ok (.putfield 32, 3) := by decide +kernel
theorem dX11_takesTest_25 : decode cX11_takesTest 25 = .ok (.aload_n 0, 1) := by decide +kernel
theorem dX11_takesTest_26 : decode cX11_takesTest 26 = .ok (.invokevirtual 229, 3) := by decide +kernel
theorem dX11_takesTest_29 : decode cX11_takesTest 29 = .ok (.istore_n 2, 1) := by decide +kernel
theorem dX11_takesTest_30 : decode cX11_takesTest 30 = .ok (.aload_n 0, 1) := by decide +kernel
theorem dX11_takesTest_31 : decode cX11_takesTest 31 = .ok (.iload_n 2, 1) := by decide +kernel
theorem dX11_takesTest_32 : decode cX11_takesTest 32 = .ok (.bipush 60, 2) := by decide +kernel
theorem dX11_takesTest_34 : decode cX11_takesTest 34 = .ok (.bipush 62, 2) := by decide +kernel
theorem dX11_takesTest_36 : decode cX11_takesTest 36 = .ok (.invokevirtual 221, 3) := by decide +kernel
theorem dX11_takesTest_39 : decode cX11_takesTest 39 = .ok (.ifCond .ne 5, 3) := by decide +kernel
theorem dX11_takesTest_42 : decode cX11_takesTest 42 = .ok (.iconst 0, 1) := by decide +kernel
theorem dX11_takesTest_43 : decode cX11_takesTest 43 = .ok (.ireturn, 1) := by decide +kernel
theorem dX11_takesTest_44 : decode cX11_takesTest 44 = .ok (.aload_n 0, 1) := by decide +kernel
theorem dX11_takesTest_45 : decode cX11_takesTest 45 = .ok (.dup, 1) := by decide +kernel
theorem dX11_takesTest_46 : decode cX11_takesTest 46 = .ok (.getfield 32, 3) := by decide +kernel
theorem dX11_takesTest_49 : decode cX11_takesTest 49 = .ok (.iconst 1, 1) := by decide +kernel
theorem dX11_takesTest_50 : decode cX11_takesTest 50 = .ok (.iadd, 1) := by decide +kernel
theorem dX11_takesTest_51 : decode cX11_takesTest 51 = .ok (.putfield 32, 3) := by decide +kernel
theorem dX11_takesTest_54 : decode cX11_takesTest 54 = .ok (.aload_n 0, 1) := by decide +kernel
theorem dX11_takesTest_55 : decode cX11_takesTest 55 = .ok (.invokevirtual 248, 3) := by decide +kernel
theorem dX11_takesTest_58 : decode cX11_takesTest 58 = .ok (.ifCond .ne 5, 3) := by decide +kernel
theorem dX11_takesTest_61 : decode cX11_takesTest 61 = .ok (.iconst 0, 1) := by decide +kernel
theorem dX11_takesTest_62 : decode cX11_takesTest 62 = .ok (.ireturn, 1) := by decide +kernel
theorem dX11_takesTest_63 : decode cX11_takesTest 63 = .ok (.aload_n 0, 1) := by decide +kernel
theorem dX11_takesTest_64 : decode cX11_takesTest 64 = .ok (.sipush 1000, 3) := by decide +kernel
theorem dX11_takesTest_67 : decode cX11_takesTest 67 = .ok (.iload_n 1, 1) := by decide +kernel
theorem dX11_takesTest_68 : decode cX11_takesTest 68 = .ok (.imul, 1) := by decide +kernel
theorem dX11_takesTest_69 : decode cX11_takesTest 69 = .ok (.bipush 100, 2) := by decide +kernel
theorem dX11_takesTest_71 : decode cX11_takesTest 71 = .ok (.iload_n 2, 1) := by decide +kernel
theorem dX11_takesTest_72 : decode cX11_takesTest 72 = .ok (.bipush 60, 2) := by decide +kernel
theorem dX11_takesTest_74 : decode cX11_takesTest 74 = .ok (.isub, 1) := by decide +kernel
theorem dX11_takesTest_75 : decode cX11_takesTest 75 = .ok (.imul, 1) := by decide +kernel
theorem dX11_takesTest_76 : decode cX11_takesTest 76 = .ok (.iadd, 1) := by decide +kernel
theorem dX11_takesTest_77 : decode cX11_takesTest 77 = .ok (.aload_n 0, 1) := by decide +kernel
theorem dX11_takesTest_78 : decode cX11_takesTest 78 = .ok (.getfield 35, 3) := by decide +kernel
theorem dX11_takesTest_81 : decode cX11_takesTest 81 = .ok (.iadd, 1) := by decide +kernel
theorem dX11_takesTest_82 : decode cX11_takesTest 82 = .ok (.invokevirtual 240, 3) := by decide +kernel
theorem dX11_takesTest_85 : decode cX11_takesTest 85 = .ok (.aload_n 0, 1) := by decide +kernel
theorem dX11_takesTest_86 : decode cX11_takesTest 86 = .ok (.invokevirtual 251, 3) := by decide +kernel
theorem dX11_takesTest_89 : decode cX11_takesTest 89 = .ok (.iconst 1, 1) := by decide +kernel
theorem dX11_takesTest_90 : decode cX11_takesTest 90 = .ok (.ireturn, 1) := by decide +kernel
theorem dX11_takesE_0 : decode cX11_takesE 0 = .ok (.aload_n 0, 1) := by decide +kernel
theorem dX11_takesE_1 : decode cX11_takesE 1 = .ok (.iconst 0, 1) := by decide +kernel
theorem dX11_takesE_2 : decode cX11_takesE 2 = .ok (.putfield 65, 3) := by decide +kernel
theorem dX11_takesE_5 : decode cX11_takesE 5 = .ok (.aload_n 0, 1) := by decide +kernel
theorem dX11_takesE_6 : decode cX11_takesE 6 = .ok (.iconst 0, 1) := by decide +kernel
theorem dX11_takesE_7 : decode cX11_takesE 7 = .ok (.putfield 68, 3) := by decide +kernel
theorem dX11_takesE_10 : decode cX11_takesE 10 = .ok (.aload_n 0, 1) := by decide +kernel
theorem dX11_takesE_11 : decode cX11_takesE 11 = .ok (.getfield 50, 3) := by decide +kernel
theorem dX11_takesE_14 : decode cX11_takesE 14 = .ok (.iload_n 1, 1) := by decide +kernel
theorem dX11_takesE_15 : decode cX11_takesE 15 = .ok (.aload_n 0, 1) := by decide +kernel
theorem dX11_takesE_16 : decode cX11_takesE 16 = .ok (.getfield 62, 3) := by decide +kernel
theorem dX11_takesE_19 : decode cX11_takesE 19 = .ok (.iastore, 1) := by decide +kernel
theorem dX11_takesE_20 : decode cX11_takesE 20 = .ok (.iconst 1, 1) := by decide +kernel
theorem dX11_takesE_21 : decode cX11_takesE 21 = .ok (.istore_n 2, 1) := by decide +kernel
theorem dX11_takesE_22 : decode cX11_takesE 22 = .ok (.aload_n 0, 1) := by decide +kernel
theorem dX11_takesE_23 : decode cX11_takesE 23 = .ok (.invokevirtual 229, 3) := by decide +kernel
theorem dX11_takesE_26 : decode cX11_takesE 26 = .ok (.istore_n 3, 1) := by decide +kernel
theorem dX11_takesE_27 : decode cX11_takesE 27 = .ok (.iload_n 2, 1) := by decide +kernel
theorem dX11_takesE_28 : decode cX11_takesE 28 = .ok (.ifCond .eq 82, 3) := by decide +kernel
theorem dX11_takesE_31 : decode cX11_takesE 31 = .ok (.iload_n 3, 1) := by decide +kernel
theorem dX11_takesE_32 : decode cX11_takesE 32 = .ok (.bipush 33, 2) := by decide +kernel
theorem dX11_takesE_34 : decode cX11_takesE 34 = .ok (.if_icmp .eq 9, 3) := by decide +kernel
theorem dX11_takesE_37 : decode cX11_takesE 37 = .ok (.iload_n 3, 1) := by decide +kernel
theorem dX11_takesE_38 : decode cX11_takesE 38 = .ok (.bipush 40, 2) := by decide +kernel
theorem dX11_takesE_40 : decode cX11_takesE 40 = .ok (.if_icmp .ne 56, 3) := by decide +kernel
theorem dX11_takesE_43 : decode cX11_takesE 43 = .ok (.aload_n 0, 1) := by decide +kernel
theorem dX11_takesE_44 : decode cX11_takesE 44 = .ok (.getfield 68, 3) := by decide +kernel
theorem dX11_takesE_47 : decode cX11_takesE 47 = .ok (.iconst 4, 1) := by decide +kernel
theorem dX11_takesE_48 : decode cX11_takesE 48 = .ok (.if_icmp .ne 5, 3) := by decide +kernel
theorem dX11_takesE_51 : decode cX11_takesE 51 = .ok (.iconst 0, 1) := by decide +kernel
theorem dX11_takesE_52 : decode cX11_takesE 52 = .ok (.ireturn, 1) := by decide +kernel
theorem dX11_takesE_53 : decode cX11_takesE 53 = .ok (.aload_n 0, 1) := by decide +kernel
theorem dX11_takesE_54 : decode cX11_takesE 54 = .ok (.dup, 1) := by decide +kernel
theorem dX11_takesE_55 : decode cX11_takesE 55 = .ok (.getfield 68, 3) := by decide +kernel
theorem dX11_takesE_58 : decode cX11_takesE 58 = .ok (.iconst 1, 1) := by decide +kernel
theorem dX11_takesE_59 : decode cX11_takesE 59 = .ok (.iadd, 1) := by decide +kernel
theorem dX11_takesE_60 : decode cX11_takesE 60 = .ok (.putfield 68, 3) := by decide +kernel
theorem dX11_takesE_63 : decode cX11_takesE 63 = .ok (.aload_n 0, 1) := by decide +kernel
theorem dX11_takesE_64 : decode cX11_takesE 64 = .ok (.getfield 59, 3) := by decide +kernel
theorem dX11_takesE_67 : decode cX11_takesE 67 = .ok (.aload_n 0, 1) := by decide +kernel
theorem dX11_takesE_68 : decode cX11_takesE 68 = .ok (.getfield 65, 3) := by decide +kernel
theorem dX11_takesE_71 : decode cX11_takesE 71 = .ok (.iload_n 3, 1) := by decide +kernel
theorem dX11_takesE_72 : decode cX11_takesE 72 = .ok (.iastore, 1) := by decide +kernel
theorem dX11_takesE_73 : decode cX11_takesE 73 = .ok (.aload_n 0, 1) := by decide +kernel
theorem dX11_takesE_74 : decode cX11_takesE 74 = .ok (.dup, 1) := by decide +kernel
theorem dX11_takesE_75 : decode cX11_takesE 75 = .ok (.getfield 65, 3) := by decide +kernel
theorem dX11_takesE_78 : decode cX11_takesE 78 = .ok (.iconst 1, 1) := by decide +kernel
theorem dX11_takesE_79 : decode cX11_takesE 79 = .ok (.iadd, 1) := by decide +kernel
theorem dX11_takesE_80 : decode cX11_takesE 80 = .ok (.putfield 65, 3) := by decide +kernel
theorem dX11_takesE_83 : decode cX11_takesE 83 = .ok (.aload_n 0, 1) := by decide +kernel
theorem dX11_takesE_84 : decode cX11_takesE 84 = .ok (.dup, 1) := by decide +kernel
theorem dX11_takesE_85 : decode cX11_takesE 85 = .ok (.getfield 32, 3) := by decide +kernel
theorem dX11_takesE_88 : decode cX11_takesE 88 = .ok (.iconst 1, 1) := by decide +kernel
theorem dX11_takesE_89 : decode cX11_takesE 89 = .ok (.iadd, 1) := by decide +kernel
theorem dX11_takesE_90 : decode cX11_takesE 90 = .ok (.putfield 32, 3) := by decide +kernel
theorem dX11_takesE_93 : decode cX11_takesE 93 = .ok (.goto (-71), 3) := by decide +kernel
theorem dX11_takesE_96 : decode cX11_takesE 96 = .ok (.aload_n 0, 1) := by decide +kernel
theorem dX11_takesE_97 : decode cX11_takesE 97 = .ok (.invokevirtual 254, 3) := by decide +kernel
theorem dX11_takesE_100 : decode cX11_takesE 100 = .ok (.ifCond .eq 8, 3) := by decide +kernel
theorem dX11_takesE_103 : decode cX11_takesE 103 = .ok (.iconst 0, 1) := by decide +kernel
theorem dX11_takesE_104 : decode cX11_takesE 104 = .ok (.istore_n 2, 1) := by decide +kernel
theorem dX11_takesE_105 : decode cX11_takesE 105 = .ok (.goto (-83), 3) := by decide +kernel
theorem dX11_takesE_108 : decode cX11_takesE 108 = .ok (.iconst 0, 1) := by decide +kernel
theorem dX11_takesE_109 : decode cX11_takesE 109 = .ok (.ireturn, 1) := by decide +kernel
theorem dX11_takesE_110 : decode cX11_takesE 110 = .ok (.iload_n 3, 1) := by decide +kernel
theorem dX11_takesE_111 : decode cX11_takesE 111 = .ok (.bipush 38, 2) := by decide +kernel
theorem dX11_takesE_113 : decode cX11_takesE 113 = .ok (.if_icmp .eq 9, 3) := by decide +kernel
theorem dX11_takesE_116 : decode cX11_takesE 116 = .ok (.iload_n 3, 1) := by decide +kernel
theorem dX11_takesE_117 : decode cX11_takesE 117 = .ok (.bipush 124, 2) := by decide +kernel
theorem dX11_takesE_119 : decode cX11_takesE 119 = .ok (.if_icmp .ne 43, 3) := by decide +kernel
theorem dX11_takesE_122 : decode cX11_takesE 122 = .ok (.aload_n 0, 1) := by decide +kernel
theorem dX11_takesE_123 : decode cX11_takesE 123 = .ok (.iload_n 3, 1) := by decide +kernel
theorem dX11_takesE_124 : decode cX11_takesE 124 = .ok (.invokevirtual 257, 3) := by decide +kernel
theorem dX11_takesE_127 : decode cX11_takesE 127 = .ok (.aload_n 0, 1) := by decide +kernel
theorem dX11_takesE_128 : decode cX11_takesE 128 = .ok (.getfield 59, 3) := by decide +kernel
theorem dX11_takesE_131 : decode cX11_takesE 131 = .ok (.aload_n 0, 1) := by decide +kernel
theorem dX11_takesE_132 : decode cX11_takesE 132 = .ok (.getfield 65, 3) := by decide +kernel
theorem dX11_takesE_135 : decode cX11_takesE 135 = .ok (.iload_n 3, 1) := by decide +kernel
theorem dX11_takesE_136 : decode cX11_takesE 136 = .ok (.iastore, 1) := by decide +kernel
theorem dX11_takesE_137 : decode cX11_takesE 137 = .ok (.aload_n 0, 1) := by decide +kernel
theorem dX11_takesE_138 : decode cX11_takesE 138 = .ok (.dup, 1) := by decide +kernel
theorem dX11_takesE_139 : decode cX11_takesE 139 = .ok (.getfield 65, 3) := by decide +kernel
theorem dX11_takesE_142 : decode cX11_takesE 142 = .ok (.iconst 1, 1) := by decide +kernel
theorem dX11_takesE_143 : decode cX11_takesE 143 = .ok (.iadd, 1) := by decide +kernel
theorem dX11_takesE_144 : decode cX11_takesE 144 = .ok (.putfield 65, 3) := by decide +kernel
theorem dX11_takesE_147 : decode cX11_takesE 147 = .ok (.iconst 1, 1) := by decide +kernel
theorem dX11_takesE_148 : decode cX11_takesE 148 = .ok (.istore_n 2, 1) := by decide +kernel
theorem dX11_takesE_149 : decode cX11_takesE 149 = .ok (.aload_n 0, 1) := by decide +kernel
theorem dX11_takesE_150 : decode cX11_takesE 150 = .ok (.dup, 1) := by decide +kernel
theorem dX11_takesE_151 : decode cX11_takesE 151 = .ok (.getfield 32, 3) := by decide +kernel
theorem dX11_takesE_154 : decode cX11_takesE 154 = .ok (.iconst 1, 1) := by decide +kernel
theorem dX11_takesE_155 : decode cX11_takesE 155 = .ok (.iadd, 1) := by decide +kernel
theorem dX11_takesE_156 : decode cX11_takesE 156 = .ok (.putfield 32, 3) := by decide +kernel
theorem dX11_takesE_159 : decode cX11_takesE 159 = .ok (.goto (-137), 3) := by decide +kernel
theorem dX11_takesE_162 : decode cX11_takesE 162 = .ok (.aload_n 0, 1) := by decide +kernel
theorem dX11_takesE_163 : decode cX11_takesE 163 = .ok (.bipush 124, 2) := by decide +kernel
theorem dX11_takesE_165 : decode cX11_takesE 165 = .ok (.invokevirtual 257, 3) := by decide +kernel
theorem dX11_takesE_168 : decode cX11_takesE 168 = .ok (.aload_n 0, 1) := by decide +kernel
theorem dX11_takesE_169 : decode cX11_takesE 169 = .ok (.getfield 53, 3) := by decide +kernel
theorem dX11_takesE_172 : decode cX11_takesE 172 = .ok (.iload_n 1, 1) := by decide +kernel
theorem dX11_takesE_173 : decode cX11_takesE 173 = .ok (.aload_n 0, 1) := by decide +kernel
theorem dX11_takesE_174 : decode cX11_takesE 174 = .ok (.getfield 62, 3) := by decide +kernel
theorem dX11_takesE_177 : decode cX11_takesE 177 = .ok (.iastore, 1) := by decide +kernel
theorem dX11_takesE_178 : decode cX11_takesE 178 = .ok (.aload_n 0, 1) := by decide +kernel
theorem dX11_takesE_179 : decode cX11_takesE 179 = .ok (.getfield 65, 3) := by decide +kernel
theorem dX11_takesE_182 : decode cX11_takesE 182 = .ok (.ifCond .ne 5, 3) := by decide +kernel
theorem dX11_takesE_185 : decode cX11_takesE 185 = .ok (.iconst 1, 1) := by decide +kernel
theorem dX11_takesE_186 : decode cX11_takesE 186 = .ok (.ireturn, 1) := by decide +kernel
theorem dX11_takesE_187 : decode cX11_takesE 187 = .ok (.iload_n 3, 1) := by decide +kernel
theorem dX11_takesE_188 : decode cX11_takesE 188 = .ok (.bipush 41, 2) := by decide +kernel
theorem dX11_takesE_190 : decode cX11_takesE 190 = .ok (.if_icmp .eq 5, 3) := by decide +kernel
theorem dX11_takesE_193 : decode cX11_takesE 193 = .ok (.iconst 0, 1) := by decide +kernel
theorem dX11_takesE_194 : decode cX11_takesE 194 = .ok (.ireturn, 1) := by decide +kernel
theorem dX11_takesE_195 : decode cX11_takesE 195 = .ok (.aload_n 0, 1) := by decide +kernel
theorem dX11_takesE_196 : decode cX11_takesE 196 = .ok (.dup, 1) := by decide +kernel
theorem dX11_takesE_197 : decode cX11_takesE 197 = .ok (.getfield 65, 3) := by decide +kernel
theorem dX11_takesE_200 : decode cX11_takesE 200 = .ok (.iconst 1, 1) := by decide +kernel
theorem dX11_takesE_201 : decode cX11_takesE 201 = .ok (.isub, 1) := by decide +kernel
theorem dX11_takesE_202 : decode cX11_takesE 202 = .ok (.putfield 65, 3) := by decide +kernel
theorem dX11_takesE_205 : decode cX11_takesE 205 = .ok (.aload_n 0, 1) := by decide +kernel
theorem dX11_takesE_206 : decode cX11_takesE 206 = .ok (.dup, 1) := by decide +kernel
theorem dX11_takesE_207 : decode cX11_takesE 207 = .ok (.getfield 68, 3) := by decide +kernel
theorem dX11_takesE_210 : decode cX11_takesE 210 = .ok (.iconst 1, 1) := by decide +kernel
theorem dX11_takesE_211 : decode cX11_takesE 211 = .ok (.isub, 1) := by decide +kernel
theorem dX11_takesE_212 : decode cX11_takesE 212 = .ok (.putfield 68, 3) := by decide +kernel
theorem dX11_takesE_215 : decode cX11_takesE 215 = .ok (.aload_n 0, 1) := by decide +kernel
theorem dX11_takesE_216 : decode cX11_takesE 216 = .ok (.dup, 1) := by decide +kernel
theorem dX11_takesE_217 : decode cX11_takesE 217 = .ok (.getfield 32, 3) := by decide +kernel
theorem dX11_takesE_220 : decode cX11_takesE 220 = .ok (.iconst 1, 1) := by decide +kernel
theorem dX11_takesE_221 : decode cX11_takesE 221 = .ok (.iadd, 1) := by decide +kernel
theorem dX11_takesE_222 : decode cX11_takesE 222 = .ok (.putfield 32, 3) := by decide +kernel
theorem dX11_takesE_225 : decode cX11_takesE 225 = .ok (.aload_n 0, 1) := by decide +kernel
theorem dX11_takesE_226 : decode cX11_takesE 226 = .ok (.invokevirtual 251, 3) := by decide +kernel
theorem dX11_takesE_229 : decode cX11_takesE 229 = .ok (.goto (-207), 3) := by decide +kernel
theorem dX11_takesHead_0 : decode cX11_takesHead 0 = .ok (.aload_n 0, 1) := by decide +kernel
theorem dX11_takesHead_1 : decode cX11_takesHead 1 = .ok (.invokevirtual 229, 3) := by decide +kernel
theorem dX11_takesHead_4 : decode cX11_takesHead 4 = .ok (.lookupswitch 57 #[(102, 28), (115, 42)], 28) := by decide +kernel
theorem dX11_takesHead_32 : decode cX11_takesHead 32 = .ok (.aload_n 0, 1) := by decide +kernel
theorem dX11_takesHead_33 : decode cX11_takesHead 33 = .ok (.getfield 44, 3) := by decide +kernel
theorem dX11_takesHead_36 : decode cX11_takesHead 36 = .ok (.iload_n 1, 1) := by decide +kernel
theorem dX11_takesHead_37 : decode cX11_takesHead 37 = .ok (.iconst 0, 1) := by decide +kernel
theorem dX11_takesHead_38 : decode cX11_takesHead 38 = .ok (.iastore, 1) := by decide +kernel
theorem dX11_takesHead_39 : decode cX11_takesHead 39 = .ok (.aload_n 0, 1) := by decide +kernel
theorem dX11_takesHead_40 : decode cX11_takesHead 40 = .ok (.iconst 0, 1) := by decide +kernel
theorem dX11_takesHead_41 : decode cX11_takesHead 41 = .ok (.iconst 4, 1) := by decide +kernel
theorem dX11_takesHead_42 : decode cX11_takesHead 42 = .ok (.invokevirtual 260, 3) := by decide +kernel
theorem dX11_takesHead_45 : decode cX11_takesHead 45 = .ok (.ireturn, 1) := by decide +kernel
theorem dX11_takesHead_46 : decode cX11_takesHead 46 = .ok (.aload_n 0, 1) := by decide +kernel
theorem dX11_takesHead_47 : decode cX11_takesHead 47 = .ok (.getfield 44, 3) := by decide +kernel
theorem dX11_takesHead_50 : decode cX11_takesHead 50 = .ok (.iload_n 1, 1) := by decide +kernel
theorem dX11_takesHead_51 : decode cX11_takesHead 51 = .ok (.iconst 2, 1) := by decide +kernel
theorem dX11_takesHead_52 : decode cX11_takesHead 52 = .ok (.iastore, 1) := by decide +kernel
theorem dX11_takesHead_53 : decode cX11_takesHead 53 = .ok (.aload_n 0, 1) := by decide +kernel
theorem dX11_takesHead_54 : decode cX11_takesHead 54 = .ok (.bipush 8, 2) := by decide +kernel
theorem dX11_takesHead_56 : decode cX11_takesHead 56 = .ok (.iconst 4, 1) := by decide +kernel
theorem dX11_takesHead_57 : decode cX11_takesHead 57 = .ok (.invokevirtual 260, 3) := by decide +kernel
theorem dX11_takesHead_60 : decode cX11_takesHead 60 = .ok (.ireturn, 1) := by decide +kernel
theorem dX11_takesHead_61 : decode cX11_takesHead 61 = .ok (.aload_n 0, 1) := by decide +kernel
theorem dX11_takesHead_62 : decode cX11_takesHead 62 = .ok (.getfield 44, 3) := by decide +kernel
theorem dX11_takesHead_65 : decode cX11_takesHead 65 = .ok (.iload_n 1, 1) := by decide +kernel
theorem dX11_takesHead_66 : decode cX11_takesHead 66 = .ok (.aload_n 0, 1) := by decide +kernel
theorem dX11_takesHead_67 : decode cX11_takesHead 67 = .ok (.invokevirtual 264, 3) := by decide +kernel
theorem dX11_takesHead_70 : decode cX11_takesHead 70 = .ok (.bipush 117, 2) := by decide +kernel
theorem dX11_takesHead_72 : decode cX11_takesHead 72 = .ok (.if_icmp .ne 7, 3) := by decide +kernel
theorem dX11_takesHead_75 : decode cX11_takesHead 75 = .ok (.iconst 3, 1) := by decide +kernel
theorem dX11_takesHead_76 : decode cX11_takesHead 76 = .ok (.goto 4, 3) := by decide +kernel
theorem dX11_takesHead_79 : decode cX11_takesHead 79 = .ok (.iconst 1, 1) := by decide +kernel
theorem dX11_takesHead_80 : decode cX11_takesHead 80 = .ok (.iastore, 1) := by decide +kernel
theorem dX11_takesHead_81 : decode cX11_takesHead 81 = .ok (.aload_n 0, 1) := by decide +kernel
theorem dX11_takesHead_82 : decode cX11_takesHead 82 = .ok (.getfield 44, 3) := by decide +kernel
theorem dX11_takesHead_85 : decode cX11_takesHead 85 = .ok (.iload_n 1, 1) := by decide +kernel
theorem dX11_takesHead_86 : decode cX11_takesHead 86 = .ok (.iaload, 1) := by decide +kernel
theorem dX11_takesHead_87 : decode cX11_takesHead 87 = .ok (.iconst 3, 1) := by decide +kernel
theorem dX11_takesHead_88 : decode cX11_takesHead 88 = .ok (.if_icmp .ne 13, 3) := by decide +kernel
theorem dX11_takesHead_91 : decode cX11_takesHead 91 = .ok (.aload_n 0, 1) := by decide +kernel
theorem dX11_takesHead_92 : decode cX11_takesHead 92 = .ok (.bipush 12, 2) := by decide +kernel
theorem dX11_takesHead_94 : decode cX11_takesHead 94 = .ok (.iconst 4, 1) := by decide +kernel
theorem dX11_takesHead_95 : decode cX11_takesHead 95 = .ok (.invokevirtual 260, 3) := by decide +kernel
theorem dX11_takesHead_98 : decode cX11_takesHead 98 = .ok (.goto 9, 3) := by decide +kernel
theorem dX11_takesHead_101 : decode cX11_takesHead 101 = .ok (.aload_n 0, 1) := by decide +kernel
theorem dX11_takesHead_102 : decode cX11_takesHead 102 = .ok (.iconst 4, 1) := by decide +kernel
theorem dX11_takesHead_103 : decode cX11_takesHead 103 = .ok (.iconst 4, 1) := by decide +kernel
theorem dX11_takesHead_104 : decode cX11_takesHead 104 = .ok (.invokevirtual 260, 3) := by decide +kernel
theorem dX11_takesHead_107 : decode cX11_takesHead 107 = .ok (.ireturn, 1) := by decide +kernel
theorem dX11_takesClause_0 : decode cX11_takesClause 0 = .ok (.aload_n 0, 1) := by decide +kernel
theorem dX11_takesClause_1 : decode cX11_takesClause 1 = .ok (.iload_n 1, 1) := by decide +kernel
theorem dX11_takesClause_2 : decode cX11_takesClause 2 = .ok (.invokevirtual 267, 3) := by decide +kernel
theorem dX11_takesClause_5 : decode cX11_takesClause 5 = .ok (.ifCond .ne 5, 3) := by decide +kernel
theorem dX11_takesClause_8 : decode cX11_takesClause 8 = .ok (.iconst 0, 1) := by decide +kernel
theorem dX11_takesClause_9 : decode cX11_takesClause 9 = .ok (.ireturn, 1) := by decide +kernel
theorem dX11_takesClause_10 : decode cX11_takesClause 10 = .ok (.aload_n 0, 1) := by decide +kernel
theorem dX11_takesClause_11 : decode cX11_takesClause 11 = .ok (.getfield 44, 3) := by decide +kernel
theorem dX11_takesClause_14 : decode cX11_takesClause 14 = .ok (.iload_n 1, 1) := by decide +kernel
theorem dX11_takesClause_15 : decode cX11_takesClause 15 = .ok (.iaload, 1) := by decide +kernel
theorem dX11_takesClause_16 : decode cX11_takesClause 16 = .ok (.iconst 2, 1) := by decide +kernel
theorem dX11_takesClause_17 : decode cX11_takesClause 17 = .ok (.if_icmp .lt 9, 3) := by decide +kernel
theorem dX11_takesClause_20 : decode cX11_takesClause 20 = .ok (.aload_n 0, 1) := by decide +kernel
theorem dX11_takesClause_21 : decode cX11_takesClause 21 = .ok (.iload_n 1, 1) := by decide +kernel
theorem dX11_takesClause_22 : decode cX11_takesClause 22 = .ok (.invokevirtual 270, 3) := by decide +kernel
theorem dX11_takesClause_25 : decode cX11_takesClause 25 = .ok (.ireturn, 1) := by decide +kernel
theorem dX11_takesClause_26 : decode cX11_takesClause 26 = .ok (.aload_n 0, 1) := by decide +kernel
theorem dX11_takesClause_27 : decode cX11_takesClause 27 = .ok (.invokevirtual 248, 3) := by decide +kernel
theorem dX11_takesClause_30 : decode cX11_takesClause 30 = .ok (.ifCond .ne 5, 3) := by decide +kernel
theorem dX11_takesClause_33 : decode cX11_takesClause 33 = .ok (.iconst 0, 1) := by decide +kernel
theorem dX11_takesClause_34 : decode cX11_takesClause 34 = .ok (.ireturn, 1) := by decide +kernel
theorem dX11_takesClause_35 : decode cX11_takesClause 35 = .ok (.aload_n 0, 1) := by decide +kernel
theorem dX11_takesClause_36 : decode cX11_takesClause 36 = .ok (.getfield 47, 3) := by decide +kernel
theorem dX11_takesClause_39 : decode cX11_takesClause 39 = .ok (.iload_n 1, 1) := by decide +kernel
theorem dX11_takesClause_40 : decode cX11_takesClause 40 = .ok (.aload_n 0, 1) := by decide +kernel
theorem dX11_takesClause_41 : decode cX11_takesClause 41 = .ok (.getfield 35, 3) := by decide +kernel
theorem dX11_takesClause_44 : decode cX11_takesClause 44 = .ok (.iastore, 1) := by decide +kernel
theorem dX11_takesClause_45 : decode cX11_takesClause 45 = .ok (.iconst 1, 1) := by decide +kernel
theorem dX11_takesClause_46 : decode cX11_takesClause 46 = .ok (.ireturn, 1) := by decide +kernel
theorem dX11_goesText_0 : decode cX11_goesText 0 = .ok (.aload_n 0, 1) := by decide +kernel
theorem dX11_goesText_1 : decode cX11_goesText 1 = .ok (.iconst 0, 1) := by decide +kernel
theorem dX11_goesText_2 : decode cX11_goesText 2 = .ok (.putfield 32, 3) := by decide +kernel
theorem dX11_goesText_5 : decode cX11_goesText 5 = .ok (.aload_n 0, 1) := by decide +kernel
theorem dX11_goesText_6 : decode cX11_goesText 6 = .ok (.bipush 100, 2) := by decide +kernel
theorem dX11_goesText_8 : decode cX11_goesText 8 = .ok (.iload_n 1, 1) := by decide +kernel
theorem dX11_goesText_9 : decode cX11_goesText 9 = .ok (.imul, 1) := by decide +kernel
theorem dX11_goesText_10 : decode cX11_goesText 10 = .ok (.putfield 62, 3) := by decide +kernel
theorem dX11_goesText_13 : decode cX11_goesText 13 = .ok (.iconst 0, 1) := by decide +kernel
theorem dX11_goesText_14 : decode cX11_goesText 14 = .ok (.istore_n 2, 1) := by decide +kernel
theorem dX11_goesText_15 : decode cX11_goesText 15 = .ok (.aload_n 0, 1) := by decide +kernel
theorem dX11_goesText_16 : decode cX11_goesText 16 = .ok (.bipush 10, 2) := by decide +kernel
theorem dX11_goesText_18 : decode cX11_goesText 18 = .ok (.iload_n 1, 1) := by decide +kernel
theorem dX11_goesText_19 : decode cX11_goesText 19 = .ok (.imul, 1) := by decide +kernel
theorem dX11_goesText_20 : decode cX11_goesText 20 = .ok (.iload_n 2, 1) := by decide +kernel
theorem dX11_goesText_21 : decode cX11_goesText 21 = .ok (.iadd, 1) := by decide +kernel
theorem dX11_goesText_22 : decode cX11_goesText 22 = .ok (.invokevirtual 273, 3) := by decide +kernel
theorem dX11_goesText_25 : decode cX11_goesText 25 = .ok (.ifCond .ne 5, 3) := by decide +kernel
theorem dX11_goesText_28 : decode cX11_goesText 28 = .ok (.iconst 0, 1) := by decide +kernel
theorem dX11_goesText_29 : decode cX11_goesText 29 = .ok (.ireturn, 1) := by decide +kernel
theorem dX11_goesText_30 : decode cX11_goesText 30 = .ok (.iinc 2 1, 3) := by decide +kernel
theorem dX11_goesText_33 : decode cX11_goesText 33 = .ok (.aload_n 0, 1) := by decide +kernel
theorem dX11_goesText_34 : decode cX11_goesText 34 = .ok (.getfield 41, 3) := by decide +kernel
theorem dX11_goesText_37 : decode cX11_goesText 37 = .ok (.iload_n 1, 1) := by decide +kernel
theorem dX11_goesText_38 : decode cX11_goesText 38 = .ok (.iload_n 2, 1) := by decide +kernel
theorem dX11_goesText_39 : decode cX11_goesText 39 = .ok (.iastore, 1) := by decide +kernel
theorem dX11_goesText_40 : decode cX11_goesText 40 = .ok (.aload_n 0, 1) := by decide +kernel
theorem dX11_goesText_41 : decode cX11_goesText 41 = .ok (.getfield 32, 3) := by decide +kernel
theorem dX11_goesText_44 : decode cX11_goesText 44 = .ok (.aload_n 0, 1) := by decide +kernel
theorem dX11_goesText_45 : decode cX11_goesText 45 = .ok (.getfield 29, 3) := by decide +kernel
theorem dX11_goesText_48 : decode cX11_goesText 48 = .ok (.if_icmp .ne 5, 3) := by decide +kernel
theorem dX11_goesText_51 : decode cX11_goesText 51 = .ok (.iconst 1, 1) := by decide +kernel
theorem dX11_goesText_52 : decode cX11_goesText 52 = .ok (.ireturn, 1) := by decide +kernel
theorem dX11_goesText_53 : decode cX11_goesText 53 = .ok (.iload_n 2, 1) := by decide +kernel
theorem dX11_goesText_54 : decode cX11_goesText 54 = .ok (.bipush 10, 2) := by decide +kernel
theorem dX11_goesText_56 : decode cX11_goesText 56 = .ok (.if_icmp .eq 12, 3) := by decide +kernel
theorem dX11_goesText_59 : decode cX11_goesText 59 = .ok (.aload_n 0, 1) := by decide +kernel
theorem dX11_goesText_60 : decode cX11_goesText 60 = .ok (.bipush 59, 2) := by decide +kernel
theorem dX11_goesText_62 : decode cX11_goesText 62 = .ok (.invokevirtual 233, 3) := by decide +kernel
theorem dX11_goesText_65 : decode cX11_goesText 65 = .ok (.ifCond .ne (-50), 3) := by decide +kernel
theorem dX11_goesText_68 : decode cX11_goesText 68 = .ok (.iconst 0, 1) := by decide +kernel
theorem dX11_goesText_69 : decode cX11_goesText 69 = .ok (.ireturn, 1) := by decide +kernel
theorem dX11_job_0 : decode cX11_job 0 = .ok (.aload_n 0, 1) := by decide +kernel
theorem dX11_job_1 : decode cX11_job 1 = .ok (.getfield 26, 3) := by decide +kernel
theorem dX11_job_4 : decode cX11_job 4 = .ok (.bipush 6, 2) := by decide +kernel
theorem dX11_job_6 : decode cX11_job 6 = .ok (.if_icmp .ne 6, 3) := by decide +kernel
theorem dX11_job_9 : decode cX11_job 9 = .ok (.bipush (-4), 2) := by decide +kernel
theorem dX11_job_11 : decode cX11_job 11 = .ok (.ireturn, 1) := by decide +kernel
theorem dX11_job_12 : decode cX11_job 12 = .ok (.aload_n 0, 1) := by decide +kernel
theorem dX11_job_13 : decode cX11_job 13 = .ok (.aload_n 0, 1) := by decide +kernel
theorem dX11_job_14 : decode cX11_job 14 = .ok (.getfield 26, 3) := by decide +kernel
theorem dX11_job_17 : decode cX11_job 17 = .ok (.invokevirtual 276, 3) := by decide +kernel
theorem dX11_job_20 : decode cX11_job 20 = .ok (.istore_n 1, 1) := by decide +kernel
theorem dX11_job_21 : decode cX11_job 21 = .ok (.aload_n 0, 1) := by decide +kernel
theorem dX11_job_22 : decode cX11_job 22 = .ok (.iconst 0, 1) := by decide +kernel
theorem dX11_job_23 : decode cX11_job 23 = .ok (.putfield 29, 3) := by decide +kernel
theorem dX11_job_26 : decode cX11_job 26 = .ok (.iload_n 1, 1) := by decide +kernel
theorem dX11_job_27 : decode cX11_job 27 = .ok (.ifCond .ne 11, 3) := by decide +kernel
theorem dX11_job_30 : decode cX11_job 30 = .ok (.bipush (-10), 2) := by decide +kernel
theorem dX11_job_32 : decode cX11_job 32 = .ok (.aload_n 0, 1) := by decide +kernel
theorem dX11_job_33 : decode cX11_job 33 = .ok (.getfield 32, 3) := by decide +kernel
theorem dX11_job_36 : decode cX11_job 36 = .ok (.isub, 1) := by decide +kernel
theorem dX11_job_37 : decode cX11_job 37 = .ok (.ireturn, 1) := by decide +kernel
theorem dX11_job_38 : decode cX11_job 38 = .ok (.aload_n 0, 1) := by decide +kernel
theorem dX11_job_39 : decode cX11_job 39 = .ok (.dup, 1) := by decide +kernel
theorem dX11_job_40 : decode cX11_job 40 = .ok (.getfield 26, 3) := by decide +kernel
theorem dX11_job_43 : decode cX11_job 43 = .ok (.iconst 1, 1) := by decide +kernel
theorem dX11_job_44 : decode cX11_job 44 = .ok (.iadd, 1) := by decide +kernel
theorem dX11_job_45 : decode cX11_job 45 = .ok (.putfield 26, 3) := by decide +kernel
theorem dX11_job_48 : decode cX11_job 48 = .ok (.aload_n 0, 1) := by decide +kernel
theorem dX11_job_49 : decode cX11_job 49 = .ok (.getfield 26, 3) := by decide +kernel
theorem dX11_job_52 : decode cX11_job 52 = .ok (.iconst 1, 1) := by decide +kernel
theorem dX11_job_53 : decode cX11_job 53 = .ok (.isub, 1) := by decide +kernel
theorem dX11_job_54 : decode cX11_job 54 = .ok (.ireturn, 1) := by decide +kernel
theorem dX11_isJob_0 : decode cX11_isJob 0 = .ok (.aload_n 0, 1) := by decide +kernel
theorem dX11_isJob_1 : decode cX11_isJob 1 = .ok (.iload_n 1, 1) := by decide +kernel
theorem dX11_isJob_2 : decode cX11_isJob 2 = .ok (.iconst 0, 1) := by decide +kernel
theorem dX11_isJob_3 : decode cX11_isJob 3 = .ok (.aload_n 0, 1) := by decide +kernel
theorem dX11_isJob_4 : decode cX11_isJob 4 = .ok (.getfield 26, 3) := by decide +kernel
theorem dX11_isJob_7 : decode cX11_isJob 7 = .ok (.iconst 1, 1) := by decide +kernel
theorem dX11_isJob_8 : decode cX11_isJob 8 = .ok (.isub, 1) := by decide +kernel
theorem dX11_isJob_9 : decode cX11_isJob 9 = .ok (.invokevirtual 221, 3) := by decide +kernel
theorem dX11_isJob_12 : decode cX11_isJob 12 = .ok (.ireturn, 1) := by decide +kernel
theorem dX11_lastOf_0 : decode cX11_lastOf 0 = .ok (.iload_n 3, 1) := by decide +kernel
theorem dX11_lastOf_1 : decode cX11_lastOf 1 = .ok (.istore 4, 2) := by decide +kernel
theorem dX11_lastOf_3 : decode cX11_lastOf 3 = .ok (.bipush 10, 2) := by decide +kernel
theorem dX11_lastOf_5 : decode cX11_lastOf 5 = .ok (.iload_n 1, 1) := by decide +kernel
theorem dX11_lastOf_6 : decode cX11_lastOf 6 = .ok (.imul, 1) := by decide +kernel
theorem dX11_lastOf_7 : decode cX11_lastOf 7 = .ok (.istore 5, 2) := by decide +kernel
theorem dX11_lastOf_9 : decode cX11_lastOf 9 = .ok (.iload 5, 2) := by decide +kernel
theorem dX11_lastOf_11 : decode cX11_lastOf 11 = .ok (.bipush 10, 2) := by decide +kernel
theorem dX11_lastOf_13 : decode cX11_lastOf 13 = .ok (.iload_n 1, 1) := by decide +kernel
theorem dX11_lastOf_14 : decode cX11_lastOf 14 = .ok (.imul, 1) := by decide +kernel
theorem dX11_lastOf_15 : decode cX11_lastOf 15 = .ok (.aload_n 0, 1) := by decide +kernel
theorem dX11_lastOf_16 : decode cX11_lastOf 16 = .ok (.getfield 41, 3) := by decide +kernel
theorem dX11_lastOf_19 : decode cX11_lastOf 19 = .ok (.iload_n 1, 1) := by decide +kernel
theorem dX11_lastOf_20 : decode cX11_lastOf 20 = .ok (.iaload, 1) := by decide +kernel
theorem dX11_lastOf_21 : decode cX11_lastOf 21 = .ok (.iadd, 1) := by decide +kernel
theorem dX11_lastOf_22 : decode cX11_lastOf 22 = .ok (.if_icmp .ge 34, 3) := by decide +kernel
theorem dX11_lastOf_25 : decode cX11_lastOf 25 = .ok (.aload_n 0, 1) := by decide +kernel
theorem dX11_lastOf_26 : decode cX11_lastOf 26 = .ok (.getfield 44, 3) := by decide +kernel
theorem dX11_lastOf_29 : decode cX11_lastOf 29 = .ok (.iload 5, 2) := by decide +kernel
theorem dX11_lastOf_31 : decode cX11_lastOf 31 = .ok (.iaload, 1) := by decide +kernel
theorem dX11_lastOf_32 : decode cX11_lastOf 32 = .ok (.iload_n 2, 1) := by decide +kernel
theorem dX11_lastOf_33 : decode cX11_lastOf 33 = .ok (.if_icmp .ne 13, 3) := by decide +kernel
theorem dX11_lastOf_36 : decode cX11_lastOf 36 = .ok (.aload_n 0, 1) := by decide +kernel
theorem dX11_lastOf_37 : decode cX11_lastOf 37 = .ok (.getfield 47, 3) := by decide +kernel
theorem dX11_lastOf_40 : decode cX11_lastOf 40 = .ok (.iload 5, 2) := by decide +kernel
theorem dX11_lastOf_42 : decode cX11_lastOf 42 = .ok (.iaload, 1) := by decide +kernel
theorem dX11_lastOf_43 : decode cX11_lastOf 43 = .ok (.goto 5, 3) := by decide +kernel
theorem dX11_lastOf_46 : decode cX11_lastOf 46 = .ok (.iload 4, 2) := by decide +kernel
theorem dX11_lastOf_48 : decode cX11_lastOf 48 = .ok (.istore 4, 2) := by decide +kernel
theorem dX11_lastOf_50 : decode cX11_lastOf 50 = .ok (.iinc 5 1, 3) := by decide +kernel
theorem dX11_lastOf_53 : decode cX11_lastOf 53 = .ok (.goto (-44), 3) := by decide +kernel
theorem dX11_lastOf_56 : decode cX11_lastOf 56 = .ok (.iload 4, 2) := by decide +kernel
theorem dX11_lastOf_58 : decode cX11_lastOf 58 = .ok (.ireturn, 1) := by decide +kernel
theorem dX11_first_0 : decode cX11_first 0 = .ok (.aload_n 0, 1) := by decide +kernel
theorem dX11_first_1 : decode cX11_first 1 = .ok (.iload_n 1, 1) := by decide +kernel
theorem dX11_first_2 : decode cX11_first 2 = .ok (.iconst 0, 1) := by decide +kernel
theorem dX11_first_3 : decode cX11_first 3 = .ok (.iconst 1, 1) := by decide +kernel
theorem dX11_first_4 : decode cX11_first 4 = .ok (.invokevirtual 279, 3) := by decide +kernel
theorem dX11_first_7 : decode cX11_first 7 = .ok (.istore_n 2, 1) := by decide +kernel
theorem dX11_first_8 : decode cX11_first 8 = .ok (.iload_n 2, 1) := by decide +kernel
theorem dX11_first_9 : decode cX11_first 9 = .ok (.iconst 1, 1) := by decide +kernel
theorem dX11_first_10 : decode cX11_first 10 = .ok (.if_icmp .ge 7, 3) := by decide +kernel
theorem dX11_first_13 : decode cX11_first 13 = .ok (.iconst 1, 1) := by decide +kernel
theorem dX11_first_14 : decode cX11_first 14 = .ok (.goto 4, 3) := by decide +kernel
theorem dX11_first_17 : decode cX11_first 17 = .ok (.iload_n 2, 1) := by decide +kernel
theorem dX11_first_18 : decode cX11_first 18 = .ok (.ireturn, 1) := by decide +kernel
theorem dX11_last_0 : decode cX11_last 0 = .ok (.aload_n 0, 1) := by decide +kernel
theorem dX11_last_1 : decode cX11_last 1 = .ok (.iload_n 1, 1) := by decide +kernel
theorem dX11_last_2 : decode cX11_last 2 = .ok (.iconst 1, 1) := by decide +kernel
theorem dX11_last_3 : decode cX11_last 3 = .ok (.bipush 24, 2) := by decide +kernel
theorem dX11_last_5 : decode cX11_last 5 = .ok (.invokevirtual 279, 3) := by decide +kernel
theorem dX11_last_8 : decode cX11_last 8 = .ok (.istore_n 2, 1) := by decide +kernel
theorem dX11_last_9 : decode cX11_last 9 = .ok (.iload_n 2, 1) := by decide +kernel
theorem dX11_last_10 : decode cX11_last 10 = .ok (.bipush 24, 2) := by decide +kernel
theorem dX11_last_12 : decode cX11_last 12 = .ok (.if_icmp .le 8, 3) := by decide +kernel
theorem dX11_last_15 : decode cX11_last 15 = .ok (.bipush 24, 2) := by decide +kernel
theorem dX11_last_17 : decode cX11_last 17 = .ok (.goto 4, 3) := by decide +kernel
theorem dX11_last_20 : decode cX11_last 20 = .ok (.iload_n 2, 1) := by decide +kernel
theorem dX11_last_21 : decode cX11_last 21 = .ok (.ireturn, 1) := by decide +kernel
theorem dX11_jobs_0 : decode cX11_jobs 0 = .ok (.aload_n 0, 1) := by decide +kernel
theorem dX11_jobs_1 : decode cX11_jobs 1 = .ok (.iload_n 1, 1) := by decide +kernel
theorem dX11_jobs_2 : decode cX11_jobs 2 = .ok (.invokevirtual 283, 3) := by decide +kernel
theorem dX11_jobs_5 : decode cX11_jobs 5 = .ok (.ifCond .eq 13, 3) := by decide +kernel
theorem dX11_jobs_8 : decode cX11_jobs 8 = .ok (.aload_n 0, 1) := by decide +kernel
theorem dX11_jobs_9 : decode cX11_jobs 9 = .ok (.iload_n 2, 1) := by decide +kernel
theorem dX11_jobs_10 : decode cX11_jobs 10 = .ok (.iconst 0, 1) := by decide +kernel
theorem dX11_jobs_11 : decode cX11_jobs 11 = .ok (.iconst 1, 1) := by decide +kernel
theorem dX11_jobs_12 : decode cX11_jobs 12 = .ok (.invokevirtual 221, 3) := by decide +kernel
theorem dX11_jobs_15 : decode cX11_jobs 15 = .ok (.ifCond .ne 5, 3) := by decide +kernel
theorem dX11_jobs_18 : decode cX11_jobs 18 = .ok (.iconst (-1), 1) := by decide +kernel
theorem dX11_jobs_19 : decode cX11_jobs 19 = .ok (.ireturn, 1) := by decide +kernel
theorem dX11_jobs_20 : decode cX11_jobs 20 = .ok (.iload_n 2, 1) := by decide +kernel
theorem dX11_jobs_21 : decode cX11_jobs 21 = .ok (.ifCond .ne 11, 3) := by decide +kernel
theorem dX11_jobs_24 : decode cX11_jobs 24 = .ok (.aload_n 0, 1) := by decide +kernel
theorem dX11_jobs_25 : decode cX11_jobs 25 = .ok (.iload_n 1, 1) := by decide +kernel
theorem dX11_jobs_26 : decode cX11_jobs 26 = .ok (.invokevirtual 286, 3) := by decide +kernel
theorem dX11_jobs_29 : decode cX11_jobs 29 = .ok (.goto 8, 3) := by decide +kernel
theorem dX11_jobs_32 : decode cX11_jobs 32 = .ok (.aload_n 0, 1) := by decide +kernel
theorem dX11_jobs_33 : decode cX11_jobs 33 = .ok (.iload_n 1, 1) := by decide +kernel
theorem dX11_jobs_34 : decode cX11_jobs 34 = .ok (.invokevirtual 289, 3) := by decide +kernel
theorem dX11_jobs_37 : decode cX11_jobs 37 = .ok (.ireturn, 1) := by decide +kernel
theorem dX11_factOf_0 : decode cX11_factOf 0 = .ok (.iload_n 1, 1) := by decide +kernel
theorem dX11_factOf_1 : decode cX11_factOf 1 = .ok (.tableswitch 60 0 4 #[35, 37, 41, 46, 53], 35) := by decide +kernel
theorem dX11_factOf_36 : decode cX11_factOf 36 = .ok (.iload_n 2, 1) := by decide +kernel
theorem dX11_factOf_37 : decode cX11_factOf 37 = .ok (.ireturn, 1) := by decide +kernel
theorem dX11_factOf_38 : decode cX11_factOf 38 = .ok (.iload_n 2, 1) := by decide +kernel
theorem dX11_factOf_39 : decode cX11_factOf 39 = .ok (.iconst 2, 1) := by decide +kernel
theorem dX11_factOf_40 : decode cX11_factOf 40 = .ok (.irem, 1) := by decide +kernel
theorem dX11_factOf_41 : decode cX11_factOf 41 = .ok (.ireturn, 1) := by decide +kernel
theorem dX11_factOf_42 : decode cX11_factOf 42 = .ok (.iload_n 2, 1) := by decide +kernel
theorem dX11_factOf_43 : decode cX11_factOf 43 = .ok (.bipush 10, 2) := by decide +kernel
theorem dX11_factOf_45 : decode cX11_factOf 45 = .ok (.irem, 1) := by decide +kernel
theorem dX11_factOf_46 : decode cX11_factOf 46 = .ok (.ireturn, 1) := by decide +kernel
theorem dX11_factOf_47 : decode cX11_factOf 47 = .ok (.aload_n 0, 1) := by decide +kernel
theorem dX11_factOf_48 : decode cX11_factOf 48 = .ok (.getfield 13, 3) := by decide +kernel
theorem dX11_factOf_51 : decode cX11_factOf 51 = .ok (.iload_n 3, 1) := by decide +kernel
theorem dX11_factOf_52 : decode cX11_factOf 52 = .ok (.iaload, 1) := by decide +kernel
theorem dX11_factOf_53 : decode cX11_factOf 53 = .ok (.ireturn, 1) := by decide +kernel
theorem dX11_factOf_54 : decode cX11_factOf 54 = .ok (.aload_n 0, 1) := by decide +kernel
theorem dX11_factOf_55 : decode cX11_factOf 55 = .ok (.getfield 17, 3) := by decide +kernel
theorem dX11_factOf_58 : decode cX11_factOf 58 = .ok (.iload_n 3, 1) := by decide +kernel
theorem dX11_factOf_59 : decode cX11_factOf 59 = .ok (.iaload, 1) := by decide +kernel
theorem dX11_factOf_60 : decode cX11_factOf 60 = .ok (.ireturn, 1) := by decide +kernel
theorem dX11_factOf_61 : decode cX11_factOf 61 = .ok (.iload 4, 2) := by decide +kernel
theorem dX11_factOf_63 : decode cX11_factOf 63 = .ok (.ireturn, 1) := by decide +kernel
theorem dX11_holds_0 : decode cX11_holds 0 = .ok (.iconst 0, 1) := by decide +kernel
theorem dX11_holds_1 : decode cX11_holds 1 = .ok (.istore 5, 2) := by decide +kernel
theorem dX11_holds_3 : decode cX11_holds 3 = .ok (.aload_n 0, 1) := by decide +kernel
theorem dX11_holds_4 : decode cX11_holds 4 = .ok (.getfield 50, 3) := by decide +kernel
theorem dX11_holds_7 : decode cX11_holds 7 = .ok (.iload_n 1, 1) := by decide +kernel
theorem dX11_holds_8 : decode cX11_holds 8 = .ok (.iaload, 1) := by decide +kernel
theorem dX11_holds_9 : decode cX11_holds 9 = .ok (.istore 6, 2) := by decide +kernel
theorem dX11_holds_11 : decode cX11_holds 11 = .ok (.iload 6, 2) := by decide +kernel
theorem dX11_holds_13 : decode cX11_holds 13 = .ok (.aload_n 0, 1) := by decide +kernel
theorem dX11_holds_14 : decode cX11_holds 14 = .ok (.getfield 53, 3) := by decide +kernel
theorem dX11_holds_17 : decode cX11_holds 17 = .ok (.iload_n 1, 1) := by decide +kernel
theorem dX11_holds_18 : decode cX11_holds 18 = .ok (.iaload, 1) := by decide +kernel
theorem dX11_holds_19 : decode cX11_holds 19 = .ok (.if_icmp .ge 236, 3) := by decide +kernel
theorem dX11_holds_22 : decode cX11_holds 22 = .ok (.aload_n 0, 1) := by decide +kernel
theorem dX11_holds_23 : decode cX11_holds 23 = .ok (.getfield 56, 3) := by decide +kernel
theorem dX11_holds_26 : decode cX11_holds 26 = .ok (.iload 6, 2) := by decide +kernel
theorem dX11_holds_28 : decode cX11_holds 28 = .ok (.iaload, 1) := by decide +kernel
theorem dX11_holds_29 : decode cX11_holds 29 = .ok (.istore 7, 2) := by decide +kernel
theorem dX11_holds_31 : decode cX11_holds 31 = .ok (.iload 7, 2) := by decide +kernel
theorem dX11_holds_33 : decode cX11_holds 33 = .ok (.bipush (-33), 2) := by decide +kernel
theorem dX11_holds_35 : decode cX11_holds 35 = .ok (.if_icmp .ne 32, 3) := by decide +kernel
theorem dX11_holds_38 : decode cX11_holds 38 = .ok (.aload_n 0, 1) := by decide +kernel
theorem dX11_holds_39 : decode cX11_holds 39 = .ok (.getfield 74, 3) := by decide +kernel
theorem dX11_holds_42 : decode cX11_holds 42 = .ok (.iload 5, 2) := by decide +kernel
theorem dX11_holds_44 : decode cX11_holds 44 = .ok (.iconst 1, 1) := by decide +kernel
theorem dX11_holds_45 : decode cX11_holds 45 = .ok (.isub, 1) := by decide +kernel
theorem dX11_holds_46 : decode cX11_holds 46 = .ok (.aload_n 0, 1) := by decide +kernel
theorem dX11_holds_47 : decode cX11_holds 47 = .ok (.getfield 74, 3) := by decide +kernel
theorem dX11_holds_50 : decode cX11_holds 50 = .ok (.iload 5, 2) := by decide +kernel
theorem dX11_holds_52 : decode cX11_holds 52 = .ok (.iconst 1, 1) := by decide +kernel
theorem dX11_holds_53 : decode cX11_holds 53 = .ok (.isub, 1) := by decide +kernel
theorem dX11_holds_54 : decode cX11_holds 54 = .ok (.baload, 1) := by decide +kernel
theorem dX11_holds_55 : decode cX11_holds 55 = .ok (.ifCond .ne 7, 3) := by decide +kernel
theorem dX11_holds_58 : decode cX11_holds 58 = .ok (.iconst 1, 1) := by decide +kernel
theorem dX11_holds_59 : decode cX11_holds 59 = .ok (.goto 4, 3) := by decide +kernel
theorem dX11_holds_62 : decode cX11_holds 62 = .ok (.iconst 0, 1) := by decide +kernel
theorem dX11_holds_63 : decode cX11_holds 63 = .ok (.bastore, 1) := by decide +kernel
theorem dX11_holds_64 : decode cX11_holds 64 = .ok (.goto 185, 3) := by decide +kernel
theorem dX11_holds_67 : decode cX11_holds 67 = .ok (.iload 7, 2) := by decide +kernel
theorem dX11_holds_69 : decode cX11_holds 69 = .ok (.ifCond .ge 82, 3) := by decide +kernel
theorem dX11_holds_72 : decode cX11_holds 72 = .ok (.iinc 5 (-1), 3) := by decide +kernel
theorem dX11_holds_75 : decode cX11_holds 75 = .ok (.aload_n 0, 1) := by decide +kernel
theorem dX11_holds_76 : decode cX11_holds 76 = .ok (.getfield 74, 3) := by decide +kernel
theorem dX11_holds_79 : decode cX11_holds 79 = .ok (.iload 5, 2) := by decide +kernel
theorem dX11_holds_81 : decode cX11_holds 81 = .ok (.iconst 1, 1) := by decide +kernel
theorem dX11_holds_82 : decode cX11_holds 82 = .ok (.isub, 1) := by decide +kernel
theorem dX11_holds_83 : decode cX11_holds 83 = .ok (.iload 7, 2) := by decide +kernel
theorem dX11_holds_85 : decode cX11_holds 85 = .ok (.bipush (-38), 2) := by decide +kernel
theorem dX11_holds_87 : decode cX11_holds 87 = .ok (.if_icmp .ne 33, 3) := by decide +kernel
theorem dX11_holds_90 : decode cX11_holds 90 = .ok (.aload_n 0, 1) := by decide +kernel
theorem dX11_holds_91 : decode cX11_holds 91 = .ok (.getfield 74, 3) := by decide +kernel
theorem dX11_holds_94 : decode cX11_holds 94 = .ok (.iload 5, 2) := by decide +kernel
theorem dX11_holds_96 : decode cX11_holds 96 = .ok (.iconst 1, 1) := by decide +kernel
theorem dX11_holds_97 : decode cX11_holds 97 = .ok (.isub, 1) := by decide +kernel
theorem dX11_holds_98 : decode cX11_holds 98 = .ok (.baload, 1) := by decide +kernel
theorem dX11_holds_99 : decode cX11_holds 99 = .ok (.ifCond .eq 17, 3) := by decide +kernel
theorem dX11_holds_102 : decode cX11_holds 102 = .ok (.aload_n 0, 1) := by decide +kernel
theorem dX11_holds_103 : decode cX11_holds 103 = .ok (.getfield 74, 3) := by decide +kernel
theorem dX11_holds_106 : decode cX11_holds 106 = .ok (.iload 5, 2) := by decide +kernel
theorem dX11_holds_108 : decode cX11_holds 108 = .ok (.baload, 1) := by decide +kernel
theorem dX11_holds_109 : decode cX11_holds 109 = .ok (.ifCond .eq 7, 3) := by decide +kernel
theorem dX11_holds_112 : decode cX11_holds 112 = .ok (.iconst 1, 1) := by decide +kernel
theorem dX11_holds_113 : decode cX11_holds 113 = .ok (.goto 34, 3) := by decide +kernel
theorem dX11_holds_116 : decode cX11_holds 116 = .ok (.iconst 0, 1) := by decide +kernel
theorem dX11_holds_117 : decode cX11_holds 117 = .ok (.goto 30, 3) := by decide +kernel
theorem dX11_holds_120 : decode cX11_holds 120 = .ok (.aload_n 0, 1) := by decide +kernel
theorem dX11_holds_121 : decode cX11_holds 121 = .ok (.getfield 74, 3) := by decide +kernel
theorem dX11_holds_124 : decode cX11_holds 124 = .ok (.iload 5, 2) := by decide +kernel
theorem dX11_holds_126 : decode cX11_holds 126 = .ok (.iconst 1, 1) := by decide +kernel
theorem dX11_holds_127 : decode cX11_holds 127 = .ok (.isub, 1) := by decide +kernel
theorem dX11_holds_128 : decode cX11_holds 128 = .ok (.baload, 1) := by decide +kernel
theorem dX11_holds_129 : decode cX11_holds 129 = .ok (.ifCond .ne 13, 3) := by decide +kernel
theorem dX11_holds_132 : decode cX11_holds 132 = .ok (.aload_n 0, 1) := by decide +kernel
theorem dX11_holds_133 : decode cX11_holds 133 = .ok (.getfield 74, 3) := by decide +kernel
theorem dX11_holds_136 : decode cX11_holds 136 = .ok (.iload 5, 2) := by decide +kernel
theorem dX11_holds_138 : decode cX11_holds 138 = .ok (.baload, 1) := by decide +kernel
theorem dX11_holds_139 : decode cX11_holds 139 = .ok (.ifCond .eq 7, 3) := by decide +kernel
theorem dX11_holds_142 : decode cX11_holds 142 = .ok (.iconst 1, 1) := by decide +kernel
theorem dX11_holds_143 : decode cX11_holds 143 = .ok (.goto 4, 3) := by decide +kernel
theorem dX11_holds_146 : decode cX11_holds 146 = .ok (.iconst 0, 1) := by decide +kernel
theorem dX11_holds_147 : decode cX11_holds 147 = .ok (.bastore, 1) := by decide +kernel
theorem dX11_holds_148 : decode cX11_holds 148 = .ok (.goto 101, 3) := by decide +kernel
theorem dX11_holds_151 : decode cX11_holds 151 = .ok (.aload_n 0, 1) := by decide +kernel
theorem dX11_holds_152 : decode cX11_holds 152 = .ok (.iload 7, 2) := by decide +kernel
theorem dX11_holds_154 : decode cX11_holds 154 = .ok (.sipush 1000, 3) := by decide +kernel
theorem dX11_holds_157 : decode cX11_holds 157 = .ok (.idiv, 1) := by decide +kernel
theorem dX11_holds_158 : decode cX11_holds 158 = .ok (.iload_n 2, 1) := by decide +kernel
theorem dX11_holds_159 : decode cX11_holds 159 = .ok (.iload_n 3, 1) := by decide +kernel
theorem dX11_holds_160 : decode cX11_holds 160 = .ok (.iload 4, 2) := by decide +kernel
theorem dX11_holds_162 : decode cX11_holds 162 = .ok (.invokevirtual 292, 3) := by decide +kernel
theorem dX11_holds_165 : decode cX11_holds 165 = .ok (.istore 8, 2) := by decide +kernel
theorem dX11_holds_167 : decode cX11_holds 167 = .ok (.iload 7, 2) := by decide +kernel
theorem dX11_holds_169 : decode cX11_holds 169 = .ok (.bipush 100, 2) := by decide +kernel
theorem dX11_holds_171 : decode cX11_holds 171 = .ok (.idiv, 1) := by decide +kernel
theorem dX11_holds_172 : decode cX11_holds 172 = .ok (.bipush 10, 2) := by decide +kernel
theorem dX11_holds_174 : decode cX11_holds 174 = .ok (.irem, 1) := by decide +kernel
theorem dX11_holds_175 : decode cX11_holds 175 = .ok (.istore 9, 2) := by decide +kernel
theorem dX11_holds_177 : decode cX11_holds 177 = .ok (.aload_n 0, 1) := by decide +kernel
theorem dX11_holds_178 : decode cX11_holds 178 = .ok (.getfield 74, 3) := by decide +kernel
theorem dX11_holds_181 : decode cX11_holds 181 = .ok (.iload 5, 2) := by decide +kernel
theorem dX11_holds_183 : decode cX11_holds 183 = .ok (.iload 9, 2) := by decide +kernel
theorem dX11_holds_185 : decode cX11_holds 185 = .ok (.ifCond .ne 21, 3) := by decide +kernel
theorem dX11_holds_188 : decode cX11_holds 188 = .ok (.iload 8, 2) := by decide +kernel
theorem dX11_holds_190 : decode cX11_holds 190 = .ok (.iload 7, 2) := by decide +kernel
theorem dX11_holds_192 : decode cX11_holds 192 = .ok (.bipush 100, 2) := by decide +kernel
theorem dX11_holds_194 : decode cX11_holds 194 = .ok (.irem, 1) := by decide +kernel
theorem dX11_holds_195 : decode cX11_holds 195 = .ok (.if_icmp .ge 7, 3) := by decide +kernel
theorem dX11_holds_198 : decode cX11_holds 198 = .ok (.iconst 1, 1) := by decide +kernel
theorem dX11_holds_199 : decode cX11_holds 199 = .ok (.goto 46, 3) := by decide +kernel
theorem dX11_holds_202 : decode cX11_holds 202 = .ok (.iconst 0, 1) := by decide +kernel
theorem dX11_holds_203 : decode cX11_holds 203 = .ok (.goto 42, 3) := by decide +kernel
theorem dX11_holds_206 : decode cX11_holds 206 = .ok (.iload 9, 2) := by decide +kernel
theorem dX11_holds_208 : decode cX11_holds 208 = .ok (.iconst 1, 1) := by decide +kernel
theorem dX11_holds_209 : decode cX11_holds 209 = .ok (.if_icmp .ne 21, 3) := by decide +kernel
theorem dX11_holds_212 : decode cX11_holds 212 = .ok (.iload 8, 2) := by decide +kernel
theorem dX11_holds_214 : decode cX11_holds 214 = .ok (.iload 7, 2) := by decide +kernel
theorem dX11_holds_216 : decode cX11_holds 216 = .ok (.bipush 100, 2) := by decide +kernel
theorem dX11_holds_218 : decode cX11_holds 218 = .ok (.irem, 1) := by decide +kernel
theorem dX11_holds_219 : decode cX11_holds 219 = .ok (.if_icmp .ne 7, 3) := by decide +kernel
theorem dX11_holds_222 : decode cX11_holds 222 = .ok (.iconst 1, 1) := by decide +kernel
theorem dX11_holds_223 : decode cX11_holds 223 = .ok (.goto 22, 3) := by decide +kernel
theorem dX11_holds_226 : decode cX11_holds 226 = .ok (.iconst 0, 1) := by decide +kernel
theorem dX11_holds_227 : decode cX11_holds 227 = .ok (.goto 18, 3) := by decide +kernel
theorem dX11_holds_230 : decode cX11_holds 230 = .ok (.iload 8, 2) := by decide +kernel
theorem dX11_holds_232 : decode cX11_holds 232 = .ok (.iload 7, 2) := by decide +kernel
theorem dX11_holds_234 : decode cX11_holds 234 = .ok (.bipush 100, 2) := by decide +kernel
theorem dX11_holds_236 : decode cX11_holds 236 = .ok (.irem, 1) := by decide +kernel
theorem dX11_holds_237 : decode cX11_holds 237 = .ok (.if_icmp .le 7, 3) := by decide +kernel
theorem dX11_holds_240 : decode cX11_holds 240 = .ok (.iconst 1, 1) := by decide +kernel
theorem dX11_holds_241 : decode cX11_holds 241 = .ok (.goto 4, 3) := by decide +kernel
theorem dX11_holds_244 : decode cX11_holds 244 = .ok (.iconst 0, 1) := by decide +kernel
theorem dX11_holds_245 : decode cX11_holds 245 = .ok (.bastore, 1) := by decide +kernel
theorem dX11_holds_246 : decode cX11_holds 246 = .ok (.iinc 5 1, 3) := by decide +kernel
theorem dX11_holds_249 : decode cX11_holds 249 = .ok (.iinc 6 1, 3) := by decide +kernel
theorem dX11_holds_252 : decode cX11_holds 252 = .ok (.goto (-241), 3) := by decide +kernel
theorem dX11_holds_255 : decode cX11_holds 255 = .ok (.aload_n 0, 1) := by decide +kernel
theorem dX11_holds_256 : decode cX11_holds 256 = .ok (.getfield 74, 3) := by decide +kernel
theorem dX11_holds_259 : decode cX11_holds 259 = .ok (.iconst 0, 1) := by decide +kernel
theorem dX11_holds_260 : decode cX11_holds 260 = .ok (.baload, 1) := by decide +kernel
theorem dX11_holds_261 : decode cX11_holds 261 = .ok (.ireturn, 1) := by decide +kernel
theorem dX11_anyHolds_0 : decode cX11_anyHolds 0 = .ok (.bipush 10, 2) := by decide +kernel
theorem dX11_anyHolds_2 : decode cX11_anyHolds 2 = .ok (.iload_n 1, 1) := by decide +kernel
theorem dX11_anyHolds_3 : decode cX11_anyHolds 3 = .ok (.imul, 1) := by decide +kernel
theorem dX11_anyHolds_4 : decode cX11_anyHolds 4 = .ok (.istore 6, 2) := by decide +kernel
theorem dX11_anyHolds_6 : decode cX11_anyHolds 6 = .ok (.iload 6, 2) := by decide +kernel
theorem dX11_anyHolds_8 : decode cX11_anyHolds 8 = .ok (.bipush 10, 2) := by decide +kernel
theorem dX11_anyHolds_10 : decode cX11_anyHolds 10 = .ok (.iload_n 1, 1) := by decide +kernel
theorem dX11_anyHolds_11 : decode cX11_anyHolds 11 = .ok (.imul, 1) := by decide +kernel
theorem dX11_anyHolds_12 : decode cX11_anyHolds 12 = .ok (.aload_n 0, 1) := by decide +kernel
theorem dX11_anyHolds_13 : decode cX11_anyHolds 13 = .ok (.getfield 41, 3) := by decide +kernel
theorem dX11_anyHolds_16 : decode cX11_anyHolds 16 = .ok (.iload_n 1, 1) := by decide +kernel
theorem dX11_anyHolds_17 : decode cX11_anyHolds 17 = .ok (.iaload, 1) := by decide +kernel
theorem dX11_anyHolds_18 : decode cX11_anyHolds 18 = .ok (.iadd, 1) := by decide +kernel
theorem dX11_anyHolds_19 : decode cX11_anyHolds 19 = .ok (.if_icmp .ge 36, 3) := by decide +kernel
theorem dX11_anyHolds_22 : decode cX11_anyHolds 22 = .ok (.aload_n 0, 1) := by decide +kernel
theorem dX11_anyHolds_23 : decode cX11_anyHolds 23 = .ok (.getfield 44, 3) := by decide +kernel
theorem dX11_anyHolds_26 : decode cX11_anyHolds 26 = .ok (.iload 6, 2) := by decide +kernel
theorem dX11_anyHolds_28 : decode cX11_anyHolds 28 = .ok (.iaload, 1) := by decide +kernel
theorem dX11_anyHolds_29 : decode cX11_anyHolds 29 = .ok (.iload_n 2, 1) := by decide +kernel
theorem dX11_anyHolds_30 : decode cX11_anyHolds 30 = .ok (.if_icmp .ne 19, 3) := by decide +kernel
theorem dX11_anyHolds_33 : decode cX11_anyHolds 33 = .ok (.aload_n 0, 1) := by decide +kernel
theorem dX11_anyHolds_34 : decode cX11_anyHolds 34 = .ok (.iload 6, 2) := by decide +kernel
theorem dX11_anyHolds_36 : decode cX11_anyHolds 36 = .ok (.iload_n 3, 1) := by decide +kernel
theorem dX11_anyHolds_37 : decode cX11_anyHolds 37 = .ok (.iload 4, 2) := by decide +kernel
theorem dX11_anyHolds_39 : decode cX11_anyHolds 39 = .ok (.iload 5, 2) := by decide +kernel
theorem dX11_anyHolds_41 : decode cX11_anyHolds 41 = .ok (.invokevirtual 296, 3) := by decide +kernel
theorem dX11_anyHolds_44 : decode cX11_anyHolds 44 = .ok (.ifCond .eq 5, 3) := by decide +kernel
theorem dX11_anyHolds_47 : decode cX11_anyHolds 47 = .ok (.iconst 1, 1) := by decide +kernel
theorem dX11_anyHolds_48 : decode cX11_anyHolds 48 = .ok (.ireturn, 1) := by decide +kernel
theorem dX11_anyHolds_49 : decode cX11_anyHolds 49 = .ok (.iinc 6 1, 3) := by decide +kernel
theorem dX11_anyHolds_52 : decode cX11_anyHolds 52 = .ok (.goto (-46), 3) := by decide +kernel
theorem dX11_anyHolds_55 : decode cX11_anyHolds 55 = .ok (.iconst 0, 1) := by decide +kernel
theorem dX11_anyHolds_56 : decode cX11_anyHolds 56 = .ok (.ireturn, 1) := by decide +kernel
theorem dX11_over_0 : decode cX11_over 0 = .ok (.aload_n 0, 1) := by decide +kernel
theorem dX11_over_1 : decode cX11_over 1 = .ok (.getfield 81, 3) := by decide +kernel
theorem dX11_over_4 : decode cX11_over 4 = .ok (.iconst 2, 1) := by decide +kernel
theorem dX11_over_5 : decode cX11_over 5 = .ok (.iload_n 1, 1) := by decide +kernel
theorem dX11_over_6 : decode cX11_over 6 = .ok (.imul, 1) := by decide +kernel
theorem dX11_over_7 : decode cX11_over 7 = .ok (.iaload, 1) := by decide +kernel
theorem dX11_over_8 : decode cX11_over 8 = .ok (.istore_n 2, 1) := by decide +kernel
theorem dX11_over_9 : decode cX11_over 9 = .ok (.aload_n 0, 1) := by decide +kernel
theorem dX11_over_10 : decode cX11_over 10 = .ok (.getfield 90, 3) := by decide +kernel
theorem dX11_over_13 : decode cX11_over 13 = .ok (.iconst 2, 1) := by decide +kernel
theorem dX11_over_14 : decode cX11_over 14 = .ok (.iload_n 1, 1) := by decide +kernel
theorem dX11_over_15 : decode cX11_over 15 = .ok (.imul, 1) := by decide +kernel
theorem dX11_over_16 : decode cX11_over 16 = .ok (.baload, 1) := by decide +kernel
theorem dX11_over_17 : decode cX11_over 17 = .ok (.istore_n 3, 1) := by decide +kernel
theorem dX11_over_18 : decode cX11_over 18 = .ok (.aload_n 0, 1) := by decide +kernel
theorem dX11_over_19 : decode cX11_over 19 = .ok (.getfield 81, 3) := by decide +kernel
theorem dX11_over_22 : decode cX11_over 22 = .ok (.iconst 2, 1) := by decide +kernel
theorem dX11_over_23 : decode cX11_over 23 = .ok (.iload_n 1, 1) := by decide +kernel
theorem dX11_over_24 : decode cX11_over 24 = .ok (.imul, 1) := by decide +kernel
theorem dX11_over_25 : decode cX11_over 25 = .ok (.aload_n 0, 1) := by decide +kernel
theorem dX11_over_26 : decode cX11_over 26 = .ok (.getfield 81, 3) := by decide +kernel
theorem dX11_over_29 : decode cX11_over 29 = .ok (.iconst 2, 1) := by decide +kernel
theorem dX11_over_30 : decode cX11_over 30 = .ok (.iload_n 1, 1) := by decide +kernel
theorem dX11_over_31 : decode cX11_over 31 = .ok (.imul, 1) := by decide +kernel
theorem dX11_over_32 : decode cX11_over 32 = .ok (.iconst 1, 1) := by decide +kernel
theorem dX11_over_33 : decode cX11_over 33 = .ok (.iadd, 1) := by decide +kernel
theorem dX11_over_34 : decode cX11_over 34 = .ok (.iaload, 1) := by decide +kernel
theorem dX11_over_35 : decode cX11_over 35 = .ok (.iastore, 1) := by decide +kernel
theorem dX11_over_36 : decode cX11_over 36 = .ok (.aload_n 0, 1) := by decide +kernel
theorem dX11_over_37 : decode cX11_over 37 = .ok (.getfield 90, 3) := by decide +kernel
theorem dX11_over_40 : decode cX11_over 40 = .ok (.iconst 2, 1) := by decide +kernel
theorem dX11_over_41 : decode cX11_over 41 = .ok (.iload_n 1, 1) := by decide +kernel
theorem dX11_over_42 : decode cX11_over 42 = .ok (.imul, 1) := by decide +kernel
theorem dX11_over_43 : decode cX11_over 43 = .ok (.aload_n 0, 1) := by decide +kernel
theorem dX11_over_44 : decode cX11_over 44 = .ok (.getfield 90, 3) := by decide +kernel
theorem dX11_over_47 : decode cX11_over 47 = .ok (.iconst 2, 1) := by decide +kernel
theorem dX11_over_48 : decode cX11_over 48 = .ok (.iload_n 1, 1) := by decide +kernel
theorem dX11_over_49 : decode cX11_over 49 = .ok (.imul, 1) := by decide +kernel
theorem dX11_over_50 : decode cX11_over 50 = .ok (.iconst 1, 1) := by decide +kernel
theorem dX11_over_51 : decode cX11_over 51 = .ok (.iadd, 1) := by decide +kernel
theorem dX11_over_52 : decode cX11_over 52 = .ok (.baload, 1) := by decide +kernel
theorem dX11_over_53 : decode cX11_over 53 = .ok (.bastore, 1) := by decide +kernel
theorem dX11_over_54 : decode cX11_over 54 = .ok (.aload_n 0, 1) := by decide +kernel
theorem dX11_over_55 : decode cX11_over 55 = .ok (.getfield 81, 3) := by decide +kernel
theorem dX11_over_58 : decode cX11_over 58 = .ok (.iconst 2, 1) := by decide +kernel
theorem dX11_over_59 : decode cX11_over 59 = .ok (.iload_n 1, 1) := by decide +kernel
theorem dX11_over_60 : decode cX11_over 60 = .ok (.imul, 1) := by decide +kernel
theorem dX11_over_61 : decode cX11_over 61 = .ok (.iconst 1, 1) := by decide +kernel
theorem dX11_over_62 : decode cX11_over 62 = .ok (.iadd, 1) := by decide +kernel
theorem dX11_over_63 : decode cX11_over 63 = .ok (.iload_n 2, 1) := by decide +kernel
theorem dX11_over_64 : decode cX11_over 64 = .ok (.iastore, 1) := by decide +kernel
theorem dX11_over_65 : decode cX11_over 65 = .ok (.aload_n 0, 1) := by decide +kernel
theorem dX11_over_66 : decode cX11_over 66 = .ok (.getfield 90, 3) := by decide +kernel
theorem dX11_over_69 : decode cX11_over 69 = .ok (.iconst 2, 1) := by decide +kernel
theorem dX11_over_70 : decode cX11_over 70 = .ok (.iload_n 1, 1) := by decide +kernel
theorem dX11_over_71 : decode cX11_over 71 = .ok (.imul, 1) := by decide +kernel
theorem dX11_over_72 : decode cX11_over 72 = .ok (.iconst 1, 1) := by decide +kernel
theorem dX11_over_73 : decode cX11_over 73 = .ok (.iadd, 1) := by decide +kernel
theorem dX11_over_74 : decode cX11_over 74 = .ok (.iload_n 3, 1) := by decide +kernel
theorem dX11_over_75 : decode cX11_over 75 = .ok (.bastore, 1) := by decide +kernel
theorem dX11_over_76 : decode cX11_over 76 = .ok (.return_, 1) := by decide +kernel
theorem dX11_about_0 : decode cX11_about 0 = .ok (.aload_n 0, 1) := by decide +kernel
theorem dX11_about_1 : decode cX11_about 1 = .ok (.getfield 90, 3) := by decide +kernel
theorem dX11_about_4 : decode cX11_about 4 = .ok (.iconst 2, 1) := by decide +kernel
theorem dX11_about_5 : decode cX11_about 5 = .ok (.iload_n 1, 1) := by decide +kernel
theorem dX11_about_6 : decode cX11_about 6 = .ok (.imul, 1) := by decide +kernel
theorem dX11_about_7 : decode cX11_about 7 = .ok (.aload_n 0, 1) := by decide +kernel
theorem dX11_about_8 : decode cX11_about 8 = .ok (.getfield 90, 3) := by decide +kernel
theorem dX11_about_11 : decode cX11_about 11 = .ok (.iconst 2, 1) := by decide +kernel
theorem dX11_about_12 : decode cX11_about 12 = .ok (.iload_n 1, 1) := by decide +kernel
theorem dX11_about_13 : decode cX11_about 13 = .ok (.imul, 1) := by decide +kernel
theorem dX11_about_14 : decode cX11_about 14 = .ok (.baload, 1) := by decide +kernel
theorem dX11_about_15 : decode cX11_about 15 = .ok (.ifCond .ne 7, 3) := by decide +kernel
theorem dX11_about_18 : decode cX11_about 18 = .ok (.iconst 1, 1) := by decide +kernel
theorem dX11_about_19 : decode cX11_about 19 = .ok (.goto 4, 3) := by decide +kernel
theorem dX11_about_22 : decode cX11_about 22 = .ok (.iconst 0, 1) := by decide +kernel
theorem dX11_about_23 : decode cX11_about 23 = .ok (.bastore, 1) := by decide +kernel
theorem dX11_about_24 : decode cX11_about 24 = .ok (.aload_n 0, 1) := by decide +kernel
theorem dX11_about_25 : decode cX11_about 25 = .ok (.getfield 90, 3) := by decide +kernel
theorem dX11_about_28 : decode cX11_about 28 = .ok (.iconst 2, 1) := by decide +kernel
theorem dX11_about_29 : decode cX11_about 29 = .ok (.iload_n 1, 1) := by decide +kernel
theorem dX11_about_30 : decode cX11_about 30 = .ok (.imul, 1) := by decide +kernel
theorem dX11_about_31 : decode cX11_about 31 = .ok (.iconst 1, 1) := by decide +kernel
theorem dX11_about_32 : decode cX11_about 32 = .ok (.iadd, 1) := by decide +kernel
theorem dX11_about_33 : decode cX11_about 33 = .ok (.aload_n 0, 1) := by decide +kernel
theorem dX11_about_34 : decode cX11_about 34 = .ok (.getfield 90, 3) := by decide +kernel
theorem dX11_about_37 : decode cX11_about 37 = .ok (.iconst 2, 1) := by decide +kernel
theorem dX11_about_38 : decode cX11_about 38 = .ok (.iload_n 1, 1) := by decide +kernel
theorem dX11_about_39 : decode cX11_about 39 = .ok (.imul, 1) := by decide +kernel
theorem dX11_about_40 : decode cX11_about 40 = .ok (.iconst 1, 1) := by decide +kernel
theorem dX11_about_41 : decode cX11_about 41 = .ok (.iadd, 1) := by decide +kernel
theorem dX11_about_42 : decode cX11_about 42 = .ok (.baload, 1) := by decide +kernel
theorem dX11_about_43 : decode cX11_about 43 = .ok (.ifCond .ne 7, 3) := by decide +kernel
theorem dX11_about_46 : decode cX11_about 46 = .ok (.iconst 1, 1) := by decide +kernel
theorem dX11_about_47 : decode cX11_about 47 = .ok (.goto 4, 3) := by decide +kernel
theorem dX11_about_50 : decode cX11_about 50 = .ok (.iconst 0, 1) := by decide +kernel
theorem dX11_about_51 : decode cX11_about 51 = .ok (.bastore, 1) := by decide +kernel
theorem dX11_about_52 : decode cX11_about 52 = .ok (.return_, 1) := by decide +kernel
theorem dX11_loads_0 : decode cX11_loads 0 = .ok (.iconst 2, 1) := by decide +kernel
theorem dX11_loads_1 : decode cX11_loads 1 = .ok (.aload_n 0, 1) := by decide +kernel
theorem dX11_loads_2 : decode cX11_loads 2 = .ok (.getfield 78, 3) := by decide +kernel
theorem dX11_loads_5 : decode cX11_loads 5 = .ok (.imul, 1) := by decide +kernel
theorem dX11_loads_6 : decode cX11_loads 6 = .ok (.iconst 1, 1) := by decide +kernel
theorem dX11_loads_7 : decode cX11_loads 7 = .ok (.isub, 1) := by decide +kernel
theorem dX11_loads_8 : decode cX11_loads 8 = .ok (.istore_n 2, 1) := by decide +kernel
theorem dX11_loads_9 : decode cX11_loads 9 = .ok (.iload_n 2, 1) := by decide +kernel
theorem dX11_loads_10 : decode cX11_loads 10 = .ok (.ifCond .lt 41, 3) := by decide +kernel
theorem dX11_loads_13 : decode cX11_loads 13 = .ok (.aload_n 0, 1) := by decide +kernel
theorem dX11_loads_14 : decode cX11_loads 14 = .ok (.getfield 81, 3) := by decide +kernel
theorem dX11_loads_17 : decode cX11_loads 17 = .ok (.iload_n 2, 1) := by decide +kernel
theorem dX11_loads_18 : decode cX11_loads 18 = .ok (.iconst 2, 1) := by decide +kernel
theorem dX11_loads_19 : decode cX11_loads 19 = .ok (.iload_n 1, 1) := by decide +kernel
theorem dX11_loads_20 : decode cX11_loads 20 = .ok (.imul, 1) := by decide +kernel
theorem dX11_loads_21 : decode cX11_loads 21 = .ok (.iadd, 1) := by decide +kernel
theorem dX11_loads_22 : decode cX11_loads 22 = .ok (.aload_n 0, 1) := by decide +kernel
theorem dX11_loads_23 : decode cX11_loads 23 = .ok (.getfield 81, 3) := by decide +kernel
theorem dX11_loads_26 : decode cX11_loads 26 = .ok (.iload_n 2, 1) := by decide +kernel
theorem dX11_loads_27 : decode cX11_loads 27 = .ok (.iaload, 1) := by decide +kernel
theorem dX11_loads_28 : decode cX11_loads 28 = .ok (.iastore, 1) := by decide +kernel
theorem dX11_loads_29 : decode cX11_loads 29 = .ok (.aload_n 0, 1) := by decide +kernel
theorem dX11_loads_30 : decode cX11_loads 30 = .ok (.getfield 90, 3) := by decide +kernel
theorem dX11_loads_33 : decode cX11_loads 33 = .ok (.iload_n 2, 1) := by decide +kernel
theorem dX11_loads_34 : decode cX11_loads 34 = .ok (.iconst 2, 1) := by decide +kernel
theorem dX11_loads_35 : decode cX11_loads 35 = .ok (.iload_n 1, 1) := by decide +kernel
theorem dX11_loads_36 : decode cX11_loads 36 = .ok (.imul, 1) := by decide +kernel
theorem dX11_loads_37 : decode cX11_loads 37 = .ok (.iadd, 1) := by decide +kernel
theorem dX11_loads_38 : decode cX11_loads 38 = .ok (.aload_n 0, 1) := by decide +kernel
theorem dX11_loads_39 : decode cX11_loads 39 = .ok (.getfield 90, 3) := by decide +kernel
theorem dX11_loads_42 : decode cX11_loads 42 = .ok (.iload_n 2, 1) := by decide +kernel
theorem dX11_loads_43 : decode cX11_loads 43 = .ok (.baload, 1) := by decide +kernel
theorem dX11_loads_44 : decode cX11_loads 44 = .ok (.bastore, 1) := by decide +kernel
theorem dX11_loads_45 : decode cX11_loads 45 = .ok (.iinc 2 (-1), 3) := by decide +kernel
theorem dX11_loads_48 : decode cX11_loads 48 = .ok (.goto (-39), 3) := by decide +kernel
theorem dX11_loads_51 : decode cX11_loads 51 = .ok (.iconst 0, 1) := by decide +kernel
theorem dX11_loads_52 : decode cX11_loads 52 = .ok (.istore_n 2, 1) := by decide +kernel
theorem dX11_loads_53 : decode cX11_loads 53 = .ok (.iload_n 2, 1) := by decide +kernel
theorem dX11_loads_54 : decode cX11_loads 54 = .ok (.iconst 2, 1) := by decide +kernel
theorem dX11_loads_55 : decode cX11_loads 55 = .ok (.iload_n 1, 1) := by decide +kernel
theorem dX11_loads_56 : decode cX11_loads 56 = .ok (.imul, 1) := by decide +kernel
theorem dX11_loads_57 : decode cX11_loads 57 = .ok (.if_icmp .ge 23, 3) := by decide +kernel
theorem dX11_loads_60 : decode cX11_loads 60 = .ok (.aload_n 0, 1) := by decide +kernel
theorem dX11_loads_61 : decode cX11_loads 61 = .ok (.getfield 81, 3) := by decide +kernel
theorem dX11_loads_64 : decode cX11_loads 64 = .ok (.iload_n 2, 1) := by decide +kernel
theorem dX11_loads_65 : decode cX11_loads 65 = .ok (.iconst 0, 1) := by decide +kernel
theorem dX11_loads_66 : decode cX11_loads 66 = .ok (.iastore, 1) := by decide +kernel
theorem dX11_loads_67 : decode cX11_loads 67 = .ok (.aload_n 0, 1) := by decide +kernel
theorem dX11_loads_68 : decode cX11_loads 68 = .ok (.getfield 90, 3) := by decide +kernel
theorem dX11_loads_71 : decode cX11_loads 71 = .ok (.iload_n 2, 1) := by decide +kernel
theorem dX11_loads_72 : decode cX11_loads 72 = .ok (.iconst 0, 1) := by decide +kernel
theorem dX11_loads_73 : decode cX11_loads 73 = .ok (.bastore, 1) := by decide +kernel
theorem dX11_loads_74 : decode cX11_loads 74 = .ok (.iinc 2 1, 3) := by decide +kernel
theorem dX11_loads_77 : decode cX11_loads 77 = .ok (.goto (-24), 3) := by decide +kernel
theorem dX11_loads_80 : decode cX11_loads 80 = .ok (.aload_n 0, 1) := by decide +kernel
theorem dX11_loads_81 : decode cX11_loads 81 = .ok (.dup, 1) := by decide +kernel
theorem dX11_loads_82 : decode cX11_loads 82 = .ok (.getfield 78, 3) := by decide +kernel
theorem dX11_loads_85 : decode cX11_loads 85 = .ok (.iload_n 1, 1) := by decide +kernel
theorem dX11_loads_86 : decode cX11_loads 86 = .ok (.iadd, 1) := by decide +kernel
theorem dX11_loads_87 : decode cX11_loads 87 = .ok (.putfield 78, 3) := by decide +kernel
theorem dX11_loads_90 : decode cX11_loads 90 = .ok (.return_, 1) := by decide +kernel
theorem dX11_load_0 : decode cX11_load 0 = .ok (.aload_n 0, 1) := by decide +kernel
theorem dX11_load_1 : decode cX11_load 1 = .ok (.iload_n 1, 1) := by decide +kernel
theorem dX11_load_2 : decode cX11_load 2 = .ok (.iconst 1, 1) := by decide +kernel
theorem dX11_load_3 : decode cX11_load 3 = .ok (.bipush 12, 2) := by decide +kernel
theorem dX11_load_5 : decode cX11_load 5 = .ok (.invokevirtual 221, 3) := by decide +kernel
theorem dX11_load_8 : decode cX11_load 8 = .ok (.ifCond .ne 6, 3) := by decide +kernel
theorem dX11_load_11 : decode cX11_load 11 = .ok (.bipush (-2), 2) := by decide +kernel
theorem dX11_load_13 : decode cX11_load 13 = .ok (.ireturn, 1) := by decide +kernel
theorem dX11_load_14 : decode cX11_load 14 = .ok (.aload_n 0, 1) := by decide +kernel
theorem dX11_load_15 : decode cX11_load 15 = .ok (.getfield 78, 3) := by decide +kernel
theorem dX11_load_18 : decode cX11_load 18 = .ok (.iload_n 1, 1) := by decide +kernel
theorem dX11_load_19 : decode cX11_load 19 = .ok (.iadd, 1) := by decide +kernel
theorem dX11_load_20 : decode cX11_load 20 = .ok (.bipush 12, 2) := by decide +kernel
theorem dX11_load_22 : decode cX11_load 22 = .ok (.if_icmp .le 6, 3) := by decide +kernel
theorem dX11_load_25 : decode cX11_load 25 = .ok (.bipush (-4), 2) := by decide +kernel
theorem dX11_load_27 : decode cX11_load 27 = .ok (.ireturn, 1) := by decide +kernel
theorem dX11_load_28 : decode cX11_load 28 = .ok (.aload_n 0, 1) := by decide +kernel
theorem dX11_load_29 : decode cX11_load 29 = .ok (.iload_n 1, 1) := by decide +kernel
theorem dX11_load_30 : decode cX11_load 30 = .ok (.invokevirtual 300, 3) := by decide +kernel
theorem dX11_load_33 : decode cX11_load 33 = .ok (.aload_n 0, 1) := by decide +kernel
theorem dX11_load_34 : decode cX11_load 34 = .ok (.getfield 78, 3) := by decide +kernel
theorem dX11_load_37 : decode cX11_load 37 = .ok (.ireturn, 1) := by decide +kernel
theorem dX11_empty_0 : decode cX11_empty 0 = .ok (.aload_n 0, 1) := by decide +kernel
theorem dX11_empty_1 : decode cX11_empty 1 = .ok (.getfield 78, 3) := by decide +kernel
theorem dX11_empty_4 : decode cX11_empty 4 = .ok (.istore_n 1, 1) := by decide +kernel
theorem dX11_empty_5 : decode cX11_empty 5 = .ok (.aload_n 0, 1) := by decide +kernel
theorem dX11_empty_6 : decode cX11_empty 6 = .ok (.iconst 0, 1) := by decide +kernel
theorem dX11_empty_7 : decode cX11_empty 7 = .ok (.putfield 78, 3) := by decide +kernel
theorem dX11_empty_10 : decode cX11_empty 10 = .ok (.iload_n 1, 1) := by decide +kernel
theorem dX11_empty_11 : decode cX11_empty 11 = .ok (.ireturn, 1) := by decide +kernel
theorem dX11_turnsOver_0 : decode cX11_turnsOver 0 = .ok (.iconst 0, 1) := by decide +kernel
theorem dX11_turnsOver_1 : decode cX11_turnsOver 1 = .ok (.istore_n 1, 1) := by decide +kernel
theorem dX11_turnsOver_2 : decode cX11_turnsOver 2 = .ok (.iload_n 1, 1) := by decide +kernel
theorem dX11_turnsOver_3 : decode cX11_turnsOver 3 = .ok (.aload_n 0, 1) := by decide +kernel
theorem dX11_turnsOver_4 : decode cX11_turnsOver 4 = .ok (.getfield 78, 3) := by decide +kernel
theorem dX11_turnsOver_7 : decode cX11_turnsOver 7 = .ok (.if_icmp .ge 14, 3) := by decide +kernel
theorem dX11_turnsOver_10 : decode cX11_turnsOver 10 = .ok (.aload_n 0, 1) := by decide +kernel
theorem dX11_turnsOver_11 : decode cX11_turnsOver 11 = .ok (.iload_n 1, 1) := by decide +kernel
theorem dX11_turnsOver_12 : decode cX11_turnsOver 12 = .ok (.invokevirtual 303, 3) := by decide +kernel
theorem dX11_turnsOver_15 : decode cX11_turnsOver 15 = .ok (.iinc 1 1, 3) := by decide +kernel
theorem dX11_turnsOver_18 : decode cX11_turnsOver 18 = .ok (.goto (-16), 3) := by decide +kernel
theorem dX11_turnsOver_21 : decode cX11_turnsOver 21 = .ok (.iconst 0, 1) := by decide +kernel
theorem dX11_turnsOver_22 : decode cX11_turnsOver 22 = .ok (.istore_n 1, 1) := by decide +kernel
theorem dX11_turnsOver_23 : decode cX11_turnsOver 23 = .ok (.iload_n 1, 1) := by decide +kernel
theorem dX11_turnsOver_24 : decode cX11_turnsOver 24 = .ok (.aload_n 0, 1) := by decide +kernel
theorem dX11_turnsOver_25 : decode cX11_turnsOver 25 = .ok (.getfield 78, 3) := by decide +kernel
theorem dX11_turnsOver_28 : decode cX11_turnsOver 28 = .ok (.iconst 2, 1) := by decide +kernel
theorem dX11_turnsOver_29 : decode cX11_turnsOver 29 = .ok (.idiv, 1) := by decide +kernel
theorem dX11_turnsOver_30 : decode cX11_turnsOver 30 = .ok (.if_icmp .ge 119, 3) := by decide +kernel
theorem dX11_turnsOver_33 : decode cX11_turnsOver 33 = .ok (.aload_n 0, 1) := by decide +kernel
theorem dX11_turnsOver_34 : decode cX11_turnsOver 34 = .ok (.getfield 78, 3) := by decide +kernel
theorem dX11_turnsOver_37 : decode cX11_turnsOver 37 = .ok (.iconst 1, 1) := by decide +kernel
theorem dX11_turnsOver_38 : decode cX11_turnsOver 38 = .ok (.isub, 1) := by decide +kernel
theorem dX11_turnsOver_39 : decode cX11_turnsOver 39 = .ok (.iload_n 1, 1) := by decide +kernel
theorem dX11_turnsOver_40 : decode cX11_turnsOver 40 = .ok (.isub, 1) := by decide +kernel
theorem dX11_turnsOver_41 : decode cX11_turnsOver 41 = .ok (.istore_n 2, 1) := by decide +kernel
theorem dX11_turnsOver_42 : decode cX11_turnsOver 42 = .ok (.iconst 0, 1) := by decide +kernel
theorem dX11_turnsOver_43 : decode cX11_turnsOver 43 = .ok (.istore_n 3, 1) := by decide +kernel
theorem dX11_turnsOver_44 : decode cX11_turnsOver 44 = .ok (.iload_n 3, 1) := by decide +kernel
theorem dX11_turnsOver_45 : decode cX11_turnsOver 45 = .ok (.iconst 2, 1) := by decide +kernel
theorem dX11_turnsOver_46 : decode cX11_turnsOver 46 = .ok (.if_icmp .ge 97, 3) := by decide +kernel
theorem dX11_turnsOver_49 : decode cX11_turnsOver 49 = .ok (.aload_n 0, 1) := by decide +kernel
theorem dX11_turnsOver_50 : decode cX11_turnsOver 50 = .ok (.getfield 81, 3) := by decide +kernel
theorem dX11_turnsOver_53 : decode cX11_turnsOver 53 = .ok (.iconst 2, 1) := by decide +kernel
theorem dX11_turnsOver_54 : decode cX11_turnsOver 54 = .ok (.iload_n 1, 1) := by decide +kernel
theorem dX11_turnsOver_55 : decode cX11_turnsOver 55 = .ok (.imul, 1) := by decide +kernel
theorem dX11_turnsOver_56 : decode cX11_turnsOver 56 = .ok (.iload_n 3, 1) := by decide +kernel
theorem dX11_turnsOver_57 : decode cX11_turnsOver 57 = .ok (.iadd, 1) := by decide +kernel
theorem dX11_turnsOver_58 : decode cX11_turnsOver 58 = .ok (.iaload, 1) := by decide +kernel
theorem dX11_turnsOver_59 : decode cX11_turnsOver 59 = .ok (.istore 4, 2) := by decide +kernel
theorem dX11_turnsOver_61 : decode cX11_turnsOver 61 = .ok (.aload_n 0, 1) := by decide +kernel
theorem dX11_turnsOver_62 : decode cX11_turnsOver 62 = .ok (.getfield 90, 3) := by decide +kernel
theorem dX11_turnsOver_65 : decode cX11_turnsOver 65 = .ok (.iconst 2, 1) := by decide +kernel
theorem dX11_turnsOver_66 : decode cX11_turnsOver 66 = .ok (.iload_n 1, 1) := by decide +kernel
theorem dX11_turnsOver_67 : decode cX11_turnsOver 67 = .ok (.imul, 1) := by decide +kernel
theorem dX11_turnsOver_68 : decode cX11_turnsOver 68 = .ok (.iload_n 3, 1) := by decide +kernel
theorem dX11_turnsOver_69 : decode cX11_turnsOver 69 = .ok (.iadd, 1) := by decide +kernel
theorem dX11_turnsOver_70 : decode cX11_turnsOver 70 = .ok (.baload, 1) := by decide +kernel
theorem dX11_turnsOver_71 : decode cX11_turnsOver 71 = .ok (.istore 5, 2) := by decide +kernel
theorem dX11_turnsOver_73 : decode cX11_turnsOver 73 = .ok (.aload_n 0, 1) := by decide +kernel
theorem dX11_turnsOver_74 : decode cX11_turnsOver 74 = .ok (.getfield 81, 3) := by decide +kernel
theorem dX11_turnsOver_77 : decode cX11_turnsOver 77 = .ok (.iconst 2, 1) := by decide +kernel
theorem dX11_turnsOver_78 : decode cX11_turnsOver 78 = .ok (.iload_n 1, 1) := by decide +kernel
theorem dX11_turnsOver_79 : decode cX11_turnsOver 79 = .ok (.imul, 1) := by decide +kernel
theorem dX11_turnsOver_80 : decode cX11_turnsOver 80 = .ok (.iload_n 3, 1) := by decide +kernel
theorem dX11_turnsOver_81 : decode cX11_turnsOver 81 = .ok (.iadd, 1) := by decide +kernel
theorem dX11_turnsOver_82 : decode cX11_turnsOver 82 = .ok (.aload_n 0, 1) := by decide +kernel
theorem dX11_turnsOver_83 : decode cX11_turnsOver 83 = .ok (.getfield 81, 3) := by decide +kernel
theorem dX11_turnsOver_86 : decode cX11_turnsOver 86 = .ok (.iconst 2, 1) := by decide +kernel
theorem dX11_turnsOver_87 : decode cX11_turnsOver 87 = .ok (.iload_n 2, 1) := by decide +kernel
theorem dX11_turnsOver_88 : decode cX11_turnsOver 88 = .ok (.imul, 1) := by decide +kernel
theorem dX11_turnsOver_89 : decode cX11_turnsOver 89 = .ok (.iload_n 3, 1) := by decide +kernel
theorem dX11_turnsOver_90 : decode cX11_turnsOver 90 = .ok (.iadd, 1) := by decide +kernel
theorem dX11_turnsOver_91 : decode cX11_turnsOver 91 = .ok (.iaload, 1) := by decide +kernel
theorem dX11_turnsOver_92 : decode cX11_turnsOver 92 = .ok (.iastore, 1) := by decide +kernel
theorem dX11_turnsOver_93 : decode cX11_turnsOver 93 = .ok (.aload_n 0, 1) := by decide +kernel
theorem dX11_turnsOver_94 : decode cX11_turnsOver 94 = .ok (.getfield 90, 3) := by decide +kernel
theorem dX11_turnsOver_97 : decode cX11_turnsOver 97 = .ok (.iconst 2, 1) := by decide +kernel
theorem dX11_turnsOver_98 : decode cX11_turnsOver 98 = .ok (.iload_n 1, 1) := by decide +kernel
theorem dX11_turnsOver_99 : decode cX11_turnsOver 99 = .ok (.imul, 1) := by decide +kernel
theorem dX11_turnsOver_100 : decode cX11_turnsOver 100 = .ok (.iload_n 3, 1) := by decide +kernel
theorem dX11_turnsOver_101 : decode cX11_turnsOver 101 = .ok (.iadd, 1) := by decide +kernel
theorem dX11_turnsOver_102 : decode cX11_turnsOver 102 = .ok (.aload_n 0, 1) := by decide +kernel
theorem dX11_turnsOver_103 : decode cX11_turnsOver 103 = .ok (.getfield 90, 3) := by decide +kernel
theorem dX11_turnsOver_106 : decode cX11_turnsOver 106 = .ok (.iconst 2, 1) := by decide +kernel
theorem dX11_turnsOver_107 : decode cX11_turnsOver 107 = .ok (.iload_n 2, 1) := by decide +kernel
theorem dX11_turnsOver_108 : decode cX11_turnsOver 108 = .ok (.imul, 1) := by decide +kernel
theorem dX11_turnsOver_109 : decode cX11_turnsOver 109 = .ok (.iload_n 3, 1) := by decide +kernel
theorem dX11_turnsOver_110 : decode cX11_turnsOver 110 = .ok (.iadd, 1) := by decide +kernel
theorem dX11_turnsOver_111 : decode cX11_turnsOver 111 = .ok (.baload, 1) := by decide +kernel
theorem dX11_turnsOver_112 : decode cX11_turnsOver 112 = .ok (.bastore, 1) := by decide +kernel
theorem dX11_turnsOver_113 : decode cX11_turnsOver 113 = .ok (.aload_n 0, 1) := by decide +kernel
theorem dX11_turnsOver_114 : decode cX11_turnsOver 114 = .ok (.getfield 81, 3) := by decide +kernel
theorem dX11_turnsOver_117 : decode cX11_turnsOver 117 = .ok (.iconst 2, 1) := by decide +kernel
theorem dX11_turnsOver_118 : decode cX11_turnsOver 118 = .ok (.iload_n 2, 1) := by decide +kernel
theorem dX11_turnsOver_119 : decode cX11_turnsOver 119 = .ok (.imul, 1) := by decide +kernel
theorem dX11_turnsOver_120 : decode cX11_turnsOver 120 = .ok (.iload_n 3, 1) := by decide +kernel
theorem dX11_turnsOver_121 : decode cX11_turnsOver 121 = .ok (.iadd, 1) := by decide +kernel
theorem dX11_turnsOver_122 : decode cX11_turnsOver 122 = .ok (.iload 4, 2) := by decide +kernel
theorem dX11_turnsOver_124 : decode cX11_turnsOver 124 = .ok (.iastore, 1) := by decide +kernel
theorem dX11_turnsOver_125 : decode cX11_turnsOver 125 = .ok (.aload_n 0, 1) := by decide +kernel
theorem dX11_turnsOver_126 : decode cX11_turnsOver 126 = .ok (.getfield 90, 3) := by decide +kernel
theorem dX11_turnsOver_129 : decode cX11_turnsOver 129 = .ok (.iconst 2, 1) := by decide +kernel
theorem dX11_turnsOver_130 : decode cX11_turnsOver 130 = .ok (.iload_n 2, 1) := by decide +kernel
theorem dX11_turnsOver_131 : decode cX11_turnsOver 131 = .ok (.imul, 1) := by decide +kernel
theorem dX11_turnsOver_132 : decode cX11_turnsOver 132 = .ok (.iload_n 3, 1) := by decide +kernel
theorem dX11_turnsOver_133 : decode cX11_turnsOver 133 = .ok (.iadd, 1) := by decide +kernel
theorem dX11_turnsOver_134 : decode cX11_turnsOver 134 = .ok (.iload 5, 2) := by decide +kernel
theorem dX11_turnsOver_136 : decode cX11_turnsOver 136 = .ok (.bastore, 1) := by decide +kernel
theorem dX11_turnsOver_137 : decode cX11_turnsOver 137 = .ok (.iinc 3 1, 3) := by decide +kernel
theorem dX11_turnsOver_140 : decode cX11_turnsOver 140 = .ok (.goto (-96), 3) := by decide +kernel
theorem dX11_turnsOver_143 : decode cX11_turnsOver 143 = .ok (.iinc 1 1, 3) := by decide +kernel
theorem dX11_turnsOver_146 : decode cX11_turnsOver 146 = .ok (.goto (-123), 3) := by decide +kernel
theorem dX11_turnsOver_149 : decode cX11_turnsOver 149 = .ok (.return_, 1) := by decide +kernel
theorem dX11_goWay_0 : decode cX11_goWay 0 = .ok (.iload_n 1, 1) := by decide +kernel
theorem dX11_goWay_1 : decode cX11_goWay 1 = .ok (.iconst 2, 1) := by decide +kernel
theorem dX11_goWay_2 : decode cX11_goWay 2 = .ok (.irem, 1) := by decide +kernel
theorem dX11_goWay_3 : decode cX11_goWay 3 = .ok (.iconst 1, 1) := by decide +kernel
theorem dX11_goWay_4 : decode cX11_goWay 4 = .ok (.if_icmp .ne 7, 3) := by decide +kernel
theorem dX11_goWay_7 : decode cX11_goWay 7 = .ok (.aload_n 0, 1) := by decide +kernel
theorem dX11_goWay_8 : decode cX11_goWay 8 = .ok (.invokevirtual 306, 3) := by decide +kernel
theorem dX11_goWay_11 : decode cX11_goWay 11 = .ok (.iconst 0, 1) := by decide +kernel
theorem dX11_goWay_12 : decode cX11_goWay 12 = .ok (.istore_n 2, 1) := by decide +kernel
theorem dX11_goWay_13 : decode cX11_goWay 13 = .ok (.iload_n 2, 1) := by decide +kernel
theorem dX11_goWay_14 : decode cX11_goWay 14 = .ok (.aload_n 0, 1) := by decide +kernel
theorem dX11_goWay_15 : decode cX11_goWay 15 = .ok (.getfield 78, 3) := by decide +kernel
theorem dX11_goWay_18 : decode cX11_goWay 18 = .ok (.if_icmp .ge 19, 3) := by decide +kernel
theorem dX11_goWay_21 : decode cX11_goWay 21 = .ok (.iload_n 1, 1) := by decide +kernel
theorem dX11_goWay_22 : decode cX11_goWay 22 = .ok (.iconst 1, 1) := by decide +kernel
theorem dX11_goWay_23 : decode cX11_goWay 23 = .ok (.if_icmp .le 14, 3) := by decide +kernel
theorem dX11_goWay_26 : decode cX11_goWay 26 = .ok (.aload_n 0, 1) := by decide +kernel
theorem dX11_goWay_27 : decode cX11_goWay 27 = .ok (.iload_n 2, 1) := by decide +kernel
theorem dX11_goWay_28 : decode cX11_goWay 28 = .ok (.invokevirtual 309, 3) := by decide +kernel
theorem dX11_goWay_31 : decode cX11_goWay 31 = .ok (.iinc 2 1, 3) := by decide +kernel
theorem dX11_goWay_34 : decode cX11_goWay 34 = .ok (.goto (-21), 3) := by decide +kernel
theorem dX11_goWay_37 : decode cX11_goWay 37 = .ok (.return_, 1) := by decide +kernel
theorem dX11_isRight_0 : decode cX11_isRight 0 = .ok (.aload_n 0, 1) := by decide +kernel
theorem dX11_isRight_1 : decode cX11_isRight 1 = .ok (.getfield 81, 3) := by decide +kernel
theorem dX11_isRight_4 : decode cX11_isRight 4 = .ok (.iconst 2, 1) := by decide +kernel
theorem dX11_isRight_5 : decode cX11_isRight 5 = .ok (.iload_n 1, 1) := by decide +kernel
theorem dX11_isRight_6 : decode cX11_isRight 6 = .ok (.imul, 1) := by decide +kernel
theorem dX11_isRight_7 : decode cX11_isRight 7 = .ok (.iaload, 1) := by decide +kernel
theorem dX11_isRight_8 : decode cX11_isRight 8 = .ok (.iconst 2, 1) := by decide +kernel
theorem dX11_isRight_9 : decode cX11_isRight 9 = .ok (.iload_n 1, 1) := by decide +kernel
theorem dX11_isRight_10 : decode cX11_isRight 10 = .ok (.imul, 1) := by decide +kernel
theorem dX11_isRight_11 : decode cX11_isRight 11 = .ok (.iconst 1, 1) := by decide +kernel
theorem dX11_isRight_12 : decode cX11_isRight 12 = .ok (.iadd, 1) := by decide +kernel
theorem dX11_isRight_13 : decode cX11_isRight 13 = .ok (.if_icmp .ne 49, 3) := by decide +kernel
theorem dX11_isRight_16 : decode cX11_isRight 16 = .ok (.aload_n 0, 1) := by decide +kernel
theorem dX11_isRight_17 : decode cX11_isRight 17 = .ok (.getfield 81, 3) := by decide +kernel
theorem dX11_isRight_20 : decode cX11_isRight 20 = .ok (.iconst 2, 1) := by decide +kernel
theorem dX11_isRight_21 : decode cX11_isRight 21 = .ok (.iload_n 1, 1) := by decide +kernel
theorem dX11_isRight_22 : decode cX11_isRight 22 = .ok (.imul, 1) := by decide +kernel
theorem dX11_isRight_23 : decode cX11_isRight 23 = .ok (.iconst 1, 1) := by decide +kernel
theorem dX11_isRight_24 : decode cX11_isRight 24 = .ok (.iadd, 1) := by decide +kernel
theorem dX11_isRight_25 : decode cX11_isRight 25 = .ok (.iaload, 1) := by decide +kernel
theorem dX11_isRight_26 : decode cX11_isRight 26 = .ok (.iconst 2, 1) := by decide +kernel
theorem dX11_isRight_27 : decode cX11_isRight 27 = .ok (.iload_n 1, 1) := by decide +kernel
theorem dX11_isRight_28 : decode cX11_isRight 28 = .ok (.imul, 1) := by decide +kernel
theorem dX11_isRight_29 : decode cX11_isRight 29 = .ok (.iconst 2, 1) := by decide +kernel
theorem dX11_isRight_30 : decode cX11_isRight 30 = .ok (.iadd, 1) := by decide +kernel
theorem dX11_isRight_31 : decode cX11_isRight 31 = .ok (.if_icmp .ne 31, 3) := by decide +kernel
theorem dX11_isRight_34 : decode cX11_isRight 34 = .ok (.aload_n 0, 1) := by decide +kernel
theorem dX11_isRight_35 : decode cX11_isRight 35 = .ok (.getfield 90, 3) := by decide +kernel
theorem dX11_isRight_38 : decode cX11_isRight 38 = .ok (.iconst 2, 1) := by decide +kernel
theorem dX11_isRight_39 : decode cX11_isRight 39 = .ok (.iload_n 1, 1) := by decide +kernel
theorem dX11_isRight_40 : decode cX11_isRight 40 = .ok (.imul, 1) := by decide +kernel
theorem dX11_isRight_41 : decode cX11_isRight 41 = .ok (.baload, 1) := by decide +kernel
theorem dX11_isRight_42 : decode cX11_isRight 42 = .ok (.ifCond .ne 20, 3) := by decide +kernel
theorem dX11_isRight_45 : decode cX11_isRight 45 = .ok (.aload_n 0, 1) := by decide +kernel
theorem dX11_isRight_46 : decode cX11_isRight 46 = .ok (.getfield 90, 3) := by decide +kernel
theorem dX11_isRight_49 : decode cX11_isRight 49 = .ok (.iconst 2, 1) := by decide +kernel
theorem dX11_isRight_50 : decode cX11_isRight 50 = .ok (.iload_n 1, 1) := by decide +kernel
theorem dX11_isRight_51 : decode cX11_isRight 51 = .ok (.imul, 1) := by decide +kernel
theorem dX11_isRight_52 : decode cX11_isRight 52 = .ok (.iconst 1, 1) := by decide +kernel
theorem dX11_isRight_53 : decode cX11_isRight 53 = .ok (.iadd, 1) := by decide +kernel
theorem dX11_isRight_54 : decode cX11_isRight 54 = .ok (.baload, 1) := by decide +kernel
theorem dX11_isRight_55 : decode cX11_isRight 55 = .ok (.ifCond .ne 7, 3) := by decide +kernel
theorem dX11_isRight_58 : decode cX11_isRight 58 = .ok (.iconst 1, 1) := by decide +kernel
theorem dX11_isRight_59 : decode cX11_isRight 59 = .ok (.goto 4, 3) := by decide +kernel
theorem dX11_isRight_62 : decode cX11_isRight 62 = .ok (.iconst 0, 1) := by decide +kernel
theorem dX11_isRight_63 : decode cX11_isRight 63 = .ok (.ireturn, 1) := by decide +kernel
theorem dX11_right_0 : decode cX11_right 0 = .ok (.iconst 0, 1) := by decide +kernel
theorem dX11_right_1 : decode cX11_right 1 = .ok (.istore_n 1, 1) := by decide +kernel
theorem dX11_right_2 : decode cX11_right 2 = .ok (.iconst 0, 1) := by decide +kernel
theorem dX11_right_3 : decode cX11_right 3 = .ok (.istore_n 2, 1) := by decide +kernel
theorem dX11_right_4 : decode cX11_right 4 = .ok (.iload_n 2, 1) := by decide +kernel
theorem dX11_right_5 : decode cX11_right 5 = .ok (.aload_n 0, 1) := by decide +kernel
theorem dX11_right_6 : decode cX11_right 6 = .ok (.getfield 78, 3) := by decide +kernel
theorem dX11_right_9 : decode cX11_right 9 = .ok (.if_icmp .ge 25, 3) := by decide +kernel
theorem dX11_right_12 : decode cX11_right 12 = .ok (.iload_n 1, 1) := by decide +kernel
theorem dX11_right_13 : decode cX11_right 13 = .ok (.aload_n 0, 1) := by decide +kernel
theorem dX11_right_14 : decode cX11_right 14 = .ok (.iload_n 2, 1) := by decide +kernel
theorem dX11_right_15 : decode cX11_right 15 = .ok (.invokevirtual 312, 3) := by decide +kernel
theorem dX11_right_18 : decode cX11_right 18 = .ok (.ifCond .eq 7, 3) := by decide +kernel
theorem dX11_right_21 : decode cX11_right 21 = .ok (.iconst 1, 1) := by decide +kernel
theorem dX11_right_22 : decode cX11_right 22 = .ok (.goto 4, 3) := by decide +kernel
theorem dX11_right_25 : decode cX11_right 25 = .ok (.iconst 0, 1) := by decide +kernel
theorem dX11_right_26 : decode cX11_right 26 = .ok (.iadd, 1) := by decide +kernel
theorem dX11_right_27 : decode cX11_right 27 = .ok (.istore_n 1, 1) := by decide +kernel
theorem dX11_right_28 : decode cX11_right 28 = .ok (.iinc 2 1, 3) := by decide +kernel
theorem dX11_right_31 : decode cX11_right 31 = .ok (.goto (-27), 3) := by decide +kernel
theorem dX11_right_34 : decode cX11_right 34 = .ok (.iload_n 1, 1) := by decide +kernel
theorem dX11_right_35 : decode cX11_right 35 = .ok (.ireturn, 1) := by decide +kernel
theorem dX11_sidesWith_0 : decode cX11_sidesWith 0 = .ok (.iconst 0, 1) := by decide +kernel
theorem dX11_sidesWith_1 : decode cX11_sidesWith 1 = .ok (.istore_n 2, 1) := by decide +kernel
theorem dX11_sidesWith_2 : decode cX11_sidesWith 2 = .ok (.iconst 0, 1) := by decide +kernel
theorem dX11_sidesWith_3 : decode cX11_sidesWith 3 = .ok (.istore_n 3, 1) := by decide +kernel
theorem dX11_sidesWith_4 : decode cX11_sidesWith 4 = .ok (.iload_n 3, 1) := by decide +kernel
theorem dX11_sidesWith_5 : decode cX11_sidesWith 5 = .ok (.iconst 2, 1) := by decide +kernel
theorem dX11_sidesWith_6 : decode cX11_sidesWith 6 = .ok (.aload_n 0, 1) := by decide +kernel
theorem dX11_sidesWith_7 : decode cX11_sidesWith 7 = .ok (.getfield 78, 3) := by decide +kernel
theorem dX11_sidesWith_10 : decode cX11_sidesWith 10 = .ok (.imul, 1) := by decide +kernel
theorem dX11_sidesWith_11 : decode cX11_sidesWith 11 = .ok (.if_icmp .ge 27, 3) := by decide +kernel
theorem dX11_sidesWith_14 : decode cX11_sidesWith 14 = .ok (.iload_n 2, 1) := by decide +kernel
theorem dX11_sidesWith_15 : decode cX11_sidesWith 15 = .ok (.aload_n 0, 1) := by decide +kernel
theorem dX11_sidesWith_16 : decode cX11_sidesWith 16 = .ok (.getfield 81, 3) := by decide +kernel
theorem dX11_sidesWith_19 : decode cX11_sidesWith 19 = .ok (.iload_n 3, 1) := by decide +kernel
theorem dX11_sidesWith_20 : decode cX11_sidesWith 20 = .ok (.iaload, 1) := by decide +kernel
theorem dX11_sidesWith_21 : decode cX11_sidesWith 21 = .ok (.iload_n 1, 1) := by decide +kernel
theorem dX11_sidesWith_22 : decode cX11_sidesWith 22 = .ok (.if_icmp .ne 7, 3) := by decide +kernel
theorem dX11_sidesWith_25 : decode cX11_sidesWith 25 = .ok (.iconst 1, 1) := by decide +kernel
theorem dX11_sidesWith_26 : decode cX11_sidesWith 26 = .ok (.goto 4, 3) := by decide +kernel
theorem dX11_sidesWith_29 : decode cX11_sidesWith 29 = .ok (.iconst 0, 1) := by decide +kernel
theorem dX11_sidesWith_30 : decode cX11_sidesWith 30 = .ok (.iadd, 1) := by decide +kernel
theorem dX11_sidesWith_31 : decode cX11_sidesWith 31 = .ok (.istore_n 2, 1) := by decide +kernel
theorem dX11_sidesWith_32 : decode cX11_sidesWith 32 = .ok (.iinc 3 1, 3) := by decide +kernel
theorem dX11_sidesWith_35 : decode cX11_sidesWith 35 = .ok (.goto (-31), 3) := by decide +kernel
theorem dX11_sidesWith_38 : decode cX11_sidesWith 38 = .ok (.iload_n 2, 1) := by decide +kernel
theorem dX11_sidesWith_39 : decode cX11_sidesWith 39 = .ok (.ireturn, 1) := by decide +kernel
theorem dX11_turn_0 : decode cX11_turn 0 = .ok (.aload_n 0, 1) := by decide +kernel
theorem dX11_turn_1 : decode cX11_turn 1 = .ok (.iload_n 1, 1) := by decide +kernel
theorem dX11_turn_2 : decode cX11_turn 2 = .ok (.iconst 0, 1) := by decide +kernel
theorem dX11_turn_3 : decode cX11_turn 3 = .ok (.iconst 3, 1) := by decide +kernel
theorem dX11_turn_4 : decode cX11_turn 4 = .ok (.invokevirtual 221, 3) := by decide +kernel
theorem dX11_turn_7 : decode cX11_turn 7 = .ok (.ifCond .ne 5, 3) := by decide +kernel
theorem dX11_turn_10 : decode cX11_turn 10 = .ok (.iconst (-1), 1) := by decide +kernel
theorem dX11_turn_11 : decode cX11_turn 11 = .ok (.ireturn, 1) := by decide +kernel
theorem dX11_turn_12 : decode cX11_turn 12 = .ok (.aload_n 0, 1) := by decide +kernel
theorem dX11_turn_13 : decode cX11_turn 13 = .ok (.iload_n 1, 1) := by decide +kernel
theorem dX11_turn_14 : decode cX11_turn 14 = .ok (.invokevirtual 315, 3) := by decide +kernel
theorem dX11_turn_17 : decode cX11_turn 17 = .ok (.aload_n 0, 1) := by decide +kernel
theorem dX11_turn_18 : decode cX11_turn 18 = .ok (.invokevirtual 318, 3) := by decide +kernel
theorem dX11_turn_21 : decode cX11_turn 21 = .ok (.ireturn, 1) := by decide +kernel
theorem dX11_sheet_0 : decode cX11_sheet 0 = .ok (.aload_n 0, 1) := by decide +kernel
theorem dX11_sheet_1 : decode cX11_sheet 1 = .ok (.iload_n 1, 1) := by decide +kernel
theorem dX11_sheet_2 : decode cX11_sheet 2 = .ok (.iconst 0, 1) := by decide +kernel
theorem dX11_sheet_3 : decode cX11_sheet 3 = .ok (.aload_n 0, 1) := by decide +kernel
theorem dX11_sheet_4 : decode cX11_sheet 4 = .ok (.getfield 78, 3) := by decide +kernel
theorem dX11_sheet_7 : decode cX11_sheet 7 = .ok (.iconst 1, 1) := by decide +kernel
theorem dX11_sheet_8 : decode cX11_sheet 8 = .ok (.isub, 1) := by decide +kernel
theorem dX11_sheet_9 : decode cX11_sheet 9 = .ok (.invokevirtual 221, 3) := by decide +kernel
theorem dX11_sheet_12 : decode cX11_sheet 12 = .ok (.ifCond .ne 5, 3) := by decide +kernel
theorem dX11_sheet_15 : decode cX11_sheet 15 = .ok (.iconst (-1), 1) := by decide +kernel
theorem dX11_sheet_16 : decode cX11_sheet 16 = .ok (.ireturn, 1) := by decide +kernel
theorem dX11_sheet_17 : decode cX11_sheet 17 = .ok (.iload_n 2, 1) := by decide +kernel
theorem dX11_sheet_18 : decode cX11_sheet 18 = .ok (.tableswitch 80 0 4 #[34, 34, 45, 45, 66], 34) := by decide +kernel
theorem dX11_sheet_52 : decode cX11_sheet 52 = .ok (.aload_n 0, 1) := by decide +kernel
theorem dX11_sheet_53 : decode cX11_sheet 53 = .ok (.getfield 81, 3) := by decide +kernel
theorem dX11_sheet_56 : decode cX11_sheet 56 = .ok (.iconst 2, 1) := by decide +kernel
theorem dX11_sheet_57 : decode cX11_sheet 57 = .ok (.iload_n 1, 1) := by decide +kernel
theorem dX11_sheet_58 : decode cX11_sheet 58 = .ok (.imul, 1) := by decide +kernel
theorem dX11_sheet_59 : decode cX11_sheet 59 = .ok (.iload_n 2, 1) := by decide +kernel
theorem dX11_sheet_60 : decode cX11_sheet 60 = .ok (.iadd, 1) := by decide +kernel
theorem dX11_sheet_61 : decode cX11_sheet 61 = .ok (.iaload, 1) := by decide +kernel
theorem dX11_sheet_62 : decode cX11_sheet 62 = .ok (.ireturn, 1) := by decide +kernel
theorem dX11_sheet_63 : decode cX11_sheet 63 = .ok (.aload_n 0, 1) := by decide +kernel
theorem dX11_sheet_64 : decode cX11_sheet 64 = .ok (.getfield 90, 3) := by decide +kernel
theorem dX11_sheet_67 : decode cX11_sheet 67 = .ok (.iconst 2, 1) := by decide +kernel
theorem dX11_sheet_68 : decode cX11_sheet 68 = .ok (.iload_n 1, 1) := by decide +kernel
theorem dX11_sheet_69 : decode cX11_sheet 69 = .ok (.imul, 1) := by decide +kernel
theorem dX11_sheet_70 : decode cX11_sheet 70 = .ok (.iload_n 2, 1) := by decide +kernel
theorem dX11_sheet_71 : decode cX11_sheet 71 = .ok (.iadd, 1) := by decide +kernel
theorem dX11_sheet_72 : decode cX11_sheet 72 = .ok (.iconst 2, 1) := by decide +kernel
theorem dX11_sheet_73 : decode cX11_sheet 73 = .ok (.isub, 1) := by decide +kernel
theorem dX11_sheet_74 : decode cX11_sheet 74 = .ok (.baload, 1) := by decide +kernel
theorem dX11_sheet_75 : decode cX11_sheet 75 = .ok (.ifCond .eq 7, 3) := by decide +kernel
theorem dX11_sheet_78 : decode cX11_sheet 78 = .ok (.iconst 1, 1) := by decide +kernel
theorem dX11_sheet_79 : decode cX11_sheet 79 = .ok (.goto 4, 3) := by decide +kernel
theorem dX11_sheet_82 : decode cX11_sheet 82 = .ok (.iconst 0, 1) := by decide +kernel
theorem dX11_sheet_83 : decode cX11_sheet 83 = .ok (.ireturn, 1) := by decide +kernel
theorem dX11_sheet_84 : decode cX11_sheet 84 = .ok (.aload_n 0, 1) := by decide +kernel
theorem dX11_sheet_85 : decode cX11_sheet 85 = .ok (.iload_n 1, 1) := by decide +kernel
theorem dX11_sheet_86 : decode cX11_sheet 86 = .ok (.invokevirtual 312, 3) := by decide +kernel
theorem dX11_sheet_89 : decode cX11_sheet 89 = .ok (.ifCond .eq 7, 3) := by decide +kernel
theorem dX11_sheet_92 : decode cX11_sheet 92 = .ok (.iconst 1, 1) := by decide +kernel
theorem dX11_sheet_93 : decode cX11_sheet 93 = .ok (.goto 4, 3) := by decide +kernel
theorem dX11_sheet_96 : decode cX11_sheet 96 = .ok (.iconst 0, 1) := by decide +kernel
theorem dX11_sheet_97 : decode cX11_sheet 97 = .ok (.ireturn, 1) := by decide +kernel
theorem dX11_sheet_98 : decode cX11_sheet 98 = .ok (.iconst (-1), 1) := by decide +kernel
theorem dX11_sheet_99 : decode cX11_sheet 99 = .ok (.ireturn, 1) := by decide +kernel
theorem dX11_missing_0 : decode cX11_missing 0 = .ok (.iconst 0, 1) := by decide +kernel
theorem dX11_missing_1 : decode cX11_missing 1 = .ok (.istore_n 1, 1) := by decide +kernel
theorem dX11_missing_2 : decode cX11_missing 2 = .ok (.iconst 1, 1) := by decide +kernel
theorem dX11_missing_3 : decode cX11_missing 3 = .ok (.istore_n 2, 1) := by decide +kernel
theorem dX11_missing_4 : decode cX11_missing 4 = .ok (.iload_n 2, 1) := by decide +kernel
theorem dX11_missing_5 : decode cX11_missing 5 = .ok (.bipush 25, 2) := by decide +kernel
theorem dX11_missing_7 : decode cX11_missing 7 = .ok (.if_icmp .ge 29, 3) := by decide +kernel
theorem dX11_missing_10 : decode cX11_missing 10 = .ok (.iload_n 1, 1) := by decide +kernel
theorem dX11_missing_11 : decode cX11_missing 11 = .ok (.aload_n 0, 1) := by decide +kernel
theorem dX11_missing_12 : decode cX11_missing 12 = .ok (.iload_n 2, 1) := by decide +kernel
theorem dX11_missing_13 : decode cX11_missing 13 = .ok (.invokevirtual 321, 3) := by decide +kernel
theorem dX11_missing_16 : decode cX11_missing 16 = .ok (.ifCond .ne 11, 3) := by decide +kernel
theorem dX11_missing_19 : decode cX11_missing 19 = .ok (.iconst 1, 1) := by decide +kernel
theorem dX11_missing_20 : decode cX11_missing 20 = .ok (.iload_n 2, 1) := by decide +kernel
theorem dX11_missing_21 : decode cX11_missing 21 = .ok (.iconst 1, 1) := by decide +kernel
theorem dX11_missing_22 : decode cX11_missing 22 = .ok (.isub, 1) := by decide +kernel
theorem dX11_missing_23 : decode cX11_missing 23 = .ok (.ishl, 1) := by decide +kernel
theorem dX11_missing_24 : decode cX11_missing 24 = .ok (.goto 4, 3) := by decide +kernel
theorem dX11_missing_27 : decode cX11_missing 27 = .ok (.iconst 0, 1) := by decide +kernel
theorem dX11_missing_28 : decode cX11_missing 28 = .ok (.ior, 1) := by decide +kernel
theorem dX11_missing_29 : decode cX11_missing 29 = .ok (.istore_n 1, 1) := by decide +kernel
theorem dX11_missing_30 : decode cX11_missing 30 = .ok (.iinc 2 1, 3) := by decide +kernel
theorem dX11_missing_33 : decode cX11_missing 33 = .ok (.goto (-29), 3) := by decide +kernel
theorem dX11_missing_36 : decode cX11_missing 36 = .ok (.iload_n 1, 1) := by decide +kernel
theorem dX11_missing_37 : decode cX11_missing 37 = .ok (.ireturn, 1) := by decide +kernel
theorem dX11_told_0 : decode cX11_told 0 = .ok (.iload_n 1, 1) := by decide +kernel
theorem dX11_told_1 : decode cX11_told 1 = .ok (.tableswitch 54 0 3 #[31, 36, 43, 49], 31) := by decide +kernel
theorem dX11_told_32 : decode cX11_told 32 = .ok (.aload_n 0, 1) := by decide +kernel
theorem dX11_told_33 : decode cX11_told 33 = .ok (.invokevirtual 318, 3) := by decide +kernel
theorem dX11_told_36 : decode cX11_told 36 = .ok (.ireturn, 1) := by decide +kernel
theorem dX11_told_37 : decode cX11_told 37 = .ok (.aload_n 0, 1) := by decide +kernel
theorem dX11_told_38 : decode cX11_told 38 = .ok (.bipush 99, 2) := by decide +kernel
theorem dX11_told_40 : decode cX11_told 40 = .ok (.invokevirtual 321, 3) := by decide +kernel
theorem dX11_told_43 : decode cX11_told 43 = .ok (.ireturn, 1) := by decide +kernel
theorem dX11_told_44 : decode cX11_told 44 = .ok (.aload_n 0, 1) := by decide +kernel
theorem dX11_told_45 : decode cX11_told 45 = .ok (.iconst 0, 1) := by decide +kernel
theorem dX11_told_46 : decode cX11_told 46 = .ok (.invokevirtual 321, 3) := by decide +kernel
theorem dX11_told_49 : decode cX11_told 49 = .ok (.ireturn, 1) := by decide +kernel
theorem dX11_told_50 : decode cX11_told 50 = .ok (.aload_n 0, 1) := by decide +kernel
theorem dX11_told_51 : decode cX11_told 51 = .ok (.invokevirtual 324, 3) := by decide +kernel
theorem dX11_told_54 : decode cX11_told 54 = .ok (.ireturn, 1) := by decide +kernel
theorem dX11_told_55 : decode cX11_told 55 = .ok (.iconst (-1), 1) := by decide +kernel
theorem dX11_told_56 : decode cX11_told 56 = .ok (.ireturn, 1) := by decide +kernel
theorem dX11_prints_0 : decode cX11_prints 0 = .ok (.aload_n 0, 1) := by decide +kernel
theorem dX11_prints_1 : decode cX11_prints 1 = .ok (.getfield 81, 3) := by decide +kernel
theorem dX11_prints_4 : decode cX11_prints 4 = .ok (.iconst 2, 1) := by decide +kernel
theorem dX11_prints_5 : decode cX11_prints 5 = .ok (.iload_n 1, 1) := by decide +kernel
theorem dX11_prints_6 : decode cX11_prints 6 = .ok (.imul, 1) := by decide +kernel
theorem dX11_prints_7 : decode cX11_prints 7 = .ok (.iaload, 1) := by decide +kernel
theorem dX11_prints_8 : decode cX11_prints 8 = .ok (.ifCond .ne 7, 3) := by decide +kernel
theorem dX11_prints_11 : decode cX11_prints 11 = .ok (.iconst 1, 1) := by decide +kernel
theorem dX11_prints_12 : decode cX11_prints 12 = .ok (.goto 4, 3) := by decide +kernel
theorem dX11_prints_15 : decode cX11_prints 15 = .ok (.iconst 0, 1) := by decide +kernel
theorem dX11_prints_16 : decode cX11_prints 16 = .ok (.istore 4, 2) := by decide +kernel
theorem dX11_prints_18 : decode cX11_prints 18 = .ok (.aload_n 0, 1) := by decide +kernel
theorem dX11_prints_19 : decode cX11_prints 19 = .ok (.getfield 81, 3) := by decide +kernel
theorem dX11_prints_22 : decode cX11_prints 22 = .ok (.iconst 2, 1) := by decide +kernel
theorem dX11_prints_23 : decode cX11_prints 23 = .ok (.iload_n 1, 1) := by decide +kernel
theorem dX11_prints_24 : decode cX11_prints 24 = .ok (.imul, 1) := by decide +kernel
theorem dX11_prints_25 : decode cX11_prints 25 = .ok (.iload 4, 2) := by decide +kernel
theorem dX11_prints_27 : decode cX11_prints 27 = .ok (.ifCond .eq 7, 3) := by decide +kernel
theorem dX11_prints_30 : decode cX11_prints 30 = .ok (.iload_n 2, 1) := by decide +kernel
theorem dX11_prints_31 : decode cX11_prints 31 = .ok (.goto 5, 3) := by decide +kernel
theorem dX11_prints_34 : decode cX11_prints 34 = .ok (.bipush 99, 2) := by decide +kernel
theorem dX11_prints_36 : decode cX11_prints 36 = .ok (.iastore, 1) := by decide +kernel
theorem dX11_prints_37 : decode cX11_prints 37 = .ok (.aload_n 0, 1) := by decide +kernel
theorem dX11_prints_38 : decode cX11_prints 38 = .ok (.getfield 90, 3) := by decide +kernel
theorem dX11_prints_41 : decode cX11_prints 41 = .ok (.iconst 2, 1) := by decide +kernel
theorem dX11_prints_42 : decode cX11_prints 42 = .ok (.iload_n 1, 1) := by decide +kernel
theorem dX11_prints_43 : decode cX11_prints 43 = .ok (.imul, 1) := by decide +kernel
theorem dX11_prints_44 : decode cX11_prints 44 = .ok (.iload 4, 2) := by decide +kernel
theorem dX11_prints_46 : decode cX11_prints 46 = .ok (.ifCond .eq 11, 3) := by decide +kernel
theorem dX11_prints_49 : decode cX11_prints 49 = .ok (.iload_n 3, 1) := by decide +kernel
theorem dX11_prints_50 : decode cX11_prints 50 = .ok (.ifCond .eq 7, 3) := by decide +kernel
theorem dX11_prints_53 : decode cX11_prints 53 = .ok (.iconst 1, 1) := by decide +kernel
theorem dX11_prints_54 : decode cX11_prints 54 = .ok (.goto 4, 3) := by decide +kernel
theorem dX11_prints_57 : decode cX11_prints 57 = .ok (.iconst 0, 1) := by decide +kernel
theorem dX11_prints_58 : decode cX11_prints 58 = .ok (.bastore, 1) := by decide +kernel
theorem dX11_prints_59 : decode cX11_prints 59 = .ok (.aload_n 0, 1) := by decide +kernel
theorem dX11_prints_60 : decode cX11_prints 60 = .ok (.dup, 1) := by decide +kernel
theorem dX11_prints_61 : decode cX11_prints 61 = .ok (.getfield 102, 3) := by decide +kernel
theorem dX11_prints_64 : decode cX11_prints 64 = .ok (.iconst 1, 1) := by decide +kernel
theorem dX11_prints_65 : decode cX11_prints 65 = .ok (.iadd, 1) := by decide +kernel
theorem dX11_prints_66 : decode cX11_prints 66 = .ok (.putfield 102, 3) := by decide +kernel
theorem dX11_prints_69 : decode cX11_prints 69 = .ok (.return_, 1) := by decide +kernel
theorem dX11_putsOut_0 : decode cX11_putsOut 0 = .ok (.aload_n 0, 1) := by decide +kernel
theorem dX11_putsOut_1 : decode cX11_putsOut 1 = .ok (.getfield 13, 3) := by decide +kernel
theorem dX11_putsOut_4 : decode cX11_putsOut 4 = .ok (.iload_n 2, 1) := by decide +kernel
theorem dX11_putsOut_5 : decode cX11_putsOut 5 = .ok (.iaload, 1) := by decide +kernel
theorem dX11_putsOut_6 : decode cX11_putsOut 6 = .ok (.iconst 1, 1) := by decide +kernel
theorem dX11_putsOut_7 : decode cX11_putsOut 7 = .ok (.if_icmp .eq 33, 3) := by decide +kernel
theorem dX11_putsOut_10 : decode cX11_putsOut 10 = .ok (.aload_n 0, 1) := by decide +kernel
theorem dX11_putsOut_11 : decode cX11_putsOut 11 = .ok (.getfield 13, 3) := by decide +kernel
theorem dX11_putsOut_14 : decode cX11_putsOut 14 = .ok (.iload_n 2, 1) := by decide +kernel
theorem dX11_putsOut_15 : decode cX11_putsOut 15 = .ok (.iaload, 1) := by decide +kernel
theorem dX11_putsOut_16 : decode cX11_putsOut 16 = .ok (.iconst 4, 1) := by decide +kernel
theorem dX11_putsOut_17 : decode cX11_putsOut 17 = .ok (.if_icmp .eq 23, 3) := by decide +kernel
theorem dX11_putsOut_20 : decode cX11_putsOut 20 = .ok (.aload_n 0, 1) := by decide +kernel
theorem dX11_putsOut_21 : decode cX11_putsOut 21 = .ok (.getfield 13, 3) := by decide +kernel
theorem dX11_putsOut_24 : decode cX11_putsOut 24 = .ok (.iload_n 2, 1) := by decide +kernel
theorem dX11_putsOut_25 : decode cX11_putsOut 25 = .ok (.iaload, 1) := by decide +kernel
theorem dX11_putsOut_26 : decode cX11_putsOut 26 = .ok (.iconst 2, 1) := by decide +kernel
theorem dX11_putsOut_27 : decode cX11_putsOut 27 = .ok (.if_icmp .eq 13, 3) := by decide +kernel
theorem dX11_putsOut_30 : decode cX11_putsOut 30 = .ok (.aload_n 0, 1) := by decide +kernel
theorem dX11_putsOut_31 : decode cX11_putsOut 31 = .ok (.getfield 13, 3) := by decide +kernel
theorem dX11_putsOut_34 : decode cX11_putsOut 34 = .ok (.iload_n 2, 1) := by decide +kernel
theorem dX11_putsOut_35 : decode cX11_putsOut 35 = .ok (.iaload, 1) := by decide +kernel
theorem dX11_putsOut_36 : decode cX11_putsOut 36 = .ok (.iconst 5, 1) := by decide +kernel
theorem dX11_putsOut_37 : decode cX11_putsOut 37 = .ok (.if_icmp .ne 8, 3) := by decide +kernel
theorem dX11_putsOut_40 : decode cX11_putsOut 40 = .ok (.aload_n 0, 1) := by decide +kernel
theorem dX11_putsOut_41 : decode cX11_putsOut 41 = .ok (.iload_n 1, 1) := by decide +kernel
theorem dX11_putsOut_42 : decode cX11_putsOut 42 = .ok (.invokevirtual 303, 3) := by decide +kernel
theorem dX11_putsOut_45 : decode cX11_putsOut 45 = .ok (.aload_n 0, 1) := by decide +kernel
theorem dX11_putsOut_46 : decode cX11_putsOut 46 = .ok (.getfield 13, 3) := by decide +kernel
theorem dX11_putsOut_49 : decode cX11_putsOut 49 = .ok (.iload_n 2, 1) := by decide +kernel
theorem dX11_putsOut_50 : decode cX11_putsOut 50 = .ok (.iaload, 1) := by decide +kernel
theorem dX11_putsOut_51 : decode cX11_putsOut 51 = .ok (.iconst 2, 1) := by decide +kernel
theorem dX11_putsOut_52 : decode cX11_putsOut 52 = .ok (.if_icmp .eq 13, 3) := by decide +kernel
theorem dX11_putsOut_55 : decode cX11_putsOut 55 = .ok (.aload_n 0, 1) := by decide +kernel
theorem dX11_putsOut_56 : decode cX11_putsOut 56 = .ok (.getfield 13, 3) := by decide +kernel
theorem dX11_putsOut_59 : decode cX11_putsOut 59 = .ok (.iload_n 2, 1) := by decide +kernel
theorem dX11_putsOut_60 : decode cX11_putsOut 60 = .ok (.iaload, 1) := by decide +kernel
theorem dX11_putsOut_61 : decode cX11_putsOut 61 = .ok (.iconst 5, 1) := by decide +kernel
theorem dX11_putsOut_62 : decode cX11_putsOut 62 = .ok (.if_icmp .ne 8, 3) := by decide +kernel
theorem dX11_putsOut_65 : decode cX11_putsOut 65 = .ok (.aload_n 0, 1) := by decide +kernel
theorem dX11_putsOut_66 : decode cX11_putsOut 66 = .ok (.iload_n 1, 1) := by decide +kernel
theorem dX11_putsOut_67 : decode cX11_putsOut 67 = .ok (.invokevirtual 309, 3) := by decide +kernel
theorem dX11_putsOut_70 : decode cX11_putsOut 70 = .ok (.iconst 0, 1) := by decide +kernel
theorem dX11_putsOut_71 : decode cX11_putsOut 71 = .ok (.istore_n 3, 1) := by decide +kernel
theorem dX11_putsOut_72 : decode cX11_putsOut 72 = .ok (.iload_n 3, 1) := by decide +kernel
theorem dX11_putsOut_73 : decode cX11_putsOut 73 = .ok (.iconst 2, 1) := by decide +kernel
theorem dX11_putsOut_74 : decode cX11_putsOut 74 = .ok (.if_icmp .ge 55, 3) := by decide +kernel
theorem dX11_putsOut_77 : decode cX11_putsOut 77 = .ok (.aload_n 0, 1) := by decide +kernel
theorem dX11_putsOut_78 : decode cX11_putsOut 78 = .ok (.getfield 84, 3) := by decide +kernel
theorem dX11_putsOut_81 : decode cX11_putsOut 81 = .ok (.iconst 2, 1) := by decide +kernel
theorem dX11_putsOut_82 : decode cX11_putsOut 82 = .ok (.aload_n 0, 1) := by decide +kernel
theorem dX11_putsOut_83 : decode cX11_putsOut 83 = .ok (.getfield 99, 3) := by decide +kernel
theorem dX11_putsOut_86 : decode cX11_putsOut 86 = .ok (.imul, 1) := by decide +kernel
theorem dX11_putsOut_87 : decode cX11_putsOut 87 = .ok (.iload_n 3, 1) := by decide +kernel
theorem dX11_putsOut_88 : decode cX11_putsOut 88 = .ok (.iadd, 1) := by decide +kernel
theorem dX11_putsOut_89 : decode cX11_putsOut 89 = .ok (.aload_n 0, 1) := by decide +kernel
theorem dX11_putsOut_90 : decode cX11_putsOut 90 = .ok (.getfield 81, 3) := by decide +kernel
theorem dX11_putsOut_93 : decode cX11_putsOut 93 = .ok (.iconst 2, 1) := by decide +kernel
theorem dX11_putsOut_94 : decode cX11_putsOut 94 = .ok (.iload_n 1, 1) := by decide +kernel
theorem dX11_putsOut_95 : decode cX11_putsOut 95 = .ok (.imul, 1) := by decide +kernel
theorem dX11_putsOut_96 : decode cX11_putsOut 96 = .ok (.iload_n 3, 1) := by decide +kernel
theorem dX11_putsOut_97 : decode cX11_putsOut 97 = .ok (.iadd, 1) := by decide +kernel
theorem dX11_putsOut_98 : decode cX11_putsOut 98 = .ok (.iaload, 1) := by decide +kernel
theorem dX11_putsOut_99 : decode cX11_putsOut 99 = .ok (.iastore, 1) := by decide +kernel
theorem dX11_putsOut_100 : decode cX11_putsOut 100 = .ok (.aload_n 0, 1) := by decide +kernel
theorem dX11_putsOut_101 : decode cX11_putsOut 101 = .ok (.getfield 93, 3) := by decide +kernel
theorem dX11_putsOut_104 : decode cX11_putsOut 104 = .ok (.iconst 2, 1) := by decide +kernel
theorem dX11_putsOut_105 : decode cX11_putsOut 105 = .ok (.aload_n 0, 1) := by decide +kernel
theorem dX11_putsOut_106 : decode cX11_putsOut 106 = .ok (.getfield 99, 3) := by decide +kernel
theorem dX11_putsOut_109 : decode cX11_putsOut 109 = .ok (.imul, 1) := by decide +kernel
theorem dX11_putsOut_110 : decode cX11_putsOut 110 = .ok (.iload_n 3, 1) := by decide +kernel
theorem dX11_putsOut_111 : decode cX11_putsOut 111 = .ok (.iadd, 1) := by decide +kernel
theorem dX11_putsOut_112 : decode cX11_putsOut 112 = .ok (.aload_n 0, 1) := by decide +kernel
theorem dX11_putsOut_113 : decode cX11_putsOut 113 = .ok (.getfield 90, 3) := by decide +kernel
theorem dX11_putsOut_116 : decode cX11_putsOut 116 = .ok (.iconst 2, 1) := by decide +kernel
theorem dX11_putsOut_117 : decode cX11_putsOut 117 = .ok (.iload_n 1, 1) := by decide +kernel
theorem dX11_putsOut_118 : decode cX11_putsOut 118 = .ok (.imul, 1) := by decide +kernel
theorem dX11_putsOut_119 : decode cX11_putsOut 119 = .ok (.iload_n 3, 1) := by decide +kernel
theorem dX11_putsOut_120 : decode cX11_putsOut 120 = .ok (.iadd, 1) := by decide +kernel
theorem dX11_putsOut_121 : decode cX11_putsOut 121 = .ok (.baload, 1) := by decide +kernel
theorem dX11_putsOut_122 : decode cX11_putsOut 122 = .ok (.bastore, 1) := by decide +kernel
theorem dX11_putsOut_123 : decode cX11_putsOut 123 = .ok (.iinc 3 1, 3) := by decide +kernel
theorem dX11_putsOut_126 : decode cX11_putsOut 126 = .ok (.goto (-54), 3) := by decide +kernel
theorem dX11_putsOut_129 : decode cX11_putsOut 129 = .ok (.aload_n 0, 1) := by decide +kernel
theorem dX11_putsOut_130 : decode cX11_putsOut 130 = .ok (.dup, 1) := by decide +kernel
theorem dX11_putsOut_131 : decode cX11_putsOut 131 = .ok (.getfield 99, 3) := by decide +kernel
theorem dX11_putsOut_134 : decode cX11_putsOut 134 = .ok (.iconst 1, 1) := by decide +kernel
theorem dX11_putsOut_135 : decode cX11_putsOut 135 = .ok (.iadd, 1) := by decide +kernel
theorem dX11_putsOut_136 : decode cX11_putsOut 136 = .ok (.putfield 99, 3) := by decide +kernel
theorem dX11_putsOut_139 : decode cX11_putsOut 139 = .ok (.return_, 1) := by decide +kernel
theorem dX11_goesOn_0 : decode cX11_goesOn 0 = .ok (.iload_n 2, 1) := by decide +kernel
theorem dX11_goesOn_1 : decode cX11_goesOn 1 = .ok (.istore 4, 2) := by decide +kernel
theorem dX11_goesOn_3 : decode cX11_goesOn 3 = .ok (.iload 4, 2) := by decide +kernel
theorem dX11_goesOn_5 : decode cX11_goesOn 5 = .ok (.aload_n 0, 1) := by decide +kernel
theorem dX11_goesOn_6 : decode cX11_goesOn 6 = .ok (.iload_n 1, 1) := by decide +kernel
theorem dX11_goesOn_7 : decode cX11_goesOn 7 = .ok (.invokevirtual 289, 3) := by decide +kernel
theorem dX11_goesOn_10 : decode cX11_goesOn 10 = .ok (.if_icmp .gt 25, 3) := by decide +kernel
theorem dX11_goesOn_13 : decode cX11_goesOn 13 = .ok (.aload_n 0, 1) := by decide +kernel
theorem dX11_goesOn_14 : decode cX11_goesOn 14 = .ok (.iload_n 1, 1) := by decide +kernel
theorem dX11_goesOn_15 : decode cX11_goesOn 15 = .ok (.iconst 2, 1) := by decide +kernel
theorem dX11_goesOn_16 : decode cX11_goesOn 16 = .ok (.iload 4, 2) := by decide +kernel
theorem dX11_goesOn_18 : decode cX11_goesOn 18 = .ok (.iload_n 3, 1) := by decide +kernel
theorem dX11_goesOn_19 : decode cX11_goesOn 19 = .ok (.aload_n 0, 1) := by decide +kernel
theorem dX11_goesOn_20 : decode cX11_goesOn 20 = .ok (.getfield 99, 3) := by decide +kernel
theorem dX11_goesOn_23 : decode cX11_goesOn 23 = .ok (.invokevirtual 327, 3) := by decide +kernel
theorem dX11_goesOn_26 : decode cX11_goesOn 26 = .ok (.ifCond .eq 9, 3) := by decide +kernel
theorem dX11_goesOn_29 : decode cX11_goesOn 29 = .ok (.iinc 4 1, 3) := by decide +kernel
theorem dX11_goesOn_32 : decode cX11_goesOn 32 = .ok (.goto (-29), 3) := by decide +kernel
theorem dX11_goesOn_35 : decode cX11_goesOn 35 = .ok (.iload 4, 2) := by decide +kernel
theorem dX11_goesOn_37 : decode cX11_goesOn 37 = .ok (.ireturn, 1) := by decide +kernel
theorem dX11_told1_0 : decode cX11_told1 0 = .ok (.aload_n 0, 1) := by decide +kernel
theorem dX11_told1_1 : decode cX11_told1 1 = .ok (.getfield 13, 3) := by decide +kernel
theorem dX11_told1_4 : decode cX11_told1 4 = .ok (.iload_n 1, 1) := by decide +kernel
theorem dX11_told1_5 : decode cX11_told1 5 = .ok (.iaload, 1) := by decide +kernel
theorem dX11_told1_6 : decode cX11_told1 6 = .ok (.bipush 6, 2) := by decide +kernel
theorem dX11_told1_8 : decode cX11_told1 8 = .ok (.if_icmp .ne 23, 3) := by decide +kernel
theorem dX11_told1_11 : decode cX11_told1 11 = .ok (.iload_n 2, 1) := by decide +kernel
theorem dX11_told1_12 : decode cX11_told1 12 = .ok (.aload_n 0, 1) := by decide +kernel
theorem dX11_told1_13 : decode cX11_told1 13 = .ok (.getfield 23, 3) := by decide +kernel
theorem dX11_told1_16 : decode cX11_told1 16 = .ok (.iconst 4, 1) := by decide +kernel
theorem dX11_told1_17 : decode cX11_told1 17 = .ok (.iload_n 1, 1) := by decide +kernel
theorem dX11_told1_18 : decode cX11_told1 18 = .ok (.imul, 1) := by decide +kernel
theorem dX11_told1_19 : decode cX11_told1 19 = .ok (.aload_n 0, 1) := by decide +kernel
theorem dX11_told1_20 : decode cX11_told1 20 = .ok (.getfield 99, 3) := by decide +kernel
theorem dX11_told1_23 : decode cX11_told1 23 = .ok (.iconst 4, 1) := by decide +kernel
theorem dX11_told1_24 : decode cX11_told1 24 = .ok (.irem, 1) := by decide +kernel
theorem dX11_told1_25 : decode cX11_told1 25 = .ok (.iadd, 1) := by decide +kernel
theorem dX11_told1_26 : decode cX11_told1 26 = .ok (.iaload, 1) := by decide +kernel
theorem dX11_told1_27 : decode cX11_told1 27 = .ok (.iadd, 1) := by decide +kernel
theorem dX11_told1_28 : decode cX11_told1 28 = .ok (.goto 4, 3) := by decide +kernel
theorem dX11_told1_31 : decode cX11_told1 31 = .ok (.iload_n 2, 1) := by decide +kernel
theorem dX11_told1_32 : decode cX11_told1 32 = .ok (.istore_n 3, 1) := by decide +kernel
theorem dX11_told1_33 : decode cX11_told1 33 = .ok (.iload_n 3, 1) := by decide +kernel
theorem dX11_told1_34 : decode cX11_told1 34 = .ok (.bipush 60, 2) := by decide +kernel
theorem dX11_told1_36 : decode cX11_told1 36 = .ok (.if_icmp .le 8, 3) := by decide +kernel
theorem dX11_told1_39 : decode cX11_told1 39 = .ok (.bipush 60, 2) := by decide +kernel
theorem dX11_told1_41 : decode cX11_told1 41 = .ok (.goto 4, 3) := by decide +kernel
theorem dX11_told1_44 : decode cX11_told1 44 = .ok (.iload_n 3, 1) := by decide +kernel
theorem dX11_told1_45 : decode cX11_told1 45 = .ok (.ireturn, 1) := by decide +kernel
theorem dX11_goRun_0 : decode cX11_goRun 0 = .ok (.iconst 0, 1) := by decide +kernel
theorem dX11_goRun_1 : decode cX11_goRun 1 = .ok (.istore_n 3, 1) := by decide +kernel
theorem dX11_goRun_2 : decode cX11_goRun 2 = .ok (.aload_n 0, 1) := by decide +kernel
theorem dX11_goRun_3 : decode cX11_goRun 3 = .ok (.getfield 78, 3) := by decide +kernel
theorem dX11_goRun_6 : decode cX11_goRun 6 = .ok (.iconst 1, 1) := by decide +kernel
theorem dX11_goRun_7 : decode cX11_goRun 7 = .ok (.isub, 1) := by decide +kernel
theorem dX11_goRun_8 : decode cX11_goRun 8 = .ok (.istore 4, 2) := by decide +kernel
theorem dX11_goRun_10 : decode cX11_goRun 10 = .ok (.aload_n 0, 1) := by decide +kernel
theorem dX11_goRun_11 : decode cX11_goRun 11 = .ok (.iconst 0, 1) := by decide +kernel
theorem dX11_goRun_12 : decode cX11_goRun 12 = .ok (.putfield 99, 3) := by decide +kernel
theorem dX11_goRun_15 : decode cX11_goRun 15 = .ok (.aload_n 0, 1) := by decide +kernel
theorem dX11_goRun_16 : decode cX11_goRun 16 = .ok (.iconst 0, 1) := by decide +kernel
theorem dX11_goRun_17 : decode cX11_goRun 17 = .ok (.putfield 102, 3) := by decide +kernel
theorem dX11_goRun_20 : decode cX11_goRun 20 = .ok (.aload_n 0, 1) := by decide +kernel
theorem dX11_goRun_21 : decode cX11_goRun 21 = .ok (.iload_n 2, 1) := by decide +kernel
theorem dX11_goRun_22 : decode cX11_goRun 22 = .ok (.aload_n 0, 1) := by decide +kernel
theorem dX11_goRun_23 : decode cX11_goRun 23 = .ok (.iload_n 2, 1) := by decide +kernel
theorem dX11_goRun_24 : decode cX11_goRun 24 = .ok (.invokevirtual 286, 3) := by decide +kernel
theorem dX11_goRun_27 : decode cX11_goRun 27 = .ok (.iload_n 1, 1) := by decide +kernel
theorem dX11_goRun_28 : decode cX11_goRun 28 = .ok (.invokevirtual 331, 3) := by decide +kernel
theorem dX11_goRun_31 : decode cX11_goRun 31 = .ok (.istore 5, 2) := by decide +kernel
theorem dX11_goRun_33 : decode cX11_goRun 33 = .ok (.iload 5, 2) := by decide +kernel
theorem dX11_goRun_35 : decode cX11_goRun 35 = .ok (.aload_n 0, 1) := by decide +kernel
theorem dX11_goRun_36 : decode cX11_goRun 36 = .ok (.iload_n 2, 1) := by decide +kernel
theorem dX11_goRun_37 : decode cX11_goRun 37 = .ok (.invokevirtual 289, 3) := by decide +kernel
theorem dX11_goRun_40 : decode cX11_goRun 40 = .ok (.if_icmp .gt 169, 3) := by decide +kernel
theorem dX11_goRun_43 : decode cX11_goRun 43 = .ok (.iload_n 3, 1) := by decide +kernel
theorem dX11_goRun_44 : decode cX11_goRun 44 = .ok (.iload 4, 2) := by decide +kernel
theorem dX11_goRun_46 : decode cX11_goRun 46 = .ok (.if_icmp .gt 163, 3) := by decide +kernel
theorem dX11_goRun_49 : decode cX11_goRun 49 = .ok (.aload_n 0, 1) := by decide +kernel
theorem dX11_goRun_50 : decode cX11_goRun 50 = .ok (.getfield 13, 3) := by decide +kernel
theorem dX11_goRun_53 : decode cX11_goRun 53 = .ok (.iload_n 1, 1) := by decide +kernel
theorem dX11_goRun_54 : decode cX11_goRun 54 = .ok (.iaload, 1) := by decide +kernel
theorem dX11_goRun_55 : decode cX11_goRun 55 = .ok (.iconst 5, 1) := by decide +kernel
theorem dX11_goRun_56 : decode cX11_goRun 56 = .ok (.if_icmp .ne 16, 3) := by decide +kernel
theorem dX11_goRun_59 : decode cX11_goRun 59 = .ok (.aload_n 0, 1) := by decide +kernel
theorem dX11_goRun_60 : decode cX11_goRun 60 = .ok (.getfield 99, 3) := by decide +kernel
theorem dX11_goRun_63 : decode cX11_goRun 63 = .ok (.aload_n 0, 1) := by decide +kernel
theorem dX11_goRun_64 : decode cX11_goRun 64 = .ok (.getfield 17, 3) := by decide +kernel
theorem dX11_goRun_67 : decode cX11_goRun 67 = .ok (.iload_n 1, 1) := by decide +kernel
theorem dX11_goRun_68 : decode cX11_goRun 68 = .ok (.iaload, 1) := by decide +kernel
theorem dX11_goRun_69 : decode cX11_goRun 69 = .ok (.if_icmp .gt 140, 3) := by decide +kernel
theorem dX11_goRun_72 : decode cX11_goRun 72 = .ok (.aload_n 0, 1) := by decide +kernel
theorem dX11_goRun_73 : decode cX11_goRun 73 = .ok (.getfield 13, 3) := by decide +kernel
theorem dX11_goRun_76 : decode cX11_goRun 76 = .ok (.iload_n 1, 1) := by decide +kernel
theorem dX11_goRun_77 : decode cX11_goRun 77 = .ok (.iaload, 1) := by decide +kernel
theorem dX11_goRun_78 : decode cX11_goRun 78 = .ok (.iconst 4, 1) := by decide +kernel
theorem dX11_goRun_79 : decode cX11_goRun 79 = .ok (.if_icmp .ne 8, 3) := by decide +kernel
theorem dX11_goRun_82 : decode cX11_goRun 82 = .ok (.iload 4, 2) := by decide +kernel
theorem dX11_goRun_84 : decode cX11_goRun 84 = .ok (.goto 4, 3) := by decide +kernel
theorem dX11_goRun_87 : decode cX11_goRun 87 = .ok (.iload_n 3, 1) := by decide +kernel
theorem dX11_goRun_88 : decode cX11_goRun 88 = .ok (.istore 6, 2) := by decide +kernel
theorem dX11_goRun_90 : decode cX11_goRun 90 = .ok (.aload_n 0, 1) := by decide +kernel
theorem dX11_goRun_91 : decode cX11_goRun 91 = .ok (.getfield 13, 3) := by decide +kernel
theorem dX11_goRun_94 : decode cX11_goRun 94 = .ok (.iload_n 1, 1) := by decide +kernel
theorem dX11_goRun_95 : decode cX11_goRun 95 = .ok (.iaload, 1) := by decide +kernel
theorem dX11_goRun_96 : decode cX11_goRun 96 = .ok (.iconst 4, 1) := by decide +kernel
theorem dX11_goRun_97 : decode cX11_goRun 97 = .ok (.if_icmp .ne 9, 3) := by decide +kernel
theorem dX11_goRun_100 : decode cX11_goRun 100 = .ok (.iinc 4 (-1), 3) := by decide +kernel
theorem dX11_goRun_103 : decode cX11_goRun 103 = .ok (.goto 6, 3) := by decide +kernel
theorem dX11_goRun_106 : decode cX11_goRun 106 = .ok (.iinc 3 1, 3) := by decide +kernel
theorem dX11_goRun_109 : decode cX11_goRun 109 = .ok (.aload_n 0, 1) := by decide +kernel
theorem dX11_goRun_110 : decode cX11_goRun 110 = .ok (.getfield 13, 3) := by decide +kernel
theorem dX11_goRun_113 : decode cX11_goRun 113 = .ok (.iload_n 1, 1) := by decide +kernel
theorem dX11_goRun_114 : decode cX11_goRun 114 = .ok (.iaload, 1) := by decide +kernel
theorem dX11_goRun_115 : decode cX11_goRun 115 = .ok (.iconst 3, 1) := by decide +kernel
theorem dX11_goRun_116 : decode cX11_goRun 116 = .ok (.if_icmp .eq 14, 3) := by decide +kernel
theorem dX11_goRun_119 : decode cX11_goRun 119 = .ok (.aload_n 0, 1) := by decide +kernel
theorem dX11_goRun_120 : decode cX11_goRun 120 = .ok (.getfield 13, 3) := by decide +kernel
theorem dX11_goRun_123 : decode cX11_goRun 123 = .ok (.iload_n 1, 1) := by decide +kernel
theorem dX11_goRun_124 : decode cX11_goRun 124 = .ok (.iaload, 1) := by decide +kernel
theorem dX11_goRun_125 : decode cX11_goRun 125 = .ok (.bipush 6, 2) := by decide +kernel
theorem dX11_goRun_127 : decode cX11_goRun 127 = .ok (.if_icmp .ne 25, 3) := by decide +kernel
theorem dX11_goRun_130 : decode cX11_goRun 130 = .ok (.aload_n 0, 1) := by decide +kernel
theorem dX11_goRun_131 : decode cX11_goRun 131 = .ok (.getfield 99, 3) := by decide +kernel
theorem dX11_goRun_134 : decode cX11_goRun 134 = .ok (.iconst 1, 1) := by decide +kernel
theorem dX11_goRun_135 : decode cX11_goRun 135 = .ok (.iadd, 1) := by decide +kernel
theorem dX11_goRun_136 : decode cX11_goRun 136 = .ok (.aload_n 0, 1) := by decide +kernel
theorem dX11_goRun_137 : decode cX11_goRun 137 = .ok (.getfield 17, 3) := by decide +kernel
theorem dX11_goRun_140 : decode cX11_goRun 140 = .ok (.iload_n 1, 1) := by decide +kernel
theorem dX11_goRun_141 : decode cX11_goRun 141 = .ok (.iaload, 1) := by decide +kernel
theorem dX11_goRun_142 : decode cX11_goRun 142 = .ok (.iconst 2, 1) := by decide +kernel
theorem dX11_goRun_143 : decode cX11_goRun 143 = .ok (.iadd, 1) := by decide +kernel
theorem dX11_goRun_144 : decode cX11_goRun 144 = .ok (.irem, 1) := by decide +kernel
theorem dX11_goRun_145 : decode cX11_goRun 145 = .ok (.ifCond .ne 7, 3) := by decide +kernel
theorem dX11_goRun_148 : decode cX11_goRun 148 = .ok (.iconst 1, 1) := by decide +kernel
theorem dX11_goRun_149 : decode cX11_goRun 149 = .ok (.goto 4, 3) := by decide +kernel
theorem dX11_goRun_152 : decode cX11_goRun 152 = .ok (.iconst 0, 1) := by decide +kernel
theorem dX11_goRun_153 : decode cX11_goRun 153 = .ok (.istore 7, 2) := by decide +kernel
theorem dX11_goRun_155 : decode cX11_goRun 155 = .ok (.iload 7, 2) := by decide +kernel
theorem dX11_goRun_157 : decode cX11_goRun 157 = .ok (.ifCond .ne 32, 3) := by decide +kernel
theorem dX11_goRun_160 : decode cX11_goRun 160 = .ok (.aload_n 0, 1) := by decide +kernel
theorem dX11_goRun_161 : decode cX11_goRun 161 = .ok (.iload 6, 2) := by decide +kernel
theorem dX11_goRun_163 : decode cX11_goRun 163 = .ok (.aload_n 0, 1) := by decide +kernel
theorem dX11_goRun_164 : decode cX11_goRun 164 = .ok (.iload_n 1, 1) := by decide +kernel
theorem dX11_goRun_165 : decode cX11_goRun 165 = .ok (.iload 5, 2) := by decide +kernel
theorem dX11_goRun_167 : decode cX11_goRun 167 = .ok (.invokevirtual 334, 3) := by decide +kernel
theorem dX11_goRun_170 : decode cX11_goRun 170 = .ok (.aload_n 0, 1) := by decide +kernel
theorem dX11_goRun_171 : decode cX11_goRun 171 = .ok (.iload_n 2, 1) := by decide +kernel
theorem dX11_goRun_172 : decode cX11_goRun 172 = .ok (.iconst 3, 1) := by decide +kernel
theorem dX11_goRun_173 : decode cX11_goRun 173 = .ok (.iload 5, 2) := by decide +kernel
theorem dX11_goRun_175 : decode cX11_goRun 175 = .ok (.iload_n 1, 1) := by decide +kernel
theorem dX11_goRun_176 : decode cX11_goRun 176 = .ok (.aload_n 0, 1) := by decide +kernel
theorem dX11_goRun_177 : decode cX11_goRun 177 = .ok (.getfield 99, 3) := by decide +kernel
theorem dX11_goRun_180 : decode cX11_goRun 180 = .ok (.invokevirtual 327, 3) := by decide +kernel
theorem dX11_goRun_183 : decode cX11_goRun 183 = .ok (.invokevirtual 338, 3) := by decide +kernel
theorem dX11_goRun_186 : decode cX11_goRun 186 = .ok (.iinc 5 1, 3) := by decide +kernel
theorem dX11_goRun_189 : decode cX11_goRun 189 = .ok (.aload_n 0, 1) := by decide +kernel
theorem dX11_goRun_190 : decode cX11_goRun 190 = .ok (.iload 6, 2) := by decide +kernel
theorem dX11_goRun_192 : decode cX11_goRun 192 = .ok (.iload_n 1, 1) := by decide +kernel
theorem dX11_goRun_193 : decode cX11_goRun 193 = .ok (.invokevirtual 342, 3) := by decide +kernel
theorem dX11_goRun_196 : decode cX11_goRun 196 = .ok (.aload_n 0, 1) := by decide +kernel
theorem dX11_goRun_197 : decode cX11_goRun 197 = .ok (.iload_n 2, 1) := by decide +kernel
theorem dX11_goRun_198 : decode cX11_goRun 198 = .ok (.iload 5, 2) := by decide +kernel
theorem dX11_goRun_200 : decode cX11_goRun 200 = .ok (.iload_n 1, 1) := by decide +kernel
theorem dX11_goRun_201 : decode cX11_goRun 201 = .ok (.invokevirtual 331, 3) := by decide +kernel
theorem dX11_goRun_204 : decode cX11_goRun 204 = .ok (.istore 5, 2) := by decide +kernel
theorem dX11_goRun_206 : decode cX11_goRun 206 = .ok (.goto (-173), 3) := by decide +kernel
theorem dX11_goRun_209 : decode cX11_goRun 209 = .ok (.iconst 0, 1) := by decide +kernel
theorem dX11_goRun_210 : decode cX11_goRun 210 = .ok (.istore 6, 2) := by decide +kernel
theorem dX11_goRun_212 : decode cX11_goRun 212 = .ok (.iconst 2, 1) := by decide +kernel
theorem dX11_goRun_213 : decode cX11_goRun 213 = .ok (.iload_n 3, 1) := by decide +kernel
theorem dX11_goRun_214 : decode cX11_goRun 214 = .ok (.imul, 1) := by decide +kernel
theorem dX11_goRun_215 : decode cX11_goRun 215 = .ok (.istore 7, 2) := by decide +kernel
theorem dX11_goRun_217 : decode cX11_goRun 217 = .ok (.iload 7, 2) := by decide +kernel
theorem dX11_goRun_219 : decode cX11_goRun 219 = .ok (.iconst 2, 1) := by decide +kernel
theorem dX11_goRun_220 : decode cX11_goRun 220 = .ok (.iload 4, 2) := by decide +kernel
theorem dX11_goRun_222 : decode cX11_goRun 222 = .ok (.imul, 1) := by decide +kernel
theorem dX11_goRun_223 : decode cX11_goRun 223 = .ok (.iconst 2, 1) := by decide +kernel
theorem dX11_goRun_224 : decode cX11_goRun 224 = .ok (.iadd, 1) := by decide +kernel
theorem dX11_goRun_225 : decode cX11_goRun 225 = .ok (.if_icmp .ge 40, 3) := by decide +kernel
theorem dX11_goRun_228 : decode cX11_goRun 228 = .ok (.aload_n 0, 1) := by decide +kernel
theorem dX11_goRun_229 : decode cX11_goRun 229 = .ok (.getfield 87, 3) := by decide +kernel
theorem dX11_goRun_232 : decode cX11_goRun 232 = .ok (.iload 6, 2) := by decide +kernel
theorem dX11_goRun_234 : decode cX11_goRun 234 = .ok (.aload_n 0, 1) := by decide +kernel
theorem dX11_goRun_235 : decode cX11_goRun 235 = .ok (.getfield 81, 3) := by decide +kernel
theorem dX11_goRun_238 : decode cX11_goRun 238 = .ok (.iload 7, 2) := by decide +kernel
theorem dX11_goRun_240 : decode cX11_goRun 240 = .ok (.iaload, 1) := by decide +kernel
theorem dX11_goRun_241 : decode cX11_goRun 241 = .ok (.iastore, 1) := by decide +kernel
theorem dX11_goRun_242 : decode cX11_goRun 242 = .ok (.aload_n 0, 1) := by decide +kernel
theorem dX11_goRun_243 : decode cX11_goRun 243 = .ok (.getfield 96, 3) := by decide +kernel
theorem dX11_goRun_246 : decode cX11_goRun 246 = .ok (.iload 6, 2) := by decide +kernel
theorem dX11_goRun_248 : decode cX11_goRun 248 = .ok (.aload_n 0, 1) := by decide +kernel
theorem dX11_goRun_249 : decode cX11_goRun 249 = .ok (.getfield 90, 3) := by decide +kernel
theorem dX11_goRun_252 : decode cX11_goRun 252 = .ok (.iload 7, 2) := by decide +kernel
theorem dX11_goRun_254 : decode cX11_goRun 254 = .ok (.baload, 1) := by decide +kernel
theorem dX11_goRun_255 : decode cX11_goRun 255 = .ok (.bastore, 1) := by decide +kernel
theorem dX11_goRun_256 : decode cX11_goRun 256 = .ok (.iinc 6 1, 3) := by decide +kernel
theorem dX11_goRun_259 : decode cX11_goRun 259 = .ok (.iinc 7 1, 3) := by decide +kernel
theorem dX11_goRun_262 : decode cX11_goRun 262 = .ok (.goto (-45), 3) := by decide +kernel
theorem dX11_goRun_265 : decode cX11_goRun 265 = .ok (.aload_n 0, 1) := by decide +kernel
theorem dX11_goRun_266 : decode cX11_goRun 266 = .ok (.getfield 99, 3) := by decide +kernel
theorem dX11_goRun_269 : decode cX11_goRun 269 = .ok (.iconst 1, 1) := by decide +kernel
theorem dX11_goRun_270 : decode cX11_goRun 270 = .ok (.isub, 1) := by decide +kernel
theorem dX11_goRun_271 : decode cX11_goRun 271 = .ok (.istore 7, 2) := by decide +kernel
theorem dX11_goRun_273 : decode cX11_goRun 273 = .ok (.iload 7, 2) := by decide +kernel
theorem dX11_goRun_275 : decode cX11_goRun 275 = .ok (.ifCond .lt 65, 3) := by decide +kernel
theorem dX11_goRun_278 : decode cX11_goRun 278 = .ok (.iconst 0, 1) := by decide +kernel
theorem dX11_goRun_279 : decode cX11_goRun 279 = .ok (.istore 8, 2) := by decide +kernel
theorem dX11_goRun_281 : decode cX11_goRun 281 = .ok (.iload 8, 2) := by decide +kernel
theorem dX11_goRun_283 : decode cX11_goRun 283 = .ok (.iconst 2, 1) := by decide +kernel
theorem dX11_goRun_284 : decode cX11_goRun 284 = .ok (.if_icmp .ge 50, 3) := by decide +kernel
theorem dX11_goRun_287 : decode cX11_goRun 287 = .ok (.aload_n 0, 1) := by decide +kernel
theorem dX11_goRun_288 : decode cX11_goRun 288 = .ok (.getfield 87, 3) := by decide +kernel
theorem dX11_goRun_291 : decode cX11_goRun 291 = .ok (.iload 6, 2) := by decide +kernel
theorem dX11_goRun_293 : decode cX11_goRun 293 = .ok (.aload_n 0, 1) := by decide +kernel
theorem dX11_goRun_294 : decode cX11_goRun 294 = .ok (.getfield 84, 3) := by decide +kernel
theorem dX11_goRun_297 : decode cX11_goRun 297 = .ok (.iconst 2, 1) := by decide +kernel
theorem dX11_goRun_298 : decode cX11_goRun 298 = .ok (.iload 7, 2) := by decide +kernel
theorem dX11_goRun_300 : decode cX11_goRun 300 = .ok (.imul, 1) := by decide +kernel
theorem dX11_goRun_301 : decode cX11_goRun 301 = .ok (.iload 8, 2) := by decide +kernel
theorem dX11_goRun_303 : decode cX11_goRun 303 = .ok (.iadd, 1) := by decide +kernel
theorem dX11_goRun_304 : decode cX11_goRun 304 = .ok (.iaload, 1) := by decide +kernel
theorem dX11_goRun_305 : decode cX11_goRun 305 = .ok (.iastore, 1) := by decide +kernel
theorem dX11_goRun_306 : decode cX11_goRun 306 = .ok (.aload_n 0, 1) := by decide +kernel
theorem dX11_goRun_307 : decode cX11_goRun 307 = .ok (.getfield 96, 3) := by decide +kernel
theorem dX11_goRun_310 : decode cX11_goRun 310 = .ok (.iload 6, 2) := by decide +kernel
theorem dX11_goRun_312 : decode cX11_goRun 312 = .ok (.aload_n 0, 1) := by decide +kernel
theorem dX11_goRun_313 : decode cX11_goRun 313 = .ok (.getfield 93, 3) := by decide +kernel
theorem dX11_goRun_316 : decode cX11_goRun 316 = .ok (.iconst 2, 1) := by decide +kernel
theorem dX11_goRun_317 : decode cX11_goRun 317 = .ok (.iload 7, 2) := by decide +kernel
theorem dX11_goRun_319 : decode cX11_goRun 319 = .ok (.imul, 1) := by decide +kernel
theorem dX11_goRun_320 : decode cX11_goRun 320 = .ok (.iload 8, 2) := by decide +kernel
theorem dX11_goRun_322 : decode cX11_goRun 322 = .ok (.iadd, 1) := by decide +kernel
theorem dX11_goRun_323 : decode cX11_goRun 323 = .ok (.baload, 1) := by decide +kernel
theorem dX11_goRun_324 : decode cX11_goRun 324 = .ok (.bastore, 1) := by decide +kernel
theorem dX11_goRun_325 : decode cX11_goRun 325 = .ok (.iinc 6 1, 3) := by decide +kernel
theorem dX11_goRun_328 : decode cX11_goRun 328 = .ok (.iinc 8 1, 3) := by decide +kernel
theorem dX11_goRun_331 : decode cX11_goRun 331 = .ok (.goto (-50), 3) := by decide +kernel
theorem dX11_goRun_334 : decode cX11_goRun 334 = .ok (.iinc 7 (-1), 3) := by decide +kernel
theorem dX11_goRun_337 : decode cX11_goRun 337 = .ok (.goto (-64), 3) := by decide +kernel
theorem dX11_goRun_340 : decode cX11_goRun 340 = .ok (.iconst 0, 1) := by decide +kernel
theorem dX11_goRun_341 : decode cX11_goRun 341 = .ok (.istore 7, 2) := by decide +kernel
theorem dX11_goRun_343 : decode cX11_goRun 343 = .ok (.iload 7, 2) := by decide +kernel
theorem dX11_goRun_345 : decode cX11_goRun 345 = .ok (.iload 6, 2) := by decide +kernel
theorem dX11_goRun_347 : decode cX11_goRun 347 = .ok (.if_icmp .ge 37, 3) := by decide +kernel
theorem dX11_goRun_350 : decode cX11_goRun 350 = .ok (.aload_n 0, 1) := by decide +kernel
theorem dX11_goRun_351 : decode cX11_goRun 351 = .ok (.getfield 81, 3) := by decide +kernel
theorem dX11_goRun_354 : decode cX11_goRun 354 = .ok (.iload 7, 2) := by decide +kernel
theorem dX11_goRun_356 : decode cX11_goRun 356 = .ok (.aload_n 0, 1) := by decide +kernel
theorem dX11_goRun_357 : decode cX11_goRun 357 = .ok (.getfield 87, 3) := by decide +kernel
theorem dX11_goRun_360 : decode cX11_goRun 360 = .ok (.iload 7, 2) := by decide +kernel
theorem dX11_goRun_362 : decode cX11_goRun 362 = .ok (.iaload, 1) := by decide +kernel
theorem dX11_goRun_363 : decode cX11_goRun 363 = .ok (.iastore, 1) := by decide +kernel
theorem dX11_goRun_364 : decode cX11_goRun 364 = .ok (.aload_n 0, 1) := by decide +kernel
theorem dX11_goRun_365 : decode cX11_goRun 365 = .ok (.getfield 90, 3) := by decide +kernel
theorem dX11_goRun_368 : decode cX11_goRun 368 = .ok (.iload 7, 2) := by decide +kernel
theorem dX11_goRun_370 : decode cX11_goRun 370 = .ok (.aload_n 0, 1) := by decide +kernel
theorem dX11_goRun_371 : decode cX11_goRun 371 = .ok (.getfield 96, 3) := by decide +kernel
theorem dX11_goRun_374 : decode cX11_goRun 374 = .ok (.iload 7, 2) := by decide +kernel
theorem dX11_goRun_376 : decode cX11_goRun 376 = .ok (.baload, 1) := by decide +kernel
theorem dX11_goRun_377 : decode cX11_goRun 377 = .ok (.bastore, 1) := by decide +kernel
theorem dX11_goRun_378 : decode cX11_goRun 378 = .ok (.iinc 7 1, 3) := by decide +kernel
theorem dX11_goRun_381 : decode cX11_goRun 381 = .ok (.goto (-38), 3) := by decide +kernel
theorem dX11_goRun_384 : decode cX11_goRun 384 = .ok (.return_, 1) := by decide +kernel
theorem dX11_run_0 : decode cX11_run 0 = .ok (.aload_n 0, 1) := by decide +kernel
theorem dX11_run_1 : decode cX11_run 1 = .ok (.iload_n 1, 1) := by decide +kernel
theorem dX11_run_2 : decode cX11_run 2 = .ok (.invokevirtual 225, 3) := by decide +kernel
theorem dX11_run_5 : decode cX11_run 5 = .ok (.ifCond .eq 11, 3) := by decide +kernel
theorem dX11_run_8 : decode cX11_run 8 = .ok (.aload_n 0, 1) := by decide +kernel
theorem dX11_run_9 : decode cX11_run 9 = .ok (.iload_n 2, 1) := by decide +kernel
theorem dX11_run_10 : decode cX11_run 10 = .ok (.invokevirtual 283, 3) := by decide +kernel
theorem dX11_run_13 : decode cX11_run 13 = .ok (.ifCond .ne 5, 3) := by decide +kernel
theorem dX11_run_16 : decode cX11_run 16 = .ok (.iconst (-1), 1) := by decide +kernel
theorem dX11_run_17 : decode cX11_run 17 = .ok (.ireturn, 1) := by decide +kernel
theorem dX11_run_18 : decode cX11_run 18 = .ok (.aload_n 0, 1) := by decide +kernel
theorem dX11_run_19 : decode cX11_run 19 = .ok (.getfield 20, 3) := by decide +kernel
theorem dX11_run_22 : decode cX11_run 22 = .ok (.iload_n 1, 1) := by decide +kernel
theorem dX11_run_23 : decode cX11_run 23 = .ok (.iaload, 1) := by decide +kernel
theorem dX11_run_24 : decode cX11_run 24 = .ok (.sipush 9999, 3) := by decide +kernel
theorem dX11_run_27 : decode cX11_run 27 = .ok (.if_icmp .ne 6, 3) := by decide +kernel
theorem dX11_run_30 : decode cX11_run 30 = .ok (.bipush (-3), 2) := by decide +kernel
theorem dX11_run_32 : decode cX11_run 32 = .ok (.ireturn, 1) := by decide +kernel
theorem dX11_run_33 : decode cX11_run 33 = .ok (.aload_n 0, 1) := by decide +kernel
theorem dX11_run_34 : decode cX11_run 34 = .ok (.iload_n 1, 1) := by decide +kernel
theorem dX11_run_35 : decode cX11_run 35 = .ok (.iload_n 2, 1) := by decide +kernel
theorem dX11_run_36 : decode cX11_run 36 = .ok (.invokevirtual 346, 3) := by decide +kernel
theorem dX11_run_39 : decode cX11_run 39 = .ok (.aload_n 0, 1) := by decide +kernel
theorem dX11_run_40 : decode cX11_run 40 = .ok (.getfield 20, 3) := by decide +kernel
theorem dX11_run_43 : decode cX11_run 43 = .ok (.iload_n 1, 1) := by decide +kernel
theorem dX11_run_44 : decode cX11_run 44 = .ok (.dup2, 1) := by decide +kernel
theorem dX11_run_45 : decode cX11_run 45 = .ok (.iaload, 1) := by decide +kernel
theorem dX11_run_46 : decode cX11_run 46 = .ok (.iconst 1, 1) := by decide +kernel
theorem dX11_run_47 : decode cX11_run 47 = .ok (.iadd, 1) := by decide +kernel
theorem dX11_run_48 : decode cX11_run 48 = .ok (.iastore, 1) := by decide +kernel
theorem dX11_run_49 : decode cX11_run 49 = .ok (.aload_n 0, 1) := by decide +kernel
theorem dX11_run_50 : decode cX11_run 50 = .ok (.getfield 102, 3) := by decide +kernel
theorem dX11_run_53 : decode cX11_run 53 = .ok (.ireturn, 1) := by decide +kernel
theorem dX11_save_0 : decode cX11_save 0 = .ok (.aload_n 0, 1) := by decide +kernel
theorem dX11_save_1 : decode cX11_save 1 = .ok (.aload_n 0, 1) := by decide +kernel
theorem dX11_save_2 : decode cX11_save 2 = .ok (.getfield 78, 3) := by decide +kernel
theorem dX11_save_5 : decode cX11_save 5 = .ok (.putfield 105, 3) := by decide +kernel
theorem dX11_save_8 : decode cX11_save 8 = .ok (.iconst 0, 1) := by decide +kernel
theorem dX11_save_9 : decode cX11_save 9 = .ok (.istore_n 1, 1) := by decide +kernel
theorem dX11_save_10 : decode cX11_save 10 = .ok (.iload_n 1, 1) := by decide +kernel
theorem dX11_save_11 : decode cX11_save 11 = .ok (.bipush 24, 2) := by decide +kernel
theorem dX11_save_13 : decode cX11_save 13 = .ok (.if_icmp .ge 33, 3) := by decide +kernel
theorem dX11_save_16 : decode cX11_save 16 = .ok (.aload_n 0, 1) := by decide +kernel
theorem dX11_save_17 : decode cX11_save 17 = .ok (.getfield 108, 3) := by decide +kernel
theorem dX11_save_20 : decode cX11_save 20 = .ok (.iload_n 1, 1) := by decide +kernel
theorem dX11_save_21 : decode cX11_save 21 = .ok (.aload_n 0, 1) := by decide +kernel
theorem dX11_save_22 : decode cX11_save 22 = .ok (.getfield 81, 3) := by decide +kernel
theorem dX11_save_25 : decode cX11_save 25 = .ok (.iload_n 1, 1) := by decide +kernel
theorem dX11_save_26 : decode cX11_save 26 = .ok (.iaload, 1) := by decide +kernel
theorem dX11_save_27 : decode cX11_save 27 = .ok (.iastore, 1) := by decide +kernel
theorem dX11_save_28 : decode cX11_save 28 = .ok (.aload_n 0, 1) := by decide +kernel
theorem dX11_save_29 : decode cX11_save 29 = .ok (.getfield 111, 3) := by decide +kernel
theorem dX11_save_32 : decode cX11_save 32 = .ok (.iload_n 1, 1) := by decide +kernel
theorem dX11_save_33 : decode cX11_save 33 = .ok (.aload_n 0, 1) := by decide +kernel
theorem dX11_save_34 : decode cX11_save 34 = .ok (.getfield 90, 3) := by decide +kernel
theorem dX11_save_37 : decode cX11_save 37 = .ok (.iload_n 1, 1) := by decide +kernel
theorem dX11_save_38 : decode cX11_save 38 = .ok (.baload, 1) := by decide +kernel
theorem dX11_save_39 : decode cX11_save 39 = .ok (.bastore, 1) := by decide +kernel
theorem dX11_save_40 : decode cX11_save 40 = .ok (.iinc 1 1, 3) := by decide +kernel
theorem dX11_save_43 : decode cX11_save 43 = .ok (.goto (-33), 3) := by decide +kernel
theorem dX11_save_46 : decode cX11_save 46 = .ok (.return_, 1) := by decide +kernel
theorem dX11_putBack_0 : decode cX11_putBack 0 = .ok (.aload_n 0, 1) := by decide +kernel
theorem dX11_putBack_1 : decode cX11_putBack 1 = .ok (.aload_n 0, 1) := by decide +kernel
theorem dX11_putBack_2 : decode cX11_putBack 2 = .ok (.getfield 105, 3) := by decide +kernel
theorem dX11_putBack_5 : decode cX11_putBack 5 = .ok (.putfield 78, 3) := by decide +kernel
theorem dX11_putBack_8 : decode cX11_putBack 8 = .ok (.iconst 0, 1) := by decide +kernel
theorem dX11_putBack_9 : decode cX11_putBack 9 = .ok (.istore_n 1, 1) := by decide +kernel
theorem dX11_putBack_10 : decode cX11_putBack 10 = .ok (.iload_n 1, 1) := by decide +kernel
theorem dX11_putBack_11 : decode cX11_putBack 11 = .ok (.bipush 24, 2) := by decide +kernel
theorem dX11_putBack_13 : decode cX11_putBack 13 = .ok (.if_icmp .ge 33, 3) := by decide +kernel
theorem dX11_putBack_16 : decode cX11_putBack 16 = .ok (.aload_n 0, 1) := by decide +kernel
theorem dX11_putBack_17 : decode cX11_putBack 17 = .ok (.getfield 81, 3) := by decide +kernel
theorem dX11_putBack_20 : decode cX11_putBack 20 = .ok (.iload_n 1, 1) := by decide +kernel
theorem dX11_putBack_21 : decode cX11_putBack 21 = .ok (.aload_n 0, 1) := by decide +kernel
theorem dX11_putBack_22 : decode cX11_putBack 22 = .ok (.getfield 108, 3) := by decide +kernel
theorem dX11_putBack_25 : decode cX11_putBack 25 = .ok (.iload_n 1, 1) := by decide +kernel
theorem dX11_putBack_26 : decode cX11_putBack 26 = .ok (.iaload, 1) := by decide +kernel
theorem dX11_putBack_27 : decode cX11_putBack 27 = .ok (.iastore, 1) := by decide +kernel
theorem dX11_putBack_28 : decode cX11_putBack 28 = .ok (.aload_n 0, 1) := by decide +kernel
theorem dX11_putBack_29 : decode cX11_putBack 29 = .ok (.getfield 90, 3) := by decide +kernel
theorem dX11_putBack_32 : decode cX11_putBack 32 = .ok (.iload_n 1, 1) := by decide +kernel
theorem dX11_putBack_33 : decode cX11_putBack 33 = .ok (.aload_n 0, 1) := by decide +kernel
theorem dX11_putBack_34 : decode cX11_putBack 34 = .ok (.getfield 111, 3) := by decide +kernel
theorem dX11_putBack_37 : decode cX11_putBack 37 = .ok (.iload_n 1, 1) := by decide +kernel
theorem dX11_putBack_38 : decode cX11_putBack 38 = .ok (.baload, 1) := by decide +kernel
theorem dX11_putBack_39 : decode cX11_putBack 39 = .ok (.bastore, 1) := by decide +kernel
theorem dX11_putBack_40 : decode cX11_putBack 40 = .ok (.iinc 1 1, 3) := by decide +kernel
theorem dX11_putBack_43 : decode cX11_putBack 43 = .ok (.goto (-33), 3) := by decide +kernel
theorem dX11_putBack_46 : decode cX11_putBack 46 = .ok (.return_, 1) := by decide +kernel
theorem dX11_after_0 : decode cX11_after 0 = .ok (.aload_n 0, 1) := by decide +kernel
theorem dX11_after_1 : decode cX11_after 1 = .ok (.iload_n 1, 1) := by decide +kernel
theorem dX11_after_2 : decode cX11_after 2 = .ok (.invokevirtual 225, 3) := by decide +kernel
theorem dX11_after_5 : decode cX11_after 5 = .ok (.ifCond .eq 55, 3) := by decide +kernel
theorem dX11_after_8 : decode cX11_after 8 = .ok (.aload_n 0, 1) := by decide +kernel
theorem dX11_after_9 : decode cX11_after 9 = .ok (.iload_n 2, 1) := by decide +kernel
theorem dX11_after_10 : decode cX11_after 10 = .ok (.invokevirtual 283, 3) := by decide +kernel
theorem dX11_after_13 : decode cX11_after 13 = .ok (.ifCond .eq 47, 3) := by decide +kernel
theorem dX11_after_16 : decode cX11_after 16 = .ok (.aload_n 0, 1) := by decide +kernel
theorem dX11_after_17 : decode cX11_after 17 = .ok (.iload_n 3, 1) := by decide +kernel
theorem dX11_after_18 : decode cX11_after 18 = .ok (.iconst 0, 1) := by decide +kernel
theorem dX11_after_19 : decode cX11_after 19 = .ok (.iconst 2, 1) := by decide +kernel
theorem dX11_after_20 : decode cX11_after 20 = .ok (.invokevirtual 221, 3) := by decide +kernel
theorem dX11_after_23 : decode cX11_after 23 = .ok (.ifCond .ne 39, 3) := by decide +kernel
theorem dX11_after_26 : decode cX11_after 26 = .ok (.aload_n 0, 1) := by decide +kernel
theorem dX11_after_27 : decode cX11_after 27 = .ok (.iload_n 3, 1) := by decide +kernel
theorem dX11_after_28 : decode cX11_after 28 = .ok (.bipush 10, 2) := by decide +kernel
theorem dX11_after_30 : decode cX11_after 30 = .ok (.bipush 9, 2) := by decide +kernel
theorem dX11_after_32 : decode cX11_after 32 = .ok (.aload_n 0, 1) := by decide +kernel
theorem dX11_after_33 : decode cX11_after 33 = .ok (.getfield 78, 3) := by decide +kernel
theorem dX11_after_36 : decode cX11_after 36 = .ok (.iadd, 1) := by decide +kernel
theorem dX11_after_37 : decode cX11_after 37 = .ok (.invokevirtual 221, 3) := by decide +kernel
theorem dX11_after_40 : decode cX11_after 40 = .ok (.ifCond .ne 22, 3) := by decide +kernel
theorem dX11_after_43 : decode cX11_after 43 = .ok (.aload_n 0, 1) := by decide +kernel
theorem dX11_after_44 : decode cX11_after 44 = .ok (.iload_n 3, 1) := by decide +kernel
theorem dX11_after_45 : decode cX11_after 45 = .ok (.bipush 30, 2) := by decide +kernel
theorem dX11_after_47 : decode cX11_after 47 = .ok (.bipush 29, 2) := by decide +kernel
theorem dX11_after_49 : decode cX11_after 49 = .ok (.aload_n 0, 1) := by decide +kernel
theorem dX11_after_50 : decode cX11_after 50 = .ok (.getfield 78, 3) := by decide +kernel
theorem dX11_after_53 : decode cX11_after 53 = .ok (.iadd, 1) := by decide +kernel
theorem dX11_after_54 : decode cX11_after 54 = .ok (.invokevirtual 221, 3) := by decide +kernel
theorem dX11_after_57 : decode cX11_after 57 = .ok (.ifCond .ne 5, 3) := by decide +kernel
theorem dX11_after_60 : decode cX11_after 60 = .ok (.iconst (-1), 1) := by decide +kernel
theorem dX11_after_61 : decode cX11_after 61 = .ok (.ireturn, 1) := by decide +kernel
theorem dX11_after_62 : decode cX11_after 62 = .ok (.aload_n 0, 1) := by decide +kernel
theorem dX11_after_63 : decode cX11_after 63 = .ok (.invokevirtual 349, 3) := by decide +kernel
theorem dX11_after_66 : decode cX11_after 66 = .ok (.aload_n 0, 1) := by decide +kernel
theorem dX11_after_67 : decode cX11_after 67 = .ok (.iload_n 1, 1) := by decide +kernel
theorem dX11_after_68 : decode cX11_after 68 = .ok (.iload_n 2, 1) := by decide +kernel
theorem dX11_after_69 : decode cX11_after 69 = .ok (.invokevirtual 346, 3) := by decide +kernel
theorem dX11_after_72 : decode cX11_after 72 = .ok (.iload_n 3, 1) := by decide +kernel
theorem dX11_after_73 : decode cX11_after 73 = .ok (.ifCond .ne 10, 3) := by decide +kernel
theorem dX11_after_76 : decode cX11_after 76 = .ok (.aload_n 0, 1) := by decide +kernel
theorem dX11_after_77 : decode cX11_after 77 = .ok (.invokevirtual 318, 3) := by decide +kernel
theorem dX11_after_80 : decode cX11_after 80 = .ok (.goto 62, 3) := by decide +kernel
theorem dX11_after_83 : decode cX11_after 83 = .ok (.iload_n 3, 1) := by decide +kernel
theorem dX11_after_84 : decode cX11_after 84 = .ok (.iconst 1, 1) := by decide +kernel
theorem dX11_after_85 : decode cX11_after 85 = .ok (.if_icmp .ne 10, 3) := by decide +kernel
theorem dX11_after_88 : decode cX11_after 88 = .ok (.aload_n 0, 1) := by decide +kernel
theorem dX11_after_89 : decode cX11_after 89 = .ok (.getfield 102, 3) := by decide +kernel
theorem dX11_after_92 : decode cX11_after 92 = .ok (.goto 50, 3) := by decide +kernel
theorem dX11_after_95 : decode cX11_after 95 = .ok (.iload_n 3, 1) := by decide +kernel
theorem dX11_after_96 : decode cX11_after 96 = .ok (.iconst 2, 1) := by decide +kernel
theorem dX11_after_97 : decode cX11_after 97 = .ok (.if_icmp .ne 12, 3) := by decide +kernel
theorem dX11_after_100 : decode cX11_after 100 = .ok (.aload_n 0, 1) := by decide +kernel
theorem dX11_after_101 : decode cX11_after 101 = .ok (.bipush 99, 2) := by decide +kernel
theorem dX11_after_103 : decode cX11_after 103 = .ok (.invokevirtual 321, 3) := by decide +kernel
theorem dX11_after_106 : decode cX11_after 106 = .ok (.goto 36, 3) := by decide +kernel
theorem dX11_after_109 : decode cX11_after 109 = .ok (.iload_n 3, 1) := by decide +kernel
theorem dX11_after_110 : decode cX11_after 110 = .ok (.bipush 30, 2) := by decide +kernel
theorem dX11_after_112 : decode cX11_after 112 = .ok (.if_icmp .ge 17, 3) := by decide +kernel
theorem dX11_after_115 : decode cX11_after 115 = .ok (.aload_n 0, 1) := by decide +kernel
theorem dX11_after_116 : decode cX11_after 116 = .ok (.getfield 81, 3) := by decide +kernel
theorem dX11_after_119 : decode cX11_after 119 = .ok (.iconst 2, 1) := by decide +kernel
theorem dX11_after_120 : decode cX11_after 120 = .ok (.iload_n 3, 1) := by decide +kernel
theorem dX11_after_121 : decode cX11_after 121 = .ok (.bipush 10, 2) := by decide +kernel
theorem dX11_after_123 : decode cX11_after 123 = .ok (.isub, 1) := by decide +kernel
theorem dX11_after_124 : decode cX11_after 124 = .ok (.imul, 1) := by decide +kernel
theorem dX11_after_125 : decode cX11_after 125 = .ok (.iaload, 1) := by decide +kernel
theorem dX11_after_126 : decode cX11_after 126 = .ok (.goto 16, 3) := by decide +kernel
theorem dX11_after_129 : decode cX11_after 129 = .ok (.aload_n 0, 1) := by decide +kernel
theorem dX11_after_130 : decode cX11_after 130 = .ok (.getfield 81, 3) := by decide +kernel
theorem dX11_after_133 : decode cX11_after 133 = .ok (.iconst 2, 1) := by decide +kernel
theorem dX11_after_134 : decode cX11_after 134 = .ok (.iload_n 3, 1) := by decide +kernel
theorem dX11_after_135 : decode cX11_after 135 = .ok (.bipush 30, 2) := by decide +kernel
theorem dX11_after_137 : decode cX11_after 137 = .ok (.isub, 1) := by decide +kernel
theorem dX11_after_138 : decode cX11_after 138 = .ok (.imul, 1) := by decide +kernel
theorem dX11_after_139 : decode cX11_after 139 = .ok (.iconst 1, 1) := by decide +kernel
theorem dX11_after_140 : decode cX11_after 140 = .ok (.iadd, 1) := by decide +kernel
theorem dX11_after_141 : decode cX11_after 141 = .ok (.iaload, 1) := by decide +kernel
theorem dX11_after_142 : decode cX11_after 142 = .ok (.istore 4, 2) := by decide +kernel
theorem dX11_after_144 : decode cX11_after 144 = .ok (.aload_n 0, 1) := by decide +kernel
theorem dX11_after_145 : decode cX11_after 145 = .ok (.invokevirtual 352, 3) := by decide +kernel
theorem dX11_after_148 : decode cX11_after 148 = .ok (.iload 4, 2) := by decide +kernel
theorem dX11_after_150 : decode cX11_after 150 = .ok (.ireturn, 1) := by decide +kernel
theorem dX11_rightAfter_0 : decode cX11_rightAfter 0 = .ok (.aload_n 0, 1) := by decide +kernel
theorem dX11_rightAfter_1 : decode cX11_rightAfter 1 = .ok (.iload_n 1, 1) := by decide +kernel
theorem dX11_rightAfter_2 : decode cX11_rightAfter 2 = .ok (.iload_n 2, 1) := by decide +kernel
theorem dX11_rightAfter_3 : decode cX11_rightAfter 3 = .ok (.iconst 0, 1) := by decide +kernel
theorem dX11_rightAfter_4 : decode cX11_rightAfter 4 = .ok (.invokevirtual 355, 3) := by decide +kernel
theorem dX11_rightAfter_7 : decode cX11_rightAfter 7 = .ok (.ireturn, 1) := by decide +kernel
theorem dX11_best_0 : decode cX11_best 0 = .ok (.aload_n 0, 1) := by decide +kernel
theorem dX11_best_1 : decode cX11_best 1 = .ok (.iload_n 1, 1) := by decide +kernel
theorem dX11_best_2 : decode cX11_best 2 = .ok (.invokevirtual 283, 3) := by decide +kernel
theorem dX11_best_5 : decode cX11_best 5 = .ok (.ifCond .ne 5, 3) := by decide +kernel
theorem dX11_best_8 : decode cX11_best 8 = .ok (.iconst (-1), 1) := by decide +kernel
theorem dX11_best_9 : decode cX11_best 9 = .ok (.ireturn, 1) := by decide +kernel
theorem dX11_best_10 : decode cX11_best 10 = .ok (.bipush (-5), 2) := by decide +kernel
theorem dX11_best_12 : decode cX11_best 12 = .ok (.istore_n 2, 1) := by decide +kernel
theorem dX11_best_13 : decode cX11_best 13 = .ok (.iconst (-1), 1) := by decide +kernel
theorem dX11_best_14 : decode cX11_best 14 = .ok (.istore_n 3, 1) := by decide +kernel
theorem dX11_best_15 : decode cX11_best 15 = .ok (.iconst 0, 1) := by decide +kernel
theorem dX11_best_16 : decode cX11_best 16 = .ok (.istore 4, 2) := by decide +kernel
theorem dX11_best_18 : decode cX11_best 18 = .ok (.iload 4, 2) := by decide +kernel
theorem dX11_best_20 : decode cX11_best 20 = .ok (.aload_n 0, 1) := by decide +kernel
theorem dX11_best_21 : decode cX11_best 21 = .ok (.getfield 7, 3) := by decide +kernel
theorem dX11_best_24 : decode cX11_best 24 = .ok (.if_icmp .ge 33, 3) := by decide +kernel
theorem dX11_best_27 : decode cX11_best 27 = .ok (.aload_n 0, 1) := by decide +kernel
theorem dX11_best_28 : decode cX11_best 28 = .ok (.iload 4, 2) := by decide +kernel
theorem dX11_best_30 : decode cX11_best 30 = .ok (.iload_n 1, 1) := by decide +kernel
theorem dX11_best_31 : decode cX11_best 31 = .ok (.invokevirtual 358, 3) := by decide +kernel
theorem dX11_best_34 : decode cX11_best 34 = .ok (.istore 5, 2) := by decide +kernel
theorem dX11_best_36 : decode cX11_best 36 = .ok (.iload 5, 2) := by decide +kernel
theorem dX11_best_38 : decode cX11_best 38 = .ok (.iload_n 3, 1) := by decide +kernel
theorem dX11_best_39 : decode cX11_best 39 = .ok (.if_icmp .gt 6, 3) := by decide +kernel
theorem dX11_best_42 : decode cX11_best 42 = .ok (.goto 9, 3) := by decide +kernel
theorem dX11_best_45 : decode cX11_best 45 = .ok (.iload 4, 2) := by decide +kernel
theorem dX11_best_47 : decode cX11_best 47 = .ok (.istore_n 2, 1) := by decide +kernel
theorem dX11_best_48 : decode cX11_best 48 = .ok (.iload 5, 2) := by decide +kernel
theorem dX11_best_50 : decode cX11_best 50 = .ok (.istore_n 3, 1) := by decide +kernel
theorem dX11_best_51 : decode cX11_best 51 = .ok (.iinc 4 1, 3) := by decide +kernel
theorem dX11_best_54 : decode cX11_best 54 = .ok (.goto (-36), 3) := by decide +kernel
theorem dX11_best_57 : decode cX11_best 57 = .ok (.iload_n 2, 1) := by decide +kernel
theorem dX11_best_58 : decode cX11_best 58 = .ok (.ireturn, 1) := by decide +kernel
theorem dX11_uses_0 : decode cX11_uses 0 = .ok (.aload_n 0, 1) := by decide +kernel
theorem dX11_uses_1 : decode cX11_uses 1 = .ok (.iload_n 1, 1) := by decide +kernel
theorem dX11_uses_2 : decode cX11_uses 2 = .ok (.invokevirtual 225, 3) := by decide +kernel
theorem dX11_uses_5 : decode cX11_uses 5 = .ok (.ifCond .eq 11, 3) := by decide +kernel
theorem dX11_uses_8 : decode cX11_uses 8 = .ok (.aload_n 0, 1) := by decide +kernel
theorem dX11_uses_9 : decode cX11_uses 9 = .ok (.iload_n 2, 1) := by decide +kernel
theorem dX11_uses_10 : decode cX11_uses 10 = .ok (.invokevirtual 283, 3) := by decide +kernel
theorem dX11_uses_13 : decode cX11_uses 13 = .ok (.ifCond .ne 5, 3) := by decide +kernel
theorem dX11_uses_16 : decode cX11_uses 16 = .ok (.iconst (-1), 1) := by decide +kernel
theorem dX11_uses_17 : decode cX11_uses 17 = .ok (.ireturn, 1) := by decide +kernel
theorem dX11_uses_18 : decode cX11_uses 18 = .ok (.aload_n 0, 1) := by decide +kernel
theorem dX11_uses_19 : decode cX11_uses 19 = .ok (.invokevirtual 349, 3) := by decide +kernel
theorem dX11_uses_22 : decode cX11_uses 22 = .ok (.aload_n 0, 1) := by decide +kernel
theorem dX11_uses_23 : decode cX11_uses 23 = .ok (.iconst 0, 1) := by decide +kernel
theorem dX11_uses_24 : decode cX11_uses 24 = .ok (.putfield 78, 3) := by decide +kernel
theorem dX11_uses_27 : decode cX11_uses 27 = .ok (.aload_n 0, 1) := by decide +kernel
theorem dX11_uses_28 : decode cX11_uses 28 = .ok (.bipush 12, 2) := by decide +kernel
theorem dX11_uses_30 : decode cX11_uses 30 = .ok (.invokevirtual 300, 3) := by decide +kernel
theorem dX11_uses_33 : decode cX11_uses 33 = .ok (.aload_n 0, 1) := by decide +kernel
theorem dX11_uses_34 : decode cX11_uses 34 = .ok (.iload_n 1, 1) := by decide +kernel
theorem dX11_uses_35 : decode cX11_uses 35 = .ok (.iload_n 2, 1) := by decide +kernel
theorem dX11_uses_36 : decode cX11_uses 36 = .ok (.invokevirtual 346, 3) := by decide +kernel
theorem dX11_uses_39 : decode cX11_uses 39 = .ok (.aload_n 0, 1) := by decide +kernel
theorem dX11_uses_40 : decode cX11_uses 40 = .ok (.getfield 99, 3) := by decide +kernel
theorem dX11_uses_43 : decode cX11_uses 43 = .ok (.istore_n 3, 1) := by decide +kernel
theorem dX11_uses_44 : decode cX11_uses 44 = .ok (.aload_n 0, 1) := by decide +kernel
theorem dX11_uses_45 : decode cX11_uses 45 = .ok (.invokevirtual 352, 3) := by decide +kernel
theorem dX11_uses_48 : decode cX11_uses 48 = .ok (.iload_n 3, 1) := by decide +kernel
theorem dX11_uses_49 : decode cX11_uses 49 = .ok (.ireturn, 1) := by decide +kernel
theorem dX11_rightTwice_0 : decode cX11_rightTwice 0 = .ok (.aload_n 0, 1) := by decide +kernel
theorem dX11_rightTwice_1 : decode cX11_rightTwice 1 = .ok (.invokevirtual 349, 3) := by decide +kernel
theorem dX11_rightTwice_4 : decode cX11_rightTwice 4 = .ok (.aload_n 0, 1) := by decide +kernel
theorem dX11_rightTwice_5 : decode cX11_rightTwice 5 = .ok (.iload_n 1, 1) := by decide +kernel
theorem dX11_rightTwice_6 : decode cX11_rightTwice 6 = .ok (.iload_n 2, 1) := by decide +kernel
theorem dX11_rightTwice_7 : decode cX11_rightTwice 7 = .ok (.invokevirtual 346, 3) := by decide +kernel
theorem dX11_rightTwice_10 : decode cX11_rightTwice 10 = .ok (.aload_n 0, 1) := by decide +kernel
theorem dX11_rightTwice_11 : decode cX11_rightTwice 11 = .ok (.iload_n 3, 1) := by decide +kernel
theorem dX11_rightTwice_12 : decode cX11_rightTwice 12 = .ok (.invokevirtual 315, 3) := by decide +kernel
theorem dX11_rightTwice_15 : decode cX11_rightTwice 15 = .ok (.aload_n 0, 1) := by decide +kernel
theorem dX11_rightTwice_16 : decode cX11_rightTwice 16 = .ok (.iload 4, 2) := by decide +kernel
theorem dX11_rightTwice_18 : decode cX11_rightTwice 18 = .ok (.iload 5, 2) := by decide +kernel
theorem dX11_rightTwice_20 : decode cX11_rightTwice 20 = .ok (.invokevirtual 346, 3) := by decide +kernel
theorem dX11_rightTwice_23 : decode cX11_rightTwice 23 = .ok (.aload_n 0, 1) := by decide +kernel
theorem dX11_rightTwice_24 : decode cX11_rightTwice 24 = .ok (.invokevirtual 318, 3) := by decide +kernel
theorem dX11_rightTwice_27 : decode cX11_rightTwice 27 = .ok (.istore 6, 2) := by decide +kernel
theorem dX11_rightTwice_29 : decode cX11_rightTwice 29 = .ok (.aload_n 0, 1) := by decide +kernel
theorem dX11_rightTwice_30 : decode cX11_rightTwice 30 = .ok (.invokevirtual 352, 3) := by decide +kernel
theorem dX11_rightTwice_33 : decode cX11_rightTwice 33 = .ok (.iload 6, 2) := by decide +kernel
theorem dX11_rightTwice_35 : decode cX11_rightTwice 35 = .ok (.ireturn, 1) := by decide +kernel
theorem dX11_way_0 : decode cX11_way 0 = .ok (.aload_n 0, 1) := by decide +kernel
theorem dX11_way_1 : decode cX11_way 1 = .ok (.iload_n 1, 1) := by decide +kernel
theorem dX11_way_2 : decode cX11_way 2 = .ok (.invokevirtual 225, 3) := by decide +kernel
theorem dX11_way_5 : decode cX11_way 5 = .ok (.ifCond .eq 39, 3) := by decide +kernel
theorem dX11_way_8 : decode cX11_way 8 = .ok (.aload_n 0, 1) := by decide +kernel
theorem dX11_way_9 : decode cX11_way 9 = .ok (.iload_n 2, 1) := by decide +kernel
theorem dX11_way_10 : decode cX11_way 10 = .ok (.invokevirtual 283, 3) := by decide +kernel
theorem dX11_way_13 : decode cX11_way 13 = .ok (.ifCond .eq 31, 3) := by decide +kernel
theorem dX11_way_16 : decode cX11_way 16 = .ok (.aload_n 0, 1) := by decide +kernel
theorem dX11_way_17 : decode cX11_way 17 = .ok (.iload_n 3, 1) := by decide +kernel
theorem dX11_way_18 : decode cX11_way 18 = .ok (.invokevirtual 225, 3) := by decide +kernel
theorem dX11_way_21 : decode cX11_way 21 = .ok (.ifCond .eq 23, 3) := by decide +kernel
theorem dX11_way_24 : decode cX11_way 24 = .ok (.aload_n 0, 1) := by decide +kernel
theorem dX11_way_25 : decode cX11_way 25 = .ok (.iload 4, 2) := by decide +kernel
theorem dX11_way_27 : decode cX11_way 27 = .ok (.invokevirtual 283, 3) := by decide +kernel
theorem dX11_way_30 : decode cX11_way 30 = .ok (.ifCond .eq 14, 3) := by decide +kernel
theorem dX11_way_33 : decode cX11_way 33 = .ok (.aload_n 0, 1) := by decide +kernel
theorem dX11_way_34 : decode cX11_way 34 = .ok (.iload 5, 2) := by decide +kernel
theorem dX11_way_36 : decode cX11_way 36 = .ok (.iconst 0, 1) := by decide +kernel
theorem dX11_way_37 : decode cX11_way 37 = .ok (.iconst 1, 1) := by decide +kernel
theorem dX11_way_38 : decode cX11_way 38 = .ok (.invokevirtual 221, 3) := by decide +kernel
theorem dX11_way_41 : decode cX11_way 41 = .ok (.ifCond .ne 5, 3) := by decide +kernel
theorem dX11_way_44 : decode cX11_way 44 = .ok (.iconst (-1), 1) := by decide +kernel
theorem dX11_way_45 : decode cX11_way 45 = .ok (.ireturn, 1) := by decide +kernel
theorem dX11_way_46 : decode cX11_way 46 = .ok (.iconst 0, 1) := by decide +kernel
theorem dX11_way_47 : decode cX11_way 47 = .ok (.istore 6, 2) := by decide +kernel
theorem dX11_way_49 : decode cX11_way 49 = .ok (.iconst (-1), 1) := by decide +kernel
theorem dX11_way_50 : decode cX11_way 50 = .ok (.istore 7, 2) := by decide +kernel
theorem dX11_way_52 : decode cX11_way 52 = .ok (.iconst 0, 1) := by decide +kernel
theorem dX11_way_53 : decode cX11_way 53 = .ok (.istore 8, 2) := by decide +kernel
theorem dX11_way_55 : decode cX11_way 55 = .ok (.iload 8, 2) := by decide +kernel
theorem dX11_way_57 : decode cX11_way 57 = .ok (.iconst 4, 1) := by decide +kernel
theorem dX11_way_58 : decode cX11_way 58 = .ok (.if_icmp .ge 40, 3) := by decide +kernel
theorem dX11_way_61 : decode cX11_way 61 = .ok (.aload_n 0, 1) := by decide +kernel
theorem dX11_way_62 : decode cX11_way 62 = .ok (.iload_n 1, 1) := by decide +kernel
theorem dX11_way_63 : decode cX11_way 63 = .ok (.iload_n 2, 1) := by decide +kernel
theorem dX11_way_64 : decode cX11_way 64 = .ok (.iload 8, 2) := by decide +kernel
theorem dX11_way_66 : decode cX11_way 66 = .ok (.iload_n 3, 1) := by decide +kernel
theorem dX11_way_67 : decode cX11_way 67 = .ok (.iload 4, 2) := by decide +kernel
theorem dX11_way_69 : decode cX11_way 69 = .ok (.invokevirtual 361, 3) := by decide +kernel
theorem dX11_way_72 : decode cX11_way 72 = .ok (.istore 9, 2) := by decide +kernel
theorem dX11_way_74 : decode cX11_way 74 = .ok (.iload 9, 2) := by decide +kernel
theorem dX11_way_76 : decode cX11_way 76 = .ok (.iload 7, 2) := by decide +kernel
theorem dX11_way_78 : decode cX11_way 78 = .ok (.if_icmp .gt 6, 3) := by decide +kernel
theorem dX11_way_81 : decode cX11_way 81 = .ok (.goto 11, 3) := by decide +kernel
theorem dX11_way_84 : decode cX11_way 84 = .ok (.iload 8, 2) := by decide +kernel
theorem dX11_way_86 : decode cX11_way 86 = .ok (.istore 6, 2) := by decide +kernel
theorem dX11_way_88 : decode cX11_way 88 = .ok (.iload 9, 2) := by decide +kernel
theorem dX11_way_90 : decode cX11_way 90 = .ok (.istore 7, 2) := by decide +kernel
theorem dX11_way_92 : decode cX11_way 92 = .ok (.iinc 8 1, 3) := by decide +kernel
theorem dX11_way_95 : decode cX11_way 95 = .ok (.goto (-40), 3) := by decide +kernel
theorem dX11_way_98 : decode cX11_way 98 = .ok (.iload 5, 2) := by decide +kernel
theorem dX11_way_100 : decode cX11_way 100 = .ok (.ifCond .ne 8, 3) := by decide +kernel
theorem dX11_way_103 : decode cX11_way 103 = .ok (.iload 6, 2) := by decide +kernel
theorem dX11_way_105 : decode cX11_way 105 = .ok (.goto 5, 3) := by decide +kernel
theorem dX11_way_108 : decode cX11_way 108 = .ok (.iload 7, 2) := by decide +kernel
theorem dX11_way_110 : decode cX11_way 110 = .ok (.ireturn, 1) := by decide +kernel
theorem dX11_twice_0 : decode cX11_twice 0 = .ok (.aload_n 0, 1) := by decide +kernel
theorem dX11_twice_1 : decode cX11_twice 1 = .ok (.iload_n 1, 1) := by decide +kernel
theorem dX11_twice_2 : decode cX11_twice 2 = .ok (.invokevirtual 283, 3) := by decide +kernel
theorem dX11_twice_5 : decode cX11_twice 5 = .ok (.ifCond .eq 21, 3) := by decide +kernel
theorem dX11_twice_8 : decode cX11_twice 8 = .ok (.aload_n 0, 1) := by decide +kernel
theorem dX11_twice_9 : decode cX11_twice 9 = .ok (.iload_n 2, 1) := by decide +kernel
theorem dX11_twice_10 : decode cX11_twice 10 = .ok (.invokevirtual 283, 3) := by decide +kernel
theorem dX11_twice_13 : decode cX11_twice 13 = .ok (.ifCond .eq 13, 3) := by decide +kernel
theorem dX11_twice_16 : decode cX11_twice 16 = .ok (.aload_n 0, 1) := by decide +kernel
theorem dX11_twice_17 : decode cX11_twice 17 = .ok (.iload_n 3, 1) := by decide +kernel
theorem dX11_twice_18 : decode cX11_twice 18 = .ok (.iconst 0, 1) := by decide +kernel
theorem dX11_twice_19 : decode cX11_twice 19 = .ok (.iconst 1, 1) := by decide +kernel
theorem dX11_twice_20 : decode cX11_twice 20 = .ok (.invokevirtual 221, 3) := by decide +kernel
theorem dX11_twice_23 : decode cX11_twice 23 = .ok (.ifCond .ne 5, 3) := by decide +kernel
theorem dX11_twice_26 : decode cX11_twice 26 = .ok (.iconst (-1), 1) := by decide +kernel
theorem dX11_twice_27 : decode cX11_twice 27 = .ok (.ireturn, 1) := by decide +kernel
theorem dX11_twice_28 : decode cX11_twice 28 = .ok (.bipush (-5), 2) := by decide +kernel
theorem dX11_twice_30 : decode cX11_twice 30 = .ok (.istore 4, 2) := by decide +kernel
theorem dX11_twice_32 : decode cX11_twice 32 = .ok (.iconst (-1), 1) := by decide +kernel
theorem dX11_twice_33 : decode cX11_twice 33 = .ok (.istore 5, 2) := by decide +kernel
theorem dX11_twice_35 : decode cX11_twice 35 = .ok (.iconst 0, 1) := by decide +kernel
theorem dX11_twice_36 : decode cX11_twice 36 = .ok (.istore 6, 2) := by decide +kernel
theorem dX11_twice_38 : decode cX11_twice 38 = .ok (.iload 6, 2) := by decide +kernel
theorem dX11_twice_40 : decode cX11_twice 40 = .ok (.aload_n 0, 1) := by decide +kernel
theorem dX11_twice_41 : decode cX11_twice 41 = .ok (.getfield 7, 3) := by decide +kernel
theorem dX11_twice_44 : decode cX11_twice 44 = .ok (.if_icmp .ge 86, 3) := by decide +kernel
theorem dX11_twice_47 : decode cX11_twice 47 = .ok (.iconst 0, 1) := by decide +kernel
theorem dX11_twice_48 : decode cX11_twice 48 = .ok (.istore 7, 2) := by decide +kernel
theorem dX11_twice_50 : decode cX11_twice 50 = .ok (.iload 7, 2) := by decide +kernel
theorem dX11_twice_52 : decode cX11_twice 52 = .ok (.iconst 4, 1) := by decide +kernel
theorem dX11_twice_53 : decode cX11_twice 53 = .ok (.if_icmp .ge 71, 3) := by decide +kernel
theorem dX11_twice_56 : decode cX11_twice 56 = .ok (.iconst 0, 1) := by decide +kernel
theorem dX11_twice_57 : decode cX11_twice 57 = .ok (.istore 8, 2) := by decide +kernel
theorem dX11_twice_59 : decode cX11_twice 59 = .ok (.iload 8, 2) := by decide +kernel
theorem dX11_twice_61 : decode cX11_twice 61 = .ok (.aload_n 0, 1) := by decide +kernel
theorem dX11_twice_62 : decode cX11_twice 62 = .ok (.getfield 7, 3) := by decide +kernel
theorem dX11_twice_65 : decode cX11_twice 65 = .ok (.if_icmp .ge 53, 3) := by decide +kernel
theorem dX11_twice_68 : decode cX11_twice 68 = .ok (.aload_n 0, 1) := by decide +kernel
theorem dX11_twice_69 : decode cX11_twice 69 = .ok (.iload 6, 2) := by decide +kernel
theorem dX11_twice_71 : decode cX11_twice 71 = .ok (.iload_n 1, 1) := by decide +kernel
theorem dX11_twice_72 : decode cX11_twice 72 = .ok (.iload 7, 2) := by decide +kernel
theorem dX11_twice_74 : decode cX11_twice 74 = .ok (.iload 8, 2) := by decide +kernel
theorem dX11_twice_76 : decode cX11_twice 76 = .ok (.iload_n 2, 1) := by decide +kernel
theorem dX11_twice_77 : decode cX11_twice 77 = .ok (.invokevirtual 361, 3) := by decide +kernel
theorem dX11_twice_80 : decode cX11_twice 80 = .ok (.istore 9, 2) := by decide +kernel
theorem dX11_twice_82 : decode cX11_twice 82 = .ok (.iload 9, 2) := by decide +kernel
theorem dX11_twice_84 : decode cX11_twice 84 = .ok (.iload 5, 2) := by decide +kernel
theorem dX11_twice_86 : decode cX11_twice 86 = .ok (.if_icmp .gt 6, 3) := by decide +kernel
theorem dX11_twice_89 : decode cX11_twice 89 = .ok (.goto 23, 3) := by decide +kernel
theorem dX11_twice_92 : decode cX11_twice 92 = .ok (.bipush 100, 2) := by decide +kernel
theorem dX11_twice_94 : decode cX11_twice 94 = .ok (.iload 6, 2) := by decide +kernel
theorem dX11_twice_96 : decode cX11_twice 96 = .ok (.imul, 1) := by decide +kernel
theorem dX11_twice_97 : decode cX11_twice 97 = .ok (.bipush 10, 2) := by decide +kernel
theorem dX11_twice_99 : decode cX11_twice 99 = .ok (.iload 7, 2) := by decide +kernel
theorem dX11_twice_101 : decode cX11_twice 101 = .ok (.imul, 1) := by decide +kernel
theorem dX11_twice_102 : decode cX11_twice 102 = .ok (.iadd, 1) := by decide +kernel
theorem dX11_twice_103 : decode cX11_twice 103 = .ok (.iload 8, 2) := by decide +kernel
theorem dX11_twice_105 : decode cX11_twice 105 = .ok (.iadd, 1) := by decide +kernel
theorem dX11_twice_106 : decode cX11_twice 106 = .ok (.istore 4, 2) := by decide +kernel
theorem dX11_twice_108 : decode cX11_twice 108 = .ok (.iload 9, 2) := by decide +kernel
theorem dX11_twice_110 : decode cX11_twice 110 = .ok (.istore 5, 2) := by decide +kernel
theorem dX11_twice_112 : decode cX11_twice 112 = .ok (.iinc 8 1, 3) := by decide +kernel
theorem dX11_twice_115 : decode cX11_twice 115 = .ok (.goto (-56), 3) := by decide +kernel
theorem dX11_twice_118 : decode cX11_twice 118 = .ok (.iinc 7 1, 3) := by decide +kernel
theorem dX11_twice_121 : decode cX11_twice 121 = .ok (.goto (-71), 3) := by decide +kernel
theorem dX11_twice_124 : decode cX11_twice 124 = .ok (.iinc 6 1, 3) := by decide +kernel
theorem dX11_twice_127 : decode cX11_twice 127 = .ok (.goto (-89), 3) := by decide +kernel
theorem dX11_twice_130 : decode cX11_twice 130 = .ok (.iload_n 3, 1) := by decide +kernel
theorem dX11_twice_131 : decode cX11_twice 131 = .ok (.ifCond .ne 8, 3) := by decide +kernel
theorem dX11_twice_134 : decode cX11_twice 134 = .ok (.iload 4, 2) := by decide +kernel
theorem dX11_twice_136 : decode cX11_twice 136 = .ok (.goto 14, 3) := by decide +kernel
theorem dX11_twice_139 : decode cX11_twice 139 = .ok (.iload 5, 2) := by decide +kernel
theorem dX11_twice_141 : decode cX11_twice 141 = .ok (.ifCond .ge 7, 3) := by decide +kernel
theorem dX11_twice_144 : decode cX11_twice 144 = .ok (.iconst 0, 1) := by decide +kernel
theorem dX11_twice_145 : decode cX11_twice 145 = .ok (.goto 5, 3) := by decide +kernel
theorem dX11_twice_148 : decode cX11_twice 148 = .ok (.iload 5, 2) := by decide +kernel
theorem dX11_twice_150 : decode cX11_twice 150 = .ok (.ireturn, 1) := by decide +kernel
theorem dX11_find_0 : decode cX11_find 0 = .ok (.aload_n 0, 1) := by decide +kernel
theorem dX11_find_1 : decode cX11_find 1 = .ok (.iload_n 1, 1) := by decide +kernel
theorem dX11_find_2 : decode cX11_find 2 = .ok (.iconst 1, 1) := by decide +kernel
theorem dX11_find_3 : decode cX11_find 3 = .ok (.bipush 60, 2) := by decide +kernel
theorem dX11_find_5 : decode cX11_find 5 = .ok (.invokevirtual 221, 3) := by decide +kernel
theorem dX11_find_8 : decode cX11_find 8 = .ok (.ifCond .ne 6, 3) := by decide +kernel
theorem dX11_find_11 : decode cX11_find 11 = .ok (.bipush (-2), 2) := by decide +kernel
theorem dX11_find_13 : decode cX11_find 13 = .ok (.ireturn, 1) := by decide +kernel
theorem dX11_find_14 : decode cX11_find 14 = .ok (.iconst 0, 1) := by decide +kernel
theorem dX11_find_15 : decode cX11_find 15 = .ok (.istore_n 2, 1) := by decide +kernel
theorem dX11_find_16 : decode cX11_find 16 = .ok (.iload_n 2, 1) := by decide +kernel
theorem dX11_find_17 : decode cX11_find 17 = .ok (.iconst 2, 1) := by decide +kernel
theorem dX11_find_18 : decode cX11_find 18 = .ok (.aload_n 0, 1) := by decide +kernel
theorem dX11_find_19 : decode cX11_find 19 = .ok (.getfield 78, 3) := by decide +kernel
theorem dX11_find_22 : decode cX11_find 22 = .ok (.imul, 1) := by decide +kernel
theorem dX11_find_23 : decode cX11_find 23 = .ok (.if_icmp .ge 30, 3) := by decide +kernel
theorem dX11_find_26 : decode cX11_find 26 = .ok (.aload_n 0, 1) := by decide +kernel
theorem dX11_find_27 : decode cX11_find 27 = .ok (.getfield 81, 3) := by decide +kernel
theorem dX11_find_30 : decode cX11_find 30 = .ok (.iload_n 2, 1) := by decide +kernel
theorem dX11_find_31 : decode cX11_find 31 = .ok (.iaload, 1) := by decide +kernel
theorem dX11_find_32 : decode cX11_find 32 = .ok (.iload_n 1, 1) := by decide +kernel
theorem dX11_find_33 : decode cX11_find 33 = .ok (.if_icmp .ne 14, 3) := by decide +kernel
theorem dX11_find_36 : decode cX11_find 36 = .ok (.bipush 10, 2) := by decide +kernel
theorem dX11_find_38 : decode cX11_find 38 = .ok (.iload_n 2, 1) := by decide +kernel
theorem dX11_find_39 : decode cX11_find 39 = .ok (.iconst 2, 1) := by decide +kernel
theorem dX11_find_40 : decode cX11_find 40 = .ok (.idiv, 1) := by decide +kernel
theorem dX11_find_41 : decode cX11_find 41 = .ok (.imul, 1) := by decide +kernel
theorem dX11_find_42 : decode cX11_find 42 = .ok (.iload_n 2, 1) := by decide +kernel
theorem dX11_find_43 : decode cX11_find 43 = .ok (.iconst 2, 1) := by decide +kernel
theorem dX11_find_44 : decode cX11_find 44 = .ok (.irem, 1) := by decide +kernel
theorem dX11_find_45 : decode cX11_find 45 = .ok (.iadd, 1) := by decide +kernel
theorem dX11_find_46 : decode cX11_find 46 = .ok (.ireturn, 1) := by decide +kernel
theorem dX11_find_47 : decode cX11_find 47 = .ok (.iinc 2 1, 3) := by decide +kernel
theorem dX11_find_50 : decode cX11_find 50 = .ok (.goto (-34), 3) := by decide +kernel
theorem dX11_find_53 : decode cX11_find 53 = .ok (.bipush (-5), 2) := by decide +kernel
theorem dX11_find_55 : decode cX11_find 55 = .ok (.ireturn, 1) := by decide +kernel
theorem dX11_isOn_0 : decode cX11_isOn 0 = .ok (.aload_n 0, 1) := by decide +kernel
theorem dX11_isOn_1 : decode cX11_isOn 1 = .ok (.iload_n 1, 1) := by decide +kernel
theorem dX11_isOn_2 : decode cX11_isOn 2 = .ok (.iconst 0, 1) := by decide +kernel
theorem dX11_isOn_3 : decode cX11_isOn 3 = .ok (.bipush 11, 2) := by decide +kernel
theorem dX11_isOn_5 : decode cX11_isOn 5 = .ok (.invokevirtual 221, 3) := by decide +kernel
theorem dX11_isOn_8 : decode cX11_isOn 8 = .ok (.ifCond .eq 34, 3) := by decide +kernel
theorem dX11_isOn_11 : decode cX11_isOn 11 = .ok (.aload_n 0, 1) := by decide +kernel
theorem dX11_isOn_12 : decode cX11_isOn 12 = .ok (.iload_n 2, 1) := by decide +kernel
theorem dX11_isOn_13 : decode cX11_isOn 13 = .ok (.iconst 0, 1) := by decide +kernel
theorem dX11_isOn_14 : decode cX11_isOn 14 = .ok (.iconst 1, 1) := by decide +kernel
theorem dX11_isOn_15 : decode cX11_isOn 15 = .ok (.invokevirtual 221, 3) := by decide +kernel
theorem dX11_isOn_18 : decode cX11_isOn 18 = .ok (.ifCond .eq 24, 3) := by decide +kernel
theorem dX11_isOn_21 : decode cX11_isOn 21 = .ok (.aload_n 0, 1) := by decide +kernel
theorem dX11_isOn_22 : decode cX11_isOn 22 = .ok (.iload_n 3, 1) := by decide +kernel
theorem dX11_isOn_23 : decode cX11_isOn 23 = .ok (.iconst 0, 1) := by decide +kernel
theorem dX11_isOn_24 : decode cX11_isOn 24 = .ok (.bipush 60, 2) := by decide +kernel
theorem dX11_isOn_26 : decode cX11_isOn 26 = .ok (.invokevirtual 221, 3) := by decide +kernel
theorem dX11_isOn_29 : decode cX11_isOn 29 = .ok (.ifCond .ne 9, 3) := by decide +kernel
theorem dX11_isOn_32 : decode cX11_isOn 32 = .ok (.iload_n 3, 1) := by decide +kernel
theorem dX11_isOn_33 : decode cX11_isOn 33 = .ok (.bipush 99, 2) := by decide +kernel
theorem dX11_isOn_35 : decode cX11_isOn 35 = .ok (.if_icmp .ne 7, 3) := by decide +kernel
theorem dX11_isOn_38 : decode cX11_isOn 38 = .ok (.iconst 1, 1) := by decide +kernel
theorem dX11_isOn_39 : decode cX11_isOn 39 = .ok (.goto 4, 3) := by decide +kernel
theorem dX11_isOn_42 : decode cX11_isOn 42 = .ok (.iconst 0, 1) := by decide +kernel
theorem dX11_isOn_43 : decode cX11_isOn 43 = .ok (.ireturn, 1) := by decide +kernel
theorem dX11_see_0 : decode cX11_see 0 = .ok (.iload_n 1, 1) := by decide +kernel
theorem dX11_see_1 : decode cX11_see 1 = .ok (.iconst (-1), 1) := by decide +kernel
theorem dX11_see_2 : decode cX11_see 2 = .ok (.if_icmp .ne 10, 3) := by decide +kernel
theorem dX11_see_5 : decode cX11_see 5 = .ok (.aload_n 0, 1) := by decide +kernel
theorem dX11_see_6 : decode cX11_see 6 = .ok (.iconst 0, 1) := by decide +kernel
theorem dX11_see_7 : decode cX11_see 7 = .ok (.putfield 114, 3) := by decide +kernel
theorem dX11_see_10 : decode cX11_see 10 = .ok (.iconst 0, 1) := by decide +kernel
theorem dX11_see_11 : decode cX11_see 11 = .ok (.ireturn, 1) := by decide +kernel
theorem dX11_see_12 : decode cX11_see 12 = .ok (.aload_n 0, 1) := by decide +kernel
theorem dX11_see_13 : decode cX11_see 13 = .ok (.iload_n 1, 1) := by decide +kernel
theorem dX11_see_14 : decode cX11_see 14 = .ok (.iload_n 2, 1) := by decide +kernel
theorem dX11_see_15 : decode cX11_see 15 = .ok (.iload_n 3, 1) := by decide +kernel
theorem dX11_see_16 : decode cX11_see 16 = .ok (.invokevirtual 365, 3) := by decide +kernel
theorem dX11_see_19 : decode cX11_see 19 = .ok (.ifCond .ne 6, 3) := by decide +kernel
theorem dX11_see_22 : decode cX11_see 22 = .ok (.bipush (-2), 2) := by decide +kernel
theorem dX11_see_24 : decode cX11_see 24 = .ok (.ireturn, 1) := by decide +kernel
theorem dX11_see_25 : decode cX11_see 25 = .ok (.aload_n 0, 1) := by decide +kernel
theorem dX11_see_26 : decode cX11_see 26 = .ok (.getfield 114, 3) := by decide +kernel
theorem dX11_see_29 : decode cX11_see 29 = .ok (.iconst 5, 1) := by decide +kernel
theorem dX11_see_30 : decode cX11_see 30 = .ok (.if_icmp .ne 6, 3) := by decide +kernel
theorem dX11_see_33 : decode cX11_see 33 = .ok (.bipush (-4), 2) := by decide +kernel
theorem dX11_see_35 : decode cX11_see 35 = .ok (.ireturn, 1) := by decide +kernel
theorem dX11_see_36 : decode cX11_see 36 = .ok (.aload_n 0, 1) := by decide +kernel
theorem dX11_see_37 : decode cX11_see 37 = .ok (.getfield 117, 3) := by decide +kernel
theorem dX11_see_40 : decode cX11_see 40 = .ok (.aload_n 0, 1) := by decide +kernel
theorem dX11_see_41 : decode cX11_see 41 = .ok (.getfield 114, 3) := by decide +kernel
theorem dX11_see_44 : decode cX11_see 44 = .ok (.iconst 2, 1) := by decide +kernel
theorem dX11_see_45 : decode cX11_see 45 = .ok (.iload_n 1, 1) := by decide +kernel
theorem dX11_see_46 : decode cX11_see 46 = .ok (.imul, 1) := by decide +kernel
theorem dX11_see_47 : decode cX11_see 47 = .ok (.iload_n 2, 1) := by decide +kernel
theorem dX11_see_48 : decode cX11_see 48 = .ok (.iadd, 1) := by decide +kernel
theorem dX11_see_49 : decode cX11_see 49 = .ok (.iastore, 1) := by decide +kernel
theorem dX11_see_50 : decode cX11_see 50 = .ok (.aload_n 0, 1) := by decide +kernel
theorem dX11_see_51 : decode cX11_see 51 = .ok (.getfield 120, 3) := by decide +kernel
theorem dX11_see_54 : decode cX11_see 54 = .ok (.aload_n 0, 1) := by decide +kernel
theorem dX11_see_55 : decode cX11_see 55 = .ok (.getfield 114, 3) := by decide +kernel
theorem dX11_see_58 : decode cX11_see 58 = .ok (.iload_n 3, 1) := by decide +kernel
theorem dX11_see_59 : decode cX11_see 59 = .ok (.iastore, 1) := by decide +kernel
theorem dX11_see_60 : decode cX11_see 60 = .ok (.aload_n 0, 1) := by decide +kernel
theorem dX11_see_61 : decode cX11_see 61 = .ok (.dup, 1) := by decide +kernel
theorem dX11_see_62 : decode cX11_see 62 = .ok (.getfield 114, 3) := by decide +kernel
theorem dX11_see_65 : decode cX11_see 65 = .ok (.iconst 1, 1) := by decide +kernel
theorem dX11_see_66 : decode cX11_see 66 = .ok (.iadd, 1) := by decide +kernel
theorem dX11_see_67 : decode cX11_see 67 = .ok (.putfield 114, 3) := by decide +kernel
theorem dX11_see_70 : decode cX11_see 70 = .ok (.aload_n 0, 1) := by decide +kernel
theorem dX11_see_71 : decode cX11_see 71 = .ok (.getfield 114, 3) := by decide +kernel
theorem dX11_see_74 : decode cX11_see 74 = .ok (.ireturn, 1) := by decide +kernel
theorem dX11_on_0 : decode cX11_on 0 = .ok (.iload_n 1, 1) := by decide +kernel
theorem dX11_on_1 : decode cX11_on 1 = .ok (.iconst 2, 1) := by decide +kernel
theorem dX11_on_2 : decode cX11_on 2 = .ok (.aload_n 0, 1) := by decide +kernel
theorem dX11_on_3 : decode cX11_on 3 = .ok (.getfield 78, 3) := by decide +kernel
theorem dX11_on_6 : decode cX11_on 6 = .ok (.imul, 1) := by decide +kernel
theorem dX11_on_7 : decode cX11_on 7 = .ok (.if_icmp .ge 12, 3) := by decide +kernel
theorem dX11_on_10 : decode cX11_on 10 = .ok (.aload_n 0, 1) := by decide +kernel
theorem dX11_on_11 : decode cX11_on 11 = .ok (.getfield 81, 3) := by decide +kernel
theorem dX11_on_14 : decode cX11_on 14 = .ok (.iload_n 1, 1) := by decide +kernel
theorem dX11_on_15 : decode cX11_on 15 = .ok (.iaload, 1) := by decide +kernel
theorem dX11_on_16 : decode cX11_on 16 = .ok (.goto 4, 3) := by decide +kernel
theorem dX11_on_19 : decode cX11_on 19 = .ok (.iconst 0, 1) := by decide +kernel
theorem dX11_on_20 : decode cX11_on 20 = .ok (.ireturn, 1) := by decide +kernel
theorem dX11_isSeenAfter_0 : decode cX11_isSeenAfter 0 = .ok (.aload_n 0, 1) := by decide +kernel
theorem dX11_isSeenAfter_1 : decode cX11_isSeenAfter 1 = .ok (.invokevirtual 349, 3) := by decide +kernel
theorem dX11_isSeenAfter_4 : decode cX11_isSeenAfter 4 = .ok (.aload_n 0, 1) := by decide +kernel
theorem dX11_isSeenAfter_5 : decode cX11_isSeenAfter 5 = .ok (.iload_n 1, 1) := by decide +kernel
theorem dX11_isSeenAfter_6 : decode cX11_isSeenAfter 6 = .ok (.iload_n 2, 1) := by decide +kernel
theorem dX11_isSeenAfter_7 : decode cX11_isSeenAfter 7 = .ok (.invokevirtual 346, 3) := by decide +kernel
theorem dX11_isSeenAfter_10 : decode cX11_isSeenAfter 10 = .ok (.iconst 1, 1) := by decide +kernel
theorem dX11_isSeenAfter_11 : decode cX11_isSeenAfter 11 = .ok (.istore_n 3, 1) := by decide +kernel
theorem dX11_isSeenAfter_12 : decode cX11_isSeenAfter 12 = .ok (.iconst 0, 1) := by decide +kernel
theorem dX11_isSeenAfter_13 : decode cX11_isSeenAfter 13 = .ok (.istore 4, 2) := by decide +kernel
theorem dX11_isSeenAfter_15 : decode cX11_isSeenAfter 15 = .ok (.iload 4, 2) := by decide +kernel
theorem dX11_isSeenAfter_17 : decode cX11_isSeenAfter 17 = .ok (.aload_n 0, 1) := by decide +kernel
theorem dX11_isSeenAfter_18 : decode cX11_isSeenAfter 18 = .ok (.getfield 114, 3) := by decide +kernel
theorem dX11_isSeenAfter_21 : decode cX11_isSeenAfter 21 = .ok (.if_icmp .ge 40, 3) := by decide +kernel
theorem dX11_isSeenAfter_24 : decode cX11_isSeenAfter 24 = .ok (.iload_n 3, 1) := by decide +kernel
theorem dX11_isSeenAfter_25 : decode cX11_isSeenAfter 25 = .ok (.ifCond .eq 28, 3) := by decide +kernel
theorem dX11_isSeenAfter_28 : decode cX11_isSeenAfter 28 = .ok (.aload_n 0, 1) := by decide +kernel
theorem dX11_isSeenAfter_29 : decode cX11_isSeenAfter 29 = .ok (.aload_n 0, 1) := by decide +kernel
theorem dX11_isSeenAfter_30 : decode cX11_isSeenAfter 30 = .ok (.getfield 117, 3) := by decide +kernel
theorem dX11_isSeenAfter_33 : decode cX11_isSeenAfter 33 = .ok (.iload 4, 2) := by decide +kernel
theorem dX11_isSeenAfter_35 : decode cX11_isSeenAfter 35 = .ok (.iaload, 1) := by decide +kernel
theorem dX11_isSeenAfter_36 : decode cX11_isSeenAfter 36 = .ok (.invokevirtual 368, 3) := by decide +kernel
theorem dX11_isSeenAfter_39 : decode cX11_isSeenAfter 39 = .ok (.aload_n 0, 1) := by decide +kernel
theorem dX11_isSeenAfter_40 : decode cX11_isSeenAfter 40 = .ok (.getfield 120, 3) := by decide +kernel
theorem dX11_isSeenAfter_43 : decode cX11_isSeenAfter 43 = .ok (.iload 4, 2) := by decide +kernel
theorem dX11_isSeenAfter_45 : decode cX11_isSeenAfter 45 = .ok (.iaload, 1) := by decide +kernel
theorem dX11_isSeenAfter_46 : decode cX11_isSeenAfter 46 = .ok (.if_icmp .ne 7, 3) := by decide +kernel
theorem dX11_isSeenAfter_49 : decode cX11_isSeenAfter 49 = .ok (.iconst 1, 1) := by decide +kernel
theorem dX11_isSeenAfter_50 : decode cX11_isSeenAfter 50 = .ok (.goto 4, 3) := by decide +kernel
theorem dX11_isSeenAfter_53 : decode cX11_isSeenAfter 53 = .ok (.iconst 0, 1) := by decide +kernel
theorem dX11_isSeenAfter_54 : decode cX11_isSeenAfter 54 = .ok (.istore_n 3, 1) := by decide +kernel
theorem dX11_isSeenAfter_55 : decode cX11_isSeenAfter 55 = .ok (.iinc 4 1, 3) := by decide +kernel
theorem dX11_isSeenAfter_58 : decode cX11_isSeenAfter 58 = .ok (.goto (-43), 3) := by decide +kernel
theorem dX11_isSeenAfter_61 : decode cX11_isSeenAfter 61 = .ok (.aload_n 0, 1) := by decide +kernel
theorem dX11_isSeenAfter_62 : decode cX11_isSeenAfter 62 = .ok (.invokevirtual 352, 3) := by decide +kernel
theorem dX11_isSeenAfter_65 : decode cX11_isSeenAfter 65 = .ok (.iload_n 3, 1) := by decide +kernel
theorem dX11_isSeenAfter_66 : decode cX11_isSeenAfter 66 = .ok (.ireturn, 1) := by decide +kernel
theorem dX11_which_0 : decode cX11_which 0 = .ok (.aload_n 0, 1) := by decide +kernel
theorem dX11_which_1 : decode cX11_which 1 = .ok (.iload_n 1, 1) := by decide +kernel
theorem dX11_which_2 : decode cX11_which 2 = .ok (.invokevirtual 283, 3) := by decide +kernel
theorem dX11_which_5 : decode cX11_which 5 = .ok (.ifCond .ne 5, 3) := by decide +kernel
theorem dX11_which_8 : decode cX11_which 8 = .ok (.iconst (-1), 1) := by decide +kernel
theorem dX11_which_9 : decode cX11_which 9 = .ok (.ireturn, 1) := by decide +kernel
theorem dX11_which_10 : decode cX11_which 10 = .ok (.iconst 0, 1) := by decide +kernel
theorem dX11_which_11 : decode cX11_which 11 = .ok (.istore_n 2, 1) := by decide +kernel
theorem dX11_which_12 : decode cX11_which 12 = .ok (.iconst 0, 1) := by decide +kernel
theorem dX11_which_13 : decode cX11_which 13 = .ok (.istore_n 3, 1) := by decide +kernel
theorem dX11_which_14 : decode cX11_which 14 = .ok (.iload_n 3, 1) := by decide +kernel
theorem dX11_which_15 : decode cX11_which 15 = .ok (.aload_n 0, 1) := by decide +kernel
theorem dX11_which_16 : decode cX11_which 16 = .ok (.getfield 7, 3) := by decide +kernel
theorem dX11_which_19 : decode cX11_which 19 = .ok (.if_icmp .ge 28, 3) := by decide +kernel
theorem dX11_which_22 : decode cX11_which 22 = .ok (.iload_n 2, 1) := by decide +kernel
theorem dX11_which_23 : decode cX11_which 23 = .ok (.aload_n 0, 1) := by decide +kernel
theorem dX11_which_24 : decode cX11_which 24 = .ok (.iload_n 3, 1) := by decide +kernel
theorem dX11_which_25 : decode cX11_which 25 = .ok (.iload_n 1, 1) := by decide +kernel
theorem dX11_which_26 : decode cX11_which 26 = .ok (.invokevirtual 371, 3) := by decide +kernel
theorem dX11_which_29 : decode cX11_which 29 = .ok (.ifCond .eq 9, 3) := by decide +kernel
theorem dX11_which_32 : decode cX11_which 32 = .ok (.iconst 1, 1) := by decide +kernel
theorem dX11_which_33 : decode cX11_which 33 = .ok (.iload_n 3, 1) := by decide +kernel
theorem dX11_which_34 : decode cX11_which 34 = .ok (.ishl, 1) := by decide +kernel
theorem dX11_which_35 : decode cX11_which 35 = .ok (.goto 4, 3) := by decide +kernel
theorem dX11_which_38 : decode cX11_which 38 = .ok (.iconst 0, 1) := by decide +kernel
theorem dX11_which_39 : decode cX11_which 39 = .ok (.ior, 1) := by decide +kernel
theorem dX11_which_40 : decode cX11_which 40 = .ok (.istore_n 2, 1) := by decide +kernel
theorem dX11_which_41 : decode cX11_which 41 = .ok (.iinc 3 1, 3) := by decide +kernel
theorem dX11_which_44 : decode cX11_which 44 = .ok (.goto (-30), 3) := by decide +kernel
theorem dX11_which_47 : decode cX11_which 47 = .ok (.iload_n 2, 1) := by decide +kernel
theorem dX11_which_48 : decode cX11_which 48 = .ok (.ireturn, 1) := by decide +kernel
theorem dX11_can_0 : decode cX11_can 0 = .ok (.aload_n 0, 1) := by decide +kernel
theorem dX11_can_1 : decode cX11_can 1 = .ok (.iload_n 1, 1) := by decide +kernel
theorem dX11_can_2 : decode cX11_can 2 = .ok (.invokevirtual 225, 3) := by decide +kernel
theorem dX11_can_5 : decode cX11_can 5 = .ok (.ifCond .eq 21, 3) := by decide +kernel
theorem dX11_can_8 : decode cX11_can 8 = .ok (.aload_n 0, 1) := by decide +kernel
theorem dX11_can_9 : decode cX11_can 9 = .ok (.iload_n 2, 1) := by decide +kernel
theorem dX11_can_10 : decode cX11_can 10 = .ok (.invokevirtual 283, 3) := by decide +kernel
theorem dX11_can_13 : decode cX11_can 13 = .ok (.ifCond .eq 13, 3) := by decide +kernel
theorem dX11_can_16 : decode cX11_can 16 = .ok (.aload_n 0, 1) := by decide +kernel
theorem dX11_can_17 : decode cX11_can 17 = .ok (.iload_n 3, 1) := by decide +kernel
theorem dX11_can_18 : decode cX11_can 18 = .ok (.iconst 0, 1) := by decide +kernel
theorem dX11_can_19 : decode cX11_can 19 = .ok (.iconst 1, 1) := by decide +kernel
theorem dX11_can_20 : decode cX11_can 20 = .ok (.invokevirtual 221, 3) := by decide +kernel
theorem dX11_can_23 : decode cX11_can 23 = .ok (.ifCond .ne 5, 3) := by decide +kernel
theorem dX11_can_26 : decode cX11_can 26 = .ok (.iconst (-1), 1) := by decide +kernel
theorem dX11_can_27 : decode cX11_can 27 = .ok (.ireturn, 1) := by decide +kernel
theorem dX11_can_28 : decode cX11_can 28 = .ok (.aload_n 0, 1) := by decide +kernel
theorem dX11_can_29 : decode cX11_can 29 = .ok (.getfield 17, 3) := by decide +kernel
theorem dX11_can_32 : decode cX11_can 32 = .ok (.iload_n 1, 1) := by decide +kernel
theorem dX11_can_33 : decode cX11_can 33 = .ok (.iaload, 1) := by decide +kernel
theorem dX11_can_34 : decode cX11_can 34 = .ok (.istore 4, 2) := by decide +kernel
theorem dX11_can_36 : decode cX11_can 36 = .ok (.iconst 0, 1) := by decide +kernel
theorem dX11_can_37 : decode cX11_can 37 = .ok (.istore 5, 2) := by decide +kernel
theorem dX11_can_39 : decode cX11_can 39 = .ok (.bipush (-5), 2) := by decide +kernel
theorem dX11_can_41 : decode cX11_can 41 = .ok (.istore 6, 2) := by decide +kernel
theorem dX11_can_43 : decode cX11_can 43 = .ok (.bipush 9, 2) := by decide +kernel
theorem dX11_can_45 : decode cX11_can 45 = .ok (.istore 7, 2) := by decide +kernel
theorem dX11_can_47 : decode cX11_can 47 = .ok (.iload 7, 2) := by decide +kernel
theorem dX11_can_49 : decode cX11_can 49 = .ok (.ifCond .lt 36, 3) := by decide +kernel
theorem dX11_can_52 : decode cX11_can 52 = .ok (.aload_n 0, 1) := by decide +kernel
theorem dX11_can_53 : decode cX11_can 53 = .ok (.getfield 17, 3) := by decide +kernel
theorem dX11_can_56 : decode cX11_can 56 = .ok (.iload_n 1, 1) := by decide +kernel
theorem dX11_can_57 : decode cX11_can 57 = .ok (.iload 7, 2) := by decide +kernel
theorem dX11_can_59 : decode cX11_can 59 = .ok (.iastore, 1) := by decide +kernel
theorem dX11_can_60 : decode cX11_can 60 = .ok (.aload_n 0, 1) := by decide +kernel
theorem dX11_can_61 : decode cX11_can 61 = .ok (.iload_n 1, 1) := by decide +kernel
theorem dX11_can_62 : decode cX11_can 62 = .ok (.iload_n 2, 1) := by decide +kernel
theorem dX11_can_63 : decode cX11_can 63 = .ok (.invokevirtual 371, 3) := by decide +kernel
theorem dX11_can_66 : decode cX11_can 66 = .ok (.ifCond .ne 6, 3) := by decide +kernel
theorem dX11_can_69 : decode cX11_can 69 = .ok (.goto 10, 3) := by decide +kernel
theorem dX11_can_72 : decode cX11_can 72 = .ok (.iinc 5 1, 3) := by decide +kernel
theorem dX11_can_75 : decode cX11_can 75 = .ok (.iload 7, 2) := by decide +kernel
theorem dX11_can_77 : decode cX11_can 77 = .ok (.istore 6, 2) := by decide +kernel
theorem dX11_can_79 : decode cX11_can 79 = .ok (.iinc 7 (-1), 3) := by decide +kernel
theorem dX11_can_82 : decode cX11_can 82 = .ok (.goto (-35), 3) := by decide +kernel
theorem dX11_can_85 : decode cX11_can 85 = .ok (.aload_n 0, 1) := by decide +kernel
theorem dX11_can_86 : decode cX11_can 86 = .ok (.getfield 17, 3) := by decide +kernel
theorem dX11_can_89 : decode cX11_can 89 = .ok (.iload_n 1, 1) := by decide +kernel
theorem dX11_can_90 : decode cX11_can 90 = .ok (.iload 4, 2) := by decide +kernel
theorem dX11_can_92 : decode cX11_can 92 = .ok (.iastore, 1) := by decide +kernel
theorem dX11_can_93 : decode cX11_can 93 = .ok (.iload_n 3, 1) := by decide +kernel
theorem dX11_can_94 : decode cX11_can 94 = .ok (.ifCond .ne 8, 3) := by decide +kernel
theorem dX11_can_97 : decode cX11_can 97 = .ok (.iload 5, 2) := by decide +kernel
theorem dX11_can_99 : decode cX11_can 99 = .ok (.goto 5, 3) := by decide +kernel
theorem dX11_can_102 : decode cX11_can 102 = .ok (.iload 6, 2) := by decide +kernel
theorem dX11_can_104 : decode cX11_can 104 = .ok (.ireturn, 1) := by decide +kernel
theorem dX11_divisor_0 : decode cX11_divisor 0 = .ok (.iload_n 1, 1) := by decide +kernel
theorem dX11_divisor_1 : decode cX11_divisor 1 = .ok (.istore_n 3, 1) := by decide +kernel
theorem dX11_divisor_2 : decode cX11_divisor 2 = .ok (.iload_n 2, 1) := by decide +kernel
theorem dX11_divisor_3 : decode cX11_divisor 3 = .ok (.istore 4, 2) := by decide +kernel
theorem dX11_divisor_5 : decode cX11_divisor 5 = .ok (.iload 4, 2) := by decide +kernel
theorem dX11_divisor_7 : decode cX11_divisor 7 = .ok (.ifCond .eq 19, 3) := by decide +kernel
theorem dX11_divisor_10 : decode cX11_divisor 10 = .ok (.iload_n 3, 1) := by decide +kernel
theorem dX11_divisor_11 : decode cX11_divisor 11 = .ok (.iload 4, 2) := by decide +kernel
theorem dX11_divisor_13 : decode cX11_divisor 13 = .ok (.irem, 1) := by decide +kernel
theorem dX11_divisor_14 : decode cX11_divisor 14 = .ok (.istore 5, 2) := by decide +kernel
theorem dX11_divisor_16 : decode cX11_divisor 16 = .ok (.iload 4, 2) := by decide +kernel
theorem dX11_divisor_18 : decode cX11_divisor 18 = .ok (.istore_n 3, 1) := by decide +kernel
theorem dX11_divisor_19 : decode cX11_divisor 19 = .ok (.iload 5, 2) := by decide +kernel
theorem dX11_divisor_21 : decode cX11_divisor 21 = .ok (.istore 4, 2) := by decide +kernel
theorem dX11_divisor_23 : decode cX11_divisor 23 = .ok (.goto (-18), 3) := by decide +kernel
theorem dX11_divisor_26 : decode cX11_divisor 26 = .ok (.iload_n 3, 1) := by decide +kernel
theorem dX11_divisor_27 : decode cX11_divisor 27 = .ok (.ireturn, 1) := by decide +kernel
theorem dX11_lowest_0 : decode cX11_lowest 0 = .ok (.aload_n 0, 1) := by decide +kernel
theorem dX11_lowest_1 : decode cX11_lowest 1 = .ok (.iload_n 1, 1) := by decide +kernel
theorem dX11_lowest_2 : decode cX11_lowest 2 = .ok (.iload_n 2, 1) := by decide +kernel
theorem dX11_lowest_3 : decode cX11_lowest 3 = .ok (.invokevirtual 374, 3) := by decide +kernel
theorem dX11_lowest_6 : decode cX11_lowest 6 = .ok (.istore 4, 2) := by decide +kernel
theorem dX11_lowest_8 : decode cX11_lowest 8 = .ok (.iload_n 3, 1) := by decide +kernel
theorem dX11_lowest_9 : decode cX11_lowest 9 = .ok (.ifCond .ne 11, 3) := by decide +kernel
theorem dX11_lowest_12 : decode cX11_lowest 12 = .ok (.iload_n 1, 1) := by decide +kernel
theorem dX11_lowest_13 : decode cX11_lowest 13 = .ok (.iload 4, 2) := by decide +kernel
theorem dX11_lowest_15 : decode cX11_lowest 15 = .ok (.idiv, 1) := by decide +kernel
theorem dX11_lowest_16 : decode cX11_lowest 16 = .ok (.i2l, 1) := by decide +kernel
theorem dX11_lowest_17 : decode cX11_lowest 17 = .ok (.goto 8, 3) := by decide +kernel
theorem dX11_lowest_20 : decode cX11_lowest 20 = .ok (.iload_n 2, 1) := by decide +kernel
theorem dX11_lowest_21 : decode cX11_lowest 21 = .ok (.iload 4, 2) := by decide +kernel
theorem dX11_lowest_23 : decode cX11_lowest 23 = .ok (.idiv, 1) := by decide +kernel
theorem dX11_lowest_24 : decode cX11_lowest 24 = .ok (.i2l, 1) := by decide +kernel
theorem dX11_lowest_25 : decode cX11_lowest 25 = .ok (.lreturn, 1) := by decide +kernel
theorem dX11_odds_0 : decode cX11_odds 0 = .ok (.aload_n 0, 1) := by decide +kernel
theorem dX11_odds_1 : decode cX11_odds 1 = .ok (.iload_n 1, 1) := by decide +kernel
theorem dX11_odds_2 : decode cX11_odds 2 = .ok (.invokevirtual 283, 3) := by decide +kernel
theorem dX11_odds_5 : decode cX11_odds 5 = .ok (.ifCond .eq 31, 3) := by decide +kernel
theorem dX11_odds_8 : decode cX11_odds 8 = .ok (.aload_n 0, 1) := by decide +kernel
theorem dX11_odds_9 : decode cX11_odds 9 = .ok (.iload_n 2, 1) := by decide +kernel
theorem dX11_odds_10 : decode cX11_odds 10 = .ok (.iconst 0, 1) := by decide +kernel
theorem dX11_odds_11 : decode cX11_odds 11 = .ok (.bipush 12, 2) := by decide +kernel
theorem dX11_odds_13 : decode cX11_odds 13 = .ok (.invokevirtual 221, 3) := by decide +kernel
theorem dX11_odds_16 : decode cX11_odds 16 = .ok (.ifCond .eq 20, 3) := by decide +kernel
theorem dX11_odds_19 : decode cX11_odds 19 = .ok (.aload_n 0, 1) := by decide +kernel
theorem dX11_odds_20 : decode cX11_odds 20 = .ok (.iload_n 3, 1) := by decide +kernel
theorem dX11_odds_21 : decode cX11_odds 21 = .ok (.iconst 0, 1) := by decide +kernel
theorem dX11_odds_22 : decode cX11_odds 22 = .ok (.iconst 1, 1) := by decide +kernel
theorem dX11_odds_23 : decode cX11_odds 23 = .ok (.invokevirtual 221, 3) := by decide +kernel
theorem dX11_odds_26 : decode cX11_odds 26 = .ok (.ifCond .eq 10, 3) := by decide +kernel
theorem dX11_odds_29 : decode cX11_odds 29 = .ok (.aload_n 0, 1) := by decide +kernel
theorem dX11_odds_30 : decode cX11_odds 30 = .ok (.getfield 7, 3) := by decide +kernel
theorem dX11_odds_33 : decode cX11_odds 33 = .ok (.ifCond .ne 7, 3) := by decide +kernel
theorem dX11_odds_36 : decode cX11_odds 36 = .ok (.ldc2_w 377, 3) := by decide +kernel
theorem dX11_odds_39 : decode cX11_odds 39 = .ok (.lreturn, 1) := by decide +kernel
theorem dX11_odds_40 : decode cX11_odds 40 = .ok (.iconst 0, 1) := by decide +kernel
theorem dX11_odds_41 : decode cX11_odds 41 = .ok (.istore 4, 2) := by decide +kernel
theorem dX11_odds_43 : decode cX11_odds 43 = .ok (.iconst 0, 1) := by decide +kernel
theorem dX11_odds_44 : decode cX11_odds 44 = .ok (.istore 5, 2) := by decide +kernel
theorem dX11_odds_46 : decode cX11_odds 46 = .ok (.iload 5, 2) := by decide +kernel
theorem dX11_odds_48 : decode cX11_odds 48 = .ok (.aload_n 0, 1) := by decide +kernel
theorem dX11_odds_49 : decode cX11_odds 49 = .ok (.getfield 7, 3) := by decide +kernel
theorem dX11_odds_52 : decode cX11_odds 52 = .ok (.if_icmp .ge 30, 3) := by decide +kernel
theorem dX11_odds_55 : decode cX11_odds 55 = .ok (.iload 4, 2) := by decide +kernel
theorem dX11_odds_57 : decode cX11_odds 57 = .ok (.aload_n 0, 1) := by decide +kernel
theorem dX11_odds_58 : decode cX11_odds 58 = .ok (.iload 5, 2) := by decide +kernel
theorem dX11_odds_60 : decode cX11_odds 60 = .ok (.iload_n 1, 1) := by decide +kernel
theorem dX11_odds_61 : decode cX11_odds 61 = .ok (.invokevirtual 358, 3) := by decide +kernel
theorem dX11_odds_64 : decode cX11_odds 64 = .ok (.iload_n 2, 1) := by decide +kernel
theorem dX11_odds_65 : decode cX11_odds 65 = .ok (.if_icmp .lt 7, 3) := by decide +kernel
theorem dX11_odds_68 : decode cX11_odds 68 = .ok (.iconst 1, 1) := by decide +kernel
theorem dX11_odds_69 : decode cX11_odds 69 = .ok (.goto 4, 3) := by decide +kernel
theorem dX11_odds_72 : decode cX11_odds 72 = .ok (.iconst 0, 1) := by decide +kernel
theorem dX11_odds_73 : decode cX11_odds 73 = .ok (.iadd, 1) := by decide +kernel
theorem dX11_odds_74 : decode cX11_odds 74 = .ok (.istore 4, 2) := by decide +kernel
theorem dX11_odds_76 : decode cX11_odds 76 = .ok (.iinc 5 1, 3) := by decide +kernel
theorem dX11_odds_79 : decode cX11_odds 79 = .ok (.goto (-33), 3) := by decide +kernel
theorem dX11_odds_82 : decode cX11_odds 82 = .ok (.aload_n 0, 1) := by decide +kernel
theorem dX11_odds_83 : decode cX11_odds 83 = .ok (.iload 4, 2) := by decide +kernel
theorem dX11_odds_85 : decode cX11_odds 85 = .ok (.aload_n 0, 1) := by decide +kernel
theorem dX11_odds_86 : decode cX11_odds 86 = .ok (.getfield 7, 3) := by decide +kernel
theorem dX11_odds_89 : decode cX11_odds 89 = .ok (.iload_n 3, 1) := by decide +kernel
theorem dX11_odds_90 : decode cX11_odds 90 = .ok (.invokevirtual 379, 3) := by decide +kernel
theorem dX11_odds_93 : decode cX11_odds 93 = .ok (.lreturn, 1) := by decide +kernel
theorem dX11_mean_0 : decode cX11_mean 0 = .ok (.aload_n 0, 1) := by decide +kernel
theorem dX11_mean_1 : decode cX11_mean 1 = .ok (.iload_n 1, 1) := by decide +kernel
theorem dX11_mean_2 : decode cX11_mean 2 = .ok (.invokevirtual 283, 3) := by decide +kernel
theorem dX11_mean_5 : decode cX11_mean 5 = .ok (.ifCond .eq 20, 3) := by decide +kernel
theorem dX11_mean_8 : decode cX11_mean 8 = .ok (.aload_n 0, 1) := by decide +kernel
theorem dX11_mean_9 : decode cX11_mean 9 = .ok (.iload_n 2, 1) := by decide +kernel
theorem dX11_mean_10 : decode cX11_mean 10 = .ok (.iconst 0, 1) := by decide +kernel
theorem dX11_mean_11 : decode cX11_mean 11 = .ok (.iconst 1, 1) := by decide +kernel
theorem dX11_mean_12 : decode cX11_mean 12 = .ok (.invokevirtual 221, 3) := by decide +kernel
theorem dX11_mean_15 : decode cX11_mean 15 = .ok (.ifCond .eq 10, 3) := by decide +kernel
theorem dX11_mean_18 : decode cX11_mean 18 = .ok (.aload_n 0, 1) := by decide +kernel
theorem dX11_mean_19 : decode cX11_mean 19 = .ok (.getfield 7, 3) := by decide +kernel
theorem dX11_mean_22 : decode cX11_mean 22 = .ok (.ifCond .ne 7, 3) := by decide +kernel
theorem dX11_mean_25 : decode cX11_mean 25 = .ok (.ldc2_w 377, 3) := by decide +kernel
theorem dX11_mean_28 : decode cX11_mean 28 = .ok (.lreturn, 1) := by decide +kernel
theorem dX11_mean_29 : decode cX11_mean 29 = .ok (.iconst 0, 1) := by decide +kernel
theorem dX11_mean_30 : decode cX11_mean 30 = .ok (.istore_n 3, 1) := by decide +kernel
theorem dX11_mean_31 : decode cX11_mean 31 = .ok (.iconst 0, 1) := by decide +kernel
theorem dX11_mean_32 : decode cX11_mean 32 = .ok (.istore 4, 2) := by decide +kernel
theorem dX11_mean_34 : decode cX11_mean 34 = .ok (.iload 4, 2) := by decide +kernel
theorem dX11_mean_36 : decode cX11_mean 36 = .ok (.aload_n 0, 1) := by decide +kernel
theorem dX11_mean_37 : decode cX11_mean 37 = .ok (.getfield 7, 3) := by decide +kernel
theorem dX11_mean_40 : decode cX11_mean 40 = .ok (.if_icmp .ge 19, 3) := by decide +kernel
theorem dX11_mean_43 : decode cX11_mean 43 = .ok (.iload_n 3, 1) := by decide +kernel
theorem dX11_mean_44 : decode cX11_mean 44 = .ok (.aload_n 0, 1) := by decide +kernel
theorem dX11_mean_45 : decode cX11_mean 45 = .ok (.iload 4, 2) := by decide +kernel
theorem dX11_mean_47 : decode cX11_mean 47 = .ok (.iload_n 1, 1) := by decide +kernel
theorem dX11_mean_48 : decode cX11_mean 48 = .ok (.invokevirtual 358, 3) := by decide +kernel
theorem dX11_mean_51 : decode cX11_mean 51 = .ok (.iadd, 1) := by decide +kernel
theorem dX11_mean_52 : decode cX11_mean 52 = .ok (.istore_n 3, 1) := by decide +kernel
theorem dX11_mean_53 : decode cX11_mean 53 = .ok (.iinc 4 1, 3) := by decide +kernel
theorem dX11_mean_56 : decode cX11_mean 56 = .ok (.goto (-22), 3) := by decide +kernel
theorem dX11_mean_59 : decode cX11_mean 59 = .ok (.aload_n 0, 1) := by decide +kernel
theorem dX11_mean_60 : decode cX11_mean 60 = .ok (.iload_n 3, 1) := by decide +kernel
theorem dX11_mean_61 : decode cX11_mean 61 = .ok (.aload_n 0, 1) := by decide +kernel
theorem dX11_mean_62 : decode cX11_mean 62 = .ok (.getfield 7, 3) := by decide +kernel
theorem dX11_mean_65 : decode cX11_mean 65 = .ok (.iload_n 2, 1) := by decide +kernel
theorem dX11_mean_66 : decode cX11_mean 66 = .ok (.invokevirtual 379, 3) := by decide +kernel
theorem dX11_mean_69 : decode cX11_mean 69 = .ok (.lreturn, 1) := by decide +kernel
theorem dX11_plan_0 : decode cX11_plan 0 = .ok (.iload_n 1, 1) := by decide +kernel
theorem dX11_plan_1 : decode cX11_plan 1 = .ok (.iconst (-1), 1) := by decide +kernel
theorem dX11_plan_2 : decode cX11_plan 2 = .ok (.if_icmp .ne 10, 3) := by decide +kernel
theorem dX11_plan_5 : decode cX11_plan 5 = .ok (.aload_n 0, 1) := by decide +kernel
theorem dX11_plan_6 : decode cX11_plan 6 = .ok (.iconst 0, 1) := by decide +kernel
theorem dX11_plan_7 : decode cX11_plan 7 = .ok (.putfield 123, 3) := by decide +kernel
theorem dX11_plan_10 : decode cX11_plan 10 = .ok (.iconst 0, 1) := by decide +kernel
theorem dX11_plan_11 : decode cX11_plan 11 = .ok (.ireturn, 1) := by decide +kernel
theorem dX11_plan_12 : decode cX11_plan 12 = .ok (.aload_n 0, 1) := by decide +kernel
theorem dX11_plan_13 : decode cX11_plan 13 = .ok (.iload_n 1, 1) := by decide +kernel
theorem dX11_plan_14 : decode cX11_plan 14 = .ok (.iconst 0, 1) := by decide +kernel
theorem dX11_plan_15 : decode cX11_plan 15 = .ok (.iconst 2, 1) := by decide +kernel
theorem dX11_plan_16 : decode cX11_plan 16 = .ok (.invokevirtual 221, 3) := by decide +kernel
theorem dX11_plan_19 : decode cX11_plan 19 = .ok (.ifCond .eq 38, 3) := by decide +kernel
theorem dX11_plan_22 : decode cX11_plan 22 = .ok (.iload_n 1, 1) := by decide +kernel
theorem dX11_plan_23 : decode cX11_plan 23 = .ok (.ifCond .ne 19, 3) := by decide +kernel
theorem dX11_plan_26 : decode cX11_plan 26 = .ok (.aload_n 0, 1) := by decide +kernel
theorem dX11_plan_27 : decode cX11_plan 27 = .ok (.iload_n 2, 1) := by decide +kernel
theorem dX11_plan_28 : decode cX11_plan 28 = .ok (.invokevirtual 225, 3) := by decide +kernel
theorem dX11_plan_31 : decode cX11_plan 31 = .ok (.ifCond .eq 26, 3) := by decide +kernel
theorem dX11_plan_34 : decode cX11_plan 34 = .ok (.aload_n 0, 1) := by decide +kernel
theorem dX11_plan_35 : decode cX11_plan 35 = .ok (.iload_n 3, 1) := by decide +kernel
theorem dX11_plan_36 : decode cX11_plan 36 = .ok (.invokevirtual 283, 3) := by decide +kernel
theorem dX11_plan_39 : decode cX11_plan 39 = .ok (.ifCond .eq 18, 3) := by decide +kernel
theorem dX11_plan_42 : decode cX11_plan 42 = .ok (.iload_n 1, 1) := by decide +kernel
theorem dX11_plan_43 : decode cX11_plan 43 = .ok (.iconst 1, 1) := by decide +kernel
theorem dX11_plan_44 : decode cX11_plan 44 = .ok (.if_icmp .ne 15, 3) := by decide +kernel
theorem dX11_plan_47 : decode cX11_plan 47 = .ok (.aload_n 0, 1) := by decide +kernel
theorem dX11_plan_48 : decode cX11_plan 48 = .ok (.iload_n 2, 1) := by decide +kernel
theorem dX11_plan_49 : decode cX11_plan 49 = .ok (.iconst 0, 1) := by decide +kernel
theorem dX11_plan_50 : decode cX11_plan 50 = .ok (.iconst 3, 1) := by decide +kernel
theorem dX11_plan_51 : decode cX11_plan 51 = .ok (.invokevirtual 221, 3) := by decide +kernel
theorem dX11_plan_54 : decode cX11_plan 54 = .ok (.ifCond .ne 5, 3) := by decide +kernel
theorem dX11_plan_57 : decode cX11_plan 57 = .ok (.iconst (-1), 1) := by decide +kernel
theorem dX11_plan_58 : decode cX11_plan 58 = .ok (.ireturn, 1) := by decide +kernel
theorem dX11_plan_59 : decode cX11_plan 59 = .ok (.iload_n 1, 1) := by decide +kernel
theorem dX11_plan_60 : decode cX11_plan 60 = .ok (.iconst 2, 1) := by decide +kernel
theorem dX11_plan_61 : decode cX11_plan 61 = .ok (.if_icmp .ne 17, 3) := by decide +kernel
theorem dX11_plan_64 : decode cX11_plan 64 = .ok (.aload_n 0, 1) := by decide +kernel
theorem dX11_plan_65 : decode cX11_plan 65 = .ok (.iload_n 2, 1) := by decide +kernel
theorem dX11_plan_66 : decode cX11_plan 66 = .ok (.iconst 1, 1) := by decide +kernel
theorem dX11_plan_67 : decode cX11_plan 67 = .ok (.bipush 12, 2) := by decide +kernel
theorem dX11_plan_69 : decode cX11_plan 69 = .ok (.invokevirtual 221, 3) := by decide +kernel
theorem dX11_plan_72 : decode cX11_plan 72 = .ok (.ifCond .ne 6, 3) := by decide +kernel
theorem dX11_plan_75 : decode cX11_plan 75 = .ok (.bipush (-2), 2) := by decide +kernel
theorem dX11_plan_77 : decode cX11_plan 77 = .ok (.ireturn, 1) := by decide +kernel
theorem dX11_plan_78 : decode cX11_plan 78 = .ok (.aload_n 0, 1) := by decide +kernel
theorem dX11_plan_79 : decode cX11_plan 79 = .ok (.getfield 123, 3) := by decide +kernel
theorem dX11_plan_82 : decode cX11_plan 82 = .ok (.bipush 6, 2) := by decide +kernel
theorem dX11_plan_84 : decode cX11_plan 84 = .ok (.if_icmp .ne 6, 3) := by decide +kernel
theorem dX11_plan_87 : decode cX11_plan 87 = .ok (.bipush (-4), 2) := by decide +kernel
theorem dX11_plan_89 : decode cX11_plan 89 = .ok (.ireturn, 1) := by decide +kernel
theorem dX11_plan_90 : decode cX11_plan 90 = .ok (.aload_n 0, 1) := by decide +kernel
theorem dX11_plan_91 : decode cX11_plan 91 = .ok (.getfield 129, 3) := by decide +kernel
theorem dX11_plan_94 : decode cX11_plan 94 = .ok (.aload_n 0, 1) := by decide +kernel
theorem dX11_plan_95 : decode cX11_plan 95 = .ok (.getfield 123, 3) := by decide +kernel
theorem dX11_plan_98 : decode cX11_plan 98 = .ok (.iload_n 1, 1) := by decide +kernel
theorem dX11_plan_99 : decode cX11_plan 99 = .ok (.iastore, 1) := by decide +kernel
theorem dX11_plan_100 : decode cX11_plan 100 = .ok (.aload_n 0, 1) := by decide +kernel
theorem dX11_plan_101 : decode cX11_plan 101 = .ok (.getfield 132, 3) := by decide +kernel
theorem dX11_plan_104 : decode cX11_plan 104 = .ok (.aload_n 0, 1) := by decide +kernel
theorem dX11_plan_105 : decode cX11_plan 105 = .ok (.getfield 123, 3) := by decide +kernel
theorem dX11_plan_108 : decode cX11_plan 108 = .ok (.iload_n 2, 1) := by decide +kernel
theorem dX11_plan_109 : decode cX11_plan 109 = .ok (.iastore, 1) := by decide +kernel
theorem dX11_plan_110 : decode cX11_plan 110 = .ok (.aload_n 0, 1) := by decide +kernel
theorem dX11_plan_111 : decode cX11_plan 111 = .ok (.getfield 135, 3) := by decide +kernel
theorem dX11_plan_114 : decode cX11_plan 114 = .ok (.aload_n 0, 1) := by decide +kernel
theorem dX11_plan_115 : decode cX11_plan 115 = .ok (.getfield 123, 3) := by decide +kernel
theorem dX11_plan_118 : decode cX11_plan 118 = .ok (.iload_n 1, 1) := by decide +kernel
theorem dX11_plan_119 : decode cX11_plan 119 = .ok (.ifCond .ne 7, 3) := by decide +kernel
theorem dX11_plan_122 : decode cX11_plan 122 = .ok (.iload_n 3, 1) := by decide +kernel
theorem dX11_plan_123 : decode cX11_plan 123 = .ok (.goto 4, 3) := by decide +kernel
theorem dX11_plan_126 : decode cX11_plan 126 = .ok (.iconst 0, 1) := by decide +kernel
theorem dX11_plan_127 : decode cX11_plan 127 = .ok (.iastore, 1) := by decide +kernel
theorem dX11_plan_128 : decode cX11_plan 128 = .ok (.aload_n 0, 1) := by decide +kernel
theorem dX11_plan_129 : decode cX11_plan 129 = .ok (.dup, 1) := by decide +kernel
theorem dX11_plan_130 : decode cX11_plan 130 = .ok (.getfield 123, 3) := by decide +kernel
theorem dX11_plan_133 : decode cX11_plan 133 = .ok (.iconst 1, 1) := by decide +kernel
theorem dX11_plan_134 : decode cX11_plan 134 = .ok (.iadd, 1) := by decide +kernel
theorem dX11_plan_135 : decode cX11_plan 135 = .ok (.putfield 123, 3) := by decide +kernel
theorem dX11_plan_138 : decode cX11_plan 138 = .ok (.aload_n 0, 1) := by decide +kernel
theorem dX11_plan_139 : decode cX11_plan 139 = .ok (.getfield 123, 3) := by decide +kernel
theorem dX11_plan_142 : decode cX11_plan 142 = .ok (.ireturn, 1) := by decide +kernel
theorem dX11_goPlan_0 : decode cX11_goPlan 0 = .ok (.aload_n 0, 1) := by decide +kernel
theorem dX11_goPlan_1 : decode cX11_goPlan 1 = .ok (.getfield 129, 3) := by decide +kernel
theorem dX11_goPlan_4 : decode cX11_goPlan 4 = .ok (.iload_n 1, 1) := by decide +kernel
theorem dX11_goPlan_5 : decode cX11_goPlan 5 = .ok (.iaload, 1) := by decide +kernel
theorem dX11_goPlan_6 : decode cX11_goPlan 6 = .ok (.ifCond .ne 19, 3) := by decide +kernel
theorem dX11_goPlan_9 : decode cX11_goPlan 9 = .ok (.aload_n 0, 1) := by decide +kernel
theorem dX11_goPlan_10 : decode cX11_goPlan 10 = .ok (.aload_n 0, 1) := by decide +kernel
theorem dX11_goPlan_11 : decode cX11_goPlan 11 = .ok (.getfield 132, 3) := by decide +kernel
theorem dX11_goPlan_14 : decode cX11_goPlan 14 = .ok (.iload_n 1, 1) := by decide +kernel
theorem dX11_goPlan_15 : decode cX11_goPlan 15 = .ok (.iaload, 1) := by decide +kernel
theorem dX11_goPlan_16 : decode cX11_goPlan 16 = .ok (.aload_n 0, 1) := by decide +kernel
theorem dX11_goPlan_17 : decode cX11_goPlan 17 = .ok (.getfield 135, 3) := by decide +kernel
theorem dX11_goPlan_20 : decode cX11_goPlan 20 = .ok (.iload_n 1, 1) := by decide +kernel
theorem dX11_goPlan_21 : decode cX11_goPlan 21 = .ok (.iaload, 1) := by decide +kernel
theorem dX11_goPlan_22 : decode cX11_goPlan 22 = .ok (.invokevirtual 346, 3) := by decide +kernel
theorem dX11_goPlan_25 : decode cX11_goPlan 25 = .ok (.aload_n 0, 1) := by decide +kernel
theorem dX11_goPlan_26 : decode cX11_goPlan 26 = .ok (.getfield 129, 3) := by decide +kernel
theorem dX11_goPlan_29 : decode cX11_goPlan 29 = .ok (.iload_n 1, 1) := by decide +kernel
theorem dX11_goPlan_30 : decode cX11_goPlan 30 = .ok (.iaload, 1) := by decide +kernel
theorem dX11_goPlan_31 : decode cX11_goPlan 31 = .ok (.iconst 1, 1) := by decide +kernel
theorem dX11_goPlan_32 : decode cX11_goPlan 32 = .ok (.if_icmp .ne 13, 3) := by decide +kernel
theorem dX11_goPlan_35 : decode cX11_goPlan 35 = .ok (.aload_n 0, 1) := by decide +kernel
theorem dX11_goPlan_36 : decode cX11_goPlan 36 = .ok (.aload_n 0, 1) := by decide +kernel
theorem dX11_goPlan_37 : decode cX11_goPlan 37 = .ok (.getfield 132, 3) := by decide +kernel
theorem dX11_goPlan_40 : decode cX11_goPlan 40 = .ok (.iload_n 1, 1) := by decide +kernel
theorem dX11_goPlan_41 : decode cX11_goPlan 41 = .ok (.iaload, 1) := by decide +kernel
theorem dX11_goPlan_42 : decode cX11_goPlan 42 = .ok (.invokevirtual 315, 3) := by decide +kernel
theorem dX11_goPlan_45 : decode cX11_goPlan 45 = .ok (.aload_n 0, 1) := by decide +kernel
theorem dX11_goPlan_46 : decode cX11_goPlan 46 = .ok (.getfield 129, 3) := by decide +kernel
theorem dX11_goPlan_49 : decode cX11_goPlan 49 = .ok (.iload_n 1, 1) := by decide +kernel
theorem dX11_goPlan_50 : decode cX11_goPlan 50 = .ok (.iaload, 1) := by decide +kernel
theorem dX11_goPlan_51 : decode cX11_goPlan 51 = .ok (.iconst 2, 1) := by decide +kernel
theorem dX11_goPlan_52 : decode cX11_goPlan 52 = .ok (.if_icmp .ne 39, 3) := by decide +kernel
theorem dX11_goPlan_55 : decode cX11_goPlan 55 = .ok (.aload_n 0, 1) := by decide +kernel
theorem dX11_goPlan_56 : decode cX11_goPlan 56 = .ok (.aload_n 0, 1) := by decide +kernel
theorem dX11_goPlan_57 : decode cX11_goPlan 57 = .ok (.getfield 132, 3) := by decide +kernel
theorem dX11_goPlan_60 : decode cX11_goPlan 60 = .ok (.iload_n 1, 1) := by decide +kernel
theorem dX11_goPlan_61 : decode cX11_goPlan 61 = .ok (.iaload, 1) := by decide +kernel
theorem dX11_goPlan_62 : decode cX11_goPlan 62 = .ok (.bipush 12, 2) := by decide +kernel
theorem dX11_goPlan_64 : decode cX11_goPlan 64 = .ok (.aload_n 0, 1) := by decide +kernel
theorem dX11_goPlan_65 : decode cX11_goPlan 65 = .ok (.getfield 78, 3) := by decide +kernel
theorem dX11_goPlan_68 : decode cX11_goPlan 68 = .ok (.isub, 1) := by decide +kernel
theorem dX11_goPlan_69 : decode cX11_goPlan 69 = .ok (.if_icmp .ge 12, 3) := by decide +kernel
theorem dX11_goPlan_72 : decode cX11_goPlan 72 = .ok (.aload_n 0, 1) := by decide +kernel
theorem dX11_goPlan_73 : decode cX11_goPlan 73 = .ok (.getfield 132, 3) := by decide +kernel
theorem dX11_goPlan_76 : decode cX11_goPlan 76 = .ok (.iload_n 1, 1) := by decide +kernel
theorem dX11_goPlan_77 : decode cX11_goPlan 77 = .ok (.iaload, 1) := by decide +kernel
theorem dX11_goPlan_78 : decode cX11_goPlan 78 = .ok (.goto 10, 3) := by decide +kernel
theorem dX11_goPlan_81 : decode cX11_goPlan 81 = .ok (.bipush 12, 2) := by decide +kernel
theorem dX11_goPlan_83 : decode cX11_goPlan 83 = .ok (.aload_n 0, 1) := by decide +kernel
theorem dX11_goPlan_84 : decode cX11_goPlan 84 = .ok (.getfield 78, 3) := by decide +kernel
theorem dX11_goPlan_87 : decode cX11_goPlan 87 = .ok (.isub, 1) := by decide +kernel
theorem dX11_goPlan_88 : decode cX11_goPlan 88 = .ok (.invokevirtual 300, 3) := by decide +kernel
theorem dX11_goPlan_91 : decode cX11_goPlan 91 = .ok (.return_, 1) := by decide +kernel
theorem dX11_done_0 : decode cX11_done 0 = .ok (.aload_n 0, 1) := by decide +kernel
theorem dX11_done_1 : decode cX11_done 1 = .ok (.iload_n 1, 1) := by decide +kernel
theorem dX11_done_2 : decode cX11_done 2 = .ok (.iconst 0, 1) := by decide +kernel
theorem dX11_done_3 : decode cX11_done 3 = .ok (.iconst 1, 1) := by decide +kernel
theorem dX11_done_4 : decode cX11_done 4 = .ok (.invokevirtual 221, 3) := by decide +kernel
theorem dX11_done_7 : decode cX11_done 7 = .ok (.ifCond .ne 5, 3) := by decide +kernel
theorem dX11_done_10 : decode cX11_done 10 = .ok (.iconst (-1), 1) := by decide +kernel
theorem dX11_done_11 : decode cX11_done 11 = .ok (.ireturn, 1) := by decide +kernel
theorem dX11_done_12 : decode cX11_done 12 = .ok (.aload_n 0, 1) := by decide +kernel
theorem dX11_done_13 : decode cX11_done 13 = .ok (.invokevirtual 349, 3) := by decide +kernel
theorem dX11_done_16 : decode cX11_done 16 = .ok (.iconst 0, 1) := by decide +kernel
theorem dX11_done_17 : decode cX11_done 17 = .ok (.istore_n 2, 1) := by decide +kernel
theorem dX11_done_18 : decode cX11_done 18 = .ok (.iload_n 2, 1) := by decide +kernel
theorem dX11_done_19 : decode cX11_done 19 = .ok (.aload_n 0, 1) := by decide +kernel
theorem dX11_done_20 : decode cX11_done 20 = .ok (.getfield 123, 3) := by decide +kernel
theorem dX11_done_23 : decode cX11_done 23 = .ok (.if_icmp .ge 14, 3) := by decide +kernel
theorem dX11_done_26 : decode cX11_done 26 = .ok (.aload_n 0, 1) := by decide +kernel
theorem dX11_done_27 : decode cX11_done 27 = .ok (.iload_n 2, 1) := by decide +kernel
theorem dX11_done_28 : decode cX11_done 28 = .ok (.invokevirtual 383, 3) := by decide +kernel
theorem dX11_done_31 : decode cX11_done 31 = .ok (.iinc 2 1, 3) := by decide +kernel
theorem dX11_done_34 : decode cX11_done 34 = .ok (.goto (-16), 3) := by decide +kernel
theorem dX11_done_37 : decode cX11_done 37 = .ok (.iload_n 1, 1) := by decide +kernel
theorem dX11_done_38 : decode cX11_done 38 = .ok (.ifCond .ne 10, 3) := by decide +kernel
theorem dX11_done_41 : decode cX11_done 41 = .ok (.aload_n 0, 1) := by decide +kernel
theorem dX11_done_42 : decode cX11_done 42 = .ok (.invokevirtual 318, 3) := by decide +kernel
theorem dX11_done_45 : decode cX11_done 45 = .ok (.goto 9, 3) := by decide +kernel
theorem dX11_done_48 : decode cX11_done 48 = .ok (.aload_n 0, 1) := by decide +kernel
theorem dX11_done_49 : decode cX11_done 49 = .ok (.bipush 99, 2) := by decide +kernel
theorem dX11_done_51 : decode cX11_done 51 = .ok (.invokevirtual 321, 3) := by decide +kernel
theorem dX11_done_54 : decode cX11_done 54 = .ok (.istore_n 2, 1) := by decide +kernel
theorem dX11_done_55 : decode cX11_done 55 = .ok (.aload_n 0, 1) := by decide +kernel
theorem dX11_done_56 : decode cX11_done 56 = .ok (.invokevirtual 352, 3) := by decide +kernel
theorem dX11_done_59 : decode cX11_done 59 = .ok (.iload_n 2, 1) := by decide +kernel
theorem dX11_done_60 : decode cX11_done 60 = .ok (.ireturn, 1) := by decide +kernel
theorem dX11_book_0 : decode cX11_book 0 = .ok (.iload_n 1, 1) := by decide +kernel
theorem dX11_book_1 : decode cX11_book 1 = .ok (.iconst (-1), 1) := by decide +kernel
theorem dX11_book_2 : decode cX11_book 2 = .ok (.if_icmp .ne 10, 3) := by decide +kernel
theorem dX11_book_5 : decode cX11_book 5 = .ok (.aload_n 0, 1) := by decide +kernel
theorem dX11_book_6 : decode cX11_book 6 = .ok (.iconst 0, 1) := by decide +kernel
theorem dX11_book_7 : decode cX11_book 7 = .ok (.putfield 126, 3) := by decide +kernel
theorem dX11_book_10 : decode cX11_book 10 = .ok (.iconst 0, 1) := by decide +kernel
theorem dX11_book_11 : decode cX11_book 11 = .ok (.ireturn, 1) := by decide +kernel
theorem dX11_book_12 : decode cX11_book 12 = .ok (.aload_n 0, 1) := by decide +kernel
theorem dX11_book_13 : decode cX11_book 13 = .ok (.iload_n 1, 1) := by decide +kernel
theorem dX11_book_14 : decode cX11_book 14 = .ok (.iload_n 2, 1) := by decide +kernel
theorem dX11_book_15 : decode cX11_book 15 = .ok (.iload_n 3, 1) := by decide +kernel
theorem dX11_book_16 : decode cX11_book 16 = .ok (.invokevirtual 365, 3) := by decide +kernel
theorem dX11_book_19 : decode cX11_book 19 = .ok (.ifCond .ne 6, 3) := by decide +kernel
theorem dX11_book_22 : decode cX11_book 22 = .ok (.bipush (-2), 2) := by decide +kernel
theorem dX11_book_24 : decode cX11_book 24 = .ok (.ireturn, 1) := by decide +kernel
theorem dX11_book_25 : decode cX11_book 25 = .ok (.aload_n 0, 1) := by decide +kernel
theorem dX11_book_26 : decode cX11_book 26 = .ok (.getfield 126, 3) := by decide +kernel
theorem dX11_book_29 : decode cX11_book 29 = .ok (.bipush 8, 2) := by decide +kernel
theorem dX11_book_31 : decode cX11_book 31 = .ok (.if_icmp .ne 6, 3) := by decide +kernel
theorem dX11_book_34 : decode cX11_book 34 = .ok (.bipush (-4), 2) := by decide +kernel
theorem dX11_book_36 : decode cX11_book 36 = .ok (.ireturn, 1) := by decide +kernel
theorem dX11_book_37 : decode cX11_book 37 = .ok (.aload_n 0, 1) := by decide +kernel
theorem dX11_book_38 : decode cX11_book 38 = .ok (.getfield 138, 3) := by decide +kernel
theorem dX11_book_41 : decode cX11_book 41 = .ok (.aload_n 0, 1) := by decide +kernel
theorem dX11_book_42 : decode cX11_book 42 = .ok (.getfield 126, 3) := by decide +kernel
theorem dX11_book_45 : decode cX11_book 45 = .ok (.iconst 2, 1) := by decide +kernel
theorem dX11_book_46 : decode cX11_book 46 = .ok (.iload_n 1, 1) := by decide +kernel
theorem dX11_book_47 : decode cX11_book 47 = .ok (.imul, 1) := by decide +kernel
theorem dX11_book_48 : decode cX11_book 48 = .ok (.iload_n 2, 1) := by decide +kernel
theorem dX11_book_49 : decode cX11_book 49 = .ok (.iadd, 1) := by decide +kernel
theorem dX11_book_50 : decode cX11_book 50 = .ok (.iastore, 1) := by decide +kernel
theorem dX11_book_51 : decode cX11_book 51 = .ok (.aload_n 0, 1) := by decide +kernel
theorem dX11_book_52 : decode cX11_book 52 = .ok (.getfield 141, 3) := by decide +kernel
theorem dX11_book_55 : decode cX11_book 55 = .ok (.aload_n 0, 1) := by decide +kernel
theorem dX11_book_56 : decode cX11_book 56 = .ok (.getfield 126, 3) := by decide +kernel
theorem dX11_book_59 : decode cX11_book 59 = .ok (.iload_n 3, 1) := by decide +kernel
theorem dX11_book_60 : decode cX11_book 60 = .ok (.iastore, 1) := by decide +kernel
theorem dX11_book_61 : decode cX11_book 61 = .ok (.aload_n 0, 1) := by decide +kernel
theorem dX11_book_62 : decode cX11_book 62 = .ok (.dup, 1) := by decide +kernel
theorem dX11_book_63 : decode cX11_book 63 = .ok (.getfield 126, 3) := by decide +kernel
theorem dX11_book_66 : decode cX11_book 66 = .ok (.iconst 1, 1) := by decide +kernel
theorem dX11_book_67 : decode cX11_book 67 = .ok (.iadd, 1) := by decide +kernel
theorem dX11_book_68 : decode cX11_book 68 = .ok (.putfield 126, 3) := by decide +kernel
theorem dX11_book_71 : decode cX11_book 71 = .ok (.aload_n 0, 1) := by decide +kernel
theorem dX11_book_72 : decode cX11_book 72 = .ok (.getfield 126, 3) := by decide +kernel
theorem dX11_book_75 : decode cX11_book 75 = .ok (.ireturn, 1) := by decide +kernel
theorem dX11_looked_0 : decode cX11_looked 0 = .ok (.iconst 0, 1) := by decide +kernel
theorem dX11_looked_1 : decode cX11_looked 1 = .ok (.istore_n 1, 1) := by decide +kernel
theorem dX11_looked_2 : decode cX11_looked 2 = .ok (.iload_n 1, 1) := by decide +kernel
theorem dX11_looked_3 : decode cX11_looked 3 = .ok (.aload_n 0, 1) := by decide +kernel
theorem dX11_looked_4 : decode cX11_looked 4 = .ok (.getfield 126, 3) := by decide +kernel
theorem dX11_looked_7 : decode cX11_looked 7 = .ok (.if_icmp .ge 30, 3) := by decide +kernel
theorem dX11_looked_10 : decode cX11_looked 10 = .ok (.aload_n 0, 1) := by decide +kernel
theorem dX11_looked_11 : decode cX11_looked 11 = .ok (.aload_n 0, 1) := by decide +kernel
theorem dX11_looked_12 : decode cX11_looked 12 = .ok (.getfield 138, 3) := by decide +kernel
theorem dX11_looked_15 : decode cX11_looked 15 = .ok (.iload_n 1, 1) := by decide +kernel
theorem dX11_looked_16 : decode cX11_looked 16 = .ok (.iaload, 1) := by decide +kernel
theorem dX11_looked_17 : decode cX11_looked 17 = .ok (.invokevirtual 368, 3) := by decide +kernel
theorem dX11_looked_20 : decode cX11_looked 20 = .ok (.aload_n 0, 1) := by decide +kernel
theorem dX11_looked_21 : decode cX11_looked 21 = .ok (.getfield 141, 3) := by decide +kernel
theorem dX11_looked_24 : decode cX11_looked 24 = .ok (.iload_n 1, 1) := by decide +kernel
theorem dX11_looked_25 : decode cX11_looked 25 = .ok (.iaload, 1) := by decide +kernel
theorem dX11_looked_26 : decode cX11_looked 26 = .ok (.if_icmp .eq 5, 3) := by decide +kernel
theorem dX11_looked_29 : decode cX11_looked 29 = .ok (.iload_n 1, 1) := by decide +kernel
theorem dX11_looked_30 : decode cX11_looked 30 = .ok (.ireturn, 1) := by decide +kernel
theorem dX11_looked_31 : decode cX11_looked 31 = .ok (.iinc 1 1, 3) := by decide +kernel
theorem dX11_looked_34 : decode cX11_looked 34 = .ok (.goto (-32), 3) := by decide +kernel
theorem dX11_looked_37 : decode cX11_looked 37 = .ok (.bipush (-5), 2) := by decide +kernel
theorem dX11_looked_39 : decode cX11_looked 39 = .ok (.ireturn, 1) := by decide +kernel
theorem dX11_judge_0 : decode cX11_judge 0 = .ok (.aload_n 0, 1) := by decide +kernel
theorem dX11_judge_1 : decode cX11_judge 1 = .ok (.iload_n 1, 1) := by decide +kernel
theorem dX11_judge_2 : decode cX11_judge 2 = .ok (.invokevirtual 386, 3) := by decide +kernel
theorem dX11_judge_5 : decode cX11_judge 5 = .ok (.ifCond .ne 5, 3) := by decide +kernel
theorem dX11_judge_8 : decode cX11_judge 8 = .ok (.iconst (-1), 1) := by decide +kernel
theorem dX11_judge_9 : decode cX11_judge 9 = .ok (.ireturn, 1) := by decide +kernel
theorem dX11_judge_10 : decode cX11_judge 10 = .ok (.aload_n 0, 1) := by decide +kernel
theorem dX11_judge_11 : decode cX11_judge 11 = .ok (.getfield 208, 3) := by decide +kernel
theorem dX11_judge_14 : decode cX11_judge 14 = .ok (.iload_n 1, 1) := by decide +kernel
theorem dX11_judge_15 : decode cX11_judge 15 = .ok (.iaload, 1) := by decide +kernel
theorem dX11_judge_16 : decode cX11_judge 16 = .ok (.ifCond .le 6, 3) := by decide +kernel
theorem dX11_judge_19 : decode cX11_judge 19 = .ok (.bipush (-12), 2) := by decide +kernel
theorem dX11_judge_21 : decode cX11_judge 21 = .ok (.ireturn, 1) := by decide +kernel
theorem dX11_judge_22 : decode cX11_judge 22 = .ok (.iconst 0, 1) := by decide +kernel
theorem dX11_judge_23 : decode cX11_judge 23 = .ok (.istore_n 3, 1) := by decide +kernel
theorem dX11_judge_24 : decode cX11_judge 24 = .ok (.iload_n 3, 1) := by decide +kernel
theorem dX11_judge_25 : decode cX11_judge 25 = .ok (.aload_n 0, 1) := by decide +kernel
theorem dX11_judge_26 : decode cX11_judge 26 = .ok (.getfield 78, 3) := by decide +kernel
theorem dX11_judge_29 : decode cX11_judge 29 = .ok (.if_icmp .ge 69, 3) := by decide +kernel
theorem dX11_judge_32 : decode cX11_judge 32 = .ok (.aload_n 0, 1) := by decide +kernel
theorem dX11_judge_33 : decode cX11_judge 33 = .ok (.getfield 208, 3) := by decide +kernel
theorem dX11_judge_36 : decode cX11_judge 36 = .ok (.iload_n 1, 1) := by decide +kernel
theorem dX11_judge_37 : decode cX11_judge 37 = .ok (.iaload, 1) := by decide +kernel
theorem dX11_judge_38 : decode cX11_judge 38 = .ok (.ifCond .lt 21, 3) := by decide +kernel
theorem dX11_judge_41 : decode cX11_judge 41 = .ok (.iload_n 2, 1) := by decide +kernel
theorem dX11_judge_42 : decode cX11_judge 42 = .ok (.ifCond .lt 17, 3) := by decide +kernel
theorem dX11_judge_45 : decode cX11_judge 45 = .ok (.iload_n 2, 1) := by decide +kernel
theorem dX11_judge_46 : decode cX11_judge 46 = .ok (.aload_n 0, 1) := by decide +kernel
theorem dX11_judge_47 : decode cX11_judge 47 = .ok (.getfield 211, 3) := by decide +kernel
theorem dX11_judge_50 : decode cX11_judge 50 = .ok (.iload_n 1, 1) := by decide +kernel
theorem dX11_judge_51 : decode cX11_judge 51 = .ok (.iaload, 1) := by decide +kernel
theorem dX11_judge_52 : decode cX11_judge 52 = .ok (.iload_n 3, 1) := by decide +kernel
theorem dX11_judge_53 : decode cX11_judge 53 = .ok (.isub, 1) := by decide +kernel
theorem dX11_judge_54 : decode cX11_judge 54 = .ok (.iconst 1, 1) := by decide +kernel
theorem dX11_judge_55 : decode cX11_judge 55 = .ok (.isub, 1) := by decide +kernel
theorem dX11_judge_56 : decode cX11_judge 56 = .ok (.if_icmp .le 8, 3) := by decide +kernel
theorem dX11_judge_59 : decode cX11_judge 59 = .ok (.bipush 100, 2) := by decide +kernel
theorem dX11_judge_61 : decode cX11_judge 61 = .ok (.iload_n 3, 1) := by decide +kernel
theorem dX11_judge_62 : decode cX11_judge 62 = .ok (.iadd, 1) := by decide +kernel
theorem dX11_judge_63 : decode cX11_judge 63 = .ok (.ireturn, 1) := by decide +kernel
theorem dX11_judge_64 : decode cX11_judge 64 = .ok (.aload_n 0, 1) := by decide +kernel
theorem dX11_judge_65 : decode cX11_judge 65 = .ok (.getfield 214, 3) := by decide +kernel
theorem dX11_judge_68 : decode cX11_judge 68 = .ok (.bipush 60, 2) := by decide +kernel
theorem dX11_judge_70 : decode cX11_judge 70 = .ok (.iload_n 1, 1) := by decide +kernel
theorem dX11_judge_71 : decode cX11_judge 71 = .ok (.imul, 1) := by decide +kernel
theorem dX11_judge_72 : decode cX11_judge 72 = .ok (.iload_n 2, 1) := by decide +kernel
theorem dX11_judge_73 : decode cX11_judge 73 = .ok (.iadd, 1) := by decide +kernel
theorem dX11_judge_74 : decode cX11_judge 74 = .ok (.iload_n 3, 1) := by decide +kernel
theorem dX11_judge_75 : decode cX11_judge 75 = .ok (.iadd, 1) := by decide +kernel
theorem dX11_judge_76 : decode cX11_judge 76 = .ok (.laload, 1) := by decide +kernel
theorem dX11_judge_77 : decode cX11_judge 77 = .ok (.aload_n 0, 1) := by decide +kernel
theorem dX11_judge_78 : decode cX11_judge 78 = .ok (.getfield 81, 3) := by decide +kernel
theorem dX11_judge_81 : decode cX11_judge 81 = .ok (.iconst 2, 1) := by decide +kernel
theorem dX11_judge_82 : decode cX11_judge 82 = .ok (.iload_n 3, 1) := by decide +kernel
theorem dX11_judge_83 : decode cX11_judge 83 = .ok (.imul, 1) := by decide +kernel
theorem dX11_judge_84 : decode cX11_judge 84 = .ok (.iaload, 1) := by decide +kernel
theorem dX11_judge_85 : decode cX11_judge 85 = .ok (.i2l, 1) := by decide +kernel
theorem dX11_judge_86 : decode cX11_judge 86 = .ok (.lcmp, 1) := by decide +kernel
theorem dX11_judge_87 : decode cX11_judge 87 = .ok (.ifCond .eq 5, 3) := by decide +kernel
theorem dX11_judge_90 : decode cX11_judge 90 = .ok (.iload_n 3, 1) := by decide +kernel
theorem dX11_judge_91 : decode cX11_judge 91 = .ok (.ireturn, 1) := by decide +kernel
theorem dX11_judge_92 : decode cX11_judge 92 = .ok (.iinc 3 1, 3) := by decide +kernel
theorem dX11_judge_95 : decode cX11_judge 95 = .ok (.goto (-71), 3) := by decide +kernel
theorem dX11_judge_98 : decode cX11_judge 98 = .ok (.bipush (-5), 2) := by decide +kernel
theorem dX11_judge_100 : decode cX11_judge 100 = .ok (.ireturn, 1) := by decide +kernel
theorem dX11_image_0 : decode cX11_image 0 = .ok (.aload_n 0, 1) := by decide +kernel
theorem dX11_image_1 : decode cX11_image 1 = .ok (.iconst 1, 1) := by decide +kernel
theorem dX11_image_2 : decode cX11_image 2 = .ok (.putfield 144, 3) := by decide +kernel
theorem dX11_image_5 : decode cX11_image 5 = .ok (.aload_n 0, 1) := by decide +kernel
theorem dX11_image_6 : decode cX11_image 6 = .ok (.aload_n 0, 1) := by decide +kernel
theorem dX11_image_7 : decode cX11_image 7 = .ok (.getfield 78, 3) := by decide +kernel
theorem dX11_image_10 : decode cX11_image 10 = .ok (.putfield 148, 3) := by decide +kernel
theorem dX11_image_13 : decode cX11_image 13 = .ok (.aload_n 0, 1) := by decide +kernel
theorem dX11_image_14 : decode cX11_image 14 = .ok (.aload_n 0, 1) := by decide +kernel
theorem dX11_image_15 : decode cX11_image 15 = .ok (.getfield 7, 3) := by decide +kernel
theorem dX11_image_18 : decode cX11_image 18 = .ok (.putfield 151, 3) := by decide +kernel
theorem dX11_image_21 : decode cX11_image 21 = .ok (.aload_n 0, 1) := by decide +kernel
theorem dX11_image_22 : decode cX11_image 22 = .ok (.aload_n 0, 1) := by decide +kernel
theorem dX11_image_23 : decode cX11_image 23 = .ok (.getfield 114, 3) := by decide +kernel
theorem dX11_image_26 : decode cX11_image 26 = .ok (.putfield 154, 3) := by decide +kernel
theorem dX11_image_29 : decode cX11_image 29 = .ok (.aload_n 0, 1) := by decide +kernel
theorem dX11_image_30 : decode cX11_image 30 = .ok (.aload_n 0, 1) := by decide +kernel
theorem dX11_image_31 : decode cX11_image 31 = .ok (.getfield 123, 3) := by decide +kernel
theorem dX11_image_34 : decode cX11_image 34 = .ok (.putfield 157, 3) := by decide +kernel
theorem dX11_image_37 : decode cX11_image 37 = .ok (.aload_n 0, 1) := by decide +kernel
theorem dX11_image_38 : decode cX11_image 38 = .ok (.aload_n 0, 1) := by decide +kernel
theorem dX11_image_39 : decode cX11_image 39 = .ok (.getfield 126, 3) := by decide +kernel
theorem dX11_image_42 : decode cX11_image 42 = .ok (.putfield 160, 3) := by decide +kernel
theorem dX11_image_45 : decode cX11_image 45 = .ok (.iconst 0, 1) := by decide +kernel
theorem dX11_image_46 : decode cX11_image 46 = .ok (.istore_n 1, 1) := by decide +kernel
theorem dX11_image_47 : decode cX11_image 47 = .ok (.iload_n 1, 1) := by decide +kernel
theorem dX11_image_48 : decode cX11_image 48 = .ok (.bipush 24, 2) := by decide +kernel
theorem dX11_image_50 : decode cX11_image 50 = .ok (.if_icmp .ge 33, 3) := by decide +kernel
theorem dX11_image_53 : decode cX11_image 53 = .ok (.aload_n 0, 1) := by decide +kernel
theorem dX11_image_54 : decode cX11_image 54 = .ok (.getfield 163, 3) := by decide +kernel
theorem dX11_image_57 : decode cX11_image 57 = .ok (.iload_n 1, 1) := by decide +kernel
theorem dX11_image_58 : decode cX11_image 58 = .ok (.aload_n 0, 1) := by decide +kernel
theorem dX11_image_59 : decode cX11_image 59 = .ok (.getfield 81, 3) := by decide +kernel
theorem dX11_image_62 : decode cX11_image 62 = .ok (.iload_n 1, 1) := by decide +kernel
theorem dX11_image_63 : decode cX11_image 63 = .ok (.iaload, 1) := by decide +kernel
theorem dX11_image_64 : decode cX11_image 64 = .ok (.iastore, 1) := by decide +kernel
theorem dX11_image_65 : decode cX11_image 65 = .ok (.aload_n 0, 1) := by decide +kernel
theorem dX11_image_66 : decode cX11_image 66 = .ok (.getfield 199, 3) := by decide +kernel
theorem dX11_image_69 : decode cX11_image 69 = .ok (.iload_n 1, 1) := by decide +kernel
theorem dX11_image_70 : decode cX11_image 70 = .ok (.aload_n 0, 1) := by decide +kernel
theorem dX11_image_71 : decode cX11_image 71 = .ok (.getfield 90, 3) := by decide +kernel
theorem dX11_image_74 : decode cX11_image 74 = .ok (.iload_n 1, 1) := by decide +kernel
theorem dX11_image_75 : decode cX11_image 75 = .ok (.baload, 1) := by decide +kernel
theorem dX11_image_76 : decode cX11_image 76 = .ok (.bastore, 1) := by decide +kernel
theorem dX11_image_77 : decode cX11_image 77 = .ok (.iinc 1 1, 3) := by decide +kernel
theorem dX11_image_80 : decode cX11_image 80 = .ok (.goto (-33), 3) := by decide +kernel
theorem dX11_image_83 : decode cX11_image 83 = .ok (.iconst 0, 1) := by decide +kernel
theorem dX11_image_84 : decode cX11_image 84 = .ok (.istore_n 1, 1) := by decide +kernel
theorem dX11_image_85 : decode cX11_image 85 = .ok (.iload_n 1, 1) := by decide +kernel
theorem dX11_image_86 : decode cX11_image 86 = .ok (.iconst 5, 1) := by decide +kernel
theorem dX11_image_87 : decode cX11_image 87 = .ok (.if_icmp .ge 69, 3) := by decide +kernel
theorem dX11_image_90 : decode cX11_image 90 = .ok (.aload_n 0, 1) := by decide +kernel
theorem dX11_image_91 : decode cX11_image 91 = .ok (.getfield 166, 3) := by decide +kernel
theorem dX11_image_94 : decode cX11_image 94 = .ok (.iload_n 1, 1) := by decide +kernel
theorem dX11_image_95 : decode cX11_image 95 = .ok (.aload_n 0, 1) := by decide +kernel
theorem dX11_image_96 : decode cX11_image 96 = .ok (.getfield 13, 3) := by decide +kernel
theorem dX11_image_99 : decode cX11_image 99 = .ok (.iload_n 1, 1) := by decide +kernel
theorem dX11_image_100 : decode cX11_image 100 = .ok (.iaload, 1) := by decide +kernel
theorem dX11_image_101 : decode cX11_image 101 = .ok (.iastore, 1) := by decide +kernel
theorem dX11_image_102 : decode cX11_image 102 = .ok (.aload_n 0, 1) := by decide +kernel
theorem dX11_image_103 : decode cX11_image 103 = .ok (.getfield 169, 3) := by decide +kernel
theorem dX11_image_106 : decode cX11_image 106 = .ok (.iload_n 1, 1) := by decide +kernel
theorem dX11_image_107 : decode cX11_image 107 = .ok (.aload_n 0, 1) := by decide +kernel
theorem dX11_image_108 : decode cX11_image 108 = .ok (.getfield 17, 3) := by decide +kernel
theorem dX11_image_111 : decode cX11_image 111 = .ok (.iload_n 1, 1) := by decide +kernel
theorem dX11_image_112 : decode cX11_image 112 = .ok (.iaload, 1) := by decide +kernel
theorem dX11_image_113 : decode cX11_image 113 = .ok (.iastore, 1) := by decide +kernel
theorem dX11_image_114 : decode cX11_image 114 = .ok (.aload_n 0, 1) := by decide +kernel
theorem dX11_image_115 : decode cX11_image 115 = .ok (.getfield 172, 3) := by decide +kernel
theorem dX11_image_118 : decode cX11_image 118 = .ok (.iload_n 1, 1) := by decide +kernel
theorem dX11_image_119 : decode cX11_image 119 = .ok (.aload_n 0, 1) := by decide +kernel
theorem dX11_image_120 : decode cX11_image 120 = .ok (.getfield 20, 3) := by decide +kernel
theorem dX11_image_123 : decode cX11_image 123 = .ok (.iload_n 1, 1) := by decide +kernel
theorem dX11_image_124 : decode cX11_image 124 = .ok (.iaload, 1) := by decide +kernel
theorem dX11_image_125 : decode cX11_image 125 = .ok (.iastore, 1) := by decide +kernel
theorem dX11_image_126 : decode cX11_image 126 = .ok (.aload_n 0, 1) := by decide +kernel
theorem dX11_image_127 : decode cX11_image 127 = .ok (.getfield 178, 3) := by decide +kernel
theorem dX11_image_130 : decode cX11_image 130 = .ok (.iload_n 1, 1) := by decide +kernel
theorem dX11_image_131 : decode cX11_image 131 = .ok (.aload_n 0, 1) := by decide +kernel
theorem dX11_image_132 : decode cX11_image 132 = .ok (.getfield 117, 3) := by decide +kernel
theorem dX11_image_135 : decode cX11_image 135 = .ok (.iload_n 1, 1) := by decide +kernel
theorem dX11_image_136 : decode cX11_image 136 = .ok (.iaload, 1) := by decide +kernel
theorem dX11_image_137 : decode cX11_image 137 = .ok (.iastore, 1) := by decide +kernel
theorem dX11_image_138 : decode cX11_image 138 = .ok (.aload_n 0, 1) := by decide +kernel
theorem dX11_image_139 : decode cX11_image 139 = .ok (.getfield 181, 3) := by decide +kernel
theorem dX11_image_142 : decode cX11_image 142 = .ok (.iload_n 1, 1) := by decide +kernel
theorem dX11_image_143 : decode cX11_image 143 = .ok (.aload_n 0, 1) := by decide +kernel
theorem dX11_image_144 : decode cX11_image 144 = .ok (.getfield 120, 3) := by decide +kernel
theorem dX11_image_147 : decode cX11_image 147 = .ok (.iload_n 1, 1) := by decide +kernel
theorem dX11_image_148 : decode cX11_image 148 = .ok (.iaload, 1) := by decide +kernel
theorem dX11_image_149 : decode cX11_image 149 = .ok (.iastore, 1) := by decide +kernel
theorem dX11_image_150 : decode cX11_image 150 = .ok (.iinc 1 1, 3) := by decide +kernel
theorem dX11_image_153 : decode cX11_image 153 = .ok (.goto (-68), 3) := by decide +kernel
theorem dX11_image_156 : decode cX11_image 156 = .ok (.iconst 0, 1) := by decide +kernel
theorem dX11_image_157 : decode cX11_image 157 = .ok (.istore_n 1, 1) := by decide +kernel
theorem dX11_image_158 : decode cX11_image 158 = .ok (.iload_n 1, 1) := by decide +kernel
theorem dX11_image_159 : decode cX11_image 159 = .ok (.bipush 20, 2) := by decide +kernel
theorem dX11_image_161 : decode cX11_image 161 = .ok (.if_icmp .ge 21, 3) := by decide +kernel
theorem dX11_image_164 : decode cX11_image 164 = .ok (.aload_n 0, 1) := by decide +kernel
theorem dX11_image_165 : decode cX11_image 165 = .ok (.getfield 175, 3) := by decide +kernel
theorem dX11_image_168 : decode cX11_image 168 = .ok (.iload_n 1, 1) := by decide +kernel
theorem dX11_image_169 : decode cX11_image 169 = .ok (.aload_n 0, 1) := by decide +kernel
theorem dX11_image_170 : decode cX11_image 170 = .ok (.getfield 23, 3) := by decide +kernel
theorem dX11_image_173 : decode cX11_image 173 = .ok (.iload_n 1, 1) := by decide +kernel
theorem dX11_image_174 : decode cX11_image 174 = .ok (.iaload, 1) := by decide +kernel
theorem dX11_image_175 : decode cX11_image 175 = .ok (.iastore, 1) := by decide +kernel
theorem dX11_image_176 : decode cX11_image 176 = .ok (.iinc 1 1, 3) := by decide +kernel
theorem dX11_image_179 : decode cX11_image 179 = .ok (.goto (-21), 3) := by decide +kernel
theorem dX11_image_182 : decode cX11_image 182 = .ok (.iconst 0, 1) := by decide +kernel
theorem dX11_image_183 : decode cX11_image 183 = .ok (.istore_n 1, 1) := by decide +kernel
theorem dX11_image_184 : decode cX11_image 184 = .ok (.iload_n 1, 1) := by decide +kernel
theorem dX11_image_185 : decode cX11_image 185 = .ok (.bipush 6, 2) := by decide +kernel
theorem dX11_image_187 : decode cX11_image 187 = .ok (.if_icmp .ge 45, 3) := by decide +kernel
theorem dX11_image_190 : decode cX11_image 190 = .ok (.aload_n 0, 1) := by decide +kernel
theorem dX11_image_191 : decode cX11_image 191 = .ok (.getfield 184, 3) := by decide +kernel
theorem dX11_image_194 : decode cX11_image 194 = .ok (.iload_n 1, 1) := by decide +kernel
theorem dX11_image_195 : decode cX11_image 195 = .ok (.aload_n 0, 1) := by decide +kernel
theorem dX11_image_196 : decode cX11_image 196 = .ok (.getfield 129, 3) := by decide +kernel
theorem dX11_image_199 : decode cX11_image 199 = .ok (.iload_n 1, 1) := by decide +kernel
theorem dX11_image_200 : decode cX11_image 200 = .ok (.iaload, 1) := by decide +kernel
theorem dX11_image_201 : decode cX11_image 201 = .ok (.iastore, 1) := by decide +kernel
theorem dX11_image_202 : decode cX11_image 202 = .ok (.aload_n 0, 1) := by decide +kernel
theorem dX11_image_203 : decode cX11_image 203 = .ok (.getfield 187, 3) := by decide +kernel
theorem dX11_image_206 : decode cX11_image 206 = .ok (.iload_n 1, 1) := by decide +kernel
theorem dX11_image_207 : decode cX11_image 207 = .ok (.aload_n 0, 1) := by decide +kernel
theorem dX11_image_208 : decode cX11_image 208 = .ok (.getfield 132, 3) := by decide +kernel
theorem dX11_image_211 : decode cX11_image 211 = .ok (.iload_n 1, 1) := by decide +kernel
theorem dX11_image_212 : decode cX11_image 212 = .ok (.iaload, 1) := by decide +kernel
theorem dX11_image_213 : decode cX11_image 213 = .ok (.iastore, 1) := by decide +kernel
theorem dX11_image_214 : decode cX11_image 214 = .ok (.aload_n 0, 1) := by decide +kernel
theorem dX11_image_215 : decode cX11_image 215 = .ok (.getfield 190, 3) := by decide +kernel
theorem dX11_image_218 : decode cX11_image 218 = .ok (.iload_n 1, 1) := by decide +kernel
theorem dX11_image_219 : decode cX11_image 219 = .ok (.aload_n 0, 1) := by decide +kernel
theorem dX11_image_220 : decode cX11_image 220 = .ok (.getfield 135, 3) := by decide +kernel
theorem dX11_image_223 : decode cX11_image 223 = .ok (.iload_n 1, 1) := by decide +kernel
theorem dX11_image_224 : decode cX11_image 224 = .ok (.iaload, 1) := by decide +kernel
theorem dX11_image_225 : decode cX11_image 225 = .ok (.iastore, 1) := by decide +kernel
theorem dX11_image_226 : decode cX11_image 226 = .ok (.iinc 1 1, 3) := by decide +kernel
theorem dX11_image_229 : decode cX11_image 229 = .ok (.goto (-45), 3) := by decide +kernel
theorem dX11_image_232 : decode cX11_image 232 = .ok (.iconst 0, 1) := by decide +kernel
theorem dX11_image_233 : decode cX11_image 233 = .ok (.istore_n 1, 1) := by decide +kernel
theorem dX11_image_234 : decode cX11_image 234 = .ok (.iload_n 1, 1) := by decide +kernel
theorem dX11_image_235 : decode cX11_image 235 = .ok (.bipush 8, 2) := by decide +kernel
theorem dX11_image_237 : decode cX11_image 237 = .ok (.if_icmp .ge 33, 3) := by decide +kernel
theorem dX11_image_240 : decode cX11_image 240 = .ok (.aload_n 0, 1) := by decide +kernel
theorem dX11_image_241 : decode cX11_image 241 = .ok (.getfield 193, 3) := by decide +kernel
theorem dX11_image_244 : decode cX11_image 244 = .ok (.iload_n 1, 1) := by decide +kernel
theorem dX11_image_245 : decode cX11_image 245 = .ok (.aload_n 0, 1) := by decide +kernel
theorem dX11_image_246 : decode cX11_image 246 = .ok (.getfield 138, 3) := by decide +kernel
theorem dX11_image_249 : decode cX11_image 249 = .ok (.iload_n 1, 1) := by decide +kernel
theorem dX11_image_250 : decode cX11_image 250 = .ok (.iaload, 1) := by decide +kernel
theorem dX11_image_251 : decode cX11_image 251 = .ok (.iastore, 1) := by decide +kernel
theorem dX11_image_252 : decode cX11_image 252 = .ok (.aload_n 0, 1) := by decide +kernel
theorem dX11_image_253 : decode cX11_image 253 = .ok (.getfield 196, 3) := by decide +kernel
theorem dX11_image_256 : decode cX11_image 256 = .ok (.iload_n 1, 1) := by decide +kernel
theorem dX11_image_257 : decode cX11_image 257 = .ok (.aload_n 0, 1) := by decide +kernel
theorem dX11_image_258 : decode cX11_image 258 = .ok (.getfield 141, 3) := by decide +kernel
theorem dX11_image_261 : decode cX11_image 261 = .ok (.iload_n 1, 1) := by decide +kernel
theorem dX11_image_262 : decode cX11_image 262 = .ok (.iaload, 1) := by decide +kernel
theorem dX11_image_263 : decode cX11_image 263 = .ok (.iastore, 1) := by decide +kernel
theorem dX11_image_264 : decode cX11_image 264 = .ok (.iinc 1 1, 3) := by decide +kernel
theorem dX11_image_267 : decode cX11_image 267 = .ok (.goto (-33), 3) := by decide +kernel
theorem dX11_image_270 : decode cX11_image 270 = .ok (.aload_n 0, 1) := by decide +kernel
theorem dX11_image_271 : decode cX11_image 271 = .ok (.getfield 78, 3) := by decide +kernel
theorem dX11_image_274 : decode cX11_image 274 = .ok (.ireturn, 1) := by decide +kernel
theorem dX11_undo_0 : decode cX11_undo 0 = .ok (.aload_n 0, 1) := by decide +kernel
theorem dX11_undo_1 : decode cX11_undo 1 = .ok (.getfield 144, 3) := by decide +kernel
theorem dX11_undo_4 : decode cX11_undo 4 = .ok (.ifCond .ne 6, 3) := by decide +kernel
theorem dX11_undo_7 : decode cX11_undo 7 = .ok (.bipush (-3), 2) := by decide +kernel
theorem dX11_undo_9 : decode cX11_undo 9 = .ok (.ireturn, 1) := by decide +kernel
theorem dX11_undo_10 : decode cX11_undo 10 = .ok (.aload_n 0, 1) := by decide +kernel
theorem dX11_undo_11 : decode cX11_undo 11 = .ok (.aload_n 0, 1) := by decide +kernel
theorem dX11_undo_12 : decode cX11_undo 12 = .ok (.getfield 148, 3) := by decide +kernel
theorem dX11_undo_15 : decode cX11_undo 15 = .ok (.putfield 78, 3) := by decide +kernel
theorem dX11_undo_18 : decode cX11_undo 18 = .ok (.aload_n 0, 1) := by decide +kernel
theorem dX11_undo_19 : decode cX11_undo 19 = .ok (.aload_n 0, 1) := by decide +kernel
theorem dX11_undo_20 : decode cX11_undo 20 = .ok (.getfield 151, 3) := by decide +kernel
theorem dX11_undo_23 : decode cX11_undo 23 = .ok (.putfield 7, 3) := by decide +kernel
theorem dX11_undo_26 : decode cX11_undo 26 = .ok (.aload_n 0, 1) := by decide +kernel
theorem dX11_undo_27 : decode cX11_undo 27 = .ok (.aload_n 0, 1) := by decide +kernel
theorem dX11_undo_28 : decode cX11_undo 28 = .ok (.getfield 154, 3) := by decide +kernel
theorem dX11_undo_31 : decode cX11_undo 31 = .ok (.putfield 114, 3) := by decide +kernel
theorem dX11_undo_34 : decode cX11_undo 34 = .ok (.aload_n 0, 1) := by decide +kernel
theorem dX11_undo_35 : decode cX11_undo 35 = .ok (.aload_n 0, 1) := by decide +kernel
theorem dX11_undo_36 : decode cX11_undo 36 = .ok (.getfield 157, 3) := by decide +kernel
theorem dX11_undo_39 : decode cX11_undo 39 = .ok (.putfield 123, 3) := by decide +kernel
theorem dX11_undo_42 : decode cX11_undo 42 = .ok (.aload_n 0, 1) := by decide +kernel
theorem dX11_undo_43 : decode cX11_undo 43 = .ok (.aload_n 0, 1) := by decide +kernel
theorem dX11_undo_44 : decode cX11_undo 44 = .ok (.getfield 160, 3) := by decide +kernel
theorem dX11_undo_47 : decode cX11_undo 47 = .ok (.putfield 126, 3) := by decide +kernel
theorem dX11_undo_50 : decode cX11_undo 50 = .ok (.iconst 0, 1) := by decide +kernel
theorem dX11_undo_51 : decode cX11_undo 51 = .ok (.istore_n 1, 1) := by decide +kernel
theorem dX11_undo_52 : decode cX11_undo 52 = .ok (.iload_n 1, 1) := by decide +kernel
theorem dX11_undo_53 : decode cX11_undo 53 = .ok (.bipush 24, 2) := by decide +kernel
theorem dX11_undo_55 : decode cX11_undo 55 = .ok (.if_icmp .ge 33, 3) := by decide +kernel
theorem dX11_undo_58 : decode cX11_undo 58 = .ok (.aload_n 0, 1) := by decide +kernel
theorem dX11_undo_59 : decode cX11_undo 59 = .ok (.getfield 81, 3) := by decide +kernel
theorem dX11_undo_62 : decode cX11_undo 62 = .ok (.iload_n 1, 1) := by decide +kernel
theorem dX11_undo_63 : decode cX11_undo 63 = .ok (.aload_n 0, 1) := by decide +kernel
theorem dX11_undo_64 : decode cX11_undo 64 = .ok (.getfield 163, 3) := by decide +kernel
theorem dX11_undo_67 : decode cX11_undo 67 = .ok (.iload_n 1, 1) := by decide +kernel
theorem dX11_undo_68 : decode cX11_undo 68 = .ok (.iaload, 1) := by decide +kernel
theorem dX11_undo_69 : decode cX11_undo 69 = .ok (.iastore, 1) := by decide +kernel
theorem dX11_undo_70 : decode cX11_undo 70 = .ok (.aload_n 0, 1) := by decide +kernel
theorem dX11_undo_71 : decode cX11_undo 71 = .ok (.getfield 90, 3) := by decide +kernel
theorem dX11_undo_74 : decode cX11_undo 74 = .ok (.iload_n 1, 1) := by decide +kernel
theorem dX11_undo_75 : decode cX11_undo 75 = .ok (.aload_n 0, 1) := by decide +kernel
theorem dX11_undo_76 : decode cX11_undo 76 = .ok (.getfield 199, 3) := by decide +kernel
theorem dX11_undo_79 : decode cX11_undo 79 = .ok (.iload_n 1, 1) := by decide +kernel
theorem dX11_undo_80 : decode cX11_undo 80 = .ok (.baload, 1) := by decide +kernel
theorem dX11_undo_81 : decode cX11_undo 81 = .ok (.bastore, 1) := by decide +kernel
theorem dX11_undo_82 : decode cX11_undo 82 = .ok (.iinc 1 1, 3) := by decide +kernel
theorem dX11_undo_85 : decode cX11_undo 85 = .ok (.goto (-33), 3) := by decide +kernel
theorem dX11_undo_88 : decode cX11_undo 88 = .ok (.iconst 0, 1) := by decide +kernel
theorem dX11_undo_89 : decode cX11_undo 89 = .ok (.istore_n 1, 1) := by decide +kernel
theorem dX11_undo_90 : decode cX11_undo 90 = .ok (.iload_n 1, 1) := by decide +kernel
theorem dX11_undo_91 : decode cX11_undo 91 = .ok (.iconst 5, 1) := by decide +kernel
theorem dX11_undo_92 : decode cX11_undo 92 = .ok (.if_icmp .ge 69, 3) := by decide +kernel
theorem dX11_undo_95 : decode cX11_undo 95 = .ok (.aload_n 0, 1) := by decide +kernel
theorem dX11_undo_96 : decode cX11_undo 96 = .ok (.getfield 13, 3) := by decide +kernel
theorem dX11_undo_99 : decode cX11_undo 99 = .ok (.iload_n 1, 1) := by decide +kernel
theorem dX11_undo_100 : decode cX11_undo 100 = .ok (.aload_n 0, 1) := by decide +kernel
theorem dX11_undo_101 : decode cX11_undo 101 = .ok (.getfield 166, 3) := by decide +kernel
theorem dX11_undo_104 : decode cX11_undo 104 = .ok (.iload_n 1, 1) := by decide +kernel
theorem dX11_undo_105 : decode cX11_undo 105 = .ok (.iaload, 1) := by decide +kernel
theorem dX11_undo_106 : decode cX11_undo 106 = .ok (.iastore, 1) := by decide +kernel
theorem dX11_undo_107 : decode cX11_undo 107 = .ok (.aload_n 0, 1) := by decide +kernel
theorem dX11_undo_108 : decode cX11_undo 108 = .ok (.getfield 17, 3) := by decide +kernel
theorem dX11_undo_111 : decode cX11_undo 111 = .ok (.iload_n 1, 1) := by decide +kernel
theorem dX11_undo_112 : decode cX11_undo 112 = .ok (.aload_n 0, 1) := by decide +kernel
theorem dX11_undo_113 : decode cX11_undo 113 = .ok (.getfield 169, 3) := by decide +kernel
theorem dX11_undo_116 : decode cX11_undo 116 = .ok (.iload_n 1, 1) := by decide +kernel
theorem dX11_undo_117 : decode cX11_undo 117 = .ok (.iaload, 1) := by decide +kernel
theorem dX11_undo_118 : decode cX11_undo 118 = .ok (.iastore, 1) := by decide +kernel
theorem dX11_undo_119 : decode cX11_undo 119 = .ok (.aload_n 0, 1) := by decide +kernel
theorem dX11_undo_120 : decode cX11_undo 120 = .ok (.getfield 20, 3) := by decide +kernel
theorem dX11_undo_123 : decode cX11_undo 123 = .ok (.iload_n 1, 1) := by decide +kernel
theorem dX11_undo_124 : decode cX11_undo 124 = .ok (.aload_n 0, 1) := by decide +kernel
theorem dX11_undo_125 : decode cX11_undo 125 = .ok (.getfield 172, 3) := by decide +kernel
theorem dX11_undo_128 : decode cX11_undo 128 = .ok (.iload_n 1, 1) := by decide +kernel
theorem dX11_undo_129 : decode cX11_undo 129 = .ok (.iaload, 1) := by decide +kernel
theorem dX11_undo_130 : decode cX11_undo 130 = .ok (.iastore, 1) := by decide +kernel
theorem dX11_undo_131 : decode cX11_undo 131 = .ok (.aload_n 0, 1) := by decide +kernel
theorem dX11_undo_132 : decode cX11_undo 132 = .ok (.getfield 117, 3) := by decide +kernel
theorem dX11_undo_135 : decode cX11_undo 135 = .ok (.iload_n 1, 1) := by decide +kernel
theorem dX11_undo_136 : decode cX11_undo 136 = .ok (.aload_n 0, 1) := by decide +kernel
theorem dX11_undo_137 : decode cX11_undo 137 = .ok (.getfield 178, 3) := by decide +kernel
theorem dX11_undo_140 : decode cX11_undo 140 = .ok (.iload_n 1, 1) := by decide +kernel
theorem dX11_undo_141 : decode cX11_undo 141 = .ok (.iaload, 1) := by decide +kernel
theorem dX11_undo_142 : decode cX11_undo 142 = .ok (.iastore, 1) := by decide +kernel
theorem dX11_undo_143 : decode cX11_undo 143 = .ok (.aload_n 0, 1) := by decide +kernel
theorem dX11_undo_144 : decode cX11_undo 144 = .ok (.getfield 120, 3) := by decide +kernel
theorem dX11_undo_147 : decode cX11_undo 147 = .ok (.iload_n 1, 1) := by decide +kernel
theorem dX11_undo_148 : decode cX11_undo 148 = .ok (.aload_n 0, 1) := by decide +kernel
theorem dX11_undo_149 : decode cX11_undo 149 = .ok (.getfield 181, 3) := by decide +kernel
theorem dX11_undo_152 : decode cX11_undo 152 = .ok (.iload_n 1, 1) := by decide +kernel
theorem dX11_undo_153 : decode cX11_undo 153 = .ok (.iaload, 1) := by decide +kernel
theorem dX11_undo_154 : decode cX11_undo 154 = .ok (.iastore, 1) := by decide +kernel
theorem dX11_undo_155 : decode cX11_undo 155 = .ok (.iinc 1 1, 3) := by decide +kernel
theorem dX11_undo_158 : decode cX11_undo 158 = .ok (.goto (-68), 3) := by decide +kernel
theorem dX11_undo_161 : decode cX11_undo 161 = .ok (.iconst 0, 1) := by decide +kernel
theorem dX11_undo_162 : decode cX11_undo 162 = .ok (.istore_n 1, 1) := by decide +kernel
theorem dX11_undo_163 : decode cX11_undo 163 = .ok (.iload_n 1, 1) := by decide +kernel
theorem dX11_undo_164 : decode cX11_undo 164 = .ok (.bipush 20, 2) := by decide +kernel
theorem dX11_undo_166 : decode cX11_undo 166 = .ok (.if_icmp .ge 21, 3) := by decide +kernel
theorem dX11_undo_169 : decode cX11_undo 169 = .ok (.aload_n 0, 1) := by decide +kernel
theorem dX11_undo_170 : decode cX11_undo 170 = .ok (.getfield 23, 3) := by decide +kernel
theorem dX11_undo_173 : decode cX11_undo 173 = .ok (.iload_n 1, 1) := by decide +kernel
theorem dX11_undo_174 : decode cX11_undo 174 = .ok (.aload_n 0, 1) := by decide +kernel
theorem dX11_undo_175 : decode cX11_undo 175 = .ok (.getfield 175, 3) := by decide +kernel
theorem dX11_undo_178 : decode cX11_undo 178 = .ok (.iload_n 1, 1) := by decide +kernel
theorem dX11_undo_179 : decode cX11_undo 179 = .ok (.iaload, 1) := by decide +kernel
theorem dX11_undo_180 : decode cX11_undo 180 = .ok (.iastore, 1) := by decide +kernel
theorem dX11_undo_181 : decode cX11_undo 181 = .ok (.iinc 1 1, 3) := by decide +kernel
theorem dX11_undo_184 : decode cX11_undo 184 = .ok (.goto (-21), 3) := by decide +kernel
theorem dX11_undo_187 : decode cX11_undo 187 = .ok (.iconst 0, 1) := by decide +kernel
theorem dX11_undo_188 : decode cX11_undo 188 = .ok (.istore_n 1, 1) := by decide +kernel
theorem dX11_undo_189 : decode cX11_undo 189 = .ok (.iload_n 1, 1) := by decide +kernel
theorem dX11_undo_190 : decode cX11_undo 190 = .ok (.bipush 6, 2) := by decide +kernel
theorem dX11_undo_192 : decode cX11_undo 192 = .ok (.if_icmp .ge 45, 3) := by decide +kernel
theorem dX11_undo_195 : decode cX11_undo 195 = .ok (.aload_n 0, 1) := by decide +kernel
theorem dX11_undo_196 : decode cX11_undo 196 = .ok (.getfield 129, 3) := by decide +kernel
theorem dX11_undo_199 : decode cX11_undo 199 = .ok (.iload_n 1, 1) := by decide +kernel
theorem dX11_undo_200 : decode cX11_undo 200 = .ok (.aload_n 0, 1) := by decide +kernel
theorem dX11_undo_201 : decode cX11_undo 201 = .ok (.getfield 184, 3) := by decide +kernel
theorem dX11_undo_204 : decode cX11_undo 204 = .ok (.iload_n 1, 1) := by decide +kernel
theorem dX11_undo_205 : decode cX11_undo 205 = .ok (.iaload, 1) := by decide +kernel
theorem dX11_undo_206 : decode cX11_undo 206 = .ok (.iastore, 1) := by decide +kernel
theorem dX11_undo_207 : decode cX11_undo 207 = .ok (.aload_n 0, 1) := by decide +kernel
theorem dX11_undo_208 : decode cX11_undo 208 = .ok (.getfield 132, 3) := by decide +kernel
theorem dX11_undo_211 : decode cX11_undo 211 = .ok (.iload_n 1, 1) := by decide +kernel
theorem dX11_undo_212 : decode cX11_undo 212 = .ok (.aload_n 0, 1) := by decide +kernel
theorem dX11_undo_213 : decode cX11_undo 213 = .ok (.getfield 187, 3) := by decide +kernel
theorem dX11_undo_216 : decode cX11_undo 216 = .ok (.iload_n 1, 1) := by decide +kernel
theorem dX11_undo_217 : decode cX11_undo 217 = .ok (.iaload, 1) := by decide +kernel
theorem dX11_undo_218 : decode cX11_undo 218 = .ok (.iastore, 1) := by decide +kernel
theorem dX11_undo_219 : decode cX11_undo 219 = .ok (.aload_n 0, 1) := by decide +kernel
theorem dX11_undo_220 : decode cX11_undo 220 = .ok (.getfield 135, 3) := by decide +kernel
theorem dX11_undo_223 : decode cX11_undo 223 = .ok (.iload_n 1, 1) := by decide +kernel
theorem dX11_undo_224 : decode cX11_undo 224 = .ok (.aload_n 0, 1) := by decide +kernel
theorem dX11_undo_225 : decode cX11_undo 225 = .ok (.getfield 190, 3) := by decide +kernel
theorem dX11_undo_228 : decode cX11_undo 228 = .ok (.iload_n 1, 1) := by decide +kernel
theorem dX11_undo_229 : decode cX11_undo 229 = .ok (.iaload, 1) := by decide +kernel
theorem dX11_undo_230 : decode cX11_undo 230 = .ok (.iastore, 1) := by decide +kernel
theorem dX11_undo_231 : decode cX11_undo 231 = .ok (.iinc 1 1, 3) := by decide +kernel
theorem dX11_undo_234 : decode cX11_undo 234 = .ok (.goto (-45), 3) := by decide +kernel
theorem dX11_undo_237 : decode cX11_undo 237 = .ok (.iconst 0, 1) := by decide +kernel
theorem dX11_undo_238 : decode cX11_undo 238 = .ok (.istore_n 1, 1) := by decide +kernel
theorem dX11_undo_239 : decode cX11_undo 239 = .ok (.iload_n 1, 1) := by decide +kernel
theorem dX11_undo_240 : decode cX11_undo 240 = .ok (.bipush 8, 2) := by decide +kernel
theorem dX11_undo_242 : decode cX11_undo 242 = .ok (.if_icmp .ge 33, 3) := by decide +kernel
theorem dX11_undo_245 : decode cX11_undo 245 = .ok (.aload_n 0, 1) := by decide +kernel
theorem dX11_undo_246 : decode cX11_undo 246 = .ok (.getfield 138, 3) := by decide +kernel
theorem dX11_undo_249 : decode cX11_undo 249 = .ok (.iload_n 1, 1) := by decide +kernel
theorem dX11_undo_250 : decode cX11_undo 250 = .ok (.aload_n 0, 1) := by decide +kernel
theorem dX11_undo_251 : decode cX11_undo 251 = .ok (.getfield 193, 3) := by decide +kernel
theorem dX11_undo_254 : decode cX11_undo 254 = .ok (.iload_n 1, 1) := by decide +kernel
theorem dX11_undo_255 : decode cX11_undo 255 = .ok (.iaload, 1) := by decide +kernel
theorem dX11_undo_256 : decode cX11_undo 256 = .ok (.iastore, 1) := by decide +kernel
theorem dX11_undo_257 : decode cX11_undo 257 = .ok (.aload_n 0, 1) := by decide +kernel
theorem dX11_undo_258 : decode cX11_undo 258 = .ok (.getfield 141, 3) := by decide +kernel
theorem dX11_undo_261 : decode cX11_undo 261 = .ok (.iload_n 1, 1) := by decide +kernel
theorem dX11_undo_262 : decode cX11_undo 262 = .ok (.aload_n 0, 1) := by decide +kernel
theorem dX11_undo_263 : decode cX11_undo 263 = .ok (.getfield 196, 3) := by decide +kernel
theorem dX11_undo_266 : decode cX11_undo 266 = .ok (.iload_n 1, 1) := by decide +kernel
theorem dX11_undo_267 : decode cX11_undo 267 = .ok (.iaload, 1) := by decide +kernel
theorem dX11_undo_268 : decode cX11_undo 268 = .ok (.iastore, 1) := by decide +kernel
theorem dX11_undo_269 : decode cX11_undo 269 = .ok (.iinc 1 1, 3) := by decide +kernel
theorem dX11_undo_272 : decode cX11_undo 272 = .ok (.goto (-33), 3) := by decide +kernel
theorem dX11_undo_275 : decode cX11_undo 275 = .ok (.aload_n 0, 1) := by decide +kernel
theorem dX11_undo_276 : decode cX11_undo 276 = .ok (.getfield 78, 3) := by decide +kernel
theorem dX11_undo_279 : decode cX11_undo 279 = .ok (.ireturn, 1) := by decide +kernel
theorem dX11_body_0 : decode cX11_body 0 = .ok (.aload_n 0, 1) := by decide +kernel
theorem dX11_body_1 : decode cX11_body 1 = .ok (.getfield 202, 3) := by decide +kernel
theorem dX11_body_4 : decode cX11_body 4 = .ok (.bipush 20, 2) := by decide +kernel
theorem dX11_body_6 : decode cX11_body 6 = .ok (.if_icmp .ge 13, 3) := by decide +kernel
theorem dX11_body_9 : decode cX11_body 9 = .ok (.aload_n 0, 1) := by decide +kernel
theorem dX11_body_10 : decode cX11_body 10 = .ok (.getfield 205, 3) := by decide +kernel
theorem dX11_body_13 : decode cX11_body 13 = .ok (.aload_n 0, 1) := by decide +kernel
theorem dX11_body_14 : decode cX11_body 14 = .ok (.getfield 202, 3) := by decide +kernel
theorem dX11_body_17 : decode cX11_body 17 = .ok (.iload_n 1, 1) := by decide +kernel
theorem dX11_body_18 : decode cX11_body 18 = .ok (.iastore, 1) := by decide +kernel
theorem dX11_body_19 : decode cX11_body 19 = .ok (.aload_n 0, 1) := by decide +kernel
theorem dX11_body_20 : decode cX11_body 20 = .ok (.dup, 1) := by decide +kernel
theorem dX11_body_21 : decode cX11_body 21 = .ok (.getfield 202, 3) := by decide +kernel
theorem dX11_body_24 : decode cX11_body 24 = .ok (.iconst 1, 1) := by decide +kernel
theorem dX11_body_25 : decode cX11_body 25 = .ok (.iadd, 1) := by decide +kernel
theorem dX11_body_26 : decode cX11_body 26 = .ok (.putfield 202, 3) := by decide +kernel
theorem dX11_body_29 : decode cX11_body 29 = .ok (.return_, 1) := by decide +kernel
theorem dX11_trayFeeds_0 : decode cX11_trayFeeds 0 = .ok (.aload_n 0, 1) := by decide +kernel
theorem dX11_trayFeeds_1 : decode cX11_trayFeeds 1 = .ok (.bipush 10, 2) := by decide +kernel
theorem dX11_trayFeeds_3 : decode cX11_trayFeeds 3 = .ok (.invokevirtual 389, 3) := by decide +kernel
theorem dX11_trayFeeds_6 : decode cX11_trayFeeds 6 = .ok (.iload_n 2, 1) := by decide +kernel
theorem dX11_trayFeeds_7 : decode cX11_trayFeeds 7 = .ok (.iload_n 1, 1) := by decide +kernel
theorem dX11_trayFeeds_8 : decode cX11_trayFeeds 8 = .ok (.iadd, 1) := by decide +kernel
theorem dX11_trayFeeds_9 : decode cX11_trayFeeds 9 = .ok (.ireturn, 1) := by decide +kernel
theorem dX11_feedsAct_0 : decode cX11_feedsAct 0 = .ok (.aload_n 0, 1) := by decide +kernel
theorem dX11_feedsAct_1 : decode cX11_feedsAct 1 = .ok (.getfield 13, 3) := by decide +kernel
theorem dX11_feedsAct_4 : decode cX11_feedsAct 4 = .ok (.iload_n 1, 1) := by decide +kernel
theorem dX11_feedsAct_5 : decode cX11_feedsAct 5 = .ok (.iaload, 1) := by decide +kernel
theorem dX11_feedsAct_6 : decode cX11_feedsAct 6 = .ok (.tableswitch 83 2 6 #[34, 83, 49, 34, 63], 34) := by decide +kernel
theorem dX11_feedsAct_40 : decode cX11_feedsAct 40 = .ok (.aload_n 0, 1) := by decide +kernel
theorem dX11_feedsAct_41 : decode cX11_feedsAct 41 = .ok (.bipush 30, 2) := by decide +kernel
theorem dX11_feedsAct_43 : decode cX11_feedsAct 43 = .ok (.invokevirtual 389, 3) := by decide +kernel
theorem dX11_feedsAct_46 : decode cX11_feedsAct 46 = .ok (.aload_n 0, 1) := by decide +kernel
theorem dX11_feedsAct_47 : decode cX11_feedsAct 47 = .ok (.iload_n 1, 1) := by decide +kernel
theorem dX11_feedsAct_48 : decode cX11_feedsAct 48 = .ok (.iload_n 2, 1) := by decide +kernel
theorem dX11_feedsAct_49 : decode cX11_feedsAct 49 = .ok (.iconst 3, 1) := by decide +kernel
theorem dX11_feedsAct_50 : decode cX11_feedsAct 50 = .ok (.imul, 1) := by decide +kernel
theorem dX11_feedsAct_51 : decode cX11_feedsAct 51 = .ok (.invokevirtual 392, 3) := by decide +kernel
theorem dX11_feedsAct_54 : decode cX11_feedsAct 54 = .ok (.ireturn, 1) := by decide +kernel
theorem dX11_feedsAct_55 : decode cX11_feedsAct 55 = .ok (.aload_n 0, 1) := by decide +kernel
theorem dX11_feedsAct_56 : decode cX11_feedsAct 56 = .ok (.bipush 50, 2) := by decide +kernel
theorem dX11_feedsAct_58 : decode cX11_feedsAct 58 = .ok (.invokevirtual 389, 3) := by decide +kernel
theorem dX11_feedsAct_61 : decode cX11_feedsAct 61 = .ok (.aload_n 0, 1) := by decide +kernel
theorem dX11_feedsAct_62 : decode cX11_feedsAct 62 = .ok (.iload_n 1, 1) := by decide +kernel
theorem dX11_feedsAct_63 : decode cX11_feedsAct 63 = .ok (.iload_n 2, 1) := by decide +kernel
theorem dX11_feedsAct_64 : decode cX11_feedsAct 64 = .ok (.invokevirtual 392, 3) := by decide +kernel
theorem dX11_feedsAct_67 : decode cX11_feedsAct 67 = .ok (.ineg, 1) := by decide +kernel
theorem dX11_feedsAct_68 : decode cX11_feedsAct 68 = .ok (.ireturn, 1) := by decide +kernel
theorem dX11_feedsAct_69 : decode cX11_feedsAct 69 = .ok (.aload_n 0, 1) := by decide +kernel
theorem dX11_feedsAct_70 : decode cX11_feedsAct 70 = .ok (.bipush 71, 2) := by decide +kernel
theorem dX11_feedsAct_72 : decode cX11_feedsAct 72 = .ok (.invokevirtual 389, 3) := by decide +kernel
theorem dX11_feedsAct_75 : decode cX11_feedsAct 75 = .ok (.aload_n 0, 1) := by decide +kernel
theorem dX11_feedsAct_76 : decode cX11_feedsAct 76 = .ok (.iload_n 1, 1) := by decide +kernel
theorem dX11_feedsAct_77 : decode cX11_feedsAct 77 = .ok (.iload_n 2, 1) := by decide +kernel
theorem dX11_feedsAct_78 : decode cX11_feedsAct 78 = .ok (.invokevirtual 392, 3) := by decide +kernel
theorem dX11_feedsAct_81 : decode cX11_feedsAct 81 = .ok (.aload_n 0, 1) := by decide +kernel
theorem dX11_feedsAct_82 : decode cX11_feedsAct 82 = .ok (.getfield 17, 3) := by decide +kernel
theorem dX11_feedsAct_85 : decode cX11_feedsAct 85 = .ok (.iload_n 1, 1) := by decide +kernel
theorem dX11_feedsAct_86 : decode cX11_feedsAct 86 = .ok (.iaload, 1) := by decide +kernel
theorem dX11_feedsAct_87 : decode cX11_feedsAct 87 = .ok (.ixor, 1) := by decide +kernel
theorem dX11_feedsAct_88 : decode cX11_feedsAct 88 = .ok (.ireturn, 1) := by decide +kernel
theorem dX11_feedsAct_89 : decode cX11_feedsAct 89 = .ok (.aload_n 0, 1) := by decide +kernel
theorem dX11_feedsAct_90 : decode cX11_feedsAct 90 = .ok (.iload_n 1, 1) := by decide +kernel
theorem dX11_feedsAct_91 : decode cX11_feedsAct 91 = .ok (.iload_n 2, 1) := by decide +kernel
theorem dX11_feedsAct_92 : decode cX11_feedsAct 92 = .ok (.invokevirtual 392, 3) := by decide +kernel
theorem dX11_feedsAct_95 : decode cX11_feedsAct 95 = .ok (.ireturn, 1) := by decide +kernel
theorem dX11_trayPrints_0 : decode cX11_trayPrints 0 = .ok (.aload_n 0, 1) := by decide +kernel
theorem dX11_trayPrints_1 : decode cX11_trayPrints 1 = .ok (.bipush 11, 2) := by decide +kernel
theorem dX11_trayPrints_3 : decode cX11_trayPrints 3 = .ok (.invokevirtual 389, 3) := by decide +kernel
theorem dX11_trayPrints_6 : decode cX11_trayPrints 6 = .ok (.aload_n 0, 1) := by decide +kernel
theorem dX11_trayPrints_7 : decode cX11_trayPrints 7 = .ok (.iload_n 1, 1) := by decide +kernel
theorem dX11_trayPrints_8 : decode cX11_trayPrints 8 = .ok (.iload_n 2, 1) := by decide +kernel
theorem dX11_trayPrints_9 : decode cX11_trayPrints 9 = .ok (.invokevirtual 395, 3) := by decide +kernel
theorem dX11_trayPrints_12 : decode cX11_trayPrints 12 = .ok (.aload_n 0, 1) := by decide +kernel
theorem dX11_trayPrints_13 : decode cX11_trayPrints 13 = .ok (.getfield 17, 3) := by decide +kernel
theorem dX11_trayPrints_16 : decode cX11_trayPrints 16 = .ok (.iload_n 1, 1) := by decide +kernel
theorem dX11_trayPrints_17 : decode cX11_trayPrints 17 = .ok (.iaload, 1) := by decide +kernel
theorem dX11_trayPrints_18 : decode cX11_trayPrints 18 = .ok (.isub, 1) := by decide +kernel
theorem dX11_trayPrints_19 : decode cX11_trayPrints 19 = .ok (.ireturn, 1) := by decide +kernel
theorem dX11_flippingPrints_0 : decode cX11_flippingPrints 0 = .ok (.aload_n 0, 1) := by decide +kernel
theorem dX11_flippingPrints_1 : decode cX11_flippingPrints 1 = .ok (.bipush 20, 2) := by decide +kernel
theorem dX11_flippingPrints_3 : decode cX11_flippingPrints 3 = .ok (.invokevirtual 389, 3) := by decide +kernel
theorem dX11_flippingPrints_6 : decode cX11_flippingPrints 6 = .ok (.aload_n 0, 1) := by decide +kernel
theorem dX11_flippingPrints_7 : decode cX11_flippingPrints 7 = .ok (.iload_n 1, 1) := by decide +kernel
theorem dX11_flippingPrints_8 : decode cX11_flippingPrints 8 = .ok (.iload_n 2, 1) := by decide +kernel
theorem dX11_flippingPrints_9 : decode cX11_flippingPrints 9 = .ok (.invokevirtual 398, 3) := by decide +kernel
theorem dX11_flippingPrints_12 : decode cX11_flippingPrints 12 = .ok (.bipush 6, 2) := by decide +kernel
theorem dX11_flippingPrints_14 : decode cX11_flippingPrints 14 = .ok (.ixor, 1) := by decide +kernel
theorem dX11_flippingPrints_15 : decode cX11_flippingPrints 15 = .ok (.ireturn, 1) := by decide +kernel
theorem dX11_printsAct_0 : decode cX11_printsAct 0 = .ok (.aload_n 0, 1) := by decide +kernel
theorem dX11_printsAct_1 : decode cX11_printsAct 1 = .ok (.getfield 13, 3) := by decide +kernel
theorem dX11_printsAct_4 : decode cX11_printsAct 4 = .ok (.iload_n 1, 1) := by decide +kernel
theorem dX11_printsAct_5 : decode cX11_printsAct 5 = .ok (.iaload, 1) := by decide +kernel
theorem dX11_printsAct_6 : decode cX11_printsAct 6 = .ok (.lookupswitch 78 #[(1, 34), (4, 41), (6, 56)], 34) := by decide +kernel
theorem dX11_printsAct_40 : decode cX11_printsAct 40 = .ok (.aload_n 0, 1) := by decide +kernel
theorem dX11_printsAct_41 : decode cX11_printsAct 41 = .ok (.iload_n 1, 1) := by decide +kernel
theorem dX11_printsAct_42 : decode cX11_printsAct 42 = .ok (.iload_n 2, 1) := by decide +kernel
theorem dX11_printsAct_43 : decode cX11_printsAct 43 = .ok (.invokevirtual 401, 3) := by decide +kernel
theorem dX11_printsAct_46 : decode cX11_printsAct 46 = .ok (.ireturn, 1) := by decide +kernel
theorem dX11_printsAct_47 : decode cX11_printsAct 47 = .ok (.aload_n 0, 1) := by decide +kernel
theorem dX11_printsAct_48 : decode cX11_printsAct 48 = .ok (.bipush 51, 2) := by decide +kernel
theorem dX11_printsAct_50 : decode cX11_printsAct 50 = .ok (.invokevirtual 389, 3) := by decide +kernel
theorem dX11_printsAct_53 : decode cX11_printsAct 53 = .ok (.aload_n 0, 1) := by decide +kernel
theorem dX11_printsAct_54 : decode cX11_printsAct 54 = .ok (.iload_n 1, 1) := by decide +kernel
theorem dX11_printsAct_55 : decode cX11_printsAct 55 = .ok (.iload_n 2, 1) := by decide +kernel
theorem dX11_printsAct_56 : decode cX11_printsAct 56 = .ok (.iconst 1, 1) := by decide +kernel
theorem dX11_printsAct_57 : decode cX11_printsAct 57 = .ok (.iadd, 1) := by decide +kernel
theorem dX11_printsAct_58 : decode cX11_printsAct 58 = .ok (.invokevirtual 401, 3) := by decide +kernel
theorem dX11_printsAct_61 : decode cX11_printsAct 61 = .ok (.ireturn, 1) := by decide +kernel
theorem dX11_printsAct_62 : decode cX11_printsAct 62 = .ok (.aload_n 0, 1) := by decide +kernel
theorem dX11_printsAct_63 : decode cX11_printsAct 63 = .ok (.bipush 70, 2) := by decide +kernel
theorem dX11_printsAct_65 : decode cX11_printsAct 65 = .ok (.invokevirtual 389, 3) := by decide +kernel
theorem dX11_printsAct_68 : decode cX11_printsAct 68 = .ok (.aload_n 0, 1) := by decide +kernel
theorem dX11_printsAct_69 : decode cX11_printsAct 69 = .ok (.iload_n 1, 1) := by decide +kernel
theorem dX11_printsAct_70 : decode cX11_printsAct 70 = .ok (.iload_n 2, 1) := by decide +kernel
theorem dX11_printsAct_71 : decode cX11_printsAct 71 = .ok (.invokevirtual 398, 3) := by decide +kernel
theorem dX11_printsAct_74 : decode cX11_printsAct 74 = .ok (.istore_n 3, 1) := by decide +kernel
theorem dX11_printsAct_75 : decode cX11_printsAct 75 = .ok (.iload_n 3, 1) := by decide +kernel
theorem dX11_printsAct_76 : decode cX11_printsAct 76 = .ok (.aload_n 0, 1) := by decide +kernel
theorem dX11_printsAct_77 : decode cX11_printsAct 77 = .ok (.iload_n 1, 1) := by decide +kernel
theorem dX11_printsAct_78 : decode cX11_printsAct 78 = .ok (.iconst 2, 1) := by decide +kernel
theorem dX11_printsAct_79 : decode cX11_printsAct 79 = .ok (.invokevirtual 392, 3) := by decide +kernel
theorem dX11_printsAct_82 : decode cX11_printsAct 82 = .ok (.iadd, 1) := by decide +kernel
theorem dX11_printsAct_83 : decode cX11_printsAct 83 = .ok (.ireturn, 1) := by decide +kernel
theorem dX11_printsAct_84 : decode cX11_printsAct 84 = .ok (.aload_n 0, 1) := by decide +kernel
theorem dX11_printsAct_85 : decode cX11_printsAct 85 = .ok (.iload_n 1, 1) := by decide +kernel
theorem dX11_printsAct_86 : decode cX11_printsAct 86 = .ok (.iload_n 2, 1) := by decide +kernel
theorem dX11_printsAct_87 : decode cX11_printsAct 87 = .ok (.invokevirtual 398, 3) := by decide +kernel
theorem dX11_printsAct_90 : decode cX11_printsAct 90 = .ok (.ireturn, 1) := by decide +kernel
theorem dX11_trayTells_0 : decode cX11_trayTells 0 = .ok (.aload_n 0, 1) := by decide +kernel
theorem dX11_trayTells_1 : decode cX11_trayTells 1 = .ok (.bipush 12, 2) := by decide +kernel
theorem dX11_trayTells_3 : decode cX11_trayTells 3 = .ok (.invokevirtual 389, 3) := by decide +kernel
theorem dX11_trayTells_6 : decode cX11_trayTells 6 = .ok (.aload_n 0, 1) := by decide +kernel
theorem dX11_trayTells_7 : decode cX11_trayTells 7 = .ok (.iload_n 1, 1) := by decide +kernel
theorem dX11_trayTells_8 : decode cX11_trayTells 8 = .ok (.iload_n 2, 1) := by decide +kernel
theorem dX11_trayTells_9 : decode cX11_trayTells 9 = .ok (.invokevirtual 404, 3) := by decide +kernel
theorem dX11_trayTells_12 : decode cX11_trayTells 12 = .ok (.iconst 2, 1) := by decide +kernel
theorem dX11_trayTells_13 : decode cX11_trayTells 13 = .ok (.imul, 1) := by decide +kernel
theorem dX11_trayTells_14 : decode cX11_trayTells 14 = .ok (.ireturn, 1) := by decide +kernel
theorem dX11_tellsAct_0 : decode cX11_tellsAct 0 = .ok (.aload_n 0, 1) := by decide +kernel
theorem dX11_tellsAct_1 : decode cX11_tellsAct 1 = .ok (.getfield 13, 3) := by decide +kernel
theorem dX11_tellsAct_4 : decode cX11_tellsAct 4 = .ok (.iload_n 1, 1) := by decide +kernel
theorem dX11_tellsAct_5 : decode cX11_tellsAct 5 = .ok (.iaload, 1) := by decide +kernel
theorem dX11_tellsAct_6 : decode cX11_tellsAct 6 = .ok (.tableswitch 67 3 6 #[30, 67, 52, 30], 30) := by decide +kernel
theorem dX11_tellsAct_36 : decode cX11_tellsAct 36 = .ok (.aload_n 0, 1) := by decide +kernel
theorem dX11_tellsAct_37 : decode cX11_tellsAct 37 = .ok (.bipush 40, 2) := by decide +kernel
theorem dX11_tellsAct_39 : decode cX11_tellsAct 39 = .ok (.invokevirtual 389, 3) := by decide +kernel
theorem dX11_tellsAct_42 : decode cX11_tellsAct 42 = .ok (.aload_n 0, 1) := by decide +kernel
theorem dX11_tellsAct_43 : decode cX11_tellsAct 43 = .ok (.iload_n 1, 1) := by decide +kernel
theorem dX11_tellsAct_44 : decode cX11_tellsAct 44 = .ok (.iload_n 2, 1) := by decide +kernel
theorem dX11_tellsAct_45 : decode cX11_tellsAct 45 = .ok (.invokevirtual 407, 3) := by decide +kernel
theorem dX11_tellsAct_48 : decode cX11_tellsAct 48 = .ok (.istore_n 3, 1) := by decide +kernel
theorem dX11_tellsAct_49 : decode cX11_tellsAct 49 = .ok (.iload_n 3, 1) := by decide +kernel
theorem dX11_tellsAct_50 : decode cX11_tellsAct 50 = .ok (.aload_n 0, 1) := by decide +kernel
theorem dX11_tellsAct_51 : decode cX11_tellsAct 51 = .ok (.iload_n 1, 1) := by decide +kernel
theorem dX11_tellsAct_52 : decode cX11_tellsAct 52 = .ok (.iconst 1, 1) := by decide +kernel
theorem dX11_tellsAct_53 : decode cX11_tellsAct 53 = .ok (.invokevirtual 404, 3) := by decide +kernel
theorem dX11_tellsAct_56 : decode cX11_tellsAct 56 = .ok (.iadd, 1) := by decide +kernel
theorem dX11_tellsAct_57 : decode cX11_tellsAct 57 = .ok (.ireturn, 1) := by decide +kernel
theorem dX11_tellsAct_58 : decode cX11_tellsAct 58 = .ok (.aload_n 0, 1) := by decide +kernel
theorem dX11_tellsAct_59 : decode cX11_tellsAct 59 = .ok (.bipush 60, 2) := by decide +kernel
theorem dX11_tellsAct_61 : decode cX11_tellsAct 61 = .ok (.invokevirtual 389, 3) := by decide +kernel
theorem dX11_tellsAct_64 : decode cX11_tellsAct 64 = .ok (.aload_n 0, 1) := by decide +kernel
theorem dX11_tellsAct_65 : decode cX11_tellsAct 65 = .ok (.iload_n 1, 1) := by decide +kernel
theorem dX11_tellsAct_66 : decode cX11_tellsAct 66 = .ok (.iload_n 2, 1) := by decide +kernel
theorem dX11_tellsAct_67 : decode cX11_tellsAct 67 = .ok (.iload_n 1, 1) := by decide +kernel
theorem dX11_tellsAct_68 : decode cX11_tellsAct 68 = .ok (.isub, 1) := by decide +kernel
theorem dX11_tellsAct_69 : decode cX11_tellsAct 69 = .ok (.invokevirtual 407, 3) := by decide +kernel
theorem dX11_tellsAct_72 : decode cX11_tellsAct 72 = .ok (.ireturn, 1) := by decide +kernel
theorem dX11_tellsAct_73 : decode cX11_tellsAct 73 = .ok (.aload_n 0, 1) := by decide +kernel
theorem dX11_tellsAct_74 : decode cX11_tellsAct 74 = .ok (.iload_n 1, 1) := by decide +kernel
theorem dX11_tellsAct_75 : decode cX11_tellsAct 75 = .ok (.iload_n 2, 1) := by decide +kernel
theorem dX11_tellsAct_76 : decode cX11_tellsAct 76 = .ok (.invokevirtual 407, 3) := by decide +kernel
theorem dX11_tellsAct_79 : decode cX11_tellsAct 79 = .ok (.ireturn, 1) := by decide +kernel
theorem dX11_act_0 : decode cX11_act 0 = .ok (.aload_n 0, 1) := by decide +kernel
theorem dX11_act_1 : decode cX11_act 1 = .ok (.iconst 0, 1) := by decide +kernel
theorem dX11_act_2 : decode cX11_act 2 = .ok (.putfield 202, 3) := by decide +kernel
theorem dX11_act_5 : decode cX11_act 5 = .ok (.aload_n 0, 1) := by decide +kernel
theorem dX11_act_6 : decode cX11_act 6 = .ok (.iload_n 1, 1) := by decide +kernel
theorem dX11_act_7 : decode cX11_act 7 = .ok (.invokevirtual 225, 3) := by decide +kernel
theorem dX11_act_10 : decode cX11_act 10 = .ok (.ifCond .eq 13, 3) := by decide +kernel
theorem dX11_act_13 : decode cX11_act 13 = .ok (.aload_n 0, 1) := by decide +kernel
theorem dX11_act_14 : decode cX11_act 14 = .ok (.iload_n 2, 1) := by decide +kernel
theorem dX11_act_15 : decode cX11_act 15 = .ok (.iconst 0, 1) := by decide +kernel
theorem dX11_act_16 : decode cX11_act 16 = .ok (.iconst 2, 1) := by decide +kernel
theorem dX11_act_17 : decode cX11_act 17 = .ok (.invokevirtual 221, 3) := by decide +kernel
theorem dX11_act_20 : decode cX11_act 20 = .ok (.ifCond .ne 5, 3) := by decide +kernel
theorem dX11_act_23 : decode cX11_act 23 = .ok (.iconst 0, 1) := by decide +kernel
theorem dX11_act_24 : decode cX11_act 24 = .ok (.ireturn, 1) := by decide +kernel
theorem dX11_act_25 : decode cX11_act 25 = .ok (.iload_n 2, 1) := by decide +kernel
theorem dX11_act_26 : decode cX11_act 26 = .ok (.ifCond .ne 12, 3) := by decide +kernel
theorem dX11_act_29 : decode cX11_act 29 = .ok (.aload_n 0, 1) := by decide +kernel
theorem dX11_act_30 : decode cX11_act 30 = .ok (.iload_n 1, 1) := by decide +kernel
theorem dX11_act_31 : decode cX11_act 31 = .ok (.iload_n 3, 1) := by decide +kernel
theorem dX11_act_32 : decode cX11_act 32 = .ok (.invokevirtual 395, 3) := by decide +kernel
theorem dX11_act_35 : decode cX11_act 35 = .ok (.goto 23, 3) := by decide +kernel
theorem dX11_act_38 : decode cX11_act 38 = .ok (.iload_n 2, 1) := by decide +kernel
theorem dX11_act_39 : decode cX11_act 39 = .ok (.iconst 1, 1) := by decide +kernel
theorem dX11_act_40 : decode cX11_act 40 = .ok (.if_icmp .ne 12, 3) := by decide +kernel
theorem dX11_act_43 : decode cX11_act 43 = .ok (.aload_n 0, 1) := by decide +kernel
theorem dX11_act_44 : decode cX11_act 44 = .ok (.iload_n 1, 1) := by decide +kernel
theorem dX11_act_45 : decode cX11_act 45 = .ok (.iload_n 3, 1) := by decide +kernel
theorem dX11_act_46 : decode cX11_act 46 = .ok (.invokevirtual 404, 3) := by decide +kernel
theorem dX11_act_49 : decode cX11_act 49 = .ok (.goto 9, 3) := by decide +kernel
theorem dX11_act_52 : decode cX11_act 52 = .ok (.aload_n 0, 1) := by decide +kernel
theorem dX11_act_53 : decode cX11_act 53 = .ok (.iload_n 1, 1) := by decide +kernel
theorem dX11_act_54 : decode cX11_act 54 = .ok (.iload_n 3, 1) := by decide +kernel
theorem dX11_act_55 : decode cX11_act 55 = .ok (.invokevirtual 410, 3) := by decide +kernel
theorem dX11_act_58 : decode cX11_act 58 = .ok (.ireturn, 1) := by decide +kernel
theorem dX11_trace_0 : decode cX11_trace 0 = .ok (.aload_n 0, 1) := by decide +kernel
theorem dX11_trace_1 : decode cX11_trace 1 = .ok (.iload_n 1, 1) := by decide +kernel
theorem dX11_trace_2 : decode cX11_trace 2 = .ok (.iconst 0, 1) := by decide +kernel
theorem dX11_trace_3 : decode cX11_trace 3 = .ok (.bipush 19, 2) := by decide +kernel
theorem dX11_trace_5 : decode cX11_trace 5 = .ok (.invokevirtual 221, 3) := by decide +kernel
theorem dX11_trace_8 : decode cX11_trace 8 = .ok (.ifCond .eq 20, 3) := by decide +kernel
theorem dX11_trace_11 : decode cX11_trace 11 = .ok (.iload_n 1, 1) := by decide +kernel
theorem dX11_trace_12 : decode cX11_trace 12 = .ok (.aload_n 0, 1) := by decide +kernel
theorem dX11_trace_13 : decode cX11_trace 13 = .ok (.getfield 202, 3) := by decide +kernel
theorem dX11_trace_16 : decode cX11_trace 16 = .ok (.if_icmp .ge 12, 3) := by decide +kernel
theorem dX11_trace_19 : decode cX11_trace 19 = .ok (.aload_n 0, 1) := by decide +kernel
theorem dX11_trace_20 : decode cX11_trace 20 = .ok (.getfield 205, 3) := by decide +kernel
theorem dX11_trace_23 : decode cX11_trace 23 = .ok (.iload_n 1, 1) := by decide +kernel
theorem dX11_trace_24 : decode cX11_trace 24 = .ok (.iaload, 1) := by decide +kernel
theorem dX11_trace_25 : decode cX11_trace 25 = .ok (.goto 4, 3) := by decide +kernel
theorem dX11_trace_28 : decode cX11_trace 28 = .ok (.iconst (-1), 1) := by decide +kernel
theorem dX11_trace_29 : decode cX11_trace 29 = .ok (.ireturn, 1) := by decide +kernel
theorem dX11_taken_0 : decode cX11_taken 0 = .ok (.aload_n 0, 1) := by decide +kernel
theorem dX11_taken_1 : decode cX11_taken 1 = .ok (.iload_n 2, 1) := by decide +kernel
theorem dX11_taken_2 : decode cX11_taken 2 = .ok (.iconst 0, 1) := by decide +kernel
theorem dX11_taken_3 : decode cX11_taken 3 = .ok (.bipush 6, 2) := by decide +kernel
theorem dX11_taken_5 : decode cX11_taken 5 = .ok (.invokevirtual 221, 3) := by decide +kernel
theorem dX11_taken_8 : decode cX11_taken 8 = .ok (.ifCond .ne 6, 3) := by decide +kernel
theorem dX11_taken_11 : decode cX11_taken 11 = .ok (.bipush (-2), 2) := by decide +kernel
theorem dX11_taken_13 : decode cX11_taken 13 = .ok (.ireturn, 1) := by decide +kernel
theorem dX11_taken_14 : decode cX11_taken 14 = .ok (.aload_n 0, 1) := by decide +kernel
theorem dX11_taken_15 : decode cX11_taken 15 = .ok (.iload_n 1, 1) := by decide +kernel
theorem dX11_taken_16 : decode cX11_taken 16 = .ok (.invokevirtual 225, 3) := by decide +kernel
theorem dX11_taken_19 : decode cX11_taken 19 = .ok (.ifCond .ne 6, 3) := by decide +kernel
theorem dX11_taken_22 : decode cX11_taken 22 = .ok (.bipush (-11), 2) := by decide +kernel
theorem dX11_taken_24 : decode cX11_taken 24 = .ok (.ireturn, 1) := by decide +kernel
theorem dX11_taken_25 : decode cX11_taken 25 = .ok (.aload_n 0, 1) := by decide +kernel
theorem dX11_taken_26 : decode cX11_taken 26 = .ok (.getfield 13, 3) := by decide +kernel
theorem dX11_taken_29 : decode cX11_taken 29 = .ok (.iload_n 1, 1) := by decide +kernel
theorem dX11_taken_30 : decode cX11_taken 30 = .ok (.iaload, 1) := by decide +kernel
theorem dX11_taken_31 : decode cX11_taken 31 = .ok (.istore_n 3, 1) := by decide +kernel
theorem dX11_taken_32 : decode cX11_taken 32 = .ok (.iload_n 2, 1) := by decide +kernel
theorem dX11_taken_33 : decode cX11_taken 33 = .ok (.ifCond .eq 39, 3) := by decide +kernel
theorem dX11_taken_36 : decode cX11_taken 36 = .ok (.iload_n 3, 1) := by decide +kernel
theorem dX11_taken_37 : decode cX11_taken 37 = .ok (.iload_n 2, 1) := by decide +kernel
theorem dX11_taken_38 : decode cX11_taken 38 = .ok (.if_icmp .eq 34, 3) := by decide +kernel
theorem dX11_taken_41 : decode cX11_taken 41 = .ok (.iload_n 2, 1) := by decide +kernel
theorem dX11_taken_42 : decode cX11_taken 42 = .ok (.iconst 1, 1) := by decide +kernel
theorem dX11_taken_43 : decode cX11_taken 43 = .ok (.if_icmp .ne 8, 3) := by decide +kernel
theorem dX11_taken_46 : decode cX11_taken 46 = .ok (.iload_n 3, 1) := by decide +kernel
theorem dX11_taken_47 : decode cX11_taken 47 = .ok (.iconst 4, 1) := by decide +kernel
theorem dX11_taken_48 : decode cX11_taken 48 = .ok (.if_icmp .eq 24, 3) := by decide +kernel
theorem dX11_taken_51 : decode cX11_taken 51 = .ok (.iload_n 2, 1) := by decide +kernel
theorem dX11_taken_52 : decode cX11_taken 52 = .ok (.iconst 2, 1) := by decide +kernel
theorem dX11_taken_53 : decode cX11_taken 53 = .ok (.if_icmp .ne 8, 3) := by decide +kernel
theorem dX11_taken_56 : decode cX11_taken 56 = .ok (.iload_n 3, 1) := by decide +kernel
theorem dX11_taken_57 : decode cX11_taken 57 = .ok (.iconst 5, 1) := by decide +kernel
theorem dX11_taken_58 : decode cX11_taken 58 = .ok (.if_icmp .eq 14, 3) := by decide +kernel
theorem dX11_taken_61 : decode cX11_taken 61 = .ok (.iload_n 2, 1) := by decide +kernel
theorem dX11_taken_62 : decode cX11_taken 62 = .ok (.iconst 3, 1) := by decide +kernel
theorem dX11_taken_63 : decode cX11_taken 63 = .ok (.if_icmp .ne 13, 3) := by decide +kernel
theorem dX11_taken_66 : decode cX11_taken 66 = .ok (.iload_n 3, 1) := by decide +kernel
theorem dX11_taken_67 : decode cX11_taken 67 = .ok (.bipush 6, 2) := by decide +kernel
theorem dX11_taken_69 : decode cX11_taken 69 = .ok (.if_icmp .ne 7, 3) := by decide +kernel
theorem dX11_taken_72 : decode cX11_taken 72 = .ok (.iload_n 3, 1) := by decide +kernel
theorem dX11_taken_73 : decode cX11_taken 73 = .ok (.goto 5, 3) := by decide +kernel
theorem dX11_taken_76 : decode cX11_taken 76 = .ok (.bipush (-12), 2) := by decide +kernel
theorem dX11_taken_78 : decode cX11_taken 78 = .ok (.ireturn, 1) := by decide +kernel
theorem dX11_count_0 : decode cX11_count 0 = .ok (.iload_n 1, 1) := by decide +kernel
theorem dX11_count_1 : decode cX11_count 1 = .ok (.tableswitch 87 0 7 #[47, 52, 57, 62, 67, 72, 77, 82], 47) := by decide +kernel
theorem dX11_count_48 : decode cX11_count 48 = .ok (.aload_n 0, 1) := by decide +kernel
theorem dX11_count_49 : decode cX11_count 49 = .ok (.getfield 78, 3) := by decide +kernel
theorem dX11_count_52 : decode cX11_count 52 = .ok (.ireturn, 1) := by decide +kernel
theorem dX11_count_53 : decode cX11_count 53 = .ok (.aload_n 0, 1) := by decide +kernel
theorem dX11_count_54 : decode cX11_count 54 = .ok (.getfield 7, 3) := by decide +kernel
theorem dX11_count_57 : decode cX11_count 57 = .ok (.ireturn, 1) := by decide +kernel
theorem dX11_count_58 : decode cX11_count 58 = .ok (.aload_n 0, 1) := by decide +kernel
theorem dX11_count_59 : decode cX11_count 59 = .ok (.getfield 26, 3) := by decide +kernel
theorem dX11_count_62 : decode cX11_count 62 = .ok (.ireturn, 1) := by decide +kernel
theorem dX11_count_63 : decode cX11_count 63 = .ok (.aload_n 0, 1) := by decide +kernel
theorem dX11_count_64 : decode cX11_count 64 = .ok (.getfield 114, 3) := by decide +kernel
theorem dX11_count_67 : decode cX11_count 67 = .ok (.ireturn, 1) := by decide +kernel
theorem dX11_count_68 : decode cX11_count 68 = .ok (.aload_n 0, 1) := by decide +kernel
theorem dX11_count_69 : decode cX11_count 69 = .ok (.getfield 123, 3) := by decide +kernel
theorem dX11_count_72 : decode cX11_count 72 = .ok (.ireturn, 1) := by decide +kernel
theorem dX11_count_73 : decode cX11_count 73 = .ok (.aload_n 0, 1) := by decide +kernel
theorem dX11_count_74 : decode cX11_count 74 = .ok (.getfield 126, 3) := by decide +kernel
theorem dX11_count_77 : decode cX11_count 77 = .ok (.ireturn, 1) := by decide +kernel
theorem dX11_count_78 : decode cX11_count 78 = .ok (.aload_n 0, 1) := by decide +kernel
theorem dX11_count_79 : decode cX11_count 79 = .ok (.getfield 29, 3) := by decide +kernel
theorem dX11_count_82 : decode cX11_count 82 = .ok (.ireturn, 1) := by decide +kernel
theorem dX11_count_83 : decode cX11_count 83 = .ok (.aload_n 0, 1) := by decide +kernel
theorem dX11_count_84 : decode cX11_count 84 = .ok (.getfield 202, 3) := by decide +kernel
theorem dX11_count_87 : decode cX11_count 87 = .ok (.ireturn, 1) := by decide +kernel
theorem dX11_count_88 : decode cX11_count 88 = .ok (.bipush (-2), 2) := by decide +kernel
theorem dX11_count_90 : decode cX11_count 90 = .ok (.ireturn, 1) := by decide +kernel
theorem dX11_isTape_0 : decode cX11_isTape 0 = .ok (.aload_n 0, 1) := by decide +kernel
theorem dX11_isTape_1 : decode cX11_isTape 1 = .ok (.iload_n 1, 1) := by decide +kernel
theorem dX11_isTape_2 : decode cX11_isTape 2 = .ok (.iconst 0, 1) := by decide +kernel
theorem dX11_isTape_3 : decode cX11_isTape 3 = .ok (.iconst 5, 1) := by decide +kernel
theorem dX11_isTape_4 : decode cX11_isTape 4 = .ok (.invokevirtual 221, 3) := by decide +kernel
theorem dX11_isTape_7 : decode cX11_isTape 7 = .ok (.ireturn, 1) := by decide +kernel
theorem dX11_tape_0 : decode cX11_tape 0 = .ok (.aload_n 0, 1) := by decide +kernel
theorem dX11_tape_1 : decode cX11_tape 1 = .ok (.iload_n 1, 1) := by decide +kernel
theorem dX11_tape_2 : decode cX11_tape 2 = .ok (.invokevirtual 386, 3) := by decide +kernel
theorem dX11_tape_5 : decode cX11_tape 5 = .ok (.ifCond .ne 5, 3) := by decide +kernel
theorem dX11_tape_8 : decode cX11_tape 8 = .ok (.iconst (-1), 1) := by decide +kernel
theorem dX11_tape_9 : decode cX11_tape 9 = .ok (.ireturn, 1) := by decide +kernel
theorem dX11_tape_10 : decode cX11_tape 10 = .ok (.aload_n 0, 1) := by decide +kernel
theorem dX11_tape_11 : decode cX11_tape 11 = .ok (.iload_n 2, 1) := by decide +kernel
theorem dX11_tape_12 : decode cX11_tape 12 = .ok (.iconst (-1), 1) := by decide +kernel
theorem dX11_tape_13 : decode cX11_tape 13 = .ok (.iconst 4, 1) := by decide +kernel
theorem dX11_tape_14 : decode cX11_tape 14 = .ok (.invokevirtual 221, 3) := by decide +kernel
theorem dX11_tape_17 : decode cX11_tape 17 = .ok (.ifCond .eq 13, 3) := by decide +kernel
theorem dX11_tape_20 : decode cX11_tape 20 = .ok (.iload_n 2, 1) := by decide +kernel
theorem dX11_tape_21 : decode cX11_tape 21 = .ok (.ifCond .lt 12, 3) := by decide +kernel
theorem dX11_tape_24 : decode cX11_tape 24 = .ok (.iload_n 3, 1) := by decide +kernel
theorem dX11_tape_25 : decode cX11_tape 25 = .ok (.bipush 60, 2) := by decide +kernel
theorem dX11_tape_27 : decode cX11_tape 27 = .ok (.if_icmp .le 6, 3) := by decide +kernel
theorem dX11_tape_30 : decode cX11_tape 30 = .ok (.bipush (-2), 2) := by decide +kernel
theorem dX11_tape_32 : decode cX11_tape 32 = .ok (.ireturn, 1) := by decide +kernel
theorem dX11_tape_33 : decode cX11_tape 33 = .ok (.iload_n 2, 1) := by decide +kernel
theorem dX11_tape_34 : decode cX11_tape 34 = .ok (.ifCond .lt 10, 3) := by decide +kernel
theorem dX11_tape_37 : decode cX11_tape 37 = .ok (.iload_n 3, 1) := by decide +kernel
theorem dX11_tape_38 : decode cX11_tape 38 = .ok (.ifCond .ge 6, 3) := by decide +kernel
theorem dX11_tape_41 : decode cX11_tape 41 = .ok (.bipush (-14), 2) := by decide +kernel
theorem dX11_tape_43 : decode cX11_tape 43 = .ok (.ireturn, 1) := by decide +kernel
theorem dX11_tape_44 : decode cX11_tape 44 = .ok (.aload_n 0, 1) := by decide +kernel
theorem dX11_tape_45 : decode cX11_tape 45 = .ok (.getfield 208, 3) := by decide +kernel
theorem dX11_tape_48 : decode cX11_tape 48 = .ok (.iload_n 1, 1) := by decide +kernel
theorem dX11_tape_49 : decode cX11_tape 49 = .ok (.iload_n 2, 1) := by decide +kernel
theorem dX11_tape_50 : decode cX11_tape 50 = .ok (.iastore, 1) := by decide +kernel
theorem dX11_tape_51 : decode cX11_tape 51 = .ok (.aload_n 0, 1) := by decide +kernel
theorem dX11_tape_52 : decode cX11_tape 52 = .ok (.getfield 211, 3) := by decide +kernel
theorem dX11_tape_55 : decode cX11_tape 55 = .ok (.iload_n 1, 1) := by decide +kernel
theorem dX11_tape_56 : decode cX11_tape 56 = .ok (.iload_n 2, 1) := by decide +kernel
theorem dX11_tape_57 : decode cX11_tape 57 = .ok (.ifCond .ge 7, 3) := by decide +kernel
theorem dX11_tape_60 : decode cX11_tape 60 = .ok (.iconst 0, 1) := by decide +kernel
theorem dX11_tape_61 : decode cX11_tape 61 = .ok (.goto 4, 3) := by decide +kernel
theorem dX11_tape_64 : decode cX11_tape 64 = .ok (.iload_n 3, 1) := by decide +kernel
theorem dX11_tape_65 : decode cX11_tape 65 = .ok (.iastore, 1) := by decide +kernel
theorem dX11_tape_66 : decode cX11_tape 66 = .ok (.iconst 0, 1) := by decide +kernel
theorem dX11_tape_67 : decode cX11_tape 67 = .ok (.istore 4, 2) := by decide +kernel
theorem dX11_tape_69 : decode cX11_tape 69 = .ok (.iload 4, 2) := by decide +kernel
theorem dX11_tape_71 : decode cX11_tape 71 = .ok (.bipush 60, 2) := by decide +kernel
theorem dX11_tape_73 : decode cX11_tape 73 = .ok (.if_icmp .ge 22, 3) := by decide +kernel
theorem dX11_tape_76 : decode cX11_tape 76 = .ok (.aload_n 0, 1) := by decide +kernel
theorem dX11_tape_77 : decode cX11_tape 77 = .ok (.getfield 214, 3) := by decide +kernel
theorem dX11_tape_80 : decode cX11_tape 80 = .ok (.bipush 60, 2) := by decide +kernel
theorem dX11_tape_82 : decode cX11_tape 82 = .ok (.iload_n 1, 1) := by decide +kernel
theorem dX11_tape_83 : decode cX11_tape 83 = .ok (.imul, 1) := by decide +kernel
theorem dX11_tape_84 : decode cX11_tape 84 = .ok (.iload 4, 2) := by decide +kernel
theorem dX11_tape_86 : decode cX11_tape 86 = .ok (.iadd, 1) := by decide +kernel
theorem dX11_tape_87 : decode cX11_tape 87 = .ok (.lconst 0, 1) := by decide +kernel
theorem dX11_tape_88 : decode cX11_tape 88 = .ok (.lastore, 1) := by decide +kernel
theorem dX11_tape_89 : decode cX11_tape 89 = .ok (.iinc 4 1, 3) := by decide +kernel
theorem dX11_tape_92 : decode cX11_tape 92 = .ok (.goto (-23), 3) := by decide +kernel
theorem dX11_tape_95 : decode cX11_tape 95 = .ok (.iconst 1, 1) := by decide +kernel
theorem dX11_tape_96 : decode cX11_tape 96 = .ok (.ireturn, 1) := by decide +kernel
theorem dX11_narrow_0 : decode cX11_narrow 0 = .ok (.iload_n 1, 1) := by decide +kernel
theorem dX11_narrow_1 : decode cX11_narrow 1 = .ok (.ifCond .ne 10, 3) := by decide +kernel
theorem dX11_narrow_4 : decode cX11_narrow 4 = .ok (.lload_n 2, 1) := by decide +kernel
theorem dX11_narrow_5 : decode cX11_narrow 5 = .ok (.l2i, 1) := by decide +kernel
theorem dX11_narrow_6 : decode cX11_narrow 6 = .ok (.i2b, 1) := by decide +kernel
theorem dX11_narrow_7 : decode cX11_narrow 7 = .ok (.i2l, 1) := by decide +kernel
theorem dX11_narrow_8 : decode cX11_narrow 8 = .ok (.goto 46, 3) := by decide +kernel
theorem dX11_narrow_11 : decode cX11_narrow 11 = .ok (.iload_n 1, 1) := by decide +kernel
theorem dX11_narrow_12 : decode cX11_narrow 12 = .ok (.iconst 1, 1) := by decide +kernel
theorem dX11_narrow_13 : decode cX11_narrow 13 = .ok (.if_icmp .ne 10, 3) := by decide +kernel
theorem dX11_narrow_16 : decode cX11_narrow 16 = .ok (.lload_n 2, 1) := by decide +kernel
theorem dX11_narrow_17 : decode cX11_narrow 17 = .ok (.l2i, 1) := by decide +kernel
theorem dX11_narrow_18 : decode cX11_narrow 18 = .ok (.i2s, 1) := by decide +kernel
theorem dX11_narrow_19 : decode cX11_narrow 19 = .ok (.i2l, 1) := by decide +kernel
theorem dX11_narrow_20 : decode cX11_narrow 20 = .ok (.goto 34, 3) := by decide +kernel
theorem dX11_narrow_23 : decode cX11_narrow 23 = .ok (.iload_n 1, 1) := by decide +kernel
theorem dX11_narrow_24 : decode cX11_narrow 24 = .ok (.iconst 2, 1) := by decide +kernel
theorem dX11_narrow_25 : decode cX11_narrow 25 = .ok (.if_icmp .ne 9, 3) := by decide +kernel
theorem dX11_narrow_28 : decode cX11_narrow 28 = .ok (.lload_n 2, 1) := by decide +kernel
theorem dX11_narrow_29 : decode cX11_narrow 29 = .ok (.l2i, 1) := by decide +kernel
theorem dX11_narrow_30 : decode cX11_narrow 30 = .ok (.i2l, 1) := by decide +kernel
theorem dX11_narrow_31 : decode cX11_narrow 31 = .ok (.goto 23, 3) := by decide +kernel
theorem dX11_narrow_34 : decode cX11_narrow 34 = .ok (.iload_n 1, 1) := by decide +kernel
theorem dX11_narrow_35 : decode cX11_narrow 35 = .ok (.iconst 4, 1) := by decide +kernel
theorem dX11_narrow_36 : decode cX11_narrow 36 = .ok (.if_icmp .ne 17, 3) := by decide +kernel
theorem dX11_narrow_39 : decode cX11_narrow 39 = .ok (.lload_n 2, 1) := by decide +kernel
theorem dX11_narrow_40 : decode cX11_narrow 40 = .ok (.lconst 0, 1) := by decide +kernel
theorem dX11_narrow_41 : decode cX11_narrow 41 = .ok (.lcmp, 1) := by decide +kernel
theorem dX11_narrow_42 : decode cX11_narrow 42 = .ok (.ifCond .eq 7, 3) := by decide +kernel
theorem dX11_narrow_45 : decode cX11_narrow 45 = .ok (.lconst 1, 1) := by decide +kernel
theorem dX11_narrow_46 : decode cX11_narrow 46 = .ok (.goto 8, 3) := by decide +kernel
theorem dX11_narrow_49 : decode cX11_narrow 49 = .ok (.lconst 0, 1) := by decide +kernel
theorem dX11_narrow_50 : decode cX11_narrow 50 = .ok (.goto 4, 3) := by decide +kernel
theorem dX11_narrow_53 : decode cX11_narrow 53 = .ok (.lload_n 2, 1) := by decide +kernel
theorem dX11_narrow_54 : decode cX11_narrow 54 = .ok (.lreturn, 1) := by decide +kernel
theorem dX11_item_0 : decode cX11_item 0 = .ok (.aload_n 0, 1) := by decide +kernel
theorem dX11_item_1 : decode cX11_item 1 = .ok (.iload_n 1, 1) := by decide +kernel
theorem dX11_item_2 : decode cX11_item 2 = .ok (.invokevirtual 386, 3) := by decide +kernel
theorem dX11_item_5 : decode cX11_item 5 = .ok (.ifCond .ne 5, 3) := by decide +kernel
theorem dX11_item_8 : decode cX11_item 8 = .ok (.iconst (-1), 1) := by decide +kernel
theorem dX11_item_9 : decode cX11_item 9 = .ok (.ireturn, 1) := by decide +kernel
theorem dX11_item_10 : decode cX11_item 10 = .ok (.aload_n 0, 1) := by decide +kernel
theorem dX11_item_11 : decode cX11_item 11 = .ok (.getfield 208, 3) := by decide +kernel
theorem dX11_item_14 : decode cX11_item 14 = .ok (.iload_n 1, 1) := by decide +kernel
theorem dX11_item_15 : decode cX11_item 15 = .ok (.iaload, 1) := by decide +kernel
theorem dX11_item_16 : decode cX11_item 16 = .ok (.ifCond .ge 6, 3) := by decide +kernel
theorem dX11_item_19 : decode cX11_item 19 = .ok (.bipush (-11), 2) := by decide +kernel
theorem dX11_item_21 : decode cX11_item 21 = .ok (.ireturn, 1) := by decide +kernel
theorem dX11_item_22 : decode cX11_item 22 = .ok (.aload_n 0, 1) := by decide +kernel
theorem dX11_item_23 : decode cX11_item 23 = .ok (.iload_n 2, 1) := by decide +kernel
theorem dX11_item_24 : decode cX11_item 24 = .ok (.iconst 0, 1) := by decide +kernel
theorem dX11_item_25 : decode cX11_item 25 = .ok (.aload_n 0, 1) := by decide +kernel
theorem dX11_item_26 : decode cX11_item 26 = .ok (.getfield 211, 3) := by decide +kernel
theorem dX11_item_29 : decode cX11_item 29 = .ok (.iload_n 1, 1) := by decide +kernel
theorem dX11_item_30 : decode cX11_item 30 = .ok (.iaload, 1) := by decide +kernel
theorem dX11_item_31 : decode cX11_item 31 = .ok (.iconst 1, 1) := by decide +kernel
theorem dX11_item_32 : decode cX11_item 32 = .ok (.isub, 1) := by decide +kernel
theorem dX11_item_33 : decode cX11_item 33 = .ok (.invokevirtual 221, 3) := by decide +kernel
theorem dX11_item_36 : decode cX11_item 36 = .ok (.ifCond .ne 6, 3) := by decide +kernel
theorem dX11_item_39 : decode cX11_item 39 = .ok (.bipush (-13), 2) := by decide +kernel
theorem dX11_item_41 : decode cX11_item 41 = .ok (.ireturn, 1) := by decide +kernel
theorem dX11_item_42 : decode cX11_item 42 = .ok (.aload_n 0, 1) := by decide +kernel
theorem dX11_item_43 : decode cX11_item 43 = .ok (.getfield 214, 3) := by decide +kernel
theorem dX11_item_46 : decode cX11_item 46 = .ok (.bipush 60, 2) := by decide +kernel
theorem dX11_item_48 : decode cX11_item 48 = .ok (.iload_n 1, 1) := by decide +kernel
theorem dX11_item_49 : decode cX11_item 49 = .ok (.imul, 1) := by decide +kernel
theorem dX11_item_50 : decode cX11_item 50 = .ok (.iload_n 2, 1) := by decide +kernel
theorem dX11_item_51 : decode cX11_item 51 = .ok (.iadd, 1) := by decide +kernel
theorem dX11_item_52 : decode cX11_item 52 = .ok (.aload_n 0, 1) := by decide +kernel
theorem dX11_item_53 : decode cX11_item 53 = .ok (.aload_n 0, 1) := by decide +kernel
theorem dX11_item_54 : decode cX11_item 54 = .ok (.getfield 208, 3) := by decide +kernel
theorem dX11_item_57 : decode cX11_item 57 = .ok (.iload_n 1, 1) := by decide +kernel
theorem dX11_item_58 : decode cX11_item 58 = .ok (.iaload, 1) := by decide +kernel
theorem dX11_item_59 : decode cX11_item 59 = .ok (.lload_n 3, 1) := by decide +kernel
theorem dX11_item_60 : decode cX11_item 60 = .ok (.invokevirtual 413, 3) := by decide +kernel
theorem dX11_item_63 : decode cX11_item 63 = .ok (.lastore, 1) := by decide +kernel
theorem dX11_item_64 : decode cX11_item 64 = .ok (.iconst 1, 1) := by decide +kernel
theorem dX11_item_65 : decode cX11_item 65 = .ok (.ireturn, 1) := by decide +kernel
theorem dX11_read_0 : decode cX11_read 0 = .ok (.aload_n 0, 1) := by decide +kernel
theorem dX11_read_1 : decode cX11_read 1 = .ok (.iload_n 1, 1) := by decide +kernel
theorem dX11_read_2 : decode cX11_read 2 = .ok (.invokevirtual 386, 3) := by decide +kernel
theorem dX11_read_5 : decode cX11_read 5 = .ok (.ifCond .eq 29, 3) := by decide +kernel
theorem dX11_read_8 : decode cX11_read 8 = .ok (.aload_n 0, 1) := by decide +kernel
theorem dX11_read_9 : decode cX11_read 9 = .ok (.getfield 208, 3) := by decide +kernel
theorem dX11_read_12 : decode cX11_read 12 = .ok (.iload_n 1, 1) := by decide +kernel
theorem dX11_read_13 : decode cX11_read 13 = .ok (.iaload, 1) := by decide +kernel
theorem dX11_read_14 : decode cX11_read 14 = .ok (.ifCond .lt 20, 3) := by decide +kernel
theorem dX11_read_17 : decode cX11_read 17 = .ok (.aload_n 0, 1) := by decide +kernel
theorem dX11_read_18 : decode cX11_read 18 = .ok (.iload_n 2, 1) := by decide +kernel
theorem dX11_read_19 : decode cX11_read 19 = .ok (.iconst 0, 1) := by decide +kernel
theorem dX11_read_20 : decode cX11_read 20 = .ok (.aload_n 0, 1) := by decide +kernel
theorem dX11_read_21 : decode cX11_read 21 = .ok (.getfield 211, 3) := by decide +kernel
theorem dX11_read_24 : decode cX11_read 24 = .ok (.iload_n 1, 1) := by decide +kernel
theorem dX11_read_25 : decode cX11_read 25 = .ok (.iaload, 1) := by decide +kernel
theorem dX11_read_26 : decode cX11_read 26 = .ok (.iconst 1, 1) := by decide +kernel
theorem dX11_read_27 : decode cX11_read 27 = .ok (.isub, 1) := by decide +kernel
theorem dX11_read_28 : decode cX11_read 28 = .ok (.invokevirtual 221, 3) := by decide +kernel
theorem dX11_read_31 : decode cX11_read 31 = .ok (.ifCond .ne 9, 3) := by decide +kernel
theorem dX11_read_34 : decode cX11_read 34 = .ok (.ldc2_w 377, 3) := by decide +kernel
theorem dX11_read_37 : decode cX11_read 37 = .ok (.goto 14, 3) := by decide +kernel
theorem dX11_read_40 : decode cX11_read 40 = .ok (.aload_n 0, 1) := by decide +kernel
theorem dX11_read_41 : decode cX11_read 41 = .ok (.getfield 214, 3) := by decide +kernel
theorem dX11_read_44 : decode cX11_read 44 = .ok (.bipush 60, 2) := by decide +kernel
theorem dX11_read_46 : decode cX11_read 46 = .ok (.iload_n 1, 1) := by decide +kernel
theorem dX11_read_47 : decode cX11_read 47 = .ok (.imul, 1) := by decide +kernel
theorem dX11_read_48 : decode cX11_read 48 = .ok (.iload_n 2, 1) := by decide +kernel
theorem dX11_read_49 : decode cX11_read 49 = .ok (.iadd, 1) := by decide +kernel
theorem dX11_read_50 : decode cX11_read 50 = .ok (.laload, 1) := by decide +kernel
theorem dX11_read_51 : decode cX11_read 51 = .ok (.lreturn, 1) := by decide +kernel
theorem dX11_shift_0 : decode cX11_shift 0 = .ok (.aload_n 0, 1) := by decide +kernel
theorem dX11_shift_1 : decode cX11_shift 1 = .ok (.iload_n 1, 1) := by decide +kernel
theorem dX11_shift_2 : decode cX11_shift 2 = .ok (.invokevirtual 386, 3) := by decide +kernel
theorem dX11_shift_5 : decode cX11_shift 5 = .ok (.ifCond .eq 11, 3) := by decide +kernel
theorem dX11_shift_8 : decode cX11_shift 8 = .ok (.aload_n 0, 1) := by decide +kernel
theorem dX11_shift_9 : decode cX11_shift 9 = .ok (.iload_n 3, 1) := by decide +kernel
theorem dX11_shift_10 : decode cX11_shift 10 = .ok (.invokevirtual 386, 3) := by decide +kernel
theorem dX11_shift_13 : decode cX11_shift 13 = .ok (.ifCond .ne 5, 3) := by decide +kernel
theorem dX11_shift_16 : decode cX11_shift 16 = .ok (.iconst (-1), 1) := by decide +kernel
theorem dX11_shift_17 : decode cX11_shift 17 = .ok (.ireturn, 1) := by decide +kernel
theorem dX11_shift_18 : decode cX11_shift 18 = .ok (.aload_n 0, 1) := by decide +kernel
theorem dX11_shift_19 : decode cX11_shift 19 = .ok (.getfield 208, 3) := by decide +kernel
theorem dX11_shift_22 : decode cX11_shift 22 = .ok (.iload_n 1, 1) := by decide +kernel
theorem dX11_shift_23 : decode cX11_shift 23 = .ok (.iaload, 1) := by decide +kernel
theorem dX11_shift_24 : decode cX11_shift 24 = .ok (.ifCond .lt 12, 3) := by decide +kernel
theorem dX11_shift_27 : decode cX11_shift 27 = .ok (.aload_n 0, 1) := by decide +kernel
theorem dX11_shift_28 : decode cX11_shift 28 = .ok (.getfield 208, 3) := by decide +kernel
theorem dX11_shift_31 : decode cX11_shift 31 = .ok (.iload_n 3, 1) := by decide +kernel
theorem dX11_shift_32 : decode cX11_shift 32 = .ok (.iaload, 1) := by decide +kernel
theorem dX11_shift_33 : decode cX11_shift 33 = .ok (.ifCond .ge 6, 3) := by decide +kernel
theorem dX11_shift_36 : decode cX11_shift 36 = .ok (.bipush (-11), 2) := by decide +kernel
theorem dX11_shift_38 : decode cX11_shift 38 = .ok (.ireturn, 1) := by decide +kernel
theorem dX11_shift_39 : decode cX11_shift 39 = .ok (.aload_n 0, 1) := by decide +kernel
theorem dX11_shift_40 : decode cX11_shift 40 = .ok (.getfield 208, 3) := by decide +kernel
theorem dX11_shift_43 : decode cX11_shift 43 = .ok (.iload_n 1, 1) := by decide +kernel
theorem dX11_shift_44 : decode cX11_shift 44 = .ok (.iaload, 1) := by decide +kernel
theorem dX11_shift_45 : decode cX11_shift 45 = .ok (.aload_n 0, 1) := by decide +kernel
theorem dX11_shift_46 : decode cX11_shift 46 = .ok (.getfield 208, 3) := by decide +kernel
theorem dX11_shift_49 : decode cX11_shift 49 = .ok (.iload_n 3, 1) := by decide +kernel
theorem dX11_shift_50 : decode cX11_shift 50 = .ok (.iaload, 1) := by decide +kernel
theorem dX11_shift_51 : decode cX11_shift 51 = .ok (.if_icmp .eq 6, 3) := by decide +kernel
theorem dX11_shift_54 : decode cX11_shift 54 = .ok (.bipush (-12), 2) := by decide +kernel
theorem dX11_shift_56 : decode cX11_shift 56 = .ok (.ireturn, 1) := by decide +kernel
theorem dX11_shift_57 : decode cX11_shift 57 = .ok (.iload 5, 2) := by decide +kernel
theorem dX11_shift_59 : decode cX11_shift 59 = .ok (.ifCond .lt 39, 3) := by decide +kernel
theorem dX11_shift_62 : decode cX11_shift 62 = .ok (.iload_n 2, 1) := by decide +kernel
theorem dX11_shift_63 : decode cX11_shift 63 = .ok (.ifCond .lt 35, 3) := by decide +kernel
theorem dX11_shift_66 : decode cX11_shift 66 = .ok (.iload 4, 2) := by decide +kernel
theorem dX11_shift_68 : decode cX11_shift 68 = .ok (.ifCond .lt 30, 3) := by decide +kernel
theorem dX11_shift_71 : decode cX11_shift 71 = .ok (.iload_n 2, 1) := by decide +kernel
theorem dX11_shift_72 : decode cX11_shift 72 = .ok (.aload_n 0, 1) := by decide +kernel
theorem dX11_shift_73 : decode cX11_shift 73 = .ok (.getfield 211, 3) := by decide +kernel
theorem dX11_shift_76 : decode cX11_shift 76 = .ok (.iload_n 1, 1) := by decide +kernel
theorem dX11_shift_77 : decode cX11_shift 77 = .ok (.iaload, 1) := by decide +kernel
theorem dX11_shift_78 : decode cX11_shift 78 = .ok (.iload 5, 2) := by decide +kernel
theorem dX11_shift_80 : decode cX11_shift 80 = .ok (.isub, 1) := by decide +kernel
theorem dX11_shift_81 : decode cX11_shift 81 = .ok (.if_icmp .gt 17, 3) := by decide +kernel
theorem dX11_shift_84 : decode cX11_shift 84 = .ok (.iload 4, 2) := by decide +kernel
theorem dX11_shift_86 : decode cX11_shift 86 = .ok (.aload_n 0, 1) := by decide +kernel
theorem dX11_shift_87 : decode cX11_shift 87 = .ok (.getfield 211, 3) := by decide +kernel
theorem dX11_shift_90 : decode cX11_shift 90 = .ok (.iload_n 3, 1) := by decide +kernel
theorem dX11_shift_91 : decode cX11_shift 91 = .ok (.iaload, 1) := by decide +kernel
theorem dX11_shift_92 : decode cX11_shift 92 = .ok (.iload 5, 2) := by decide +kernel
theorem dX11_shift_94 : decode cX11_shift 94 = .ok (.isub, 1) := by decide +kernel
theorem dX11_shift_95 : decode cX11_shift 95 = .ok (.if_icmp .le 6, 3) := by decide +kernel
theorem dX11_shift_98 : decode cX11_shift 98 = .ok (.bipush (-13), 2) := by decide +kernel
theorem dX11_shift_100 : decode cX11_shift 100 = .ok (.ireturn, 1) := by decide +kernel
theorem dX11_shift_101 : decode cX11_shift 101 = .ok (.iconst 0, 1) := by decide +kernel
theorem dX11_shift_102 : decode cX11_shift 102 = .ok (.istore 6, 2) := by decide +kernel
theorem dX11_shift_104 : decode cX11_shift 104 = .ok (.iload 6, 2) := by decide +kernel
theorem dX11_shift_106 : decode cX11_shift 106 = .ok (.iload 5, 2) := by decide +kernel
theorem dX11_shift_108 : decode cX11_shift 108 = .ok (.if_icmp .ge 30, 3) := by decide +kernel
theorem dX11_shift_111 : decode cX11_shift 111 = .ok (.aload_n 0, 1) := by decide +kernel
theorem dX11_shift_112 : decode cX11_shift 112 = .ok (.getfield 218, 3) := by decide +kernel
theorem dX11_shift_115 : decode cX11_shift 115 = .ok (.iload 6, 2) := by decide +kernel
theorem dX11_shift_117 : decode cX11_shift 117 = .ok (.aload_n 0, 1) := by decide +kernel
theorem dX11_shift_118 : decode cX11_shift 118 = .ok (.getfield 214, 3) := by decide +kernel
theorem dX11_shift_121 : decode cX11_shift 121 = .ok (.bipush 60, 2) := by decide +kernel
theorem dX11_shift_123 : decode cX11_shift 123 = .ok (.iload_n 1, 1) := by decide +kernel
theorem dX11_shift_124 : decode cX11_shift 124 = .ok (.imul, 1) := by decide +kernel
theorem dX11_shift_125 : decode cX11_shift 125 = .ok (.iload_n 2, 1) := by decide +kernel
theorem dX11_shift_126 : decode cX11_shift 126 = .ok (.iadd, 1) := by decide +kernel
theorem dX11_shift_127 : decode cX11_shift 127 = .ok (.iload 6, 2) := by decide +kernel
theorem dX11_shift_129 : decode cX11_shift 129 = .ok (.iadd, 1) := by decide +kernel
theorem dX11_shift_130 : decode cX11_shift 130 = .ok (.laload, 1) := by decide +kernel
theorem dX11_shift_131 : decode cX11_shift 131 = .ok (.lastore, 1) := by decide +kernel
theorem dX11_shift_132 : decode cX11_shift 132 = .ok (.iinc 6 1, 3) := by decide +kernel
theorem dX11_shift_135 : decode cX11_shift 135 = .ok (.goto (-31), 3) := by decide +kernel
theorem dX11_shift_138 : decode cX11_shift 138 = .ok (.iconst 0, 1) := by decide +kernel
theorem dX11_shift_139 : decode cX11_shift 139 = .ok (.istore 6, 2) := by decide +kernel
theorem dX11_shift_141 : decode cX11_shift 141 = .ok (.iload 6, 2) := by decide +kernel
theorem dX11_shift_143 : decode cX11_shift 143 = .ok (.iload 5, 2) := by decide +kernel
theorem dX11_shift_145 : decode cX11_shift 145 = .ok (.if_icmp .ge 31, 3) := by decide +kernel
theorem dX11_shift_148 : decode cX11_shift 148 = .ok (.aload_n 0, 1) := by decide +kernel
theorem dX11_shift_149 : decode cX11_shift 149 = .ok (.getfield 214, 3) := by decide +kernel
theorem dX11_shift_152 : decode cX11_shift 152 = .ok (.bipush 60, 2) := by decide +kernel
theorem dX11_shift_154 : decode cX11_shift 154 = .ok (.iload_n 3, 1) := by decide +kernel
theorem dX11_shift_155 : decode cX11_shift 155 = .ok (.imul, 1) := by decide +kernel
theorem dX11_shift_156 : decode cX11_shift 156 = .ok (.iload 4, 2) := by decide +kernel
theorem dX11_shift_158 : decode cX11_shift 158 = .ok (.iadd, 1) := by decide +kernel
theorem dX11_shift_159 : decode cX11_shift 159 = .ok (.iload 6, 2) := by decide +kernel
theorem dX11_shift_161 : decode cX11_shift 161 = .ok (.iadd, 1) := by decide +kernel
theorem dX11_shift_162 : decode cX11_shift 162 = .ok (.aload_n 0, 1) := by decide +kernel
theorem dX11_shift_163 : decode cX11_shift 163 = .ok (.getfield 218, 3) := by decide +kernel
theorem dX11_shift_166 : decode cX11_shift 166 = .ok (.iload 6, 2) := by decide +kernel
theorem dX11_shift_168 : decode cX11_shift 168 = .ok (.laload, 1) := by decide +kernel
theorem dX11_shift_169 : decode cX11_shift 169 = .ok (.lastore, 1) := by decide +kernel
theorem dX11_shift_170 : decode cX11_shift 170 = .ok (.iinc 6 1, 3) := by decide +kernel
theorem dX11_shift_173 : decode cX11_shift 173 = .ok (.goto (-32), 3) := by decide +kernel
theorem dX11_shift_176 : decode cX11_shift 176 = .ok (.iload 5, 2) := by decide +kernel
theorem dX11_shift_178 : decode cX11_shift 178 = .ok (.ireturn, 1) := by decide +kernel
theorem dJ0_length_8abf5_0 : decode cJ0_length_8abf5 0 = .ok (.aload_n 0, 1) := by decide +kernel
theorem dJ0_length_8abf5_1 : decode cJ0_length_8abf5 1 = .ok (.getfield 9, 3) := by decide +kernel
theorem dJ0_length_8abf5_4 : decode cJ0_length_8abf5 4 = .ok (.arraylength, 1) := by decide +kernel
theorem dJ0_length_8abf5_5 : decode cJ0_length_8abf5 5 = .ok (.aload_n 0, 1) := by decide +kernel
theorem dJ0_length_8abf5_6 : decode cJ0_length_8abf5 6 = .ok (.invokevirtual 335, 3) := by decide +kernel
theorem dJ0_length_8abf5_9 : decode cJ0_length_8abf5 9 = .ok (.ishr, 1) := by decide +kernel
theorem dJ0_length_8abf5_10 : decode cJ0_length_8abf5 10 = .ok (.ireturn, 1) := by decide +kernel
theorem dJ0_charAt_5068e_0 : decode cJ0_charAt_5068e 0 = .ok (.aload_n 0, 1) := by decide +kernel
theorem dJ0_charAt_5068e_1 : decode cJ0_charAt_5068e 1 = .ok (.invokevirtual 492, 3) := by decide +kernel
theorem dJ0_charAt_5068e_4 : decode cJ0_charAt_5068e 4 = .ok (.ifCond .eq 12, 3) := by decide +kernel
theorem dJ0_charAt_5068e_7 : decode cJ0_charAt_5068e 7 = .ok (.aload_n 0, 1) := by decide +kernel
theorem dJ0_charAt_5068e_8 : decode cJ0_charAt_5068e 8 = .ok (.getfield 9, 3) := by decide +kernel
theorem dJ0_charAt_5068e_11 : decode cJ0_charAt_5068e 11 = .ok (.iload_n 1, 1) := by decide +kernel
theorem dJ0_charAt_5068e_12 : decode cJ0_charAt_5068e 12 = .ok (.invokestatic 495, 3) := by decide +kernel
theorem dJ0_charAt_5068e_15 : decode cJ0_charAt_5068e 15 = .ok (.ireturn, 1) := by decide +kernel
theorem dJ0_charAt_5068e_16 : decode cJ0_charAt_5068e 16 = .ok (.aload_n 0, 1) := by decide +kernel
theorem dJ0_charAt_5068e_17 : decode cJ0_charAt_5068e 17 = .ok (.getfield 9, 3) := by decide +kernel
theorem dJ0_charAt_5068e_20 : decode cJ0_charAt_5068e 20 = .ok (.iload_n 1, 1) := by decide +kernel
theorem dJ0_charAt_5068e_21 : decode cJ0_charAt_5068e 21 = .ok (.invokestatic 498, 3) := by decide +kernel
theorem dJ0_charAt_5068e_24 : decode cJ0_charAt_5068e 24 = .ok (.ireturn, 1) := by decide +kernel
theorem dJ0_indexOf_0f7a4_0 : decode cJ0_indexOf_0f7a4 0 = .ok (.aload_n 0, 1) := by decide +kernel
theorem dJ0_indexOf_0f7a4_1 : decode cJ0_indexOf_0f7a4 1 = .ok (.iload_n 1, 1) := by decide +kernel
theorem dJ0_indexOf_0f7a4_2 : decode cJ0_indexOf_0f7a4 2 = .ok (.iconst 0, 1) := by decide +kernel
theorem dJ0_indexOf_0f7a4_3 : decode cJ0_indexOf_0f7a4 3 = .ok (.invokevirtual 633, 3) := by decide +kernel
theorem dJ0_indexOf_0f7a4_6 : decode cJ0_indexOf_0f7a4 6 = .ok (.ireturn, 1) := by decide +kernel
theorem dJ0_indexOf_7cf53_0 : decode cJ0_indexOf_7cf53 0 = .ok (.aload_n 0, 1) := by decide +kernel
theorem dJ0_indexOf_7cf53_1 : decode cJ0_indexOf_7cf53 1 = .ok (.invokevirtual 492, 3) := by decide +kernel
theorem dJ0_indexOf_7cf53_4 : decode cJ0_indexOf_7cf53 4 = .ok (.ifCond .eq 19, 3) := by decide +kernel
theorem dJ0_indexOf_7cf53_7 : decode cJ0_indexOf_7cf53 7 = .ok (.aload_n 0, 1) := by decide +kernel
theorem dJ0_indexOf_7cf53_8 : decode cJ0_indexOf_7cf53 8 = .ok (.getfield 9, 3) := by decide +kernel
theorem dJ0_indexOf_7cf53_11 : decode cJ0_indexOf_7cf53 11 = .ok (.iload_n 1, 1) := by decide +kernel
theorem dJ0_indexOf_7cf53_12 : decode cJ0_indexOf_7cf53 12 = .ok (.iload_n 2, 1) := by decide +kernel
theorem dJ0_indexOf_7cf53_13 : decode cJ0_indexOf_7cf53 13 = .ok (.aload_n 0, 1) := by decide +kernel
theorem dJ0_indexOf_7cf53_14 : decode cJ0_indexOf_7cf53 14 = .ok (.invokevirtual 505, 3) := by decide +kernel
theorem dJ0_indexOf_7cf53_17 : decode cJ0_indexOf_7cf53 17 = .ok (.invokestatic 637, 3) := by decide +kernel
theorem dJ0_indexOf_7cf53_20 : decode cJ0_indexOf_7cf53 20 = .ok (.goto 16, 3) := by decide +kernel
theorem dJ0_indexOf_7cf53_23 : decode cJ0_indexOf_7cf53 23 = .ok (.aload_n 0, 1) := by decide +kernel
theorem dJ0_indexOf_7cf53_24 : decode cJ0_indexOf_7cf53 24 = .ok (.getfield 9, 3) := by decide +kernel
theorem dJ0_indexOf_7cf53_27 : decode cJ0_indexOf_7cf53 27 = .ok (.iload_n 1, 1) := by decide +kernel
theorem dJ0_indexOf_7cf53_28 : decode cJ0_indexOf_7cf53 28 = .ok (.iload_n 2, 1) := by decide +kernel
theorem dJ0_indexOf_7cf53_29 : decode cJ0_indexOf_7cf53 29 = .ok (.aload_n 0, 1) := by decide +kernel
theorem dJ0_indexOf_7cf53_30 : decode cJ0_indexOf_7cf53 30 = .ok (.invokevirtual 505, 3) := by decide +kernel
theorem dJ0_indexOf_7cf53_33 : decode cJ0_indexOf_7cf53 33 = .ok (.invokestatic 640, 3) := by decide +kernel
theorem dJ0_indexOf_7cf53_36 : decode cJ0_indexOf_7cf53 36 = .ok (.ireturn, 1) := by decide +kernel
theorem dJ0_coder_7d493_0 : decode cJ0_coder_7d493 0 = .ok (.getstatic 38, 3) := by decide +kernel
theorem dJ0_coder_7d493_3 : decode cJ0_coder_7d493 3 = .ok (.ifCond .eq 10, 3) := by decide +kernel
theorem dJ0_coder_7d493_6 : decode cJ0_coder_7d493 6 = .ok (.aload_n 0, 1) := by decide +kernel
theorem dJ0_coder_7d493_7 : decode cJ0_coder_7d493 7 = .ok (.getfield 15, 3) := by decide +kernel
theorem dJ0_coder_7d493_10 : decode cJ0_coder_7d493 10 = .ok (.goto 4, 3) := by decide +kernel
theorem dJ0_coder_7d493_13 : decode cJ0_coder_7d493 13 = .ok (.iconst 1, 1) := by decide +kernel
theorem dJ0_coder_7d493_14 : decode cJ0_coder_7d493 14 = .ok (.ireturn, 1) := by decide +kernel
theorem dJ0_isLatin1_aae02_0 : decode cJ0_isLatin1_aae02 0 = .ok (.getstatic 38, 3) := by decide +kernel
theorem dJ0_isLatin1_aae02_3 : decode cJ0_isLatin1_aae02 3 = .ok (.ifCond .eq 14, 3) := by decide +kernel
theorem dJ0_isLatin1_aae02_6 : decode cJ0_isLatin1_aae02 6 = .ok (.aload_n 0, 1) := by decide +kernel
theorem dJ0_isLatin1_aae02_7 : decode cJ0_isLatin1_aae02 7 = .ok (.getfield 15, 3) := by decide +kernel
theorem dJ0_isLatin1_aae02_10 : decode cJ0_isLatin1_aae02 10 = .ok (.ifCond .ne 7, 3) := by decide +kernel
theorem dJ0_isLatin1_aae02_13 : decode cJ0_isLatin1_aae02 13 = .ok (.iconst 1, 1) := by decide +kernel
theorem dJ0_isLatin1_aae02_14 : decode cJ0_isLatin1_aae02 14 = .ok (.goto 4, 3) := by decide +kernel
theorem dJ0_isLatin1_aae02_17 : decode cJ0_isLatin1_aae02 17 = .ok (.iconst 0, 1) := by decide +kernel
theorem dJ0_isLatin1_aae02_18 : decode cJ0_isLatin1_aae02 18 = .ok (.ireturn, 1) := by decide +kernel
theorem dJ0_checkIndex_df160_0 : decode cJ0_checkIndex_df160 0 = .ok (.iload_n 0, 1) := by decide +kernel
theorem dJ0_checkIndex_df160_1 : decode cJ0_checkIndex_df160 1 = .ok (.iload_n 1, 1) := by decide +kernel
theorem dJ0_checkIndex_df160_2 : decode cJ0_checkIndex_df160 2 = .ok (.getstatic 1053, 3) := by decide +kernel
theorem dJ0_checkIndex_df160_5 : decode cJ0_checkIndex_df160 5 = .ok (.invokestatic 1059, 3) := by decide +kernel
theorem dJ0_checkIndex_df160_8 : decode cJ0_checkIndex_df160 8 = .ok (.pop, 1) := by decide +kernel
theorem dJ0_checkIndex_df160_9 : decode cJ0_checkIndex_df160 9 = .ok (.return_, 1) := by decide +kernel
theorem dJ1_charAt_3b067_0 : decode cJ1_charAt_3b067 0 = .ok (.iload_n 1, 1) := by decide +kernel
theorem dJ1_charAt_3b067_1 : decode cJ1_charAt_3b067 1 = .ok (.aload_n 0, 1) := by decide +kernel
theorem dJ1_charAt_3b067_2 : decode cJ1_charAt_3b067 2 = .ok (.arraylength, 1) := by decide +kernel
theorem dJ1_charAt_3b067_3 : decode cJ1_charAt_3b067 3 = .ok (.invokestatic 9, 3) := by decide +kernel
theorem dJ1_charAt_3b067_6 : decode cJ1_charAt_3b067 6 = .ok (.aload_n 0, 1) := by decide +kernel
theorem dJ1_charAt_3b067_7 : decode cJ1_charAt_3b067 7 = .ok (.iload_n 1, 1) := by decide +kernel
theorem dJ1_charAt_3b067_8 : decode cJ1_charAt_3b067 8 = .ok (.baload, 1) := by decide +kernel
theorem dJ1_charAt_3b067_9 : decode cJ1_charAt_3b067 9 = .ok (.sipush 255, 3) := by decide +kernel
theorem dJ1_charAt_3b067_12 : decode cJ1_charAt_3b067 12 = .ok (.iand, 1) := by decide +kernel
theorem dJ1_charAt_3b067_13 : decode cJ1_charAt_3b067 13 = .ok (.i2c, 1) := by decide +kernel
theorem dJ1_charAt_3b067_14 : decode cJ1_charAt_3b067 14 = .ok (.ireturn, 1) := by decide +kernel
theorem dJ1_canEncode_9a6ad_0 : decode cJ1_canEncode_9a6ad 0 = .ok (.iload_n 0, 1) := by decide +kernel
theorem dJ1_canEncode_9a6ad_1 : decode cJ1_canEncode_9a6ad 1 = .ok (.ifCond .lt 14, 3) := by decide +kernel
theorem dJ1_canEncode_9a6ad_4 : decode cJ1_canEncode_9a6ad 4 = .ok (.iload_n 0, 1) := by decide +kernel
theorem dJ1_canEncode_9a6ad_5 : decode cJ1_canEncode_9a6ad 5 = .ok (.sipush 255, 3) := by decide +kernel
theorem dJ1_canEncode_9a6ad_8 : decode cJ1_canEncode_9a6ad 8 = .ok (.if_icmp .gt 7, 3) := by decide +kernel
theorem dJ1_canEncode_9a6ad_11 : decode cJ1_canEncode_9a6ad 11 = .ok (.iconst 1, 1) := by decide +kernel
theorem dJ1_canEncode_9a6ad_12 : decode cJ1_canEncode_9a6ad 12 = .ok (.goto 4, 3) := by decide +kernel
theorem dJ1_canEncode_9a6ad_15 : decode cJ1_canEncode_9a6ad 15 = .ok (.iconst 0, 1) := by decide +kernel
theorem dJ1_canEncode_9a6ad_16 : decode cJ1_canEncode_9a6ad 16 = .ok (.ireturn, 1) := by decide +kernel
theorem dJ1_indexOf_4cfef_0 : decode cJ1_indexOf_4cfef 0 = .ok (.iload_n 1, 1) := by decide +kernel
theorem dJ1_indexOf_4cfef_1 : decode cJ1_indexOf_4cfef 1 = .ok (.invokestatic 88, 3) := by decide +kernel
theorem dJ1_indexOf_4cfef_4 : decode cJ1_indexOf_4cfef 4 = .ok (.ifCond .ne 5, 3) := by decide +kernel
theorem dJ1_indexOf_4cfef_7 : decode cJ1_indexOf_4cfef 7 = .ok (.iconst (-1), 1) := by decide +kernel
theorem dJ1_indexOf_4cfef_8 : decode cJ1_indexOf_4cfef 8 = .ok (.ireturn, 1) := by decide +kernel
theorem dJ1_indexOf_4cfef_9 : decode cJ1_indexOf_4cfef 9 = .ok (.iload_n 2, 1) := by decide +kernel
theorem dJ1_indexOf_4cfef_10 : decode cJ1_indexOf_4cfef 10 = .ok (.iconst 0, 1) := by decide +kernel
theorem dJ1_indexOf_4cfef_11 : decode cJ1_indexOf_4cfef 11 = .ok (.invokestatic 92, 3) := by decide +kernel
theorem dJ1_indexOf_4cfef_14 : decode cJ1_indexOf_4cfef 14 = .ok (.istore_n 2, 1) := by decide +kernel
theorem dJ1_indexOf_4cfef_15 : decode cJ1_indexOf_4cfef 15 = .ok (.iload_n 3, 1) := by decide +kernel
theorem dJ1_indexOf_4cfef_16 : decode cJ1_indexOf_4cfef 16 = .ok (.aload_n 0, 1) := by decide +kernel
theorem dJ1_indexOf_4cfef_17 : decode cJ1_indexOf_4cfef 17 = .ok (.arraylength, 1) := by decide +kernel
theorem dJ1_indexOf_4cfef_18 : decode cJ1_indexOf_4cfef 18 = .ok (.invokestatic 38, 3) := by decide +kernel
theorem dJ1_indexOf_4cfef_21 : decode cJ1_indexOf_4cfef 21 = .ok (.istore_n 3, 1) := by decide +kernel
theorem dJ1_indexOf_4cfef_22 : decode cJ1_indexOf_4cfef 22 = .ok (.iload_n 2, 1) := by decide +kernel
theorem dJ1_indexOf_4cfef_23 : decode cJ1_indexOf_4cfef 23 = .ok (.iload_n 3, 1) := by decide +kernel
theorem dJ1_indexOf_4cfef_24 : decode cJ1_indexOf_4cfef 24 = .ok (.if_icmp .lt 5, 3) := by decide +kernel
theorem dJ1_indexOf_4cfef_27 : decode cJ1_indexOf_4cfef 27 = .ok (.iconst (-1), 1) := by decide +kernel
theorem dJ1_indexOf_4cfef_28 : decode cJ1_indexOf_4cfef 28 = .ok (.ireturn, 1) := by decide +kernel
theorem dJ1_indexOf_4cfef_29 : decode cJ1_indexOf_4cfef 29 = .ok (.aload_n 0, 1) := by decide +kernel
theorem dJ1_indexOf_4cfef_30 : decode cJ1_indexOf_4cfef 30 = .ok (.iload_n 1, 1) := by decide +kernel
theorem dJ1_indexOf_4cfef_31 : decode cJ1_indexOf_4cfef 31 = .ok (.iload_n 2, 1) := by decide +kernel
theorem dJ1_indexOf_4cfef_32 : decode cJ1_indexOf_4cfef 32 = .ok (.iload_n 3, 1) := by decide +kernel
theorem dJ1_indexOf_4cfef_33 : decode cJ1_indexOf_4cfef 33 = .ok (.invokestatic 95, 3) := by decide +kernel
theorem dJ1_indexOf_4cfef_36 : decode cJ1_indexOf_4cfef 36 = .ok (.ireturn, 1) := by decide +kernel
theorem dJ1_indexOfChar_4cfef_0 : decode cJ1_indexOfChar_4cfef 0 = .ok (.iload_n 1, 1) := by decide +kernel
theorem dJ1_indexOfChar_4cfef_1 : decode cJ1_indexOfChar_4cfef 1 = .ok (.i2b, 1) := by decide +kernel
theorem dJ1_indexOfChar_4cfef_2 : decode cJ1_indexOfChar_4cfef 2 = .ok (.istore 4, 2) := by decide +kernel
theorem dJ1_indexOfChar_4cfef_4 : decode cJ1_indexOfChar_4cfef 4 = .ok (.iload_n 2, 1) := by decide +kernel
theorem dJ1_indexOfChar_4cfef_5 : decode cJ1_indexOfChar_4cfef 5 = .ok (.istore 5, 2) := by decide +kernel
theorem dJ1_indexOfChar_4cfef_7 : decode cJ1_indexOfChar_4cfef 7 = .ok (.iload 5, 2) := by decide +kernel
theorem dJ1_indexOfChar_4cfef_9 : decode cJ1_indexOfChar_4cfef 9 = .ok (.iload_n 3, 1) := by decide +kernel
theorem dJ1_indexOfChar_4cfef_10 : decode cJ1_indexOfChar_4cfef 10 = .ok (.if_icmp .ge 21, 3) := by decide +kernel
theorem dJ1_indexOfChar_4cfef_13 : decode cJ1_indexOfChar_4cfef 13 = .ok (.aload_n 0, 1) := by decide +kernel
theorem dJ1_indexOfChar_4cfef_14 : decode cJ1_indexOfChar_4cfef 14 = .ok (.iload 5, 2) := by decide +kernel
theorem dJ1_indexOfChar_4cfef_16 : decode cJ1_indexOfChar_4cfef 16 = .ok (.baload, 1) := by decide +kernel
theorem dJ1_indexOfChar_4cfef_17 : decode cJ1_indexOfChar_4cfef 17 = .ok (.iload 4, 2) := by decide +kernel
theorem dJ1_indexOfChar_4cfef_19 : decode cJ1_indexOfChar_4cfef 19 = .ok (.if_icmp .ne 6, 3) := by decide +kernel
theorem dJ1_indexOfChar_4cfef_22 : decode cJ1_indexOfChar_4cfef 22 = .ok (.iload 5, 2) := by decide +kernel
theorem dJ1_indexOfChar_4cfef_24 : decode cJ1_indexOfChar_4cfef 24 = .ok (.ireturn, 1) := by decide +kernel
theorem dJ1_indexOfChar_4cfef_25 : decode cJ1_indexOfChar_4cfef 25 = .ok (.iinc 5 1, 3) := by decide +kernel
theorem dJ1_indexOfChar_4cfef_28 : decode cJ1_indexOfChar_4cfef 28 = .ok (.goto (-21), 3) := by decide +kernel
theorem dJ1_indexOfChar_4cfef_31 : decode cJ1_indexOfChar_4cfef 31 = .ok (.iconst (-1), 1) := by decide +kernel
theorem dJ1_indexOfChar_4cfef_32 : decode cJ1_indexOfChar_4cfef 32 = .ok (.ireturn, 1) := by decide +kernel
theorem dJ7_fill_d0a16_0 : decode cJ7_fill_d0a16 0 = .ok (.iconst 0, 1) := by decide +kernel
theorem dJ7_fill_d0a16_1 : decode cJ7_fill_d0a16 1 = .ok (.istore_n 3, 1) := by decide +kernel
theorem dJ7_fill_d0a16_2 : decode cJ7_fill_d0a16 2 = .ok (.aload_n 0, 1) := by decide +kernel
theorem dJ7_fill_d0a16_3 : decode cJ7_fill_d0a16 3 = .ok (.arraylength, 1) := by decide +kernel
theorem dJ7_fill_d0a16_4 : decode cJ7_fill_d0a16 4 = .ok (.istore 4, 2) := by decide +kernel
theorem dJ7_fill_d0a16_6 : decode cJ7_fill_d0a16 6 = .ok (.iload_n 3, 1) := by decide +kernel
theorem dJ7_fill_d0a16_7 : decode cJ7_fill_d0a16 7 = .ok (.iload 4, 2) := by decide +kernel
theorem dJ7_fill_d0a16_9 : decode cJ7_fill_d0a16 9 = .ok (.if_icmp .ge 13, 3) := by decide +kernel
theorem dJ7_fill_d0a16_12 : decode cJ7_fill_d0a16 12 = .ok (.aload_n 0, 1) := by decide +kernel
theorem dJ7_fill_d0a16_13 : decode cJ7_fill_d0a16 13 = .ok (.iload_n 3, 1) := by decide +kernel
theorem dJ7_fill_d0a16_14 : decode cJ7_fill_d0a16 14 = .ok (.lload_n 1, 1) := by decide +kernel
theorem dJ7_fill_d0a16_15 : decode cJ7_fill_d0a16 15 = .ok (.lastore, 1) := by decide +kernel
theorem dJ7_fill_d0a16_16 : decode cJ7_fill_d0a16 16 = .ok (.iinc 3 1, 3) := by decide +kernel
theorem dJ7_fill_d0a16_19 : decode cJ7_fill_d0a16 19 = .ok (.goto (-13), 3) := by decide +kernel
theorem dJ7_fill_d0a16_22 : decode cJ7_fill_d0a16 22 = .ok (.return_, 1) := by decide +kernel
theorem dJ7_fill_53178_0 : decode cJ7_fill_53178 0 = .ok (.iconst 0, 1) := by decide +kernel
theorem dJ7_fill_53178_1 : decode cJ7_fill_53178 1 = .ok (.istore_n 2, 1) := by decide +kernel
theorem dJ7_fill_53178_2 : decode cJ7_fill_53178 2 = .ok (.aload_n 0, 1) := by decide +kernel
theorem dJ7_fill_53178_3 : decode cJ7_fill_53178 3 = .ok (.arraylength, 1) := by decide +kernel
theorem dJ7_fill_53178_4 : decode cJ7_fill_53178 4 = .ok (.istore_n 3, 1) := by decide +kernel
theorem dJ7_fill_53178_5 : decode cJ7_fill_53178 5 = .ok (.iload_n 2, 1) := by decide +kernel
theorem dJ7_fill_53178_6 : decode cJ7_fill_53178 6 = .ok (.iload_n 3, 1) := by decide +kernel
theorem dJ7_fill_53178_7 : decode cJ7_fill_53178 7 = .ok (.if_icmp .ge 13, 3) := by decide +kernel
theorem dJ7_fill_53178_10 : decode cJ7_fill_53178 10 = .ok (.aload_n 0, 1) := by decide +kernel
theorem dJ7_fill_53178_11 : decode cJ7_fill_53178 11 = .ok (.iload_n 2, 1) := by decide +kernel
theorem dJ7_fill_53178_12 : decode cJ7_fill_53178 12 = .ok (.iload_n 1, 1) := by decide +kernel
theorem dJ7_fill_53178_13 : decode cJ7_fill_53178 13 = .ok (.iastore, 1) := by decide +kernel
theorem dJ7_fill_53178_14 : decode cJ7_fill_53178 14 = .ok (.iinc 2 1, 3) := by decide +kernel
theorem dJ7_fill_53178_17 : decode cJ7_fill_53178 17 = .ok (.goto (-12), 3) := by decide +kernel
theorem dJ7_fill_53178_20 : decode cJ7_fill_53178 20 = .ok (.return_, 1) := by decide +kernel
theorem dJ7_copyOf_59c91_0 : decode cJ7_copyOf_59c91 0 = .ok (.iload_n 1, 1) := by decide +kernel
theorem dJ7_copyOf_59c91_1 : decode cJ7_copyOf_59c91 1 = .ok (.aload_n 0, 1) := by decide +kernel
theorem dJ7_copyOf_59c91_2 : decode cJ7_copyOf_59c91 2 = .ok (.arraylength, 1) := by decide +kernel
theorem dJ7_copyOf_59c91_3 : decode cJ7_copyOf_59c91 3 = .ok (.if_icmp .ne 11, 3) := by decide +kernel
theorem dJ7_copyOf_59c91_6 : decode cJ7_copyOf_59c91 6 = .ok (.aload_n 0, 1) := by decide +kernel
theorem dJ7_copyOf_59c91_7 : decode cJ7_copyOf_59c91 7 = .ok (.invokevirtual 316, 3) := by decide +kernel
theorem dJ7_copyOf_59c91_10 : decode cJ7_copyOf_59c91 10 = .ok (.checkcast 317, 3) := by decide +kernel
theorem dJ7_copyOf_59c91_13 : decode cJ7_copyOf_59c91 13 = .ok (.areturn, 1) := by decide +kernel
theorem dJ7_copyOf_59c91_14 : decode cJ7_copyOf_59c91 14 = .ok (.iload_n 1, 1) := by decide +kernel
theorem dJ7_copyOf_59c91_15 : decode cJ7_copyOf_59c91 15 = .ok (.newarray .int, 2) := by decide +kernel
theorem dJ7_copyOf_59c91_17 : decode cJ7_copyOf_59c91 17 = .ok (.astore_n 2, 1) := by decide +kernel
theorem dJ7_copyOf_59c91_18 : decode cJ7_copyOf_59c91 18 = .ok (.aload_n 0, 1) := by decide +kernel
theorem dJ7_copyOf_59c91_19 : decode cJ7_copyOf_59c91 19 = .ok (.iconst 0, 1) := by decide +kernel
theorem dJ7_copyOf_59c91_20 : decode cJ7_copyOf_59c91 20 = .ok (.aload_n 2, 1) := by decide +kernel
theorem dJ7_copyOf_59c91_21 : decode cJ7_copyOf_59c91 21 = .ok (.iconst 0, 1) := by decide +kernel
theorem dJ7_copyOf_59c91_22 : decode cJ7_copyOf_59c91 22 = .ok (.aload_n 0, 1) := by decide +kernel
theorem dJ7_copyOf_59c91_23 : decode cJ7_copyOf_59c91 23 = .ok (.arraylength, 1) := by decide +kernel
theorem dJ7_copyOf_59c91_24 : decode cJ7_copyOf_59c91 24 = .ok (.iload_n 1, 1) := by decide +kernel
theorem dJ7_copyOf_59c91_25 : decode cJ7_copyOf_59c91 25 = .ok (.invokestatic 304, 3) := by decide +kernel
theorem dJ7_copyOf_59c91_28 : decode cJ7_copyOf_59c91 28 = .ok (.invokestatic 150, 3) := by decide +kernel
theorem dJ7_copyOf_59c91_31 : decode cJ7_copyOf_59c91 31 = .ok (.aload_n 2, 1) := by decide +kernel
theorem dJ7_copyOf_59c91_32 : decode cJ7_copyOf_59c91 32 = .ok (.areturn, 1) := by decide +kernel
theorem dJ3_checkIndex_8e157_0 : decode cJ3_checkIndex_8e157 0 = .ok (.iload_n 0, 1) := by decide +kernel
theorem dJ3_checkIndex_8e157_1 : decode cJ3_checkIndex_8e157 1 = .ok (.ifCond .lt 8, 3) := by decide +kernel
theorem dJ3_checkIndex_8e157_4 : decode cJ3_checkIndex_8e157 4 = .ok (.iload_n 0, 1) := by decide +kernel
theorem dJ3_checkIndex_8e157_5 : decode cJ3_checkIndex_8e157 5 = .ok (.iload_n 1, 1) := by decide +kernel
theorem dJ3_checkIndex_8e157_6 : decode cJ3_checkIndex_8e157 6 = .ok (.if_icmp .lt 10, 3) := by decide +kernel
theorem dJ3_checkIndex_8e157_9 : decode cJ3_checkIndex_8e157 9 = .ok (.aload_n 2, 1) := by decide +kernel
theorem dJ3_checkIndex_8e157_10 : decode cJ3_checkIndex_8e157 10 = .ok (.iload_n 0, 1) := by decide +kernel
theorem dJ3_checkIndex_8e157_11 : decode cJ3_checkIndex_8e157 11 = .ok (.iload_n 1, 1) := by decide +kernel
theorem dJ3_checkIndex_8e157_12 : decode cJ3_checkIndex_8e157 12 = .ok (.invokestatic 95, 3) := by decide +kernel
theorem dJ3_checkIndex_8e157_15 : decode cJ3_checkIndex_8e157 15 = .ok (.athrow, 1) := by decide +kernel
theorem dJ3_checkIndex_8e157_16 : decode cJ3_checkIndex_8e157 16 = .ok (.iload_n 0, 1) := by decide +kernel
theorem dJ3_checkIndex_8e157_17 : decode cJ3_checkIndex_8e157 17 = .ok (.ireturn, 1) := by decide +kernel
theorem dL_law_0 : decode cL_law 0 = .ok (.new 7, 3) := by decide +kernel
theorem dL_law_3 : decode cL_law 3 = .ok (.dup, 1) := by decide +kernel
theorem dL_law_4 : decode cL_law 4 = .ok (.invokespecial 9, 3) := by decide +kernel
theorem dL_law_7 : decode cL_law 7 = .ok (.astore_n 1, 1) := by decide +kernel
theorem dL_law_8 : decode cL_law 8 = .ok (.new 10, 3) := by decide +kernel
theorem dL_law_11 : decode cL_law 11 = .ok (.dup, 1) := by decide +kernel
theorem dL_law_12 : decode cL_law 12 = .ok (.invokespecial 12, 3) := by decide +kernel
theorem dL_law_15 : decode cL_law 15 = .ok (.astore_n 2, 1) := by decide +kernel
theorem dL_law_16 : decode cL_law 16 = .ok (.iconst 0, 1) := by decide +kernel
theorem dL_law_17 : decode cL_law 17 = .ok (.istore_n 3, 1) := by decide +kernel
theorem dL_law_18 : decode cL_law 18 = .ok (.iload_n 3, 1) := by decide +kernel
theorem dL_law_19 : decode cL_law 19 = .ok (.aload_n 0, 1) := by decide +kernel
theorem dL_law_20 : decode cL_law 20 = .ok (.arraylength, 1) := by decide +kernel
theorem dL_law_21 : decode cL_law 21 = .ok (.bipush 6, 2) := by decide +kernel
theorem dL_law_23 : decode cL_law 23 = .ok (.isub, 1) := by decide +kernel
theorem dL_law_24 : decode cL_law 24 = .ok (.if_icmp .gt 1439, 3) := by decide +kernel
theorem dL_law_27 : decode cL_law 27 = .ok (.aload_n 0, 1) := by decide +kernel
theorem dL_law_28 : decode cL_law 28 = .ok (.iload_n 3, 1) := by decide +kernel
theorem dL_law_29 : decode cL_law 29 = .ok (.iaload, 1) := by decide +kernel
theorem dL_law_30 : decode cL_law 30 = .ok (.bipush 63, 2) := by decide +kernel
theorem dL_law_32 : decode cL_law 32 = .ok (.iand, 1) := by decide +kernel
theorem dL_law_33 : decode cL_law 33 = .ok (.tableswitch 1424 0 37 #[167, 200, 233, 276, 299, 312, 335, 348, 371, 404, 427, 460, 493, 536, 559, 592, 655, 698, 721, 764, 787, 830, 874, 908, 951, 974, 1017, 1030, 1063, 1076, 1089, 1132, 1155, 1188, 1211, 1254, 1327, 1361], 167) := by decide +kernel
theorem dL_law_200 : decode cL_law 200 = .ok (.aload_n 1, 1) := by decide +kernel
theorem dL_law_201 : decode cL_law 201 = .ok (.aload_n 0, 1) := by decide +kernel
theorem dL_law_202 : decode cL_law 202 = .ok (.iload_n 3, 1) := by decide +kernel
theorem dL_law_203 : decode cL_law 203 = .ok (.iconst 1, 1) := by decide +kernel
theorem dL_law_204 : decode cL_law 204 = .ok (.iadd, 1) := by decide +kernel
theorem dL_law_205 : decode cL_law 205 = .ok (.iaload, 1) := by decide +kernel
theorem dL_law_206 : decode cL_law 206 = .ok (.aload_n 0, 1) := by decide +kernel
theorem dL_law_207 : decode cL_law 207 = .ok (.iload_n 3, 1) := by decide +kernel
theorem dL_law_208 : decode cL_law 208 = .ok (.iconst 2, 1) := by decide +kernel
theorem dL_law_209 : decode cL_law 209 = .ok (.iadd, 1) := by decide +kernel
theorem dL_law_210 : decode cL_law 210 = .ok (.iaload, 1) := by decide +kernel
theorem dL_law_211 : decode cL_law 211 = .ok (.invokevirtual 13, 3) := by decide +kernel
theorem dL_law_214 : decode cL_law 214 = .ok (.aload_n 2, 1) := by decide +kernel
theorem dL_law_215 : decode cL_law 215 = .ok (.aload_n 0, 1) := by decide +kernel
theorem dL_law_216 : decode cL_law 216 = .ok (.iload_n 3, 1) := by decide +kernel
theorem dL_law_217 : decode cL_law 217 = .ok (.iconst 1, 1) := by decide +kernel
theorem dL_law_218 : decode cL_law 218 = .ok (.iadd, 1) := by decide +kernel
theorem dL_law_219 : decode cL_law 219 = .ok (.iaload, 1) := by decide +kernel
theorem dL_law_220 : decode cL_law 220 = .ok (.aload_n 0, 1) := by decide +kernel
theorem dL_law_221 : decode cL_law 221 = .ok (.iload_n 3, 1) := by decide +kernel
theorem dL_law_222 : decode cL_law 222 = .ok (.iconst 2, 1) := by decide +kernel
theorem dL_law_223 : decode cL_law 223 = .ok (.iadd, 1) := by decide +kernel
theorem dL_law_224 : decode cL_law 224 = .ok (.iaload, 1) := by decide +kernel
theorem dL_law_225 : decode cL_law 225 = .ok (.invokevirtual 17, 3) := by decide +kernel
theorem dL_law_228 : decode cL_law 228 = .ok (.if_icmp .eq 1229, 3) := by decide +kernel
theorem dL_law_231 : decode cL_law 231 = .ok (.iconst 0, 1) := by decide +kernel
theorem dL_law_232 : decode cL_law 232 = .ok (.ireturn, 1) := by decide +kernel
theorem dL_law_233 : decode cL_law 233 = .ok (.aload_n 1, 1) := by decide +kernel
theorem dL_law_234 : decode cL_law 234 = .ok (.aload_n 0, 1) := by decide +kernel
theorem dL_law_235 : decode cL_law 235 = .ok (.iload_n 3, 1) := by decide +kernel
theorem dL_law_236 : decode cL_law 236 = .ok (.iconst 1, 1) := by decide +kernel
theorem dL_law_237 : decode cL_law 237 = .ok (.iadd, 1) := by decide +kernel
theorem dL_law_238 : decode cL_law 238 = .ok (.iaload, 1) := by decide +kernel
theorem dL_law_239 : decode cL_law 239 = .ok (.aload_n 0, 1) := by decide +kernel
theorem dL_law_240 : decode cL_law 240 = .ok (.iload_n 3, 1) := by decide +kernel
theorem dL_law_241 : decode cL_law 241 = .ok (.iconst 2, 1) := by decide +kernel
theorem dL_law_242 : decode cL_law 242 = .ok (.iadd, 1) := by decide +kernel
theorem dL_law_243 : decode cL_law 243 = .ok (.iaload, 1) := by decide +kernel
theorem dL_law_244 : decode cL_law 244 = .ok (.invokevirtual 18, 3) := by decide +kernel
theorem dL_law_247 : decode cL_law 247 = .ok (.aload_n 2, 1) := by decide +kernel
theorem dL_law_248 : decode cL_law 248 = .ok (.aload_n 0, 1) := by decide +kernel
theorem dL_law_249 : decode cL_law 249 = .ok (.iload_n 3, 1) := by decide +kernel
theorem dL_law_250 : decode cL_law 250 = .ok (.iconst 1, 1) := by decide +kernel
theorem dL_law_251 : decode cL_law 251 = .ok (.iadd, 1) := by decide +kernel
theorem dL_law_252 : decode cL_law 252 = .ok (.iaload, 1) := by decide +kernel
theorem dL_law_253 : decode cL_law 253 = .ok (.aload_n 0, 1) := by decide +kernel
theorem dL_law_254 : decode cL_law 254 = .ok (.iload_n 3, 1) := by decide +kernel
theorem dL_law_255 : decode cL_law 255 = .ok (.iconst 2, 1) := by decide +kernel
theorem dL_law_256 : decode cL_law 256 = .ok (.iadd, 1) := by decide +kernel
theorem dL_law_257 : decode cL_law 257 = .ok (.iaload, 1) := by decide +kernel
theorem dL_law_258 : decode cL_law 258 = .ok (.invokevirtual 21, 3) := by decide +kernel
theorem dL_law_261 : decode cL_law 261 = .ok (.if_icmp .eq 1196, 3) := by decide +kernel
theorem dL_law_264 : decode cL_law 264 = .ok (.iconst 0, 1) := by decide +kernel
theorem dL_law_265 : decode cL_law 265 = .ok (.ireturn, 1) := by decide +kernel
theorem dL_law_266 : decode cL_law 266 = .ok (.aload_n 1, 1) := by decide +kernel
theorem dL_law_267 : decode cL_law 267 = .ok (.aload_n 0, 1) := by decide +kernel
theorem dL_law_268 : decode cL_law 268 = .ok (.iload_n 3, 1) := by decide +kernel
theorem dL_law_269 : decode cL_law 269 = .ok (.iconst 1, 1) := by decide +kernel
theorem dL_law_270 : decode cL_law 270 = .ok (.iadd, 1) := by decide +kernel
theorem dL_law_271 : decode cL_law 271 = .ok (.iaload, 1) := by decide +kernel
theorem dL_law_272 : decode cL_law 272 = .ok (.aload_n 0, 1) := by decide +kernel
theorem dL_law_273 : decode cL_law 273 = .ok (.iload_n 3, 1) := by decide +kernel
theorem dL_law_274 : decode cL_law 274 = .ok (.iconst 2, 1) := by decide +kernel
theorem dL_law_275 : decode cL_law 275 = .ok (.iadd, 1) := by decide +kernel
theorem dL_law_276 : decode cL_law 276 = .ok (.iaload, 1) := by decide +kernel
theorem dL_law_277 : decode cL_law 277 = .ok (.aload_n 0, 1) := by decide +kernel
theorem dL_law_278 : decode cL_law 278 = .ok (.iload_n 3, 1) := by decide +kernel
theorem dL_law_279 : decode cL_law 279 = .ok (.iconst 3, 1) := by decide +kernel
theorem dL_law_280 : decode cL_law 280 = .ok (.iadd, 1) := by decide +kernel
theorem dL_law_281 : decode cL_law 281 = .ok (.iaload, 1) := by decide +kernel
theorem dL_law_282 : decode cL_law 282 = .ok (.invokevirtual 22, 3) := by decide +kernel
theorem dL_law_285 : decode cL_law 285 = .ok (.aload_n 2, 1) := by decide +kernel
theorem dL_law_286 : decode cL_law 286 = .ok (.aload_n 0, 1) := by decide +kernel
theorem dL_law_287 : decode cL_law 287 = .ok (.iload_n 3, 1) := by decide +kernel
theorem dL_law_288 : decode cL_law 288 = .ok (.iconst 1, 1) := by decide +kernel
theorem dL_law_289 : decode cL_law 289 = .ok (.iadd, 1) := by decide +kernel
theorem dL_law_290 : decode cL_law 290 = .ok (.iaload, 1) := by decide +kernel
theorem dL_law_291 : decode cL_law 291 = .ok (.aload_n 0, 1) := by decide +kernel
theorem dL_law_292 : decode cL_law 292 = .ok (.iload_n 3, 1) := by decide +kernel
theorem dL_law_293 : decode cL_law 293 = .ok (.iconst 2, 1) := by decide +kernel
theorem dL_law_294 : decode cL_law 294 = .ok (.iadd, 1) := by decide +kernel
theorem dL_law_295 : decode cL_law 295 = .ok (.iaload, 1) := by decide +kernel
theorem dL_law_296 : decode cL_law 296 = .ok (.aload_n 0, 1) := by decide +kernel
theorem dL_law_297 : decode cL_law 297 = .ok (.iload_n 3, 1) := by decide +kernel
theorem dL_law_298 : decode cL_law 298 = .ok (.iconst 3, 1) := by decide +kernel
theorem dL_law_299 : decode cL_law 299 = .ok (.iadd, 1) := by decide +kernel
theorem dL_law_300 : decode cL_law 300 = .ok (.iaload, 1) := by decide +kernel
theorem dL_law_301 : decode cL_law 301 = .ok (.invokevirtual 26, 3) := by decide +kernel
theorem dL_law_304 : decode cL_law 304 = .ok (.if_icmp .eq 1153, 3) := by decide +kernel
theorem dL_law_307 : decode cL_law 307 = .ok (.iconst 0, 1) := by decide +kernel
theorem dL_law_308 : decode cL_law 308 = .ok (.ireturn, 1) := by decide +kernel
theorem dL_law_309 : decode cL_law 309 = .ok (.aload_n 1, 1) := by decide +kernel
theorem dL_law_310 : decode cL_law 310 = .ok (.aload_n 0, 1) := by decide +kernel
theorem dL_law_311 : decode cL_law 311 = .ok (.iload_n 3, 1) := by decide +kernel
theorem dL_law_312 : decode cL_law 312 = .ok (.iconst 1, 1) := by decide +kernel
theorem dL_law_313 : decode cL_law 313 = .ok (.iadd, 1) := by decide +kernel
theorem dL_law_314 : decode cL_law 314 = .ok (.iaload, 1) := by decide +kernel
theorem dL_law_315 : decode cL_law 315 = .ok (.invokevirtual 27, 3) := by decide +kernel
theorem dL_law_318 : decode cL_law 318 = .ok (.aload_n 2, 1) := by decide +kernel
theorem dL_law_319 : decode cL_law 319 = .ok (.aload_n 0, 1) := by decide +kernel
theorem dL_law_320 : decode cL_law 320 = .ok (.iload_n 3, 1) := by decide +kernel
theorem dL_law_321 : decode cL_law 321 = .ok (.iconst 1, 1) := by decide +kernel
theorem dL_law_322 : decode cL_law 322 = .ok (.iadd, 1) := by decide +kernel
theorem dL_law_323 : decode cL_law 323 = .ok (.iaload, 1) := by decide +kernel
theorem dL_law_324 : decode cL_law 324 = .ok (.invokevirtual 31, 3) := by decide +kernel
theorem dL_law_327 : decode cL_law 327 = .ok (.if_icmp .eq 1130, 3) := by decide +kernel
theorem dL_law_330 : decode cL_law 330 = .ok (.iconst 0, 1) := by decide +kernel
theorem dL_law_331 : decode cL_law 331 = .ok (.ireturn, 1) := by decide +kernel
theorem dL_law_332 : decode cL_law 332 = .ok (.aload_n 1, 1) := by decide +kernel
theorem dL_law_333 : decode cL_law 333 = .ok (.invokevirtual 32, 3) := by decide +kernel
theorem dL_law_336 : decode cL_law 336 = .ok (.aload_n 2, 1) := by decide +kernel
theorem dL_law_337 : decode cL_law 337 = .ok (.invokevirtual 36, 3) := by decide +kernel
theorem dL_law_340 : decode cL_law 340 = .ok (.if_icmp .eq 1117, 3) := by decide +kernel
theorem dL_law_343 : decode cL_law 343 = .ok (.iconst 0, 1) := by decide +kernel
theorem dL_law_344 : decode cL_law 344 = .ok (.ireturn, 1) := by decide +kernel
theorem dL_law_345 : decode cL_law 345 = .ok (.aload_n 1, 1) := by decide +kernel
theorem dL_law_346 : decode cL_law 346 = .ok (.aload_n 0, 1) := by decide +kernel
theorem dL_law_347 : decode cL_law 347 = .ok (.iload_n 3, 1) := by decide +kernel
theorem dL_law_348 : decode cL_law 348 = .ok (.iconst 1, 1) := by decide +kernel
theorem dL_law_349 : decode cL_law 349 = .ok (.iadd, 1) := by decide +kernel
theorem dL_law_350 : decode cL_law 350 = .ok (.iaload, 1) := by decide +kernel
theorem dL_law_351 : decode cL_law 351 = .ok (.invokevirtual 37, 3) := by decide +kernel
theorem dL_law_354 : decode cL_law 354 = .ok (.aload_n 2, 1) := by decide +kernel
theorem dL_law_355 : decode cL_law 355 = .ok (.aload_n 0, 1) := by decide +kernel
theorem dL_law_356 : decode cL_law 356 = .ok (.iload_n 3, 1) := by decide +kernel
theorem dL_law_357 : decode cL_law 357 = .ok (.iconst 1, 1) := by decide +kernel
theorem dL_law_358 : decode cL_law 358 = .ok (.iadd, 1) := by decide +kernel
theorem dL_law_359 : decode cL_law 359 = .ok (.iaload, 1) := by decide +kernel
theorem dL_law_360 : decode cL_law 360 = .ok (.invokevirtual 40, 3) := by decide +kernel
theorem dL_law_363 : decode cL_law 363 = .ok (.if_icmp .eq 1094, 3) := by decide +kernel
theorem dL_law_366 : decode cL_law 366 = .ok (.iconst 0, 1) := by decide +kernel
theorem dL_law_367 : decode cL_law 367 = .ok (.ireturn, 1) := by decide +kernel
theorem dL_law_368 : decode cL_law 368 = .ok (.aload_n 1, 1) := by decide +kernel
theorem dL_law_369 : decode cL_law 369 = .ok (.invokevirtual 41, 3) := by decide +kernel
theorem dL_law_372 : decode cL_law 372 = .ok (.aload_n 2, 1) := by decide +kernel
theorem dL_law_373 : decode cL_law 373 = .ok (.invokevirtual 44, 3) := by decide +kernel
theorem dL_law_376 : decode cL_law 376 = .ok (.if_icmp .eq 1081, 3) := by decide +kernel
theorem dL_law_379 : decode cL_law 379 = .ok (.iconst 0, 1) := by decide +kernel
theorem dL_law_380 : decode cL_law 380 = .ok (.ireturn, 1) := by decide +kernel
theorem dL_law_381 : decode cL_law 381 = .ok (.aload_n 1, 1) := by decide +kernel
theorem dL_law_382 : decode cL_law 382 = .ok (.aload_n 0, 1) := by decide +kernel
theorem dL_law_383 : decode cL_law 383 = .ok (.iload_n 3, 1) := by decide +kernel
theorem dL_law_384 : decode cL_law 384 = .ok (.iconst 1, 1) := by decide +kernel
theorem dL_law_385 : decode cL_law 385 = .ok (.iadd, 1) := by decide +kernel
theorem dL_law_386 : decode cL_law 386 = .ok (.iaload, 1) := by decide +kernel
theorem dL_law_387 : decode cL_law 387 = .ok (.invokevirtual 45, 3) := by decide +kernel
theorem dL_law_390 : decode cL_law 390 = .ok (.aload_n 2, 1) := by decide +kernel
theorem dL_law_391 : decode cL_law 391 = .ok (.aload_n 0, 1) := by decide +kernel
theorem dL_law_392 : decode cL_law 392 = .ok (.iload_n 3, 1) := by decide +kernel
theorem dL_law_393 : decode cL_law 393 = .ok (.iconst 1, 1) := by decide +kernel
theorem dL_law_394 : decode cL_law 394 = .ok (.iadd, 1) := by decide +kernel
theorem dL_law_395 : decode cL_law 395 = .ok (.iaload, 1) := by decide +kernel
theorem dL_law_396 : decode cL_law 396 = .ok (.invokevirtual 48, 3) := by decide +kernel
theorem dL_law_399 : decode cL_law 399 = .ok (.if_icmp .eq 1058, 3) := by decide +kernel
theorem dL_law_402 : decode cL_law 402 = .ok (.iconst 0, 1) := by decide +kernel
theorem dL_law_403 : decode cL_law 403 = .ok (.ireturn, 1) := by decide +kernel
theorem dL_law_404 : decode cL_law 404 = .ok (.aload_n 1, 1) := by decide +kernel
theorem dL_law_405 : decode cL_law 405 = .ok (.aload_n 0, 1) := by decide +kernel
theorem dL_law_406 : decode cL_law 406 = .ok (.iload_n 3, 1) := by decide +kernel
theorem dL_law_407 : decode cL_law 407 = .ok (.iconst 1, 1) := by decide +kernel
theorem dL_law_408 : decode cL_law 408 = .ok (.iadd, 1) := by decide +kernel
theorem dL_law_409 : decode cL_law 409 = .ok (.iaload, 1) := by decide +kernel
theorem dL_law_410 : decode cL_law 410 = .ok (.aload_n 0, 1) := by decide +kernel
theorem dL_law_411 : decode cL_law 411 = .ok (.iload_n 3, 1) := by decide +kernel
theorem dL_law_412 : decode cL_law 412 = .ok (.iconst 2, 1) := by decide +kernel
theorem dL_law_413 : decode cL_law 413 = .ok (.iadd, 1) := by decide +kernel
theorem dL_law_414 : decode cL_law 414 = .ok (.iaload, 1) := by decide +kernel
theorem dL_law_415 : decode cL_law 415 = .ok (.invokevirtual 49, 3) := by decide +kernel
theorem dL_law_418 : decode cL_law 418 = .ok (.aload_n 2, 1) := by decide +kernel
theorem dL_law_419 : decode cL_law 419 = .ok (.aload_n 0, 1) := by decide +kernel
theorem dL_law_420 : decode cL_law 420 = .ok (.iload_n 3, 1) := by decide +kernel
theorem dL_law_421 : decode cL_law 421 = .ok (.iconst 1, 1) := by decide +kernel
theorem dL_law_422 : decode cL_law 422 = .ok (.iadd, 1) := by decide +kernel
theorem dL_law_423 : decode cL_law 423 = .ok (.iaload, 1) := by decide +kernel
theorem dL_law_424 : decode cL_law 424 = .ok (.aload_n 0, 1) := by decide +kernel
theorem dL_law_425 : decode cL_law 425 = .ok (.iload_n 3, 1) := by decide +kernel
theorem dL_law_426 : decode cL_law 426 = .ok (.iconst 2, 1) := by decide +kernel
theorem dL_law_427 : decode cL_law 427 = .ok (.iadd, 1) := by decide +kernel
theorem dL_law_428 : decode cL_law 428 = .ok (.iaload, 1) := by decide +kernel
theorem dL_law_429 : decode cL_law 429 = .ok (.invokevirtual 52, 3) := by decide +kernel
theorem dL_law_432 : decode cL_law 432 = .ok (.if_icmp .eq 1025, 3) := by decide +kernel
theorem dL_law_435 : decode cL_law 435 = .ok (.iconst 0, 1) := by decide +kernel
theorem dL_law_436 : decode cL_law 436 = .ok (.ireturn, 1) := by decide +kernel
theorem dL_law_437 : decode cL_law 437 = .ok (.aload_n 1, 1) := by decide +kernel
theorem dL_law_438 : decode cL_law 438 = .ok (.aload_n 0, 1) := by decide +kernel
theorem dL_law_439 : decode cL_law 439 = .ok (.iload_n 3, 1) := by decide +kernel
theorem dL_law_440 : decode cL_law 440 = .ok (.iconst 1, 1) := by decide +kernel
theorem dL_law_441 : decode cL_law 441 = .ok (.iadd, 1) := by decide +kernel
theorem dL_law_442 : decode cL_law 442 = .ok (.iaload, 1) := by decide +kernel
theorem dL_law_443 : decode cL_law 443 = .ok (.invokevirtual 53, 3) := by decide +kernel
theorem dL_law_446 : decode cL_law 446 = .ok (.aload_n 2, 1) := by decide +kernel
theorem dL_law_447 : decode cL_law 447 = .ok (.aload_n 0, 1) := by decide +kernel
theorem dL_law_448 : decode cL_law 448 = .ok (.iload_n 3, 1) := by decide +kernel
theorem dL_law_449 : decode cL_law 449 = .ok (.iconst 1, 1) := by decide +kernel
theorem dL_law_450 : decode cL_law 450 = .ok (.iadd, 1) := by decide +kernel
theorem dL_law_451 : decode cL_law 451 = .ok (.iaload, 1) := by decide +kernel
theorem dL_law_452 : decode cL_law 452 = .ok (.invokevirtual 56, 3) := by decide +kernel
theorem dL_law_455 : decode cL_law 455 = .ok (.if_icmp .eq 1002, 3) := by decide +kernel
theorem dL_law_458 : decode cL_law 458 = .ok (.iconst 0, 1) := by decide +kernel
theorem dL_law_459 : decode cL_law 459 = .ok (.ireturn, 1) := by decide +kernel
theorem dL_law_460 : decode cL_law 460 = .ok (.aload_n 1, 1) := by decide +kernel
theorem dL_law_461 : decode cL_law 461 = .ok (.aload_n 0, 1) := by decide +kernel
theorem dL_law_462 : decode cL_law 462 = .ok (.iload_n 3, 1) := by decide +kernel
theorem dL_law_463 : decode cL_law 463 = .ok (.iconst 1, 1) := by decide +kernel
theorem dL_law_464 : decode cL_law 464 = .ok (.iadd, 1) := by decide +kernel
theorem dL_law_465 : decode cL_law 465 = .ok (.iaload, 1) := by decide +kernel
theorem dL_law_466 : decode cL_law 466 = .ok (.aload_n 0, 1) := by decide +kernel
theorem dL_law_467 : decode cL_law 467 = .ok (.iload_n 3, 1) := by decide +kernel
theorem dL_law_468 : decode cL_law 468 = .ok (.iconst 2, 1) := by decide +kernel
theorem dL_law_469 : decode cL_law 469 = .ok (.iadd, 1) := by decide +kernel
theorem dL_law_470 : decode cL_law 470 = .ok (.iaload, 1) := by decide +kernel
theorem dL_law_471 : decode cL_law 471 = .ok (.invokevirtual 57, 3) := by decide +kernel
theorem dL_law_474 : decode cL_law 474 = .ok (.aload_n 2, 1) := by decide +kernel
theorem dL_law_475 : decode cL_law 475 = .ok (.aload_n 0, 1) := by decide +kernel
theorem dL_law_476 : decode cL_law 476 = .ok (.iload_n 3, 1) := by decide +kernel
theorem dL_law_477 : decode cL_law 477 = .ok (.iconst 1, 1) := by decide +kernel
theorem dL_law_478 : decode cL_law 478 = .ok (.iadd, 1) := by decide +kernel
theorem dL_law_479 : decode cL_law 479 = .ok (.iaload, 1) := by decide +kernel
theorem dL_law_480 : decode cL_law 480 = .ok (.aload_n 0, 1) := by decide +kernel
theorem dL_law_481 : decode cL_law 481 = .ok (.iload_n 3, 1) := by decide +kernel
theorem dL_law_482 : decode cL_law 482 = .ok (.iconst 2, 1) := by decide +kernel
theorem dL_law_483 : decode cL_law 483 = .ok (.iadd, 1) := by decide +kernel
theorem dL_law_484 : decode cL_law 484 = .ok (.iaload, 1) := by decide +kernel
theorem dL_law_485 : decode cL_law 485 = .ok (.invokevirtual 60, 3) := by decide +kernel
theorem dL_law_488 : decode cL_law 488 = .ok (.if_icmp .eq 969, 3) := by decide +kernel
theorem dL_law_491 : decode cL_law 491 = .ok (.iconst 0, 1) := by decide +kernel
theorem dL_law_492 : decode cL_law 492 = .ok (.ireturn, 1) := by decide +kernel
theorem dL_law_493 : decode cL_law 493 = .ok (.aload_n 1, 1) := by decide +kernel
theorem dL_law_494 : decode cL_law 494 = .ok (.aload_n 0, 1) := by decide +kernel
theorem dL_law_495 : decode cL_law 495 = .ok (.iload_n 3, 1) := by decide +kernel
theorem dL_law_496 : decode cL_law 496 = .ok (.iconst 1, 1) := by decide +kernel
theorem dL_law_497 : decode cL_law 497 = .ok (.iadd, 1) := by decide +kernel
theorem dL_law_498 : decode cL_law 498 = .ok (.iaload, 1) := by decide +kernel
theorem dL_law_499 : decode cL_law 499 = .ok (.aload_n 0, 1) := by decide +kernel
theorem dL_law_500 : decode cL_law 500 = .ok (.iload_n 3, 1) := by decide +kernel
theorem dL_law_501 : decode cL_law 501 = .ok (.iconst 2, 1) := by decide +kernel
theorem dL_law_502 : decode cL_law 502 = .ok (.iadd, 1) := by decide +kernel
theorem dL_law_503 : decode cL_law 503 = .ok (.iaload, 1) := by decide +kernel
theorem dL_law_504 : decode cL_law 504 = .ok (.invokevirtual 61, 3) := by decide +kernel
theorem dL_law_507 : decode cL_law 507 = .ok (.aload_n 2, 1) := by decide +kernel
theorem dL_law_508 : decode cL_law 508 = .ok (.aload_n 0, 1) := by decide +kernel
theorem dL_law_509 : decode cL_law 509 = .ok (.iload_n 3, 1) := by decide +kernel
theorem dL_law_510 : decode cL_law 510 = .ok (.iconst 1, 1) := by decide +kernel
theorem dL_law_511 : decode cL_law 511 = .ok (.iadd, 1) := by decide +kernel
theorem dL_law_512 : decode cL_law 512 = .ok (.iaload, 1) := by decide +kernel
theorem dL_law_513 : decode cL_law 513 = .ok (.aload_n 0, 1) := by decide +kernel
theorem dL_law_514 : decode cL_law 514 = .ok (.iload_n 3, 1) := by decide +kernel
theorem dL_law_515 : decode cL_law 515 = .ok (.iconst 2, 1) := by decide +kernel
theorem dL_law_516 : decode cL_law 516 = .ok (.iadd, 1) := by decide +kernel
theorem dL_law_517 : decode cL_law 517 = .ok (.iaload, 1) := by decide +kernel
theorem dL_law_518 : decode cL_law 518 = .ok (.invokevirtual 64, 3) := by decide +kernel
theorem dL_law_521 : decode cL_law 521 = .ok (.if_icmp .eq 936, 3) := by decide +kernel
theorem dL_law_524 : decode cL_law 524 = .ok (.iconst 0, 1) := by decide +kernel
theorem dL_law_525 : decode cL_law 525 = .ok (.ireturn, 1) := by decide +kernel
theorem dL_law_526 : decode cL_law 526 = .ok (.aload_n 1, 1) := by decide +kernel
theorem dL_law_527 : decode cL_law 527 = .ok (.aload_n 0, 1) := by decide +kernel
theorem dL_law_528 : decode cL_law 528 = .ok (.iload_n 3, 1) := by decide +kernel
theorem dL_law_529 : decode cL_law 529 = .ok (.iconst 1, 1) := by decide +kernel
theorem dL_law_530 : decode cL_law 530 = .ok (.iadd, 1) := by decide +kernel
theorem dL_law_531 : decode cL_law 531 = .ok (.iaload, 1) := by decide +kernel
theorem dL_law_532 : decode cL_law 532 = .ok (.aload_n 0, 1) := by decide +kernel
theorem dL_law_533 : decode cL_law 533 = .ok (.iload_n 3, 1) := by decide +kernel
theorem dL_law_534 : decode cL_law 534 = .ok (.iconst 2, 1) := by decide +kernel
theorem dL_law_535 : decode cL_law 535 = .ok (.iadd, 1) := by decide +kernel
theorem dL_law_536 : decode cL_law 536 = .ok (.iaload, 1) := by decide +kernel
theorem dL_law_537 : decode cL_law 537 = .ok (.aload_n 0, 1) := by decide +kernel
theorem dL_law_538 : decode cL_law 538 = .ok (.iload_n 3, 1) := by decide +kernel
theorem dL_law_539 : decode cL_law 539 = .ok (.iconst 3, 1) := by decide +kernel
theorem dL_law_540 : decode cL_law 540 = .ok (.iadd, 1) := by decide +kernel
theorem dL_law_541 : decode cL_law 541 = .ok (.iaload, 1) := by decide +kernel
theorem dL_law_542 : decode cL_law 542 = .ok (.invokevirtual 65, 3) := by decide +kernel
theorem dL_law_545 : decode cL_law 545 = .ok (.aload_n 2, 1) := by decide +kernel
theorem dL_law_546 : decode cL_law 546 = .ok (.aload_n 0, 1) := by decide +kernel
theorem dL_law_547 : decode cL_law 547 = .ok (.iload_n 3, 1) := by decide +kernel
theorem dL_law_548 : decode cL_law 548 = .ok (.iconst 1, 1) := by decide +kernel
theorem dL_law_549 : decode cL_law 549 = .ok (.iadd, 1) := by decide +kernel
theorem dL_law_550 : decode cL_law 550 = .ok (.iaload, 1) := by decide +kernel
theorem dL_law_551 : decode cL_law 551 = .ok (.aload_n 0, 1) := by decide +kernel
theorem dL_law_552 : decode cL_law 552 = .ok (.iload_n 3, 1) := by decide +kernel
theorem dL_law_553 : decode cL_law 553 = .ok (.iconst 2, 1) := by decide +kernel
theorem dL_law_554 : decode cL_law 554 = .ok (.iadd, 1) := by decide +kernel
theorem dL_law_555 : decode cL_law 555 = .ok (.iaload, 1) := by decide +kernel
theorem dL_law_556 : decode cL_law 556 = .ok (.aload_n 0, 1) := by decide +kernel
theorem dL_law_557 : decode cL_law 557 = .ok (.iload_n 3, 1) := by decide +kernel
theorem dL_law_558 : decode cL_law 558 = .ok (.iconst 3, 1) := by decide +kernel
theorem dL_law_559 : decode cL_law 559 = .ok (.iadd, 1) := by decide +kernel
theorem dL_law_560 : decode cL_law 560 = .ok (.iaload, 1) := by decide +kernel
theorem dL_law_561 : decode cL_law 561 = .ok (.invokevirtual 68, 3) := by decide +kernel
theorem dL_law_564 : decode cL_law 564 = .ok (.if_icmp .eq 893, 3) := by decide +kernel
theorem dL_law_567 : decode cL_law 567 = .ok (.iconst 0, 1) := by decide +kernel
theorem dL_law_568 : decode cL_law 568 = .ok (.ireturn, 1) := by decide +kernel
theorem dL_law_569 : decode cL_law 569 = .ok (.aload_n 1, 1) := by decide +kernel
theorem dL_law_570 : decode cL_law 570 = .ok (.aload_n 0, 1) := by decide +kernel
theorem dL_law_571 : decode cL_law 571 = .ok (.iload_n 3, 1) := by decide +kernel
theorem dL_law_572 : decode cL_law 572 = .ok (.iconst 1, 1) := by decide +kernel
theorem dL_law_573 : decode cL_law 573 = .ok (.iadd, 1) := by decide +kernel
theorem dL_law_574 : decode cL_law 574 = .ok (.iaload, 1) := by decide +kernel
theorem dL_law_575 : decode cL_law 575 = .ok (.invokevirtual 69, 3) := by decide +kernel
theorem dL_law_578 : decode cL_law 578 = .ok (.aload_n 2, 1) := by decide +kernel
theorem dL_law_579 : decode cL_law 579 = .ok (.aload_n 0, 1) := by decide +kernel
theorem dL_law_580 : decode cL_law 580 = .ok (.iload_n 3, 1) := by decide +kernel
theorem dL_law_581 : decode cL_law 581 = .ok (.iconst 1, 1) := by decide +kernel
theorem dL_law_582 : decode cL_law 582 = .ok (.iadd, 1) := by decide +kernel
theorem dL_law_583 : decode cL_law 583 = .ok (.iaload, 1) := by decide +kernel
theorem dL_law_584 : decode cL_law 584 = .ok (.invokevirtual 72, 3) := by decide +kernel
theorem dL_law_587 : decode cL_law 587 = .ok (.if_icmp .eq 870, 3) := by decide +kernel
theorem dL_law_590 : decode cL_law 590 = .ok (.iconst 0, 1) := by decide +kernel
theorem dL_law_591 : decode cL_law 591 = .ok (.ireturn, 1) := by decide +kernel
theorem dL_law_592 : decode cL_law 592 = .ok (.aload_n 1, 1) := by decide +kernel
theorem dL_law_593 : decode cL_law 593 = .ok (.aload_n 0, 1) := by decide +kernel
theorem dL_law_594 : decode cL_law 594 = .ok (.iload_n 3, 1) := by decide +kernel
theorem dL_law_595 : decode cL_law 595 = .ok (.iconst 1, 1) := by decide +kernel
theorem dL_law_596 : decode cL_law 596 = .ok (.iadd, 1) := by decide +kernel
theorem dL_law_597 : decode cL_law 597 = .ok (.iaload, 1) := by decide +kernel
theorem dL_law_598 : decode cL_law 598 = .ok (.aload_n 0, 1) := by decide +kernel
theorem dL_law_599 : decode cL_law 599 = .ok (.iload_n 3, 1) := by decide +kernel
theorem dL_law_600 : decode cL_law 600 = .ok (.iconst 2, 1) := by decide +kernel
theorem dL_law_601 : decode cL_law 601 = .ok (.iadd, 1) := by decide +kernel
theorem dL_law_602 : decode cL_law 602 = .ok (.iaload, 1) := by decide +kernel
theorem dL_law_603 : decode cL_law 603 = .ok (.invokevirtual 73, 3) := by decide +kernel
theorem dL_law_606 : decode cL_law 606 = .ok (.aload_n 2, 1) := by decide +kernel
theorem dL_law_607 : decode cL_law 607 = .ok (.aload_n 0, 1) := by decide +kernel
theorem dL_law_608 : decode cL_law 608 = .ok (.iload_n 3, 1) := by decide +kernel
theorem dL_law_609 : decode cL_law 609 = .ok (.iconst 1, 1) := by decide +kernel
theorem dL_law_610 : decode cL_law 610 = .ok (.iadd, 1) := by decide +kernel
theorem dL_law_611 : decode cL_law 611 = .ok (.iaload, 1) := by decide +kernel
theorem dL_law_612 : decode cL_law 612 = .ok (.aload_n 0, 1) := by decide +kernel
theorem dL_law_613 : decode cL_law 613 = .ok (.iload_n 3, 1) := by decide +kernel
theorem dL_law_614 : decode cL_law 614 = .ok (.iconst 2, 1) := by decide +kernel
theorem dL_law_615 : decode cL_law 615 = .ok (.iadd, 1) := by decide +kernel
theorem dL_law_616 : decode cL_law 616 = .ok (.iaload, 1) := by decide +kernel
theorem dL_law_617 : decode cL_law 617 = .ok (.invokevirtual 76, 3) := by decide +kernel
theorem dL_law_620 : decode cL_law 620 = .ok (.if_icmp .eq 837, 3) := by decide +kernel
theorem dL_law_623 : decode cL_law 623 = .ok (.iconst 0, 1) := by decide +kernel
theorem dL_law_624 : decode cL_law 624 = .ok (.ireturn, 1) := by decide +kernel
theorem dL_law_625 : decode cL_law 625 = .ok (.aload_n 1, 1) := by decide +kernel
theorem dL_law_626 : decode cL_law 626 = .ok (.aload_n 0, 1) := by decide +kernel
theorem dL_law_627 : decode cL_law 627 = .ok (.iload_n 3, 1) := by decide +kernel
theorem dL_law_628 : decode cL_law 628 = .ok (.iconst 1, 1) := by decide +kernel
theorem dL_law_629 : decode cL_law 629 = .ok (.iadd, 1) := by decide +kernel
theorem dL_law_630 : decode cL_law 630 = .ok (.iaload, 1) := by decide +kernel
theorem dL_law_631 : decode cL_law 631 = .ok (.aload_n 0, 1) := by decide +kernel
theorem dL_law_632 : decode cL_law 632 = .ok (.iload_n 3, 1) := by decide +kernel
theorem dL_law_633 : decode cL_law 633 = .ok (.iconst 2, 1) := by decide +kernel
theorem dL_law_634 : decode cL_law 634 = .ok (.iadd, 1) := by decide +kernel
theorem dL_law_635 : decode cL_law 635 = .ok (.iaload, 1) := by decide +kernel
theorem dL_law_636 : decode cL_law 636 = .ok (.aload_n 0, 1) := by decide +kernel
theorem dL_law_637 : decode cL_law 637 = .ok (.iload_n 3, 1) := by decide +kernel
theorem dL_law_638 : decode cL_law 638 = .ok (.iconst 3, 1) := by decide +kernel
theorem dL_law_639 : decode cL_law 639 = .ok (.iadd, 1) := by decide +kernel
theorem dL_law_640 : decode cL_law 640 = .ok (.iaload, 1) := by decide +kernel
theorem dL_law_641 : decode cL_law 641 = .ok (.aload_n 0, 1) := by decide +kernel
theorem dL_law_642 : decode cL_law 642 = .ok (.iload_n 3, 1) := by decide +kernel
theorem dL_law_643 : decode cL_law 643 = .ok (.iconst 4, 1) := by decide +kernel
theorem dL_law_644 : decode cL_law 644 = .ok (.iadd, 1) := by decide +kernel
theorem dL_law_645 : decode cL_law 645 = .ok (.iaload, 1) := by decide +kernel
theorem dL_law_646 : decode cL_law 646 = .ok (.aload_n 0, 1) := by decide +kernel
theorem dL_law_647 : decode cL_law 647 = .ok (.iload_n 3, 1) := by decide +kernel
theorem dL_law_648 : decode cL_law 648 = .ok (.iconst 5, 1) := by decide +kernel
theorem dL_law_649 : decode cL_law 649 = .ok (.iadd, 1) := by decide +kernel
theorem dL_law_650 : decode cL_law 650 = .ok (.iaload, 1) := by decide +kernel
theorem dL_law_651 : decode cL_law 651 = .ok (.invokevirtual 77, 3) := by decide +kernel
theorem dL_law_654 : decode cL_law 654 = .ok (.aload_n 2, 1) := by decide +kernel
theorem dL_law_655 : decode cL_law 655 = .ok (.aload_n 0, 1) := by decide +kernel
theorem dL_law_656 : decode cL_law 656 = .ok (.iload_n 3, 1) := by decide +kernel
theorem dL_law_657 : decode cL_law 657 = .ok (.iconst 1, 1) := by decide +kernel
theorem dL_law_658 : decode cL_law 658 = .ok (.iadd, 1) := by decide +kernel
theorem dL_law_659 : decode cL_law 659 = .ok (.iaload, 1) := by decide +kernel
theorem dL_law_660 : decode cL_law 660 = .ok (.aload_n 0, 1) := by decide +kernel
theorem dL_law_661 : decode cL_law 661 = .ok (.iload_n 3, 1) := by decide +kernel
theorem dL_law_662 : decode cL_law 662 = .ok (.iconst 2, 1) := by decide +kernel
theorem dL_law_663 : decode cL_law 663 = .ok (.iadd, 1) := by decide +kernel
theorem dL_law_664 : decode cL_law 664 = .ok (.iaload, 1) := by decide +kernel
theorem dL_law_665 : decode cL_law 665 = .ok (.aload_n 0, 1) := by decide +kernel
theorem dL_law_666 : decode cL_law 666 = .ok (.iload_n 3, 1) := by decide +kernel
theorem dL_law_667 : decode cL_law 667 = .ok (.iconst 3, 1) := by decide +kernel
theorem dL_law_668 : decode cL_law 668 = .ok (.iadd, 1) := by decide +kernel
theorem dL_law_669 : decode cL_law 669 = .ok (.iaload, 1) := by decide +kernel
theorem dL_law_670 : decode cL_law 670 = .ok (.aload_n 0, 1) := by decide +kernel
theorem dL_law_671 : decode cL_law 671 = .ok (.iload_n 3, 1) := by decide +kernel
theorem dL_law_672 : decode cL_law 672 = .ok (.iconst 4, 1) := by decide +kernel
theorem dL_law_673 : decode cL_law 673 = .ok (.iadd, 1) := by decide +kernel
theorem dL_law_674 : decode cL_law 674 = .ok (.iaload, 1) := by decide +kernel
theorem dL_law_675 : decode cL_law 675 = .ok (.aload_n 0, 1) := by decide +kernel
theorem dL_law_676 : decode cL_law 676 = .ok (.iload_n 3, 1) := by decide +kernel
theorem dL_law_677 : decode cL_law 677 = .ok (.iconst 5, 1) := by decide +kernel
theorem dL_law_678 : decode cL_law 678 = .ok (.iadd, 1) := by decide +kernel
theorem dL_law_679 : decode cL_law 679 = .ok (.iaload, 1) := by decide +kernel
theorem dL_law_680 : decode cL_law 680 = .ok (.invokevirtual 81, 3) := by decide +kernel
theorem dL_law_683 : decode cL_law 683 = .ok (.if_icmp .eq 774, 3) := by decide +kernel
theorem dL_law_686 : decode cL_law 686 = .ok (.iconst 0, 1) := by decide +kernel
theorem dL_law_687 : decode cL_law 687 = .ok (.ireturn, 1) := by decide +kernel
theorem dL_law_688 : decode cL_law 688 = .ok (.aload_n 1, 1) := by decide +kernel
theorem dL_law_689 : decode cL_law 689 = .ok (.aload_n 0, 1) := by decide +kernel
theorem dL_law_690 : decode cL_law 690 = .ok (.iload_n 3, 1) := by decide +kernel
theorem dL_law_691 : decode cL_law 691 = .ok (.iconst 1, 1) := by decide +kernel
theorem dL_law_692 : decode cL_law 692 = .ok (.iadd, 1) := by decide +kernel
theorem dL_law_693 : decode cL_law 693 = .ok (.iaload, 1) := by decide +kernel
theorem dL_law_694 : decode cL_law 694 = .ok (.aload_n 0, 1) := by decide +kernel
theorem dL_law_695 : decode cL_law 695 = .ok (.iload_n 3, 1) := by decide +kernel
theorem dL_law_696 : decode cL_law 696 = .ok (.iconst 2, 1) := by decide +kernel
theorem dL_law_697 : decode cL_law 697 = .ok (.iadd, 1) := by decide +kernel
theorem dL_law_698 : decode cL_law 698 = .ok (.iaload, 1) := by decide +kernel
theorem dL_law_699 : decode cL_law 699 = .ok (.aload_n 0, 1) := by decide +kernel
theorem dL_law_700 : decode cL_law 700 = .ok (.iload_n 3, 1) := by decide +kernel
theorem dL_law_701 : decode cL_law 701 = .ok (.iconst 3, 1) := by decide +kernel
theorem dL_law_702 : decode cL_law 702 = .ok (.iadd, 1) := by decide +kernel
theorem dL_law_703 : decode cL_law 703 = .ok (.iaload, 1) := by decide +kernel
theorem dL_law_704 : decode cL_law 704 = .ok (.invokevirtual 82, 3) := by decide +kernel
theorem dL_law_707 : decode cL_law 707 = .ok (.aload_n 2, 1) := by decide +kernel
theorem dL_law_708 : decode cL_law 708 = .ok (.aload_n 0, 1) := by decide +kernel
theorem dL_law_709 : decode cL_law 709 = .ok (.iload_n 3, 1) := by decide +kernel
theorem dL_law_710 : decode cL_law 710 = .ok (.iconst 1, 1) := by decide +kernel
theorem dL_law_711 : decode cL_law 711 = .ok (.iadd, 1) := by decide +kernel
theorem dL_law_712 : decode cL_law 712 = .ok (.iaload, 1) := by decide +kernel
theorem dL_law_713 : decode cL_law 713 = .ok (.aload_n 0, 1) := by decide +kernel
theorem dL_law_714 : decode cL_law 714 = .ok (.iload_n 3, 1) := by decide +kernel
theorem dL_law_715 : decode cL_law 715 = .ok (.iconst 2, 1) := by decide +kernel
theorem dL_law_716 : decode cL_law 716 = .ok (.iadd, 1) := by decide +kernel
theorem dL_law_717 : decode cL_law 717 = .ok (.iaload, 1) := by decide +kernel
theorem dL_law_718 : decode cL_law 718 = .ok (.aload_n 0, 1) := by decide +kernel
theorem dL_law_719 : decode cL_law 719 = .ok (.iload_n 3, 1) := by decide +kernel
theorem dL_law_720 : decode cL_law 720 = .ok (.iconst 3, 1) := by decide +kernel
theorem dL_law_721 : decode cL_law 721 = .ok (.iadd, 1) := by decide +kernel
theorem dL_law_722 : decode cL_law 722 = .ok (.iaload, 1) := by decide +kernel
theorem dL_law_723 : decode cL_law 723 = .ok (.invokevirtual 85, 3) := by decide +kernel
theorem dL_law_726 : decode cL_law 726 = .ok (.if_icmp .eq 731, 3) := by decide +kernel
theorem dL_law_729 : decode cL_law 729 = .ok (.iconst 0, 1) := by decide +kernel
theorem dL_law_730 : decode cL_law 730 = .ok (.ireturn, 1) := by decide +kernel
theorem dL_law_731 : decode cL_law 731 = .ok (.aload_n 1, 1) := by decide +kernel
theorem dL_law_732 : decode cL_law 732 = .ok (.aload_n 0, 1) := by decide +kernel
theorem dL_law_733 : decode cL_law 733 = .ok (.iload_n 3, 1) := by decide +kernel
theorem dL_law_734 : decode cL_law 734 = .ok (.iconst 1, 1) := by decide +kernel
theorem dL_law_735 : decode cL_law 735 = .ok (.iadd, 1) := by decide +kernel
theorem dL_law_736 : decode cL_law 736 = .ok (.iaload, 1) := by decide +kernel
theorem dL_law_737 : decode cL_law 737 = .ok (.invokevirtual 86, 3) := by decide +kernel
theorem dL_law_740 : decode cL_law 740 = .ok (.aload_n 2, 1) := by decide +kernel
theorem dL_law_741 : decode cL_law 741 = .ok (.aload_n 0, 1) := by decide +kernel
theorem dL_law_742 : decode cL_law 742 = .ok (.iload_n 3, 1) := by decide +kernel
theorem dL_law_743 : decode cL_law 743 = .ok (.iconst 1, 1) := by decide +kernel
theorem dL_law_744 : decode cL_law 744 = .ok (.iadd, 1) := by decide +kernel
theorem dL_law_745 : decode cL_law 745 = .ok (.iaload, 1) := by decide +kernel
theorem dL_law_746 : decode cL_law 746 = .ok (.invokevirtual 89, 3) := by decide +kernel
theorem dL_law_749 : decode cL_law 749 = .ok (.if_icmp .eq 708, 3) := by decide +kernel
theorem dL_law_752 : decode cL_law 752 = .ok (.iconst 0, 1) := by decide +kernel
theorem dL_law_753 : decode cL_law 753 = .ok (.ireturn, 1) := by decide +kernel
theorem dL_law_754 : decode cL_law 754 = .ok (.aload_n 1, 1) := by decide +kernel
theorem dL_law_755 : decode cL_law 755 = .ok (.aload_n 0, 1) := by decide +kernel
theorem dL_law_756 : decode cL_law 756 = .ok (.iload_n 3, 1) := by decide +kernel
theorem dL_law_757 : decode cL_law 757 = .ok (.iconst 1, 1) := by decide +kernel
theorem dL_law_758 : decode cL_law 758 = .ok (.iadd, 1) := by decide +kernel
theorem dL_law_759 : decode cL_law 759 = .ok (.iaload, 1) := by decide +kernel
theorem dL_law_760 : decode cL_law 760 = .ok (.aload_n 0, 1) := by decide +kernel
theorem dL_law_761 : decode cL_law 761 = .ok (.iload_n 3, 1) := by decide +kernel
theorem dL_law_762 : decode cL_law 762 = .ok (.iconst 2, 1) := by decide +kernel
theorem dL_law_763 : decode cL_law 763 = .ok (.iadd, 1) := by decide +kernel
theorem dL_law_764 : decode cL_law 764 = .ok (.iaload, 1) := by decide +kernel
theorem dL_law_765 : decode cL_law 765 = .ok (.aload_n 0, 1) := by decide +kernel
theorem dL_law_766 : decode cL_law 766 = .ok (.iload_n 3, 1) := by decide +kernel
theorem dL_law_767 : decode cL_law 767 = .ok (.iconst 3, 1) := by decide +kernel
theorem dL_law_768 : decode cL_law 768 = .ok (.iadd, 1) := by decide +kernel
theorem dL_law_769 : decode cL_law 769 = .ok (.iaload, 1) := by decide +kernel
theorem dL_law_770 : decode cL_law 770 = .ok (.invokevirtual 90, 3) := by decide +kernel
theorem dL_law_773 : decode cL_law 773 = .ok (.aload_n 2, 1) := by decide +kernel
theorem dL_law_774 : decode cL_law 774 = .ok (.aload_n 0, 1) := by decide +kernel
theorem dL_law_775 : decode cL_law 775 = .ok (.iload_n 3, 1) := by decide +kernel
theorem dL_law_776 : decode cL_law 776 = .ok (.iconst 1, 1) := by decide +kernel
theorem dL_law_777 : decode cL_law 777 = .ok (.iadd, 1) := by decide +kernel
theorem dL_law_778 : decode cL_law 778 = .ok (.iaload, 1) := by decide +kernel
theorem dL_law_779 : decode cL_law 779 = .ok (.aload_n 0, 1) := by decide +kernel
theorem dL_law_780 : decode cL_law 780 = .ok (.iload_n 3, 1) := by decide +kernel
theorem dL_law_781 : decode cL_law 781 = .ok (.iconst 2, 1) := by decide +kernel
theorem dL_law_782 : decode cL_law 782 = .ok (.iadd, 1) := by decide +kernel
theorem dL_law_783 : decode cL_law 783 = .ok (.iaload, 1) := by decide +kernel
theorem dL_law_784 : decode cL_law 784 = .ok (.aload_n 0, 1) := by decide +kernel
theorem dL_law_785 : decode cL_law 785 = .ok (.iload_n 3, 1) := by decide +kernel
theorem dL_law_786 : decode cL_law 786 = .ok (.iconst 3, 1) := by decide +kernel
theorem dL_law_787 : decode cL_law 787 = .ok (.iadd, 1) := by decide +kernel
theorem dL_law_788 : decode cL_law 788 = .ok (.iaload, 1) := by decide +kernel
theorem dL_law_789 : decode cL_law 789 = .ok (.invokevirtual 93, 3) := by decide +kernel
theorem dL_law_792 : decode cL_law 792 = .ok (.if_icmp .eq 665, 3) := by decide +kernel
theorem dL_law_795 : decode cL_law 795 = .ok (.iconst 0, 1) := by decide +kernel
theorem dL_law_796 : decode cL_law 796 = .ok (.ireturn, 1) := by decide +kernel
theorem dL_law_797 : decode cL_law 797 = .ok (.aload_n 1, 1) := by decide +kernel
theorem dL_law_798 : decode cL_law 798 = .ok (.aload_n 0, 1) := by decide +kernel
theorem dL_law_799 : decode cL_law 799 = .ok (.iload_n 3, 1) := by decide +kernel
theorem dL_law_800 : decode cL_law 800 = .ok (.iconst 1, 1) := by decide +kernel
theorem dL_law_801 : decode cL_law 801 = .ok (.iadd, 1) := by decide +kernel
theorem dL_law_802 : decode cL_law 802 = .ok (.iaload, 1) := by decide +kernel
theorem dL_law_803 : decode cL_law 803 = .ok (.invokevirtual 94, 3) := by decide +kernel
theorem dL_law_806 : decode cL_law 806 = .ok (.aload_n 2, 1) := by decide +kernel
theorem dL_law_807 : decode cL_law 807 = .ok (.aload_n 0, 1) := by decide +kernel
theorem dL_law_808 : decode cL_law 808 = .ok (.iload_n 3, 1) := by decide +kernel
theorem dL_law_809 : decode cL_law 809 = .ok (.iconst 1, 1) := by decide +kernel
theorem dL_law_810 : decode cL_law 810 = .ok (.iadd, 1) := by decide +kernel
theorem dL_law_811 : decode cL_law 811 = .ok (.iaload, 1) := by decide +kernel
theorem dL_law_812 : decode cL_law 812 = .ok (.invokevirtual 97, 3) := by decide +kernel
theorem dL_law_815 : decode cL_law 815 = .ok (.if_icmp .eq 642, 3) := by decide +kernel
theorem dL_law_818 : decode cL_law 818 = .ok (.iconst 0, 1) := by decide +kernel
theorem dL_law_819 : decode cL_law 819 = .ok (.ireturn, 1) := by decide +kernel
theorem dL_law_820 : decode cL_law 820 = .ok (.aload_n 1, 1) := by decide +kernel
theorem dL_law_821 : decode cL_law 821 = .ok (.aload_n 0, 1) := by decide +kernel
theorem dL_law_822 : decode cL_law 822 = .ok (.iload_n 3, 1) := by decide +kernel
theorem dL_law_823 : decode cL_law 823 = .ok (.iconst 1, 1) := by decide +kernel
theorem dL_law_824 : decode cL_law 824 = .ok (.iadd, 1) := by decide +kernel
theorem dL_law_825 : decode cL_law 825 = .ok (.iaload, 1) := by decide +kernel
theorem dL_law_826 : decode cL_law 826 = .ok (.aload_n 0, 1) := by decide +kernel
theorem dL_law_827 : decode cL_law 827 = .ok (.iload_n 3, 1) := by decide +kernel
theorem dL_law_828 : decode cL_law 828 = .ok (.iconst 2, 1) := by decide +kernel
theorem dL_law_829 : decode cL_law 829 = .ok (.iadd, 1) := by decide +kernel
theorem dL_law_830 : decode cL_law 830 = .ok (.iaload, 1) := by decide +kernel
theorem dL_law_831 : decode cL_law 831 = .ok (.aload_n 0, 1) := by decide +kernel
theorem dL_law_832 : decode cL_law 832 = .ok (.iload_n 3, 1) := by decide +kernel
theorem dL_law_833 : decode cL_law 833 = .ok (.iconst 3, 1) := by decide +kernel
theorem dL_law_834 : decode cL_law 834 = .ok (.iadd, 1) := by decide +kernel
theorem dL_law_835 : decode cL_law 835 = .ok (.iaload, 1) := by decide +kernel
theorem dL_law_836 : decode cL_law 836 = .ok (.invokevirtual 98, 3) := by decide +kernel
theorem dL_law_839 : decode cL_law 839 = .ok (.aload_n 2, 1) := by decide +kernel
theorem dL_law_840 : decode cL_law 840 = .ok (.aload_n 0, 1) := by decide +kernel
theorem dL_law_841 : decode cL_law 841 = .ok (.iload_n 3, 1) := by decide +kernel
theorem dL_law_842 : decode cL_law 842 = .ok (.iconst 1, 1) := by decide +kernel
theorem dL_law_843 : decode cL_law 843 = .ok (.iadd, 1) := by decide +kernel
theorem dL_law_844 : decode cL_law 844 = .ok (.iaload, 1) := by decide +kernel
theorem dL_law_845 : decode cL_law 845 = .ok (.aload_n 0, 1) := by decide +kernel
theorem dL_law_846 : decode cL_law 846 = .ok (.iload_n 3, 1) := by decide +kernel
theorem dL_law_847 : decode cL_law 847 = .ok (.iconst 2, 1) := by decide +kernel
theorem dL_law_848 : decode cL_law 848 = .ok (.iadd, 1) := by decide +kernel
theorem dL_law_849 : decode cL_law 849 = .ok (.iaload, 1) := by decide +kernel
theorem dL_law_850 : decode cL_law 850 = .ok (.aload_n 0, 1) := by decide +kernel
theorem dL_law_851 : decode cL_law 851 = .ok (.iload_n 3, 1) := by decide +kernel
theorem dL_law_852 : decode cL_law 852 = .ok (.iconst 3, 1) := by decide +kernel
theorem dL_law_853 : decode cL_law 853 = .ok (.iadd, 1) := by decide +kernel
theorem dL_law_854 : decode cL_law 854 = .ok (.iaload, 1) := by decide +kernel
theorem dL_law_855 : decode cL_law 855 = .ok (.invokevirtual 101, 3) := by decide +kernel
theorem dL_law_858 : decode cL_law 858 = .ok (.if_icmp .eq 599, 3) := by decide +kernel
theorem dL_law_861 : decode cL_law 861 = .ok (.iconst 0, 1) := by decide +kernel
theorem dL_law_862 : decode cL_law 862 = .ok (.ireturn, 1) := by decide +kernel
theorem dL_law_863 : decode cL_law 863 = .ok (.aload_n 1, 1) := by decide +kernel
theorem dL_law_864 : decode cL_law 864 = .ok (.aload_n 0, 1) := by decide +kernel
theorem dL_law_865 : decode cL_law 865 = .ok (.iload_n 3, 1) := by decide +kernel
theorem dL_law_866 : decode cL_law 866 = .ok (.iconst 1, 1) := by decide +kernel
theorem dL_law_867 : decode cL_law 867 = .ok (.iadd, 1) := by decide +kernel
theorem dL_law_868 : decode cL_law 868 = .ok (.iaload, 1) := by decide +kernel
theorem dL_law_869 : decode cL_law 869 = .ok (.aload_n 0, 1) := by decide +kernel
theorem dL_law_870 : decode cL_law 870 = .ok (.iload_n 3, 1) := by decide +kernel
theorem dL_law_871 : decode cL_law 871 = .ok (.iconst 2, 1) := by decide +kernel
theorem dL_law_872 : decode cL_law 872 = .ok (.iadd, 1) := by decide +kernel
theorem dL_law_873 : decode cL_law 873 = .ok (.iaload, 1) := by decide +kernel
theorem dL_law_874 : decode cL_law 874 = .ok (.aload_n 0, 1) := by decide +kernel
theorem dL_law_875 : decode cL_law 875 = .ok (.iload_n 3, 1) := by decide +kernel
theorem dL_law_876 : decode cL_law 876 = .ok (.iconst 3, 1) := by decide +kernel
theorem dL_law_877 : decode cL_law 877 = .ok (.iadd, 1) := by decide +kernel
theorem dL_law_878 : decode cL_law 878 = .ok (.iaload, 1) := by decide +kernel
theorem dL_law_879 : decode cL_law 879 = .ok (.invokevirtual 102, 3) := by decide +kernel
theorem dL_law_882 : decode cL_law 882 = .ok (.aload_n 2, 1) := by decide +kernel
theorem dL_law_883 : decode cL_law 883 = .ok (.aload_n 0, 1) := by decide +kernel
theorem dL_law_884 : decode cL_law 884 = .ok (.iload_n 3, 1) := by decide +kernel
theorem dL_law_885 : decode cL_law 885 = .ok (.iconst 1, 1) := by decide +kernel
theorem dL_law_886 : decode cL_law 886 = .ok (.iadd, 1) := by decide +kernel
theorem dL_law_887 : decode cL_law 887 = .ok (.iaload, 1) := by decide +kernel
theorem dL_law_888 : decode cL_law 888 = .ok (.aload_n 0, 1) := by decide +kernel
theorem dL_law_889 : decode cL_law 889 = .ok (.iload_n 3, 1) := by decide +kernel
theorem dL_law_890 : decode cL_law 890 = .ok (.iconst 2, 1) := by decide +kernel
theorem dL_law_891 : decode cL_law 891 = .ok (.iadd, 1) := by decide +kernel
theorem dL_law_892 : decode cL_law 892 = .ok (.iaload, 1) := by decide +kernel
theorem dL_law_893 : decode cL_law 893 = .ok (.aload_n 0, 1) := by decide +kernel
theorem dL_law_894 : decode cL_law 894 = .ok (.iload_n 3, 1) := by decide +kernel
theorem dL_law_895 : decode cL_law 895 = .ok (.iconst 3, 1) := by decide +kernel
theorem dL_law_896 : decode cL_law 896 = .ok (.iadd, 1) := by decide +kernel
theorem dL_law_897 : decode cL_law 897 = .ok (.iaload, 1) := by decide +kernel
theorem dL_law_898 : decode cL_law 898 = .ok (.invokevirtual 106, 3) := by decide +kernel
theorem dL_law_901 : decode cL_law 901 = .ok (.lcmp, 1) := by decide +kernel
theorem dL_law_902 : decode cL_law 902 = .ok (.ifCond .eq 555, 3) := by decide +kernel
theorem dL_law_905 : decode cL_law 905 = .ok (.iconst 0, 1) := by decide +kernel
theorem dL_law_906 : decode cL_law 906 = .ok (.ireturn, 1) := by decide +kernel
theorem dL_law_907 : decode cL_law 907 = .ok (.aload_n 1, 1) := by decide +kernel
theorem dL_law_908 : decode cL_law 908 = .ok (.aload_n 0, 1) := by decide +kernel
theorem dL_law_909 : decode cL_law 909 = .ok (.iload_n 3, 1) := by decide +kernel
theorem dL_law_910 : decode cL_law 910 = .ok (.iconst 1, 1) := by decide +kernel
theorem dL_law_911 : decode cL_law 911 = .ok (.iadd, 1) := by decide +kernel
theorem dL_law_912 : decode cL_law 912 = .ok (.iaload, 1) := by decide +kernel
theorem dL_law_913 : decode cL_law 913 = .ok (.aload_n 0, 1) := by decide +kernel
theorem dL_law_914 : decode cL_law 914 = .ok (.iload_n 3, 1) := by decide +kernel
theorem dL_law_915 : decode cL_law 915 = .ok (.iconst 2, 1) := by decide +kernel
theorem dL_law_916 : decode cL_law 916 = .ok (.iadd, 1) := by decide +kernel
theorem dL_law_917 : decode cL_law 917 = .ok (.iaload, 1) := by decide +kernel
theorem dL_law_918 : decode cL_law 918 = .ok (.invokevirtual 107, 3) := by decide +kernel
theorem dL_law_921 : decode cL_law 921 = .ok (.aload_n 2, 1) := by decide +kernel
theorem dL_law_922 : decode cL_law 922 = .ok (.aload_n 0, 1) := by decide +kernel
theorem dL_law_923 : decode cL_law 923 = .ok (.iload_n 3, 1) := by decide +kernel
theorem dL_law_924 : decode cL_law 924 = .ok (.iconst 1, 1) := by decide +kernel
theorem dL_law_925 : decode cL_law 925 = .ok (.iadd, 1) := by decide +kernel
theorem dL_law_926 : decode cL_law 926 = .ok (.iaload, 1) := by decide +kernel
theorem dL_law_927 : decode cL_law 927 = .ok (.aload_n 0, 1) := by decide +kernel
theorem dL_law_928 : decode cL_law 928 = .ok (.iload_n 3, 1) := by decide +kernel
theorem dL_law_929 : decode cL_law 929 = .ok (.iconst 2, 1) := by decide +kernel
theorem dL_law_930 : decode cL_law 930 = .ok (.iadd, 1) := by decide +kernel
theorem dL_law_931 : decode cL_law 931 = .ok (.iaload, 1) := by decide +kernel
theorem dL_law_932 : decode cL_law 932 = .ok (.invokevirtual 111, 3) := by decide +kernel
theorem dL_law_935 : decode cL_law 935 = .ok (.lcmp, 1) := by decide +kernel
theorem dL_law_936 : decode cL_law 936 = .ok (.ifCond .eq 521, 3) := by decide +kernel
theorem dL_law_939 : decode cL_law 939 = .ok (.iconst 0, 1) := by decide +kernel
theorem dL_law_940 : decode cL_law 940 = .ok (.ireturn, 1) := by decide +kernel
theorem dL_law_941 : decode cL_law 941 = .ok (.aload_n 1, 1) := by decide +kernel
theorem dL_law_942 : decode cL_law 942 = .ok (.aload_n 0, 1) := by decide +kernel
theorem dL_law_943 : decode cL_law 943 = .ok (.iload_n 3, 1) := by decide +kernel
theorem dL_law_944 : decode cL_law 944 = .ok (.iconst 1, 1) := by decide +kernel
theorem dL_law_945 : decode cL_law 945 = .ok (.iadd, 1) := by decide +kernel
theorem dL_law_946 : decode cL_law 946 = .ok (.iaload, 1) := by decide +kernel
theorem dL_law_947 : decode cL_law 947 = .ok (.aload_n 0, 1) := by decide +kernel
theorem dL_law_948 : decode cL_law 948 = .ok (.iload_n 3, 1) := by decide +kernel
theorem dL_law_949 : decode cL_law 949 = .ok (.iconst 2, 1) := by decide +kernel
theorem dL_law_950 : decode cL_law 950 = .ok (.iadd, 1) := by decide +kernel
theorem dL_law_951 : decode cL_law 951 = .ok (.iaload, 1) := by decide +kernel
theorem dL_law_952 : decode cL_law 952 = .ok (.aload_n 0, 1) := by decide +kernel
theorem dL_law_953 : decode cL_law 953 = .ok (.iload_n 3, 1) := by decide +kernel
theorem dL_law_954 : decode cL_law 954 = .ok (.iconst 3, 1) := by decide +kernel
theorem dL_law_955 : decode cL_law 955 = .ok (.iadd, 1) := by decide +kernel
theorem dL_law_956 : decode cL_law 956 = .ok (.iaload, 1) := by decide +kernel
theorem dL_law_957 : decode cL_law 957 = .ok (.invokevirtual 112, 3) := by decide +kernel
theorem dL_law_960 : decode cL_law 960 = .ok (.aload_n 2, 1) := by decide +kernel
theorem dL_law_961 : decode cL_law 961 = .ok (.aload_n 0, 1) := by decide +kernel
theorem dL_law_962 : decode cL_law 962 = .ok (.iload_n 3, 1) := by decide +kernel
theorem dL_law_963 : decode cL_law 963 = .ok (.iconst 1, 1) := by decide +kernel
theorem dL_law_964 : decode cL_law 964 = .ok (.iadd, 1) := by decide +kernel
theorem dL_law_965 : decode cL_law 965 = .ok (.iaload, 1) := by decide +kernel
theorem dL_law_966 : decode cL_law 966 = .ok (.aload_n 0, 1) := by decide +kernel
theorem dL_law_967 : decode cL_law 967 = .ok (.iload_n 3, 1) := by decide +kernel
theorem dL_law_968 : decode cL_law 968 = .ok (.iconst 2, 1) := by decide +kernel
theorem dL_law_969 : decode cL_law 969 = .ok (.iadd, 1) := by decide +kernel
theorem dL_law_970 : decode cL_law 970 = .ok (.iaload, 1) := by decide +kernel
theorem dL_law_971 : decode cL_law 971 = .ok (.aload_n 0, 1) := by decide +kernel
theorem dL_law_972 : decode cL_law 972 = .ok (.iload_n 3, 1) := by decide +kernel
theorem dL_law_973 : decode cL_law 973 = .ok (.iconst 3, 1) := by decide +kernel
theorem dL_law_974 : decode cL_law 974 = .ok (.iadd, 1) := by decide +kernel
theorem dL_law_975 : decode cL_law 975 = .ok (.iaload, 1) := by decide +kernel
theorem dL_law_976 : decode cL_law 976 = .ok (.invokevirtual 115, 3) := by decide +kernel
theorem dL_law_979 : decode cL_law 979 = .ok (.if_icmp .eq 478, 3) := by decide +kernel
theorem dL_law_982 : decode cL_law 982 = .ok (.iconst 0, 1) := by decide +kernel
theorem dL_law_983 : decode cL_law 983 = .ok (.ireturn, 1) := by decide +kernel
theorem dL_law_984 : decode cL_law 984 = .ok (.aload_n 1, 1) := by decide +kernel
theorem dL_law_985 : decode cL_law 985 = .ok (.aload_n 0, 1) := by decide +kernel
theorem dL_law_986 : decode cL_law 986 = .ok (.iload_n 3, 1) := by decide +kernel
theorem dL_law_987 : decode cL_law 987 = .ok (.iconst 1, 1) := by decide +kernel
theorem dL_law_988 : decode cL_law 988 = .ok (.iadd, 1) := by decide +kernel
theorem dL_law_989 : decode cL_law 989 = .ok (.iaload, 1) := by decide +kernel
theorem dL_law_990 : decode cL_law 990 = .ok (.invokevirtual 116, 3) := by decide +kernel
theorem dL_law_993 : decode cL_law 993 = .ok (.aload_n 2, 1) := by decide +kernel
theorem dL_law_994 : decode cL_law 994 = .ok (.aload_n 0, 1) := by decide +kernel
theorem dL_law_995 : decode cL_law 995 = .ok (.iload_n 3, 1) := by decide +kernel
theorem dL_law_996 : decode cL_law 996 = .ok (.iconst 1, 1) := by decide +kernel
theorem dL_law_997 : decode cL_law 997 = .ok (.iadd, 1) := by decide +kernel
theorem dL_law_998 : decode cL_law 998 = .ok (.iaload, 1) := by decide +kernel
theorem dL_law_999 : decode cL_law 999 = .ok (.invokevirtual 119, 3) := by decide +kernel
theorem dL_law_1002 : decode cL_law 1002 = .ok (.if_icmp .eq 455, 3) := by decide +kernel
theorem dL_law_1005 : decode cL_law 1005 = .ok (.iconst 0, 1) := by decide +kernel
theorem dL_law_1006 : decode cL_law 1006 = .ok (.ireturn, 1) := by decide +kernel
theorem dL_law_1007 : decode cL_law 1007 = .ok (.aload_n 1, 1) := by decide +kernel
theorem dL_law_1008 : decode cL_law 1008 = .ok (.aload_n 0, 1) := by decide +kernel
theorem dL_law_1009 : decode cL_law 1009 = .ok (.iload_n 3, 1) := by decide +kernel
theorem dL_law_1010 : decode cL_law 1010 = .ok (.iconst 1, 1) := by decide +kernel
theorem dL_law_1011 : decode cL_law 1011 = .ok (.iadd, 1) := by decide +kernel
theorem dL_law_1012 : decode cL_law 1012 = .ok (.iaload, 1) := by decide +kernel
theorem dL_law_1013 : decode cL_law 1013 = .ok (.aload_n 0, 1) := by decide +kernel
theorem dL_law_1014 : decode cL_law 1014 = .ok (.iload_n 3, 1) := by decide +kernel
theorem dL_law_1015 : decode cL_law 1015 = .ok (.iconst 2, 1) := by decide +kernel
theorem dL_law_1016 : decode cL_law 1016 = .ok (.iadd, 1) := by decide +kernel
theorem dL_law_1017 : decode cL_law 1017 = .ok (.iaload, 1) := by decide +kernel
theorem dL_law_1018 : decode cL_law 1018 = .ok (.aload_n 0, 1) := by decide +kernel
theorem dL_law_1019 : decode cL_law 1019 = .ok (.iload_n 3, 1) := by decide +kernel
theorem dL_law_1020 : decode cL_law 1020 = .ok (.iconst 3, 1) := by decide +kernel
theorem dL_law_1021 : decode cL_law 1021 = .ok (.iadd, 1) := by decide +kernel
theorem dL_law_1022 : decode cL_law 1022 = .ok (.iaload, 1) := by decide +kernel
theorem dL_law_1023 : decode cL_law 1023 = .ok (.invokevirtual 120, 3) := by decide +kernel
theorem dL_law_1026 : decode cL_law 1026 = .ok (.aload_n 2, 1) := by decide +kernel
theorem dL_law_1027 : decode cL_law 1027 = .ok (.aload_n 0, 1) := by decide +kernel
theorem dL_law_1028 : decode cL_law 1028 = .ok (.iload_n 3, 1) := by decide +kernel
theorem dL_law_1029 : decode cL_law 1029 = .ok (.iconst 1, 1) := by decide +kernel
theorem dL_law_1030 : decode cL_law 1030 = .ok (.iadd, 1) := by decide +kernel
theorem dL_law_1031 : decode cL_law 1031 = .ok (.iaload, 1) := by decide +kernel
theorem dL_law_1032 : decode cL_law 1032 = .ok (.aload_n 0, 1) := by decide +kernel
theorem dL_law_1033 : decode cL_law 1033 = .ok (.iload_n 3, 1) := by decide +kernel
theorem dL_law_1034 : decode cL_law 1034 = .ok (.iconst 2, 1) := by decide +kernel
theorem dL_law_1035 : decode cL_law 1035 = .ok (.iadd, 1) := by decide +kernel
theorem dL_law_1036 : decode cL_law 1036 = .ok (.iaload, 1) := by decide +kernel
theorem dL_law_1037 : decode cL_law 1037 = .ok (.aload_n 0, 1) := by decide +kernel
theorem dL_law_1038 : decode cL_law 1038 = .ok (.iload_n 3, 1) := by decide +kernel
theorem dL_law_1039 : decode cL_law 1039 = .ok (.iconst 3, 1) := by decide +kernel
theorem dL_law_1040 : decode cL_law 1040 = .ok (.iadd, 1) := by decide +kernel
theorem dL_law_1041 : decode cL_law 1041 = .ok (.iaload, 1) := by decide +kernel
theorem dL_law_1042 : decode cL_law 1042 = .ok (.invokevirtual 123, 3) := by decide +kernel
theorem dL_law_1045 : decode cL_law 1045 = .ok (.if_icmp .eq 412, 3) := by decide +kernel
theorem dL_law_1048 : decode cL_law 1048 = .ok (.iconst 0, 1) := by decide +kernel
theorem dL_law_1049 : decode cL_law 1049 = .ok (.ireturn, 1) := by decide +kernel
theorem dL_law_1050 : decode cL_law 1050 = .ok (.aload_n 1, 1) := by decide +kernel
theorem dL_law_1051 : decode cL_law 1051 = .ok (.invokevirtual 124, 3) := by decide +kernel
theorem dL_law_1054 : decode cL_law 1054 = .ok (.aload_n 2, 1) := by decide +kernel
theorem dL_law_1055 : decode cL_law 1055 = .ok (.invokevirtual 127, 3) := by decide +kernel
theorem dL_law_1058 : decode cL_law 1058 = .ok (.if_icmp .eq 399, 3) := by decide +kernel
theorem dL_law_1061 : decode cL_law 1061 = .ok (.iconst 0, 1) := by decide +kernel
theorem dL_law_1062 : decode cL_law 1062 = .ok (.ireturn, 1) := by decide +kernel
theorem dL_law_1063 : decode cL_law 1063 = .ok (.aload_n 1, 1) := by decide +kernel
theorem dL_law_1064 : decode cL_law 1064 = .ok (.aload_n 0, 1) := by decide +kernel
theorem dL_law_1065 : decode cL_law 1065 = .ok (.iload_n 3, 1) := by decide +kernel
theorem dL_law_1066 : decode cL_law 1066 = .ok (.iconst 1, 1) := by decide +kernel
theorem dL_law_1067 : decode cL_law 1067 = .ok (.iadd, 1) := by decide +kernel
theorem dL_law_1068 : decode cL_law 1068 = .ok (.iaload, 1) := by decide +kernel
theorem dL_law_1069 : decode cL_law 1069 = .ok (.aload_n 0, 1) := by decide +kernel
theorem dL_law_1070 : decode cL_law 1070 = .ok (.iload_n 3, 1) := by decide +kernel
theorem dL_law_1071 : decode cL_law 1071 = .ok (.iconst 2, 1) := by decide +kernel
theorem dL_law_1072 : decode cL_law 1072 = .ok (.iadd, 1) := by decide +kernel
theorem dL_law_1073 : decode cL_law 1073 = .ok (.iaload, 1) := by decide +kernel
theorem dL_law_1074 : decode cL_law 1074 = .ok (.invokevirtual 128, 3) := by decide +kernel
theorem dL_law_1077 : decode cL_law 1077 = .ok (.aload_n 2, 1) := by decide +kernel
theorem dL_law_1078 : decode cL_law 1078 = .ok (.aload_n 0, 1) := by decide +kernel
theorem dL_law_1079 : decode cL_law 1079 = .ok (.iload_n 3, 1) := by decide +kernel
theorem dL_law_1080 : decode cL_law 1080 = .ok (.iconst 1, 1) := by decide +kernel
theorem dL_law_1081 : decode cL_law 1081 = .ok (.iadd, 1) := by decide +kernel
theorem dL_law_1082 : decode cL_law 1082 = .ok (.iaload, 1) := by decide +kernel
theorem dL_law_1083 : decode cL_law 1083 = .ok (.aload_n 0, 1) := by decide +kernel
theorem dL_law_1084 : decode cL_law 1084 = .ok (.iload_n 3, 1) := by decide +kernel
theorem dL_law_1085 : decode cL_law 1085 = .ok (.iconst 2, 1) := by decide +kernel
theorem dL_law_1086 : decode cL_law 1086 = .ok (.iadd, 1) := by decide +kernel
theorem dL_law_1087 : decode cL_law 1087 = .ok (.iaload, 1) := by decide +kernel
theorem dL_law_1088 : decode cL_law 1088 = .ok (.invokevirtual 131, 3) := by decide +kernel
theorem dL_law_1091 : decode cL_law 1091 = .ok (.if_icmp .eq 366, 3) := by decide +kernel
theorem dL_law_1094 : decode cL_law 1094 = .ok (.iconst 0, 1) := by decide +kernel
theorem dL_law_1095 : decode cL_law 1095 = .ok (.ireturn, 1) := by decide +kernel
theorem dL_law_1096 : decode cL_law 1096 = .ok (.aload_n 1, 1) := by decide +kernel
theorem dL_law_1097 : decode cL_law 1097 = .ok (.invokevirtual 132, 3) := by decide +kernel
theorem dL_law_1100 : decode cL_law 1100 = .ok (.aload_n 2, 1) := by decide +kernel
theorem dL_law_1101 : decode cL_law 1101 = .ok (.invokevirtual 135, 3) := by decide +kernel
theorem dL_law_1104 : decode cL_law 1104 = .ok (.if_icmp .eq 353, 3) := by decide +kernel
theorem dL_law_1107 : decode cL_law 1107 = .ok (.iconst 0, 1) := by decide +kernel
theorem dL_law_1108 : decode cL_law 1108 = .ok (.ireturn, 1) := by decide +kernel
theorem dL_law_1109 : decode cL_law 1109 = .ok (.aload_n 1, 1) := by decide +kernel
theorem dL_law_1110 : decode cL_law 1110 = .ok (.invokevirtual 136, 3) := by decide +kernel
theorem dL_law_1113 : decode cL_law 1113 = .ok (.aload_n 2, 1) := by decide +kernel
theorem dL_law_1114 : decode cL_law 1114 = .ok (.invokevirtual 139, 3) := by decide +kernel
theorem dL_law_1117 : decode cL_law 1117 = .ok (.if_icmp .eq 340, 3) := by decide +kernel
theorem dL_law_1120 : decode cL_law 1120 = .ok (.iconst 0, 1) := by decide +kernel
theorem dL_law_1121 : decode cL_law 1121 = .ok (.ireturn, 1) := by decide +kernel
theorem dL_law_1122 : decode cL_law 1122 = .ok (.aload_n 1, 1) := by decide +kernel
theorem dL_law_1123 : decode cL_law 1123 = .ok (.aload_n 0, 1) := by decide +kernel
theorem dL_law_1124 : decode cL_law 1124 = .ok (.iload_n 3, 1) := by decide +kernel
theorem dL_law_1125 : decode cL_law 1125 = .ok (.iconst 1, 1) := by decide +kernel
theorem dL_law_1126 : decode cL_law 1126 = .ok (.iadd, 1) := by decide +kernel
theorem dL_law_1127 : decode cL_law 1127 = .ok (.iaload, 1) := by decide +kernel
theorem dL_law_1128 : decode cL_law 1128 = .ok (.aload_n 0, 1) := by decide +kernel
theorem dL_law_1129 : decode cL_law 1129 = .ok (.iload_n 3, 1) := by decide +kernel
theorem dL_law_1130 : decode cL_law 1130 = .ok (.iconst 2, 1) := by decide +kernel
theorem dL_law_1131 : decode cL_law 1131 = .ok (.iadd, 1) := by decide +kernel
theorem dL_law_1132 : decode cL_law 1132 = .ok (.iaload, 1) := by decide +kernel
theorem dL_law_1133 : decode cL_law 1133 = .ok (.aload_n 0, 1) := by decide +kernel
theorem dL_law_1134 : decode cL_law 1134 = .ok (.iload_n 3, 1) := by decide +kernel
theorem dL_law_1135 : decode cL_law 1135 = .ok (.iconst 3, 1) := by decide +kernel
theorem dL_law_1136 : decode cL_law 1136 = .ok (.iadd, 1) := by decide +kernel
theorem dL_law_1137 : decode cL_law 1137 = .ok (.iaload, 1) := by decide +kernel
theorem dL_law_1138 : decode cL_law 1138 = .ok (.invokevirtual 140, 3) := by decide +kernel
theorem dL_law_1141 : decode cL_law 1141 = .ok (.aload_n 2, 1) := by decide +kernel
theorem dL_law_1142 : decode cL_law 1142 = .ok (.aload_n 0, 1) := by decide +kernel
theorem dL_law_1143 : decode cL_law 1143 = .ok (.iload_n 3, 1) := by decide +kernel
theorem dL_law_1144 : decode cL_law 1144 = .ok (.iconst 1, 1) := by decide +kernel
theorem dL_law_1145 : decode cL_law 1145 = .ok (.iadd, 1) := by decide +kernel
theorem dL_law_1146 : decode cL_law 1146 = .ok (.iaload, 1) := by decide +kernel
theorem dL_law_1147 : decode cL_law 1147 = .ok (.aload_n 0, 1) := by decide +kernel
theorem dL_law_1148 : decode cL_law 1148 = .ok (.iload_n 3, 1) := by decide +kernel
theorem dL_law_1149 : decode cL_law 1149 = .ok (.iconst 2, 1) := by decide +kernel
theorem dL_law_1150 : decode cL_law 1150 = .ok (.iadd, 1) := by decide +kernel
theorem dL_law_1151 : decode cL_law 1151 = .ok (.iaload, 1) := by decide +kernel
theorem dL_law_1152 : decode cL_law 1152 = .ok (.aload_n 0, 1) := by decide +kernel
theorem dL_law_1153 : decode cL_law 1153 = .ok (.iload_n 3, 1) := by decide +kernel
theorem dL_law_1154 : decode cL_law 1154 = .ok (.iconst 3, 1) := by decide +kernel
theorem dL_law_1155 : decode cL_law 1155 = .ok (.iadd, 1) := by decide +kernel
theorem dL_law_1156 : decode cL_law 1156 = .ok (.iaload, 1) := by decide +kernel
theorem dL_law_1157 : decode cL_law 1157 = .ok (.invokevirtual 143, 3) := by decide +kernel
theorem dL_law_1160 : decode cL_law 1160 = .ok (.if_icmp .eq 297, 3) := by decide +kernel
theorem dL_law_1163 : decode cL_law 1163 = .ok (.iconst 0, 1) := by decide +kernel
theorem dL_law_1164 : decode cL_law 1164 = .ok (.ireturn, 1) := by decide +kernel
theorem dL_law_1165 : decode cL_law 1165 = .ok (.aload_n 1, 1) := by decide +kernel
theorem dL_law_1166 : decode cL_law 1166 = .ok (.aload_n 0, 1) := by decide +kernel
theorem dL_law_1167 : decode cL_law 1167 = .ok (.iload_n 3, 1) := by decide +kernel
theorem dL_law_1168 : decode cL_law 1168 = .ok (.iconst 1, 1) := by decide +kernel
theorem dL_law_1169 : decode cL_law 1169 = .ok (.iadd, 1) := by decide +kernel
theorem dL_law_1170 : decode cL_law 1170 = .ok (.iaload, 1) := by decide +kernel
theorem dL_law_1171 : decode cL_law 1171 = .ok (.invokevirtual 144, 3) := by decide +kernel
theorem dL_law_1174 : decode cL_law 1174 = .ok (.aload_n 2, 1) := by decide +kernel
theorem dL_law_1175 : decode cL_law 1175 = .ok (.aload_n 0, 1) := by decide +kernel
theorem dL_law_1176 : decode cL_law 1176 = .ok (.iload_n 3, 1) := by decide +kernel
theorem dL_law_1177 : decode cL_law 1177 = .ok (.iconst 1, 1) := by decide +kernel
theorem dL_law_1178 : decode cL_law 1178 = .ok (.iadd, 1) := by decide +kernel
theorem dL_law_1179 : decode cL_law 1179 = .ok (.iaload, 1) := by decide +kernel
theorem dL_law_1180 : decode cL_law 1180 = .ok (.invokevirtual 147, 3) := by decide +kernel
theorem dL_law_1183 : decode cL_law 1183 = .ok (.if_icmp .eq 274, 3) := by decide +kernel
theorem dL_law_1186 : decode cL_law 1186 = .ok (.iconst 0, 1) := by decide +kernel
theorem dL_law_1187 : decode cL_law 1187 = .ok (.ireturn, 1) := by decide +kernel
theorem dL_law_1188 : decode cL_law 1188 = .ok (.aload_n 1, 1) := by decide +kernel
theorem dL_law_1189 : decode cL_law 1189 = .ok (.aload_n 0, 1) := by decide +kernel
theorem dL_law_1190 : decode cL_law 1190 = .ok (.iload_n 3, 1) := by decide +kernel
theorem dL_law_1191 : decode cL_law 1191 = .ok (.iconst 1, 1) := by decide +kernel
theorem dL_law_1192 : decode cL_law 1192 = .ok (.iadd, 1) := by decide +kernel
theorem dL_law_1193 : decode cL_law 1193 = .ok (.iaload, 1) := by decide +kernel
theorem dL_law_1194 : decode cL_law 1194 = .ok (.aload_n 0, 1) := by decide +kernel
theorem dL_law_1195 : decode cL_law 1195 = .ok (.iload_n 3, 1) := by decide +kernel
theorem dL_law_1196 : decode cL_law 1196 = .ok (.iconst 2, 1) := by decide +kernel
theorem dL_law_1197 : decode cL_law 1197 = .ok (.iadd, 1) := by decide +kernel
theorem dL_law_1198 : decode cL_law 1198 = .ok (.iaload, 1) := by decide +kernel
theorem dL_law_1199 : decode cL_law 1199 = .ok (.invokevirtual 148, 3) := by decide +kernel
theorem dL_law_1202 : decode cL_law 1202 = .ok (.aload_n 2, 1) := by decide +kernel
theorem dL_law_1203 : decode cL_law 1203 = .ok (.aload_n 0, 1) := by decide +kernel
theorem dL_law_1204 : decode cL_law 1204 = .ok (.iload_n 3, 1) := by decide +kernel
theorem dL_law_1205 : decode cL_law 1205 = .ok (.iconst 1, 1) := by decide +kernel
theorem dL_law_1206 : decode cL_law 1206 = .ok (.iadd, 1) := by decide +kernel
theorem dL_law_1207 : decode cL_law 1207 = .ok (.iaload, 1) := by decide +kernel
theorem dL_law_1208 : decode cL_law 1208 = .ok (.aload_n 0, 1) := by decide +kernel
theorem dL_law_1209 : decode cL_law 1209 = .ok (.iload_n 3, 1) := by decide +kernel
theorem dL_law_1210 : decode cL_law 1210 = .ok (.iconst 2, 1) := by decide +kernel
theorem dL_law_1211 : decode cL_law 1211 = .ok (.iadd, 1) := by decide +kernel
theorem dL_law_1212 : decode cL_law 1212 = .ok (.iaload, 1) := by decide +kernel
theorem dL_law_1213 : decode cL_law 1213 = .ok (.invokevirtual 151, 3) := by decide +kernel
theorem dL_law_1216 : decode cL_law 1216 = .ok (.if_icmp .eq 241, 3) := by decide +kernel
theorem dL_law_1219 : decode cL_law 1219 = .ok (.iconst 0, 1) := by decide +kernel
theorem dL_law_1220 : decode cL_law 1220 = .ok (.ireturn, 1) := by decide +kernel
theorem dL_law_1221 : decode cL_law 1221 = .ok (.aload_n 1, 1) := by decide +kernel
theorem dL_law_1222 : decode cL_law 1222 = .ok (.aload_n 0, 1) := by decide +kernel
theorem dL_law_1223 : decode cL_law 1223 = .ok (.iload_n 3, 1) := by decide +kernel
theorem dL_law_1224 : decode cL_law 1224 = .ok (.iconst 1, 1) := by decide +kernel
theorem dL_law_1225 : decode cL_law 1225 = .ok (.iadd, 1) := by decide +kernel
theorem dL_law_1226 : decode cL_law 1226 = .ok (.iaload, 1) := by decide +kernel
theorem dL_law_1227 : decode cL_law 1227 = .ok (.invokevirtual 152, 3) := by decide +kernel
theorem dL_law_1230 : decode cL_law 1230 = .ok (.aload_n 2, 1) := by decide +kernel
theorem dL_law_1231 : decode cL_law 1231 = .ok (.aload_n 0, 1) := by decide +kernel
theorem dL_law_1232 : decode cL_law 1232 = .ok (.iload_n 3, 1) := by decide +kernel
theorem dL_law_1233 : decode cL_law 1233 = .ok (.iconst 1, 1) := by decide +kernel
theorem dL_law_1234 : decode cL_law 1234 = .ok (.iadd, 1) := by decide +kernel
theorem dL_law_1235 : decode cL_law 1235 = .ok (.iaload, 1) := by decide +kernel
theorem dL_law_1236 : decode cL_law 1236 = .ok (.invokevirtual 155, 3) := by decide +kernel
theorem dL_law_1239 : decode cL_law 1239 = .ok (.if_icmp .eq 218, 3) := by decide +kernel
theorem dL_law_1242 : decode cL_law 1242 = .ok (.iconst 0, 1) := by decide +kernel
theorem dL_law_1243 : decode cL_law 1243 = .ok (.ireturn, 1) := by decide +kernel
theorem dL_law_1244 : decode cL_law 1244 = .ok (.aload_n 1, 1) := by decide +kernel
theorem dL_law_1245 : decode cL_law 1245 = .ok (.aload_n 0, 1) := by decide +kernel
theorem dL_law_1246 : decode cL_law 1246 = .ok (.iload_n 3, 1) := by decide +kernel
theorem dL_law_1247 : decode cL_law 1247 = .ok (.iconst 1, 1) := by decide +kernel
theorem dL_law_1248 : decode cL_law 1248 = .ok (.iadd, 1) := by decide +kernel
theorem dL_law_1249 : decode cL_law 1249 = .ok (.iaload, 1) := by decide +kernel
theorem dL_law_1250 : decode cL_law 1250 = .ok (.aload_n 0, 1) := by decide +kernel
theorem dL_law_1251 : decode cL_law 1251 = .ok (.iload_n 3, 1) := by decide +kernel
theorem dL_law_1252 : decode cL_law 1252 = .ok (.iconst 2, 1) := by decide +kernel
theorem dL_law_1253 : decode cL_law 1253 = .ok (.iadd, 1) := by decide +kernel
theorem dL_law_1254 : decode cL_law 1254 = .ok (.iaload, 1) := by decide +kernel
theorem dL_law_1255 : decode cL_law 1255 = .ok (.aload_n 0, 1) := by decide +kernel
theorem dL_law_1256 : decode cL_law 1256 = .ok (.iload_n 3, 1) := by decide +kernel
theorem dL_law_1257 : decode cL_law 1257 = .ok (.iconst 3, 1) := by decide +kernel
theorem dL_law_1258 : decode cL_law 1258 = .ok (.iadd, 1) := by decide +kernel
theorem dL_law_1259 : decode cL_law 1259 = .ok (.iaload, 1) := by decide +kernel
theorem dL_law_1260 : decode cL_law 1260 = .ok (.invokevirtual 156, 3) := by decide +kernel
theorem dL_law_1263 : decode cL_law 1263 = .ok (.aload_n 2, 1) := by decide +kernel
theorem dL_law_1264 : decode cL_law 1264 = .ok (.aload_n 0, 1) := by decide +kernel
theorem dL_law_1265 : decode cL_law 1265 = .ok (.iload_n 3, 1) := by decide +kernel
theorem dL_law_1266 : decode cL_law 1266 = .ok (.iconst 1, 1) := by decide +kernel
theorem dL_law_1267 : decode cL_law 1267 = .ok (.iadd, 1) := by decide +kernel
theorem dL_law_1268 : decode cL_law 1268 = .ok (.iaload, 1) := by decide +kernel
theorem dL_law_1269 : decode cL_law 1269 = .ok (.aload_n 0, 1) := by decide +kernel
theorem dL_law_1270 : decode cL_law 1270 = .ok (.iload_n 3, 1) := by decide +kernel
theorem dL_law_1271 : decode cL_law 1271 = .ok (.iconst 2, 1) := by decide +kernel
theorem dL_law_1272 : decode cL_law 1272 = .ok (.iadd, 1) := by decide +kernel
theorem dL_law_1273 : decode cL_law 1273 = .ok (.iaload, 1) := by decide +kernel
theorem dL_law_1274 : decode cL_law 1274 = .ok (.aload_n 0, 1) := by decide +kernel
theorem dL_law_1275 : decode cL_law 1275 = .ok (.iload_n 3, 1) := by decide +kernel
theorem dL_law_1276 : decode cL_law 1276 = .ok (.iconst 3, 1) := by decide +kernel
theorem dL_law_1277 : decode cL_law 1277 = .ok (.iadd, 1) := by decide +kernel
theorem dL_law_1278 : decode cL_law 1278 = .ok (.iaload, 1) := by decide +kernel
theorem dL_law_1279 : decode cL_law 1279 = .ok (.invokevirtual 159, 3) := by decide +kernel
theorem dL_law_1282 : decode cL_law 1282 = .ok (.if_icmp .eq 175, 3) := by decide +kernel
theorem dL_law_1285 : decode cL_law 1285 = .ok (.iconst 0, 1) := by decide +kernel
theorem dL_law_1286 : decode cL_law 1286 = .ok (.ireturn, 1) := by decide +kernel
theorem dL_law_1287 : decode cL_law 1287 = .ok (.aload_n 1, 1) := by decide +kernel
theorem dL_law_1288 : decode cL_law 1288 = .ok (.aload_n 0, 1) := by decide +kernel
theorem dL_law_1289 : decode cL_law 1289 = .ok (.iload_n 3, 1) := by decide +kernel
theorem dL_law_1290 : decode cL_law 1290 = .ok (.iconst 1, 1) := by decide +kernel
theorem dL_law_1291 : decode cL_law 1291 = .ok (.iadd, 1) := by decide +kernel
theorem dL_law_1292 : decode cL_law 1292 = .ok (.iaload, 1) := by decide +kernel
theorem dL_law_1293 : decode cL_law 1293 = .ok (.aload_n 0, 1) := by decide +kernel
theorem dL_law_1294 : decode cL_law 1294 = .ok (.iload_n 3, 1) := by decide +kernel
theorem dL_law_1295 : decode cL_law 1295 = .ok (.iconst 2, 1) := by decide +kernel
theorem dL_law_1296 : decode cL_law 1296 = .ok (.iadd, 1) := by decide +kernel
theorem dL_law_1297 : decode cL_law 1297 = .ok (.iaload, 1) := by decide +kernel
theorem dL_law_1298 : decode cL_law 1298 = .ok (.aload_n 0, 1) := by decide +kernel
theorem dL_law_1299 : decode cL_law 1299 = .ok (.iload_n 3, 1) := by decide +kernel
theorem dL_law_1300 : decode cL_law 1300 = .ok (.iconst 3, 1) := by decide +kernel
theorem dL_law_1301 : decode cL_law 1301 = .ok (.iadd, 1) := by decide +kernel
theorem dL_law_1302 : decode cL_law 1302 = .ok (.iaload, 1) := by decide +kernel
theorem dL_law_1303 : decode cL_law 1303 = .ok (.i2l, 1) := by decide +kernel
theorem dL_law_1304 : decode cL_law 1304 = .ok (.bipush 32, 2) := by decide +kernel
theorem dL_law_1306 : decode cL_law 1306 = .ok (.lshl, 1) := by decide +kernel
theorem dL_law_1307 : decode cL_law 1307 = .ok (.aload_n 0, 1) := by decide +kernel
theorem dL_law_1308 : decode cL_law 1308 = .ok (.iload_n 3, 1) := by decide +kernel
theorem dL_law_1309 : decode cL_law 1309 = .ok (.iconst 4, 1) := by decide +kernel
theorem dL_law_1310 : decode cL_law 1310 = .ok (.iadd, 1) := by decide +kernel
theorem dL_law_1311 : decode cL_law 1311 = .ok (.iaload, 1) := by decide +kernel
theorem dL_law_1312 : decode cL_law 1312 = .ok (.i2l, 1) := by decide +kernel
theorem dL_law_1313 : decode cL_law 1313 = .ok (.ldc2_w 160, 3) := by decide +kernel
theorem dL_law_1316 : decode cL_law 1316 = .ok (.land, 1) := by decide +kernel
theorem dL_law_1317 : decode cL_law 1317 = .ok (.lor, 1) := by decide +kernel
theorem dL_law_1318 : decode cL_law 1318 = .ok (.invokevirtual 162, 3) := by decide +kernel
theorem dL_law_1321 : decode cL_law 1321 = .ok (.aload_n 2, 1) := by decide +kernel
theorem dL_law_1322 : decode cL_law 1322 = .ok (.aload_n 0, 1) := by decide +kernel
theorem dL_law_1323 : decode cL_law 1323 = .ok (.iload_n 3, 1) := by decide +kernel
theorem dL_law_1324 : decode cL_law 1324 = .ok (.iconst 1, 1) := by decide +kernel
theorem dL_law_1325 : decode cL_law 1325 = .ok (.iadd, 1) := by decide +kernel
theorem dL_law_1326 : decode cL_law 1326 = .ok (.iaload, 1) := by decide +kernel
theorem dL_law_1327 : decode cL_law 1327 = .ok (.aload_n 0, 1) := by decide +kernel
theorem dL_law_1328 : decode cL_law 1328 = .ok (.iload_n 3, 1) := by decide +kernel
theorem dL_law_1329 : decode cL_law 1329 = .ok (.iconst 2, 1) := by decide +kernel
theorem dL_law_1330 : decode cL_law 1330 = .ok (.iadd, 1) := by decide +kernel
theorem dL_law_1331 : decode cL_law 1331 = .ok (.iaload, 1) := by decide +kernel
theorem dL_law_1332 : decode cL_law 1332 = .ok (.aload_n 0, 1) := by decide +kernel
theorem dL_law_1333 : decode cL_law 1333 = .ok (.iload_n 3, 1) := by decide +kernel
theorem dL_law_1334 : decode cL_law 1334 = .ok (.iconst 3, 1) := by decide +kernel
theorem dL_law_1335 : decode cL_law 1335 = .ok (.iadd, 1) := by decide +kernel
theorem dL_law_1336 : decode cL_law 1336 = .ok (.iaload, 1) := by decide +kernel
theorem dL_law_1337 : decode cL_law 1337 = .ok (.i2l, 1) := by decide +kernel
theorem dL_law_1338 : decode cL_law 1338 = .ok (.bipush 32, 2) := by decide +kernel
theorem dL_law_1340 : decode cL_law 1340 = .ok (.lshl, 1) := by decide +kernel
theorem dL_law_1341 : decode cL_law 1341 = .ok (.aload_n 0, 1) := by decide +kernel
theorem dL_law_1342 : decode cL_law 1342 = .ok (.iload_n 3, 1) := by decide +kernel
theorem dL_law_1343 : decode cL_law 1343 = .ok (.iconst 4, 1) := by decide +kernel
theorem dL_law_1344 : decode cL_law 1344 = .ok (.iadd, 1) := by decide +kernel
theorem dL_law_1345 : decode cL_law 1345 = .ok (.iaload, 1) := by decide +kernel
theorem dL_law_1346 : decode cL_law 1346 = .ok (.i2l, 1) := by decide +kernel
theorem dL_law_1347 : decode cL_law 1347 = .ok (.ldc2_w 160, 3) := by decide +kernel
theorem dL_law_1350 : decode cL_law 1350 = .ok (.land, 1) := by decide +kernel
theorem dL_law_1351 : decode cL_law 1351 = .ok (.lor, 1) := by decide +kernel
theorem dL_law_1352 : decode cL_law 1352 = .ok (.invokevirtual 166, 3) := by decide +kernel
theorem dL_law_1355 : decode cL_law 1355 = .ok (.if_icmp .eq 102, 3) := by decide +kernel
theorem dL_law_1358 : decode cL_law 1358 = .ok (.iconst 0, 1) := by decide +kernel
theorem dL_law_1359 : decode cL_law 1359 = .ok (.ireturn, 1) := by decide +kernel
theorem dL_law_1360 : decode cL_law 1360 = .ok (.aload_n 1, 1) := by decide +kernel
theorem dL_law_1361 : decode cL_law 1361 = .ok (.aload_n 0, 1) := by decide +kernel
theorem dL_law_1362 : decode cL_law 1362 = .ok (.iload_n 3, 1) := by decide +kernel
theorem dL_law_1363 : decode cL_law 1363 = .ok (.iconst 1, 1) := by decide +kernel
theorem dL_law_1364 : decode cL_law 1364 = .ok (.iadd, 1) := by decide +kernel
theorem dL_law_1365 : decode cL_law 1365 = .ok (.iaload, 1) := by decide +kernel
theorem dL_law_1366 : decode cL_law 1366 = .ok (.aload_n 0, 1) := by decide +kernel
theorem dL_law_1367 : decode cL_law 1367 = .ok (.iload_n 3, 1) := by decide +kernel
theorem dL_law_1368 : decode cL_law 1368 = .ok (.iconst 2, 1) := by decide +kernel
theorem dL_law_1369 : decode cL_law 1369 = .ok (.iadd, 1) := by decide +kernel
theorem dL_law_1370 : decode cL_law 1370 = .ok (.iaload, 1) := by decide +kernel
theorem dL_law_1371 : decode cL_law 1371 = .ok (.invokevirtual 167, 3) := by decide +kernel
theorem dL_law_1374 : decode cL_law 1374 = .ok (.aload_n 2, 1) := by decide +kernel
theorem dL_law_1375 : decode cL_law 1375 = .ok (.aload_n 0, 1) := by decide +kernel
theorem dL_law_1376 : decode cL_law 1376 = .ok (.iload_n 3, 1) := by decide +kernel
theorem dL_law_1377 : decode cL_law 1377 = .ok (.iconst 1, 1) := by decide +kernel
theorem dL_law_1378 : decode cL_law 1378 = .ok (.iadd, 1) := by decide +kernel
theorem dL_law_1379 : decode cL_law 1379 = .ok (.iaload, 1) := by decide +kernel
theorem dL_law_1380 : decode cL_law 1380 = .ok (.aload_n 0, 1) := by decide +kernel
theorem dL_law_1381 : decode cL_law 1381 = .ok (.iload_n 3, 1) := by decide +kernel
theorem dL_law_1382 : decode cL_law 1382 = .ok (.iconst 2, 1) := by decide +kernel
theorem dL_law_1383 : decode cL_law 1383 = .ok (.iadd, 1) := by decide +kernel
theorem dL_law_1384 : decode cL_law 1384 = .ok (.iaload, 1) := by decide +kernel
theorem dL_law_1385 : decode cL_law 1385 = .ok (.invokevirtual 170, 3) := by decide +kernel
theorem dL_law_1388 : decode cL_law 1388 = .ok (.lcmp, 1) := by decide +kernel
theorem dL_law_1389 : decode cL_law 1389 = .ok (.ifCond .eq 68, 3) := by decide +kernel
theorem dL_law_1392 : decode cL_law 1392 = .ok (.iconst 0, 1) := by decide +kernel
theorem dL_law_1393 : decode cL_law 1393 = .ok (.ireturn, 1) := by decide +kernel
theorem dL_law_1394 : decode cL_law 1394 = .ok (.aload_n 1, 1) := by decide +kernel
theorem dL_law_1395 : decode cL_law 1395 = .ok (.aload_n 0, 1) := by decide +kernel
theorem dL_law_1396 : decode cL_law 1396 = .ok (.iload_n 3, 1) := by decide +kernel
theorem dL_law_1397 : decode cL_law 1397 = .ok (.iconst 1, 1) := by decide +kernel
theorem dL_law_1398 : decode cL_law 1398 = .ok (.iadd, 1) := by decide +kernel
theorem dL_law_1399 : decode cL_law 1399 = .ok (.iaload, 1) := by decide +kernel
theorem dL_law_1400 : decode cL_law 1400 = .ok (.aload_n 0, 1) := by decide +kernel
theorem dL_law_1401 : decode cL_law 1401 = .ok (.iload_n 3, 1) := by decide +kernel
theorem dL_law_1402 : decode cL_law 1402 = .ok (.iconst 2, 1) := by decide +kernel
theorem dL_law_1403 : decode cL_law 1403 = .ok (.iadd, 1) := by decide +kernel
theorem dL_law_1404 : decode cL_law 1404 = .ok (.iaload, 1) := by decide +kernel
theorem dL_law_1405 : decode cL_law 1405 = .ok (.aload_n 0, 1) := by decide +kernel
theorem dL_law_1406 : decode cL_law 1406 = .ok (.iload_n 3, 1) := by decide +kernel
theorem dL_law_1407 : decode cL_law 1407 = .ok (.iconst 3, 1) := by decide +kernel
theorem dL_law_1408 : decode cL_law 1408 = .ok (.iadd, 1) := by decide +kernel
theorem dL_law_1409 : decode cL_law 1409 = .ok (.iaload, 1) := by decide +kernel
theorem dL_law_1410 : decode cL_law 1410 = .ok (.aload_n 0, 1) := by decide +kernel
theorem dL_law_1411 : decode cL_law 1411 = .ok (.iload_n 3, 1) := by decide +kernel
theorem dL_law_1412 : decode cL_law 1412 = .ok (.iconst 4, 1) := by decide +kernel
theorem dL_law_1413 : decode cL_law 1413 = .ok (.iadd, 1) := by decide +kernel
theorem dL_law_1414 : decode cL_law 1414 = .ok (.iaload, 1) := by decide +kernel
theorem dL_law_1415 : decode cL_law 1415 = .ok (.aload_n 0, 1) := by decide +kernel
theorem dL_law_1416 : decode cL_law 1416 = .ok (.iload_n 3, 1) := by decide +kernel
theorem dL_law_1417 : decode cL_law 1417 = .ok (.iconst 5, 1) := by decide +kernel
theorem dL_law_1418 : decode cL_law 1418 = .ok (.iadd, 1) := by decide +kernel
theorem dL_law_1419 : decode cL_law 1419 = .ok (.iaload, 1) := by decide +kernel
theorem dL_law_1420 : decode cL_law 1420 = .ok (.invokevirtual 171, 3) := by decide +kernel
theorem dL_law_1423 : decode cL_law 1423 = .ok (.aload_n 2, 1) := by decide +kernel
theorem dL_law_1424 : decode cL_law 1424 = .ok (.aload_n 0, 1) := by decide +kernel
theorem dL_law_1425 : decode cL_law 1425 = .ok (.iload_n 3, 1) := by decide +kernel
theorem dL_law_1426 : decode cL_law 1426 = .ok (.iconst 1, 1) := by decide +kernel
theorem dL_law_1427 : decode cL_law 1427 = .ok (.iadd, 1) := by decide +kernel
theorem dL_law_1428 : decode cL_law 1428 = .ok (.iaload, 1) := by decide +kernel
theorem dL_law_1429 : decode cL_law 1429 = .ok (.aload_n 0, 1) := by decide +kernel
theorem dL_law_1430 : decode cL_law 1430 = .ok (.iload_n 3, 1) := by decide +kernel
theorem dL_law_1431 : decode cL_law 1431 = .ok (.iconst 2, 1) := by decide +kernel
theorem dL_law_1432 : decode cL_law 1432 = .ok (.iadd, 1) := by decide +kernel
theorem dL_law_1433 : decode cL_law 1433 = .ok (.iaload, 1) := by decide +kernel
theorem dL_law_1434 : decode cL_law 1434 = .ok (.aload_n 0, 1) := by decide +kernel
theorem dL_law_1435 : decode cL_law 1435 = .ok (.iload_n 3, 1) := by decide +kernel
theorem dL_law_1436 : decode cL_law 1436 = .ok (.iconst 3, 1) := by decide +kernel
theorem dL_law_1437 : decode cL_law 1437 = .ok (.iadd, 1) := by decide +kernel
theorem dL_law_1438 : decode cL_law 1438 = .ok (.iaload, 1) := by decide +kernel
theorem dL_law_1439 : decode cL_law 1439 = .ok (.aload_n 0, 1) := by decide +kernel
theorem dL_law_1440 : decode cL_law 1440 = .ok (.iload_n 3, 1) := by decide +kernel
theorem dL_law_1441 : decode cL_law 1441 = .ok (.iconst 4, 1) := by decide +kernel
theorem dL_law_1442 : decode cL_law 1442 = .ok (.iadd, 1) := by decide +kernel
theorem dL_law_1443 : decode cL_law 1443 = .ok (.iaload, 1) := by decide +kernel
theorem dL_law_1444 : decode cL_law 1444 = .ok (.aload_n 0, 1) := by decide +kernel
theorem dL_law_1445 : decode cL_law 1445 = .ok (.iload_n 3, 1) := by decide +kernel
theorem dL_law_1446 : decode cL_law 1446 = .ok (.iconst 5, 1) := by decide +kernel
theorem dL_law_1447 : decode cL_law 1447 = .ok (.iadd, 1) := by decide +kernel
theorem dL_law_1448 : decode cL_law 1448 = .ok (.iaload, 1) := by decide +kernel
theorem dL_law_1449 : decode cL_law 1449 = .ok (.invokevirtual 174, 3) := by decide +kernel
theorem dL_law_1452 : decode cL_law 1452 = .ok (.if_icmp .eq 5, 3) := by decide +kernel
theorem dL_law_1455 : decode cL_law 1455 = .ok (.iconst 0, 1) := by decide +kernel
theorem dL_law_1456 : decode cL_law 1456 = .ok (.ireturn, 1) := by decide +kernel
theorem dL_law_1457 : decode cL_law 1457 = .ok (.iinc 3 6, 3) := by decide +kernel
theorem dL_law_1460 : decode cL_law 1460 = .ok (.goto (-1442), 3) := by decide +kernel
theorem dL_law_1463 : decode cL_law 1463 = .ok (.iconst 1, 1) := by decide +kernel
theorem dL_law_1464 : decode cL_law 1464 = .ok (.ireturn, 1) := by decide +kernel
