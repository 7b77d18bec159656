theorem dX6_add_0 : decode cX6_add 0 = .ok (.aload_n 0, 1) := by decide +kernel
theorem dX6_add_1 : decode cX6_add 1 = .ok (.dup, 1) := by decide +kernel
theorem dX6_add_2 : decode cX6_add 2 = .ok (.getfield 130, 3) := by decide +kernel
theorem dX6_add_5 : decode cX6_add 5 = .ok (.iconst 1, 1) := by decide +kernel
theorem dX6_add_6 : decode cX6_add 6 = .ok (.iadd, 1) := by decide +kernel
theorem dX6_add_7 : decode cX6_add 7 = .ok (.putfield 130, 3) := by decide +kernel
theorem dX6_add_10 : decode cX6_add 10 = .ok (.aload_n 0, 1) := by decide +kernel
theorem dX6_add_11 : decode cX6_add 11 = .ok (.getfield 45, 3) := by decide +kernel
theorem dX6_add_14 : decode cX6_add 14 = .ok (.aload_n 0, 1) := by decide +kernel
theorem dX6_add_15 : decode cX6_add 15 = .ok (.getfield 130, 3) := by decide +kernel
theorem dX6_add_18 : decode cX6_add 18 = .ok (.iload_n 1, 1) := by decide +kernel
theorem dX6_add_19 : decode cX6_add 19 = .ok (.iastore, 1) := by decide +kernel
theorem dX6_add_20 : decode cX6_add 20 = .ok (.aload_n 0, 1) := by decide +kernel
theorem dX6_add_21 : decode cX6_add 21 = .ok (.getfield 48, 3) := by decide +kernel
theorem dX6_add_24 : decode cX6_add 24 = .ok (.aload_n 0, 1) := by decide +kernel
theorem dX6_add_25 : decode cX6_add 25 = .ok (.getfield 130, 3) := by decide +kernel
theorem dX6_add_28 : decode cX6_add 28 = .ok (.iload_n 2, 1) := by decide +kernel
theorem dX6_add_29 : decode cX6_add 29 = .ok (.iastore, 1) := by decide +kernel
theorem dX6_add_30 : decode cX6_add 30 = .ok (.aload_n 0, 1) := by decide +kernel
theorem dX6_add_31 : decode cX6_add 31 = .ok (.getfield 51, 3) := by decide +kernel
theorem dX6_add_34 : decode cX6_add 34 = .ok (.aload_n 0, 1) := by decide +kernel
theorem dX6_add_35 : decode cX6_add 35 = .ok (.getfield 130, 3) := by decide +kernel
theorem dX6_add_38 : decode cX6_add 38 = .ok (.iload_n 3, 1) := by decide +kernel
theorem dX6_add_39 : decode cX6_add 39 = .ok (.iastore, 1) := by decide +kernel
theorem dX6_add_40 : decode cX6_add 40 = .ok (.aload_n 0, 1) := by decide +kernel
theorem dX6_add_41 : decode cX6_add 41 = .ok (.getfield 54, 3) := by decide +kernel
theorem dX6_add_44 : decode cX6_add 44 = .ok (.aload_n 0, 1) := by decide +kernel
theorem dX6_add_45 : decode cX6_add 45 = .ok (.getfield 130, 3) := by decide +kernel
theorem dX6_add_48 : decode cX6_add 48 = .ok (.iload 4, 2) := by decide +kernel
theorem dX6_add_50 : decode cX6_add 50 = .ok (.iastore, 1) := by decide +kernel
theorem dX6_add_51 : decode cX6_add 51 = .ok (.aload_n 0, 1) := by decide +kernel
theorem dX6_add_52 : decode cX6_add 52 = .ok (.getfield 57, 3) := by decide +kernel
theorem dX6_add_55 : decode cX6_add 55 = .ok (.aload_n 0, 1) := by decide +kernel
theorem dX6_add_56 : decode cX6_add 56 = .ok (.getfield 130, 3) := by decide +kernel
theorem dX6_add_59 : decode cX6_add 59 = .ok (.lload 5, 2) := by decide +kernel
theorem dX6_add_61 : decode cX6_add 61 = .ok (.lastore, 1) := by decide +kernel
theorem dX6_add_62 : decode cX6_add 62 = .ok (.aload_n 0, 1) := by decide +kernel
theorem dX6_add_63 : decode cX6_add 63 = .ok (.getfield 60, 3) := by decide +kernel
theorem dX6_add_66 : decode cX6_add 66 = .ok (.aload_n 0, 1) := by decide +kernel
theorem dX6_add_67 : decode cX6_add 67 = .ok (.getfield 130, 3) := by decide +kernel
theorem dX6_add_70 : decode cX6_add 70 = .ok (.iconst 0, 1) := by decide +kernel
theorem dX6_add_71 : decode cX6_add 71 = .ok (.iastore, 1) := by decide +kernel
theorem dX6_add_72 : decode cX6_add 72 = .ok (.aload_n 0, 1) := by decide +kernel
theorem dX6_add_73 : decode cX6_add 73 = .ok (.getfield 63, 3) := by decide +kernel
theorem dX6_add_76 : decode cX6_add 76 = .ok (.aload_n 0, 1) := by decide +kernel
theorem dX6_add_77 : decode cX6_add 77 = .ok (.getfield 130, 3) := by decide +kernel
theorem dX6_add_80 : decode cX6_add 80 = .ok (.iconst 0, 1) := by decide +kernel
theorem dX6_add_81 : decode cX6_add 81 = .ok (.iastore, 1) := by decide +kernel
theorem dX6_add_82 : decode cX6_add 82 = .ok (.aload_n 0, 1) := by decide +kernel
theorem dX6_add_83 : decode cX6_add 83 = .ok (.getfield 66, 3) := by decide +kernel
theorem dX6_add_86 : decode cX6_add 86 = .ok (.aload_n 0, 1) := by decide +kernel
theorem dX6_add_87 : decode cX6_add 87 = .ok (.getfield 130, 3) := by decide +kernel
theorem dX6_add_90 : decode cX6_add 90 = .ok (.iconst 0, 1) := by decide +kernel
theorem dX6_add_91 : decode cX6_add 91 = .ok (.bastore, 1) := by decide +kernel
theorem dX6_add_92 : decode cX6_add 92 = .ok (.aload_n 0, 1) := by decide +kernel
theorem dX6_add_93 : decode cX6_add 93 = .ok (.getfield 19, 3) := by decide +kernel
theorem dX6_add_96 : decode cX6_add 96 = .ok (.iload_n 1, 1) := by decide +kernel
theorem dX6_add_97 : decode cX6_add 97 = .ok (.iload_n 2, 1) := by decide +kernel
theorem dX6_add_98 : decode cX6_add 98 = .ok (.iload_n 3, 1) := by decide +kernel
theorem dX6_add_99 : decode cX6_add 99 = .ok (.invokestatic 111, 3) := by decide +kernel
theorem dX6_add_102 : decode cX6_add 102 = .ok (.dup2, 1) := by decide +kernel
theorem dX6_add_103 : decode cX6_add 103 = .ok (.laload, 1) := by decide +kernel
theorem dX6_add_104 : decode cX6_add 104 = .ok (.lload 5, 2) := by decide +kernel
theorem dX6_add_106 : decode cX6_add 106 = .ok (.lsub, 1) := by decide +kernel
theorem dX6_add_107 : decode cX6_add 107 = .ok (.lastore, 1) := by decide +kernel
theorem dX6_add_108 : decode cX6_add 108 = .ok (.aload_n 0, 1) := by decide +kernel
theorem dX6_add_109 : decode cX6_add 109 = .ok (.getfield 130, 3) := by decide +kernel
theorem dX6_add_112 : decode cX6_add 112 = .ok (.ireturn, 1) := by decide +kernel

theorem dX6_lend_0 : decode cX6_lend 0 = .ok (.aload_n 0, 1) := by decide +kernel
theorem dX6_lend_1 : decode cX6_lend 1 = .ok (.iconst 0, 1) := by decide +kernel
theorem dX6_lend_2 : decode cX6_lend 2 = .ok (.putfield 78, 3) := by decide +kernel
theorem dX6_lend_5 : decode cX6_lend 5 = .ok (.aload_n 0, 1) := by decide +kernel
theorem dX6_lend_6 : decode cX6_lend 6 = .ok (.iload_n 1, 1) := by decide +kernel
theorem dX6_lend_7 : decode cX6_lend 7 = .ok (.invokevirtual 118, 3) := by decide +kernel
theorem dX6_lend_10 : decode cX6_lend 10 = .ok (.ifCond .eq 43, 3) := by decide +kernel
theorem dX6_lend_13 : decode cX6_lend 13 = .ok (.iload_n 2, 1) := by decide +kernel
theorem dX6_lend_14 : decode cX6_lend 14 = .ok (.i2l, 1) := by decide +kernel
theorem dX6_lend_15 : decode cX6_lend 15 = .ok (.lconst 0, 1) := by decide +kernel
theorem dX6_lend_16 : decode cX6_lend 16 = .ok (.lconst 1, 1) := by decide +kernel
theorem dX6_lend_17 : decode cX6_lend 17 = .ok (.invokestatic 84, 3) := by decide +kernel
theorem dX6_lend_20 : decode cX6_lend 20 = .ok (.ifCond .eq 33, 3) := by decide +kernel
theorem dX6_lend_23 : decode cX6_lend 23 = .ok (.aload_n 0, 1) := by decide +kernel
theorem dX6_lend_24 : decode cX6_lend 24 = .ok (.iload_n 3, 1) := by decide +kernel
theorem dX6_lend_25 : decode cX6_lend 25 = .ok (.invokevirtual 91, 3) := by decide +kernel
theorem dX6_lend_28 : decode cX6_lend 28 = .ok (.ifCond .eq 25, 3) := by decide +kernel
theorem dX6_lend_31 : decode cX6_lend 31 = .ok (.aload_n 0, 1) := by decide +kernel
theorem dX6_lend_32 : decode cX6_lend 32 = .ok (.iload 4, 2) := by decide +kernel
theorem dX6_lend_34 : decode cX6_lend 34 = .ok (.invokevirtual 91, 3) := by decide +kernel
theorem dX6_lend_37 : decode cX6_lend 37 = .ok (.ifCond .eq 16, 3) := by decide +kernel
theorem dX6_lend_40 : decode cX6_lend 40 = .ok (.iload_n 3, 1) := by decide +kernel
theorem dX6_lend_41 : decode cX6_lend 41 = .ok (.iload 4, 2) := by decide +kernel
theorem dX6_lend_43 : decode cX6_lend 43 = .ok (.if_icmp .eq 10, 3) := by decide +kernel
theorem dX6_lend_46 : decode cX6_lend 46 = .ok (.lload 5, 2) := by decide +kernel
theorem dX6_lend_48 : decode cX6_lend 48 = .ok (.lconst 1, 1) := by decide +kernel
theorem dX6_lend_49 : decode cX6_lend 49 = .ok (.lcmp, 1) := by decide +kernel
theorem dX6_lend_50 : decode cX6_lend 50 = .ok (.ifCond .ge 5, 3) := by decide +kernel
theorem dX6_lend_53 : decode cX6_lend 53 = .ok (.iconst (-1), 1) := by decide +kernel
theorem dX6_lend_54 : decode cX6_lend 54 = .ok (.ireturn, 1) := by decide +kernel
theorem dX6_lend_55 : decode cX6_lend 55 = .ok (.aload_n 0, 1) := by decide +kernel
theorem dX6_lend_56 : decode cX6_lend 56 = .ok (.getfield 19, 3) := by decide +kernel
theorem dX6_lend_59 : decode cX6_lend 59 = .ok (.iload_n 1, 1) := by decide +kernel
theorem dX6_lend_60 : decode cX6_lend 60 = .ok (.iload_n 2, 1) := by decide +kernel
theorem dX6_lend_61 : decode cX6_lend 61 = .ok (.iload_n 3, 1) := by decide +kernel
theorem dX6_lend_62 : decode cX6_lend 62 = .ok (.invokestatic 111, 3) := by decide +kernel
theorem dX6_lend_65 : decode cX6_lend 65 = .ok (.laload, 1) := by decide +kernel
theorem dX6_lend_66 : decode cX6_lend 66 = .ok (.lload 5, 2) := by decide +kernel
theorem dX6_lend_68 : decode cX6_lend 68 = .ok (.lcmp, 1) := by decide +kernel
theorem dX6_lend_69 : decode cX6_lend 69 = .ok (.ifCond .lt 13, 3) := by decide +kernel
theorem dX6_lend_72 : decode cX6_lend 72 = .ok (.aload_n 0, 1) := by decide +kernel
theorem dX6_lend_73 : decode cX6_lend 73 = .ok (.getfield 130, 3) := by decide +kernel
theorem dX6_lend_76 : decode cX6_lend 76 = .ok (.sipush 200, 3) := by decide +kernel
theorem dX6_lend_79 : decode cX6_lend 79 = .ok (.if_icmp .ne 7, 3) := by decide +kernel
theorem dX6_lend_82 : decode cX6_lend 82 = .ok (.iconst 0, 1) := by decide +kernel
theorem dX6_lend_83 : decode cX6_lend 83 = .ok (.goto 14, 3) := by decide +kernel
theorem dX6_lend_86 : decode cX6_lend 86 = .ok (.aload_n 0, 1) := by decide +kernel
theorem dX6_lend_87 : decode cX6_lend 87 = .ok (.iload_n 1, 1) := by decide +kernel
theorem dX6_lend_88 : decode cX6_lend 88 = .ok (.iload_n 2, 1) := by decide +kernel
theorem dX6_lend_89 : decode cX6_lend 89 = .ok (.iload_n 3, 1) := by decide +kernel
theorem dX6_lend_90 : decode cX6_lend 90 = .ok (.iload 4, 2) := by decide +kernel
theorem dX6_lend_92 : decode cX6_lend 92 = .ok (.lload 5, 2) := by decide +kernel
theorem dX6_lend_94 : decode cX6_lend 94 = .ok (.invokevirtual 133, 3) := by decide +kernel
theorem dX6_lend_97 : decode cX6_lend 97 = .ok (.ireturn, 1) := by decide +kernel

theorem dX6_ask_0 : decode cX6_ask 0 = .ok (.aload_n 0, 1) := by decide +kernel
theorem dX6_ask_1 : decode cX6_ask 1 = .ok (.iconst 0, 1) := by decide +kernel
theorem dX6_ask_2 : decode cX6_ask 2 = .ok (.putfield 78, 3) := by decide +kernel
theorem dX6_ask_5 : decode cX6_ask 5 = .ok (.aload_n 0, 1) := by decide +kernel
theorem dX6_ask_6 : decode cX6_ask 6 = .ok (.iload_n 1, 1) := by decide +kernel
theorem dX6_ask_7 : decode cX6_ask 7 = .ok (.invokevirtual 118, 3) := by decide +kernel
theorem dX6_ask_10 : decode cX6_ask 10 = .ok (.ifCond .eq 28, 3) := by decide +kernel
theorem dX6_ask_13 : decode cX6_ask 13 = .ok (.iload_n 2, 1) := by decide +kernel
theorem dX6_ask_14 : decode cX6_ask 14 = .ok (.i2l, 1) := by decide +kernel
theorem dX6_ask_15 : decode cX6_ask 15 = .ok (.lconst 0, 1) := by decide +kernel
theorem dX6_ask_16 : decode cX6_ask 16 = .ok (.lconst 1, 1) := by decide +kernel
theorem dX6_ask_17 : decode cX6_ask 17 = .ok (.invokestatic 84, 3) := by decide +kernel
theorem dX6_ask_20 : decode cX6_ask 20 = .ok (.ifCond .eq 18, 3) := by decide +kernel
theorem dX6_ask_23 : decode cX6_ask 23 = .ok (.aload_n 0, 1) := by decide +kernel
theorem dX6_ask_24 : decode cX6_ask 24 = .ok (.iload_n 3, 1) := by decide +kernel
theorem dX6_ask_25 : decode cX6_ask 25 = .ok (.invokevirtual 91, 3) := by decide +kernel
theorem dX6_ask_28 : decode cX6_ask 28 = .ok (.ifCond .eq 10, 3) := by decide +kernel
theorem dX6_ask_31 : decode cX6_ask 31 = .ok (.lload 4, 2) := by decide +kernel
theorem dX6_ask_33 : decode cX6_ask 33 = .ok (.lconst 1, 1) := by decide +kernel
theorem dX6_ask_34 : decode cX6_ask 34 = .ok (.lcmp, 1) := by decide +kernel
theorem dX6_ask_35 : decode cX6_ask 35 = .ok (.ifCond .ge 5, 3) := by decide +kernel
theorem dX6_ask_38 : decode cX6_ask 38 = .ok (.iconst (-1), 1) := by decide +kernel
theorem dX6_ask_39 : decode cX6_ask 39 = .ok (.ireturn, 1) := by decide +kernel
theorem dX6_ask_40 : decode cX6_ask 40 = .ok (.iconst (-1), 1) := by decide +kernel
theorem dX6_ask_41 : decode cX6_ask 41 = .ok (.istore 6, 2) := by decide +kernel
theorem dX6_ask_43 : decode cX6_ask 43 = .ok (.iconst 0, 1) := by decide +kernel
theorem dX6_ask_44 : decode cX6_ask 44 = .ok (.istore 7, 2) := by decide +kernel
theorem dX6_ask_46 : decode cX6_ask 46 = .ok (.iload 7, 2) := by decide +kernel
theorem dX6_ask_48 : decode cX6_ask 48 = .ok (.bipush 6, 2) := by decide +kernel
theorem dX6_ask_50 : decode cX6_ask 50 = .ok (.if_icmp .ge 65, 3) := by decide +kernel
theorem dX6_ask_53 : decode cX6_ask 53 = .ok (.iload 7, 2) := by decide +kernel
theorem dX6_ask_55 : decode cX6_ask 55 = .ok (.iload_n 3, 1) := by decide +kernel
theorem dX6_ask_56 : decode cX6_ask 56 = .ok (.if_icmp .eq 53, 3) := by decide +kernel
theorem dX6_ask_59 : decode cX6_ask 59 = .ok (.aload_n 0, 1) := by decide +kernel
theorem dX6_ask_60 : decode cX6_ask 60 = .ok (.iload 7, 2) := by decide +kernel
theorem dX6_ask_62 : decode cX6_ask 62 = .ok (.invokevirtual 91, 3) := by decide +kernel
theorem dX6_ask_65 : decode cX6_ask 65 = .ok (.ifCond .ne 6, 3) := by decide +kernel
theorem dX6_ask_68 : decode cX6_ask 68 = .ok (.goto 41, 3) := by decide +kernel
theorem dX6_ask_71 : decode cX6_ask 71 = .ok (.iload 6, 2) := by decide +kernel
theorem dX6_ask_73 : decode cX6_ask 73 = .ok (.iconst (-1), 1) := by decide +kernel
theorem dX6_ask_74 : decode cX6_ask 74 = .ok (.if_icmp .eq 31, 3) := by decide +kernel
theorem dX6_ask_77 : decode cX6_ask 77 = .ok (.aload_n 0, 1) := by decide +kernel
theorem dX6_ask_78 : decode cX6_ask 78 = .ok (.getfield 19, 3) := by decide +kernel
theorem dX6_ask_81 : decode cX6_ask 81 = .ok (.iload_n 1, 1) := by decide +kernel
theorem dX6_ask_82 : decode cX6_ask 82 = .ok (.iload_n 2, 1) := by decide +kernel
theorem dX6_ask_83 : decode cX6_ask 83 = .ok (.iload 7, 2) := by decide +kernel
theorem dX6_ask_85 : decode cX6_ask 85 = .ok (.invokestatic 111, 3) := by decide +kernel
theorem dX6_ask_88 : decode cX6_ask 88 = .ok (.laload, 1) := by decide +kernel
theorem dX6_ask_89 : decode cX6_ask 89 = .ok (.aload_n 0, 1) := by decide +kernel
theorem dX6_ask_90 : decode cX6_ask 90 = .ok (.getfield 19, 3) := by decide +kernel
theorem dX6_ask_93 : decode cX6_ask 93 = .ok (.iload_n 1, 1) := by decide +kernel
theorem dX6_ask_94 : decode cX6_ask 94 = .ok (.iload_n 2, 1) := by decide +kernel
theorem dX6_ask_95 : decode cX6_ask 95 = .ok (.iload 6, 2) := by decide +kernel
theorem dX6_ask_97 : decode cX6_ask 97 = .ok (.invokestatic 111, 3) := by decide +kernel
theorem dX6_ask_100 : decode cX6_ask 100 = .ok (.laload, 1) := by decide +kernel
theorem dX6_ask_101 : decode cX6_ask 101 = .ok (.lcmp, 1) := by decide +kernel
theorem dX6_ask_102 : decode cX6_ask 102 = .ok (.ifCond .le 7, 3) := by decide +kernel
theorem dX6_ask_105 : decode cX6_ask 105 = .ok (.iload 7, 2) := by decide +kernel
theorem dX6_ask_107 : decode cX6_ask 107 = .ok (.istore 6, 2) := by decide +kernel
theorem dX6_ask_109 : decode cX6_ask 109 = .ok (.iinc 7 1, 3) := by decide +kernel
theorem dX6_ask_112 : decode cX6_ask 112 = .ok (.goto (-66), 3) := by decide +kernel
theorem dX6_ask_115 : decode cX6_ask 115 = .ok (.iload 6, 2) := by decide +kernel
theorem dX6_ask_117 : decode cX6_ask 117 = .ok (.iconst (-1), 1) := by decide +kernel
theorem dX6_ask_118 : decode cX6_ask 118 = .ok (.if_icmp .eq 30, 3) := by decide +kernel
theorem dX6_ask_121 : decode cX6_ask 121 = .ok (.aload_n 0, 1) := by decide +kernel
theorem dX6_ask_122 : decode cX6_ask 122 = .ok (.getfield 19, 3) := by decide +kernel
theorem dX6_ask_125 : decode cX6_ask 125 = .ok (.iload_n 1, 1) := by decide +kernel
theorem dX6_ask_126 : decode cX6_ask 126 = .ok (.iload_n 2, 1) := by decide +kernel
theorem dX6_ask_127 : decode cX6_ask 127 = .ok (.iload 6, 2) := by decide +kernel
theorem dX6_ask_129 : decode cX6_ask 129 = .ok (.invokestatic 111, 3) := by decide +kernel
theorem dX6_ask_132 : decode cX6_ask 132 = .ok (.laload, 1) := by decide +kernel
theorem dX6_ask_133 : decode cX6_ask 133 = .ok (.lconst 0, 1) := by decide +kernel
theorem dX6_ask_134 : decode cX6_ask 134 = .ok (.lcmp, 1) := by decide +kernel
theorem dX6_ask_135 : decode cX6_ask 135 = .ok (.ifCond .eq 13, 3) := by decide +kernel
theorem dX6_ask_138 : decode cX6_ask 138 = .ok (.aload_n 0, 1) := by decide +kernel
theorem dX6_ask_139 : decode cX6_ask 139 = .ok (.getfield 130, 3) := by decide +kernel
theorem dX6_ask_142 : decode cX6_ask 142 = .ok (.sipush 200, 3) := by decide +kernel
theorem dX6_ask_145 : decode cX6_ask 145 = .ok (.if_icmp .ne 5, 3) := by decide +kernel
theorem dX6_ask_148 : decode cX6_ask 148 = .ok (.iconst 0, 1) := by decide +kernel
theorem dX6_ask_149 : decode cX6_ask 149 = .ok (.ireturn, 1) := by decide +kernel
theorem dX6_ask_150 : decode cX6_ask 150 = .ok (.aload_n 0, 1) := by decide +kernel
theorem dX6_ask_151 : decode cX6_ask 151 = .ok (.getfield 19, 3) := by decide +kernel
theorem dX6_ask_154 : decode cX6_ask 154 = .ok (.iload_n 1, 1) := by decide +kernel
theorem dX6_ask_155 : decode cX6_ask 155 = .ok (.iload_n 2, 1) := by decide +kernel
theorem dX6_ask_156 : decode cX6_ask 156 = .ok (.iload 6, 2) := by decide +kernel
theorem dX6_ask_158 : decode cX6_ask 158 = .ok (.invokestatic 111, 3) := by decide +kernel
theorem dX6_ask_161 : decode cX6_ask 161 = .ok (.laload, 1) := by decide +kernel
theorem dX6_ask_162 : decode cX6_ask 162 = .ok (.lstore 7, 2) := by decide +kernel
theorem dX6_ask_164 : decode cX6_ask 164 = .ok (.aload_n 0, 1) := by decide +kernel
theorem dX6_ask_165 : decode cX6_ask 165 = .ok (.iload_n 1, 1) := by decide +kernel
theorem dX6_ask_166 : decode cX6_ask 166 = .ok (.iload_n 2, 1) := by decide +kernel
theorem dX6_ask_167 : decode cX6_ask 167 = .ok (.iload 6, 2) := by decide +kernel
theorem dX6_ask_169 : decode cX6_ask 169 = .ok (.iload_n 3, 1) := by decide +kernel
theorem dX6_ask_170 : decode cX6_ask 170 = .ok (.lload 7, 2) := by decide +kernel
theorem dX6_ask_172 : decode cX6_ask 172 = .ok (.lload 4, 2) := by decide +kernel
theorem dX6_ask_174 : decode cX6_ask 174 = .ok (.lcmp, 1) := by decide +kernel
theorem dX6_ask_175 : decode cX6_ask 175 = .ok (.ifCond .ge 8, 3) := by decide +kernel
theorem dX6_ask_178 : decode cX6_ask 178 = .ok (.lload 7, 2) := by decide +kernel
theorem dX6_ask_180 : decode cX6_ask 180 = .ok (.goto 5, 3) := by decide +kernel
theorem dX6_ask_183 : decode cX6_ask 183 = .ok (.lload 4, 2) := by decide +kernel
theorem dX6_ask_185 : decode cX6_ask 185 = .ok (.invokevirtual 133, 3) := by decide +kernel
theorem dX6_ask_188 : decode cX6_ask 188 = .ok (.ireturn, 1) := by decide +kernel

set_option maxHeartbeats 4000000 in
set_option maxRecDepth 100000 in
theorem kX6_add (l : Launch) (dC : Nat → ClassId) (dI : Nat → Nat → Nat) (ca : Nat → ClassId) (ad : Nat → Nat) (S : sSt) (bb : Nat) (sd : Nat) (fr : Nat) (to : Nat) (vv : Int64) (nr : Nat) (hb6 : bb < 6) (hs2 : sd < 2) (hf6 : fr < 6) (hr : nr < 200) (hcnt : S.1 0 13 = nI nr) : ct_I l yX6_add (Cond.code yX6_add cX6_add 7 (some .int) :: wa_T) ({ frames := 1, cells := 0, slots := 0, locals := 22 } : Room) (dC, dI) vwCl (tyl ca) (wq ca ad) S [.ref (ad 0), .int (nI bb), .int (nI sd), .int (nI fr), .int (nI to), .long vv] (fun r S2 => r = nI (nr + 1) ∧ S2 = madS S nr bb sd fr to vv) := by
  refine ct_ofI (by decide) (Nat.le_of_ble_eq_true rfl) ?_
  intro p e s m below meth c A ls hx hb hr hml hts hown hlocks hK hA hw hl
  have hl : lv_has ls 7 [(0, .ref (ad 0)), (1, .int (nI bb)), (2, .int (nI sd)), (3, .int (nI fr)), (4, .int (nI to)), (5, .long vv)] := hl
  refine lv_aload_n hx hb dX6_add_0 rfl (lv_at hl 0 rfl) ?_
  refine lv_dup hx hb dX6_add_1 rfl ?_
  refine wo_get hx hb hts inX6 hown hK hw 0 rfl rfl 13 (by decide) (hts _ wd_578) (fun _ h9 => h9) rfl dX6_add_2 ?_
  refine tp_i (y := nI nr) (hcnt) ?_
  refine lv_iconst (v := nI 1) hx hb dX6_add_5 (by decide) ?_
  refine lv_iadd hx hb dX6_add_6 ?_
  refine tp_i (nI_add nr 1) ?_
  refine wo_put (ty := .int) (v := .int (nI (nr + 1))) hx hb hts inX6 tyX6 tyX6_ok nmX6 hown hK hw 0 rfl rfl 13 (by decide) (hts _ wd_578) (fun _ h9 => h9) rfl (by decide +kernel) rfl rfl (Nat.le_of_ble_eq_true rfl) (sg_13 ca ad S (nI (nr + 1))) dX6_add_7 (fun H locs hw => ?_)
  refine lv_aload_n hx hb dX6_add_10 rfl (lv_at hl 0 rfl) ?_
  refine wo_get hx hb hts inX6 hown hK hw 0 rfl rfl 14 (by decide) (hts _ wd_579) (fun _ h9 => h9) rfl dX6_add_11 ?_
  refine lv_aload_n hx hb dX6_add_14 rfl (lv_at hl 0 rfl) ?_
  refine wo_get hx hb hts inX6 hown hK hw 0 rfl rfl 13 (by decide) (hts _ wd_578) (fun _ h9 => h9) rfl dX6_add_15 ?_
  refine tp_i (y := nI (nr + 1)) (rfl) ?_
  refine lv_iload_n hx hb dX6_add_18 rfl (lv_at hl 1 rfl) ?_
  refine wo_iast hx hb hK hw 12 0 rfl rfl (nr + 1) rfl (by first | assumption | omega) (by decide) (sm_12 ca ad (sI S 0 13 (nI (nr + 1))) (nr + 1) (nI bb)) dX6_add_19 (fun H locs hw => ?_)
  refine lv_aload_n hx hb dX6_add_20 rfl (lv_at hl 0 rfl) ?_
  refine wo_get hx hb hts inX6 hown hK hw 0 rfl rfl 15 (by decide) (hts _ wd_580) (fun _ h9 => h9) rfl dX6_add_21 ?_
  refine lv_aload_n hx hb dX6_add_24 rfl (lv_at hl 0 rfl) ?_
  refine wo_get hx hb hts inX6 hown hK hw 0 rfl rfl 13 (by decide) (hts _ wd_578) (fun _ h9 => h9) rfl dX6_add_25 ?_
  refine tp_i (y := nI (nr + 1)) (rfl) ?_
  refine lv_iload_n hx hb dX6_add_28 rfl (lv_at hl 2 rfl) ?_
  refine wo_iast hx hb hK hw 13 0 rfl rfl (nr + 1) rfl (by first | assumption | omega) (by decide) (sm_13 ca ad (sI (sI S 0 13 (nI (nr + 1))) 12 (nr + 1) (nI bb)) (nr + 1) (nI sd)) dX6_add_29 (fun H locs hw => ?_)
  refine lv_aload_n hx hb dX6_add_30 rfl (lv_at hl 0 rfl) ?_
  refine wo_get hx hb hts inX6 hown hK hw 0 rfl rfl 16 (by decide) (hts _ wd_581) (fun _ h9 => h9) rfl dX6_add_31 ?_
  refine lv_aload_n hx hb dX6_add_34 rfl (lv_at hl 0 rfl) ?_
  refine wo_get hx hb hts inX6 hown hK hw 0 rfl rfl 13 (by decide) (hts _ wd_578) (fun _ h9 => h9) rfl dX6_add_35 ?_
  refine tp_i (y := nI (nr + 1)) (rfl) ?_
  refine lv_iload_n hx hb dX6_add_38 rfl (lv_at hl 3 rfl) ?_
  refine wo_iast hx hb hK hw 14 0 rfl rfl (nr + 1) rfl (by first | assumption | omega) (by decide) (sm_14 ca ad (sI (sI (sI S 0 13 (nI (nr + 1))) 12 (nr + 1) (nI bb)) 13 (nr + 1) (nI sd)) (nr + 1) (nI fr)) dX6_add_39 (fun H locs hw => ?_)
  refine lv_aload_n hx hb dX6_add_40 rfl (lv_at hl 0 rfl) ?_
  refine wo_get hx hb hts inX6 hown hK hw 0 rfl rfl 17 (by decide) (hts _ wd_582) (fun _ h9 => h9) rfl dX6_add_41 ?_
  refine lv_aload_n hx hb dX6_add_44 rfl (lv_at hl 0 rfl) ?_
  refine wo_get hx hb hts inX6 hown hK hw 0 rfl rfl 13 (by decide) (hts _ wd_578) (fun _ h9 => h9) rfl dX6_add_45 ?_
  refine tp_i (y := nI (nr + 1)) (rfl) ?_
  refine lv_iload hx hb dX6_add_48 (lv_at hl 4 rfl) ?_
  refine wo_iast hx hb hK hw 15 0 rfl rfl (nr + 1) rfl (by first | assumption | omega) (by decide) (sm_15 ca ad (sI (sI (sI (sI S 0 13 (nI (nr + 1))) 12 (nr + 1) (nI bb)) 13 (nr + 1) (nI sd)) 14 (nr + 1) (nI fr)) (nr + 1) (nI to)) dX6_add_50 (fun H locs hw => ?_)
  refine lv_aload_n hx hb dX6_add_51 rfl (lv_at hl 0 rfl) ?_
  refine wo_get hx hb hts inX6 hown hK hw 0 rfl rfl 18 (by decide) (hts _ wd_583) (fun _ h9 => h9) rfl dX6_add_52 ?_
  refine lv_aload_n hx hb dX6_add_55 rfl (lv_at hl 0 rfl) ?_
  refine wo_get hx hb hts inX6 hown hK hw 0 rfl rfl 13 (by decide) (hts _ wd_578) (fun _ h9 => h9) rfl dX6_add_56 ?_
  refine tp_i (y := nI (nr + 1)) (rfl) ?_
  refine lv_lload hx hb dX6_add_59 (lv_at hl 5 rfl) ?_
  refine wo_last hx hb hK hw 16 1 rfl rfl (nr + 1) rfl (by first | assumption | omega) (by decide) (sm_16 ca ad (sI (sI (sI (sI (sI S 0 13 (nI (nr + 1))) 12 (nr + 1) (nI bb)) 13 (nr + 1) (nI sd)) 14 (nr + 1) (nI fr)) 15 (nr + 1) (nI to)) (nr + 1) vv) dX6_add_61 (fun H locs hw => ?_)
  refine lv_aload_n hx hb dX6_add_62 rfl (lv_at hl 0 rfl) ?_
  refine wo_get hx hb hts inX6 hown hK hw 0 rfl rfl 19 (by decide) (hts _ wd_584) (fun _ h9 => h9) rfl dX6_add_63 ?_
  refine lv_aload_n hx hb dX6_add_66 rfl (lv_at hl 0 rfl) ?_
  refine wo_get hx hb hts inX6 hown hK hw 0 rfl rfl 13 (by decide) (hts _ wd_578) (fun _ h9 => h9) rfl dX6_add_67 ?_
  refine tp_i (y := nI (nr + 1)) (rfl) ?_
  refine lv_iconst (v := nI 0) hx hb dX6_add_70 (by decide) ?_
  refine wo_iast hx hb hK hw 17 0 rfl rfl (nr + 1) rfl (by first | assumption | omega) (by decide) (sm_17 ca ad (sL (sI (sI (sI (sI (sI S 0 13 (nI (nr + 1))) 12 (nr + 1) (nI bb)) 13 (nr + 1) (nI sd)) 14 (nr + 1) (nI fr)) 15 (nr + 1) (nI to)) 16 (nr + 1) vv) (nr + 1) (nI 0)) dX6_add_71 (fun H locs hw => ?_)
  refine lv_aload_n hx hb dX6_add_72 rfl (lv_at hl 0 rfl) ?_
  refine wo_get hx hb hts inX6 hown hK hw 0 rfl rfl 20 (by decide) (hts _ wd_585) (fun _ h9 => h9) rfl dX6_add_73 ?_
  refine lv_aload_n hx hb dX6_add_76 rfl (lv_at hl 0 rfl) ?_
  refine wo_get hx hb hts inX6 hown hK hw 0 rfl rfl 13 (by decide) (hts _ wd_578) (fun _ h9 => h9) rfl dX6_add_77 ?_
  refine tp_i (y := nI (nr + 1)) (rfl) ?_
  refine lv_iconst (v := nI 0) hx hb dX6_add_80 (by decide) ?_
  refine wo_iast hx hb hK hw 18 0 rfl rfl (nr + 1) rfl (by first | assumption | omega) (by decide) (sm_18 ca ad (sI (sL (sI (sI (sI (sI (sI S 0 13 (nI (nr + 1))) 12 (nr + 1) (nI bb)) 13 (nr + 1) (nI sd)) 14 (nr + 1) (nI fr)) 15 (nr + 1) (nI to)) 16 (nr + 1) vv) 17 (nr + 1) (nI 0)) (nr + 1) (nI 0)) dX6_add_81 (fun H locs hw => ?_)
  refine lv_aload_n hx hb dX6_add_82 rfl (lv_at hl 0 rfl) ?_
  refine wo_get hx hb hts inX6 hown hK hw 0 rfl rfl 21 (by decide) (hts _ wd_586) (fun _ h9 => h9) rfl dX6_add_83 ?_
  refine lv_aload_n hx hb dX6_add_86 rfl (lv_at hl 0 rfl) ?_
  refine wo_get hx hb hts inX6 hown hK hw 0 rfl rfl 13 (by decide) (hts _ wd_578) (fun _ h9 => h9) rfl dX6_add_87 ?_
  refine tp_i (y := nI (nr + 1)) (rfl) ?_
  refine lv_iconst (v := nI 0) hx hb dX6_add_90 (by decide) ?_
  refine wo_zast hx hb hK hw 19 2 rfl rfl (nr + 1) rfl (by first | assumption | omega) (by decide) (by first | decide | assumption | exact nb_v _) (sm_19 ca ad (sI (sI (sL (sI (sI (sI (sI (sI S 0 13 (nI (nr + 1))) 12 (nr + 1) (nI bb)) 13 (nr + 1) (nI sd)) 14 (nr + 1) (nI fr)) 15 (nr + 1) (nI to)) 16 (nr + 1) vv) 17 (nr + 1) (nI 0)) 18 (nr + 1) (nI 0)) (nr + 1) (nI 0)) dX6_add_91 (fun H locs hw => ?_)
  refine lv_aload_n hx hb dX6_add_92 rfl (lv_at hl 0 rfl) ?_
  refine wo_get hx hb hts inX6 hown hK hw 0 rfl rfl 5 (by decide) (hts _ wd_570) (fun _ h9 => h9) rfl dX6_add_93 ?_
  refine lv_iload_n hx hb dX6_add_96 rfl (lv_at hl 1 rfl) ?_
  refine lv_iload_n hx hb dX6_add_97 rfl (lv_at hl 2 rfl) ?_
  refine lv_iload_n hx hb dX6_add_98 rfl (lv_at hl 3 rfl) ?_
  refine wo_sI (As := [.int (nI bb), .int (nI sd), .int (nI fr)]) (rest := [.ref (ad 4)]) (kX6_at l dC dI ca ad (sI (sI (sI (sL (sI (sI (sI (sI (sI S 0 13 (nI (nr + 1))) 12 (nr + 1) (nI bb)) 13 (nr + 1) (nI sd)) 14 (nr + 1) (nI fr)) 15 (nr + 1) (nI to)) 16 (nr + 1) vv) 17 (nr + 1) (nI 0)) 18 (nr + 1) (nI 0)) 19 (nr + 1) (nI 0)) bb sd fr) ⟨hx, hb, hml, hown, hts⟩ (va_cwS 3 hts (wa_gS wd_680 wd_681 wd_8 wd_682) rfl rfl rfl (by decide +kernel) ⟨Nat.le_of_ble_eq_true rfl, Nat.le_of_ble_eq_true rfl⟩) hK hw hA rfl hl.1 rfl (Nat.le_of_ble_eq_true rfl) dX6_add_99 ⟨Nat.zero_le _, Nat.zero_le _⟩ (fun r_1 S_1 H locs hp_1 hw => ?_)
  have e9 := hp_1.1.symm
  subst e9
  have e9 := hp_1.2.symm
  subst e9
  refine lv_dup2_11 hx hb dX6_add_102 rfl rfl ?_
  refine wo_lald hx hb hK hw 4 1 rfl rfl (12 * bb + 6 * sd + fr) rfl (by first | assumption | omega) (by decide) dX6_add_103 ?_
  refine lv_lload hx hb dX6_add_104 (lv_at hl 5 rfl) ?_
  refine lv_lsub hx hb dX6_add_106 ?_
  refine wo_last hx hb hK hw 4 1 rfl rfl (12 * bb + 6 * sd + fr) rfl (by first | assumption | omega) (by decide) (sm_4 ca ad (sI (sI (sI (sL (sI (sI (sI (sI (sI S 0 13 (nI (nr + 1))) 12 (nr + 1) (nI bb)) 13 (nr + 1) (nI sd)) 14 (nr + 1) (nI fr)) 15 (nr + 1) (nI to)) 16 (nr + 1) vv) 17 (nr + 1) (nI 0)) 18 (nr + 1) (nI 0)) 19 (nr + 1) (nI 0)) (12 * bb + 6 * sd + fr) (((sI (sI (sI (sL (sI (sI (sI (sI (sI S 0 13 (nI (nr + 1))) 12 (nr + 1) (nI bb)) 13 (nr + 1) (nI sd)) 14 (nr + 1) (nI fr)) 15 (nr + 1) (nI to)) 16 (nr + 1) vv) 17 (nr + 1) (nI 0)) 18 (nr + 1) (nI 0)) 19 (nr + 1) (nI 0)).2 4 (12 * bb + 6 * sd + fr)) - vv)) dX6_add_107 (fun H locs hw => ?_)
  refine lv_aload_n hx hb dX6_add_108 rfl (lv_at hl 0 rfl) ?_
  refine wo_get hx hb hts inX6 hown hK hw 0 rfl rfl 13 (by decide) (hts _ wd_578) (fun _ h9 => h9) rfl dX6_add_109 ?_
  refine tp_i (y := nI (nr + 1)) (rfl) ?_
  exact ct_iret (S := sL (sI (sI (sI (sL (sI (sI (sI (sI (sI S 0 13 (nI (nr + 1))) 12 (nr + 1) (nI bb)) 13 (nr + 1) (nI sd)) 14 (nr + 1) (nI fr)) 15 (nr + 1) (nI to)) 16 (nr + 1) vv) 17 (nr + 1) (nI 0)) 18 (nr + 1) (nI 0)) 19 (nr + 1) (nI 0)) 4 (12 * bb + 6 * sd + fr) (((sI (sI (sI (sL (sI (sI (sI (sI (sI S 0 13 (nI (nr + 1))) 12 (nr + 1) (nI bb)) 13 (nr + 1) (nI sd)) 14 (nr + 1) (nI fr)) 15 (nr + 1) (nI to)) 16 (nr + 1) vv) 17 (nr + 1) (nI 0)) 18 (nr + 1) (nI 0)) 19 (nr + 1) (nI 0)).2 4 (12 * bb + 6 * sd + fr)) - vv)) (v := nI (nr + 1)) hx hb hr hlocks hK hw (⟨rfl, rfl⟩) dX6_add_112

set_option maxHeartbeats 4000000 in
set_option maxRecDepth 100000 in
theorem kX6_lend (l : Launch) (dC : Nat → ClassId) (dI : Nat → Nat → Nat) (ca : Nat → ClassId) (ad : Nat → Nat) (S : sSt) (bb : Int32) (sd : Int32) (fr : Int32) (to : Int32) (vv : Int64) (nb : Nat) (nr : Nat) (hb6 : nb ≤ 6) (hr2 : nr ≤ 200) (hmi : MI nb nr S) : ct_I l yX6_lend (Cond.code yX6_lend cX6_lend 7 (some .int) :: wa_T) ({ frames := 2, cells := 0, slots := 0, locals := 48 } : Room) (dC, dI) vwCl (tyl ca) (wq ca ad) S [.ref (ad 0), .int bb, .int sd, .int fr, .int to, .long vv] (fun r S2 => r = (mldF (mt0 S) nr bb sd fr to vv).1 ∧ S2 = (mldF (mt0 S) nr bb sd fr to vv).2) := by
  refine ct_ofI (by decide) (Nat.le_of_ble_eq_true rfl) ?_
  intro p e s m below meth c A ls hx hb hr hml hts hown hlocks hK hA hw hl
  have hl : lv_has ls 7 [(0, .ref (ad 0)), (1, .int bb), (2, .int sd), (3, .int fr), (4, .int to), (5, .long vv)] := hl
  refine lv_aload_n hx hb dX6_lend_0 rfl (lv_at hl 0 rfl) ?_
  refine lv_iconst (v := nI 0) hx hb dX6_lend_1 (by decide) ?_
  refine wo_put (ty := .int) (v := .int (nI 0)) hx hb hts inX6 tyX6 tyX6_ok nmX6 hown hK hw 0 rfl rfl 0 (by decide) (hts _ wd_565) (fun _ h9 => h9) rfl (by decide +kernel) rfl rfl (Nat.le_of_ble_eq_true rfl) (sg_0 ca ad S (nI 0)) dX6_lend_2 (fun H locs hw => ?_)
  have hw : wo_w (dC, dI) vwCl A s.heap (wq ca ad (mt0 S)) H locs := hw
  have hmt := MI_0 hmi
  refine lv_aload_n hx hb dX6_lend_5 rfl (lv_at hl 0 rfl) ?_
  refine lv_iload_n hx hb dX6_lend_6 rfl (lv_at hl 1 rfl) ?_
  refine wo_vI (As := [.int bb]) (rest := []) (kX6_isBound l dC dI ca ad (mt0 S) bb) ⟨hx, hb, hml, hown, hts⟩ (cwV 1 hts (wa_gV wd_691 wd_693 ws_16 wd_8 wd_694) rfl rfl rfl (by decide +kernel) ⟨Nat.le_of_ble_eq_true rfl, Nat.le_of_ble_eq_true rfl⟩) hK hw hA 0 rfl rfl rfl rfl hl.1 rfl (Nat.le_of_ble_eq_true rfl) dX6_lend_7 ⟨Nat.zero_le _, Nat.zero_le _⟩ (fun r_1 S_1 H locs hp_1 hw => ?_)
  have e9 := hp_1.1.symm
  subst e9
  have e9 := hp_1.2.symm
  subst e9
  refine lv_if_eq (tgt := 53) hx hb dX6_lend_10 (by decide) (fun c_2 => ?_) (fun c_2 => ?_)
  · skip
    have c_2 : mbd (mt0 S) bb = false := nb_0 c_2
    refine lv_iconst (v := (-1)) hx hb dX6_lend_53 (by decide) ?_
    exact ct_iret (S := mt0 S) (v := (-1)) hx hb hr hlocks hK hw (⟨by simp only [bI, mldF, mldG, mldR, c_2, decide_true, decide_false, Bool.not_true, Bool.not_false, Bool.true_and, Bool.and_true, Bool.false_and, Bool.and_false, Bool.or_true, Bool.true_or, Bool.or_false, Bool.false_or, Bool.false_eq_true, Bool.true_eq_false, if_true, if_false, ↓reduceIte], by simp only [mldF, mldG, mldR, c_2, decide_true, decide_false, Bool.not_true, Bool.not_false, Bool.true_and, Bool.and_true, Bool.false_and, Bool.and_false, Bool.or_true, Bool.true_or, Bool.or_false, Bool.false_or, Bool.false_eq_true, Bool.true_eq_false, if_true, if_false, ↓reduceIte]⟩) dX6_lend_54
  · skip
    have c_2 : mbd (mt0 S) bb = true := nb_1 c_2
    obtain ⟨b9, hb9, rfl⟩ := mbd_n hmt.2.1 hb6 c_2
    have ec_b9 := nI_clamp (n := b9) (by omega)
    refine lv_iload_n hx hb dX6_lend_13 rfl (lv_at hl 2 rfl) ?_
    refine lv_i2l hx hb dX6_lend_14 rfl ?_
    refine lv_lconst (v := 0) hx hb dX6_lend_15 (by decide) ?_
    refine lv_lconst (v := 1) hx hb dX6_lend_16 (by decide) ?_
    refine wo_sI (As := [.long ((sd).toInt64), .long 0, .long 1]) (rest := []) (kX6_within l dC dI ca ad (mt0 S) ((sd).toInt64) 0 1) ⟨hx, hb, hml, hown, hts⟩ (va_cwS 3 hts (wa_gS wd_660 wd_661 wd_8 wd_662) rfl rfl rfl (by decide +kernel) ⟨Nat.le_of_ble_eq_true rfl, Nat.le_of_ble_eq_true rfl⟩) hK hw hA rfl hl.1 rfl (Nat.le_of_ble_eq_true rfl) dX6_lend_17 ⟨Nat.zero_le _, Nat.zero_le _⟩ (fun r_3 S_3 H locs hp_3 hw => ?_)
    have e9 := hp_3.1.symm
    subst e9
    have e9 := hp_3.2.symm
    subst e9
    refine lv_if_eq (tgt := 53) hx hb dX6_lend_20 (by decide) (fun c_4 => ?_) (fun c_4 => ?_)
    · skip
      have c_4 : wth ((sd).toInt64) 0 1 = false := nb_0 c_4
      refine lv_iconst (v := (-1)) hx hb dX6_lend_53 (by decide) ?_
      exact ct_iret (S := mt0 S) (v := (-1)) hx hb hr hlocks hK hw (⟨by simp only [bI, mldF, mldG, mldR, c_2, ec_b9, c_4, decide_true, decide_false, Bool.not_true, Bool.not_false, Bool.true_and, Bool.and_true, Bool.false_and, Bool.and_false, Bool.or_true, Bool.true_or, Bool.or_false, Bool.false_or, Bool.false_eq_true, Bool.true_eq_false, if_true, if_false, ↓reduceIte], by simp only [mldF, mldG, mldR, c_2, ec_b9, c_4, decide_true, decide_false, Bool.not_true, Bool.not_false, Bool.true_and, Bool.and_true, Bool.false_and, Bool.and_false, Bool.or_true, Bool.true_or, Bool.or_false, Bool.false_or, Bool.false_eq_true, Bool.true_eq_false, if_true, if_false, ↓reduceIte]⟩) dX6_lend_54
    · skip
      have c_4 : wth ((sd).toInt64) 0 1 = true := nb_1 c_4
      obtain ⟨s9, hs9, rfl⟩ := w1_n c_4
      have ec_s9 := nI_clamp (n := s9) (by omega)
      refine lv_aload_n hx hb dX6_lend_23 rfl (lv_at hl 0 rfl) ?_
      refine lv_iload_n hx hb dX6_lend_24 rfl (lv_at hl 3 rfl) ?_
      refine wo_vI (As := [.int fr]) (rest := []) (kX6_isWell l dC dI ca ad (mt0 S) fr) ⟨hx, hb, hml, hown, hts⟩ (cwV 1 hts (wa_gV wd_655 wd_657 ws_13 wd_8 wd_658) rfl rfl rfl (by decide +kernel) ⟨Nat.le_of_ble_eq_true rfl, Nat.le_of_ble_eq_true rfl⟩) hK hw hA 0 rfl rfl rfl rfl hl.1 rfl (Nat.le_of_ble_eq_true rfl) dX6_lend_25 ⟨Nat.zero_le _, Nat.zero_le _⟩ (fun r_5 S_5 H locs hp_5 hw => ?_)
      have e9 := hp_5.1.symm
      subst e9
      have e9 := hp_5.2.symm
      subst e9
      refine lv_if_eq (tgt := 53) hx hb dX6_lend_28 (by decide) (fun c_6 => ?_) (fun c_6 => ?_)
      · skip
        have c_6 : mwl (mt0 S) fr = false := nb_0 c_6
        refine lv_iconst (v := (-1)) hx hb dX6_lend_53 (by decide) ?_
        exact ct_iret (S := mt0 S) (v := (-1)) hx hb hr hlocks hK hw (⟨by simp only [bI, mldF, mldG, mldR, c_2, ec_b9, c_4, ec_s9, c_6, decide_true, decide_false, Bool.not_true, Bool.not_false, Bool.true_and, Bool.and_true, Bool.false_and, Bool.and_false, Bool.or_true, Bool.true_or, Bool.or_false, Bool.false_or, Bool.false_eq_true, Bool.true_eq_false, if_true, if_false, ↓reduceIte], by simp only [mldF, mldG, mldR, c_2, ec_b9, c_4, ec_s9, c_6, decide_true, decide_false, Bool.not_true, Bool.not_false, Bool.true_and, Bool.and_true, Bool.false_and, Bool.and_false, Bool.or_true, Bool.true_or, Bool.or_false, Bool.false_or, Bool.false_eq_true, Bool.true_eq_false, if_true, if_false, ↓reduceIte]⟩) dX6_lend_54
      · skip
        have c_6 : mwl (mt0 S) fr = true := nb_1 c_6
        obtain ⟨f9, hf9, rfl⟩ := mwl_n c_6
        have ec_f9 := nI_clamp (n := f9) (by omega)
        refine lv_aload_n hx hb dX6_lend_31 rfl (lv_at hl 0 rfl) ?_
        refine lv_iload hx hb dX6_lend_32 (lv_at hl 4 rfl) ?_
        refine wo_vI (As := [.int to]) (rest := []) (kX6_isWell l dC dI ca ad (mt0 S) to) ⟨hx, hb, hml, hown, hts⟩ (cwV 1 hts (wa_gV wd_655 wd_657 ws_13 wd_8 wd_658) rfl rfl rfl (by decide +kernel) ⟨Nat.le_of_ble_eq_true rfl, Nat.le_of_ble_eq_true rfl⟩) hK hw hA 0 rfl rfl rfl rfl hl.1 rfl (Nat.le_of_ble_eq_true rfl) dX6_lend_34 ⟨Nat.zero_le _, Nat.zero_le _⟩ (fun r_7 S_7 H locs hp_7 hw => ?_)
        have e9 := hp_7.1.symm
        subst e9
        have e9 := hp_7.2.symm
        subst e9
        refine lv_if_eq (tgt := 53) hx hb dX6_lend_37 (by decide) (fun c_8 => ?_) (fun c_8 => ?_)
        · skip
          have c_8 : mwl (mt0 S) to = false := nb_0 c_8
          refine lv_iconst (v := (-1)) hx hb dX6_lend_53 (by decide) ?_
          exact ct_iret (S := mt0 S) (v := (-1)) hx hb hr hlocks hK hw (⟨by simp only [bI, mldF, mldG, mldR, c_2, ec_b9, c_4, ec_s9, c_6, ec_f9, c_8, decide_true, decide_false, Bool.not_true, Bool.not_false, Bool.true_and, Bool.and_true, Bool.false_and, Bool.and_false, Bool.or_true, Bool.true_or, Bool.or_false, Bool.false_or, Bool.false_eq_true, Bool.true_eq_false, if_true, if_false, ↓reduceIte], by simp only [mldF, mldG, mldR, c_2, ec_b9, c_4, ec_s9, c_6, ec_f9, c_8, decide_true, decide_false, Bool.not_true, Bool.not_false, Bool.true_and, Bool.and_true, Bool.false_and, Bool.and_false, Bool.or_true, Bool.true_or, Bool.or_false, Bool.false_or, Bool.false_eq_true, Bool.true_eq_false, if_true, if_false, ↓reduceIte]⟩) dX6_lend_54
        · skip
          have c_8 : mwl (mt0 S) to = true := nb_1 c_8
          obtain ⟨t9, ht9, rfl⟩ := mwl_n c_8
          have ec_t9 := nI_clamp (n := t9) (by omega)
          refine lv_iload_n hx hb dX6_lend_40 rfl (lv_at hl 3 rfl) ?_
          refine lv_iload hx hb dX6_lend_41 (lv_at hl 4 rfl) ?_
          refine lv_icmp_eq (tgt := 53) hx hb dX6_lend_43 (by decide) (fun c_9 => ?_) (fun c_9 => ?_)
          · skip
            have c_9 : f9 = t9 := (nI_eq (a := f9) (b := t9) (by omega) (by omega)).mp c_9
            have cI : nI f9 = nI t9 := congrArg nI c_9
            refine lv_iconst (v := (-1)) hx hb dX6_lend_53 (by decide) ?_
            exact ct_iret (S := mt0 S) (v := (-1)) hx hb hr hlocks hK hw (⟨by simp only [bI, mldF, mldG, mldR, c_2, ec_b9, c_4, ec_s9, c_6, ec_f9, c_8, ec_t9, cI, decide_true, decide_false, Bool.not_true, Bool.not_false, Bool.true_and, Bool.and_true, Bool.false_and, Bool.and_false, Bool.or_true, Bool.true_or, Bool.or_false, Bool.false_or, Bool.false_eq_true, Bool.true_eq_false, if_true, if_false, ↓reduceIte], by simp only [mldF, mldG, mldR, c_2, ec_b9, c_4, ec_s9, c_6, ec_f9, c_8, ec_t9, cI, decide_true, decide_false, Bool.not_true, Bool.not_false, Bool.true_and, Bool.and_true, Bool.false_and, Bool.and_false, Bool.or_true, Bool.true_or, Bool.or_false, Bool.false_or, Bool.false_eq_true, Bool.true_eq_false, if_true, if_false, ↓reduceIte]⟩) dX6_lend_54
          · skip
            have c_9 : ¬ (f9 = t9) := fun h9 => c_9 ((nI_eq (a := f9) (b := t9) (by omega) (by omega)).mpr h9)
            have cI : ¬ nI f9 = nI t9 := fun h9 => c_9 ((nI_eq (by omega) (by omega)).mp h9)
            refine lv_lload hx hb dX6_lend_46 (lv_at hl 5 rfl) ?_
            refine lv_lconst (v := 1) hx hb dX6_lend_48 (by decide) ?_
            refine lc_ge (tgt := 55) hx hb dX6_lend_49 dX6_lend_50 (by decide) (fun c_10 => ?_) (fun c_10 => ?_)
            · skip
              refine lv_aload_n hx hb dX6_lend_55 rfl (lv_at hl 0 rfl) ?_
              refine wo_get hx hb hts inX6 hown hK hw 0 rfl rfl 5 (by decide) (hts _ wd_570) (fun _ h9 => h9) rfl dX6_lend_56 ?_
              refine lv_iload_n hx hb dX6_lend_59 rfl (lv_at hl 1 rfl) ?_
              refine lv_iload_n hx hb dX6_lend_60 rfl (lv_at hl 2 rfl) ?_
              refine lv_iload_n hx hb dX6_lend_61 rfl (lv_at hl 3 rfl) ?_
              refine wo_sI (As := [.int (nI b9), .int (nI s9), .int (nI f9)]) (rest := [.ref (ad 4)]) (kX6_at l dC dI ca ad (mt0 S) b9 s9 f9) ⟨hx, hb, hml, hown, hts⟩ (va_cwS 3 hts (wa_gS wd_680 wd_681 wd_8 wd_682) rfl rfl rfl (by decide +kernel) ⟨Nat.le_of_ble_eq_true rfl, Nat.le_of_ble_eq_true rfl⟩) hK hw hA rfl hl.1 rfl (Nat.le_of_ble_eq_true rfl) dX6_lend_62 ⟨Nat.zero_le _, Nat.zero_le _⟩ (fun r_11 S_11 H locs hp_11 hw => ?_)
              have e9 := hp_11.1.symm
              subst e9
              have e9 := hp_11.2.symm
              subst e9
              refine wo_lald hx hb hK hw 4 1 rfl rfl (12 * b9 + 6 * s9 + f9) rfl (by first | assumption | omega) (by decide) dX6_lend_65 ?_
              refine lv_lload hx hb dX6_lend_66 (lv_at hl 5 rfl) ?_
              refine lc_lt (tgt := 82) hx hb dX6_lend_68 dX6_lend_69 (by decide) (fun c_12 => ?_) (fun c_12 => ?_)
              · skip
                refine lv_iconst (v := nI 0) hx hb dX6_lend_82 (by decide) ?_
                refine lv_goto (tgt := 97) hx hb dX6_lend_83 (by decide) ?_
                exact ct_iret (S := mt0 S) (v := nI 0) hx hb hr hlocks hK hw (⟨by simp only [bI, mldF, mldG, mldR, c_2, ec_b9, c_4, ec_s9, c_6, ec_f9, c_8, ec_t9, cI, c_10, c_12, decide_true, decide_false, Bool.not_true, Bool.not_false, Bool.true_and, Bool.and_true, Bool.false_and, Bool.and_false, Bool.or_true, Bool.true_or, Bool.or_false, Bool.false_or, Bool.false_eq_true, Bool.true_eq_false, if_true, if_false, ↓reduceIte], by simp only [mldF, mldG, mldR, c_2, ec_b9, c_4, ec_s9, c_6, ec_f9, c_8, ec_t9, cI, c_10, c_12, decide_true, decide_false, Bool.not_true, Bool.not_false, Bool.true_and, Bool.and_true, Bool.false_and, Bool.and_false, Bool.or_true, Bool.true_or, Bool.or_false, Bool.false_or, Bool.false_eq_true, Bool.true_eq_false, if_true, if_false, ↓reduceIte]⟩) dX6_lend_97
              · skip
                refine lv_aload_n hx hb dX6_lend_72 rfl (lv_at hl 0 rfl) ?_
                refine wo_get hx hb hts inX6 hown hK hw 0 rfl rfl 13 (by decide) (hts _ wd_578) (fun _ h9 => h9) rfl dX6_lend_73 ?_
                refine tp_i (y := nI nr) (hmt.2.2) ?_
                refine lv_sipush (v := nI 200) hx hb dX6_lend_76 (by decide) ?_
                refine lv_icmp_ne (tgt := 86) hx hb dX6_lend_79 (by decide) (fun c_13 => ?_) (fun c_13 => ?_)
                · skip
                  have c_13 : ¬ (nr = 200) := fun h9 => c_13 ((nI_eq (a := nr) (b := 200) (by omega) (by omega)).mpr h9)
                  refine lv_aload_n hx hb dX6_lend_86 rfl (lv_at hl 0 rfl) ?_
                  refine lv_iload_n hx hb dX6_lend_87 rfl (lv_at hl 1 rfl) ?_
                  refine lv_iload_n hx hb dX6_lend_88 rfl (lv_at hl 2 rfl) ?_
                  refine lv_iload_n hx hb dX6_lend_89 rfl (lv_at hl 3 rfl) ?_
                  refine lv_iload hx hb dX6_lend_90 (lv_at hl 4 rfl) ?_
                  refine lv_lload hx hb dX6_lend_92 (lv_at hl 5 rfl) ?_
                  refine wo_vI (As := [.int (nI b9), .int (nI s9), .int (nI f9), .int (nI t9), .long vv]) (rest := []) (kX6_add l dC dI ca ad (mt0 S) b9 s9 f9 t9 vv nr (by first | assumption | omega) (by first | assumption | omega) (by first | assumption | omega) (by first | assumption | omega) hmt.2.2) ⟨hx, hb, hml, hown, hts⟩ (cwV 5 hts (wa_gV wd_704 wd_706 ws_18 wd_8 wd_707) rfl rfl rfl (by decide +kernel) ⟨Nat.le_of_ble_eq_true rfl, Nat.le_of_ble_eq_true rfl⟩) hK hw hA 0 rfl rfl rfl rfl hl.1 rfl (Nat.le_of_ble_eq_true rfl) dX6_lend_94 ⟨Nat.zero_le _, Nat.zero_le _⟩ (fun r_14 S_14 H locs hp_14 hw => ?_)
                  have e9 := hp_14.1.symm
                  subst e9
                  have e9 := hp_14.2.symm
                  subst e9
                  exact ct_iret (S := madS (mt0 S) nr b9 s9 f9 t9 vv) (v := nI (nr + 1)) hx hb hr hlocks hK hw (⟨by simp only [bI, mldF, mldG, mldR, c_2, ec_b9, c_4, ec_s9, c_6, ec_f9, c_8, ec_t9, cI, c_10, c_12, c_13, decide_true, decide_false, Bool.not_true, Bool.not_false, Bool.true_and, Bool.and_true, Bool.false_and, Bool.and_false, Bool.or_true, Bool.true_or, Bool.or_false, Bool.false_or, Bool.false_eq_true, Bool.true_eq_false, if_true, if_false, ↓reduceIte], by simp only [mldF, mldG, mldR, c_2, ec_b9, c_4, ec_s9, c_6, ec_f9, c_8, ec_t9, cI, c_10, c_12, c_13, decide_true, decide_false, Bool.not_true, Bool.not_false, Bool.true_and, Bool.and_true, Bool.false_and, Bool.and_false, Bool.or_true, Bool.true_or, Bool.or_false, Bool.false_or, Bool.false_eq_true, Bool.true_eq_false, if_true, if_false, ↓reduceIte]⟩) dX6_lend_97
                · skip
                  have c_13 : nr = 200 := (nI_eq (a := nr) (b := 200) (by omega) (by omega)).mp c_13
                  refine lv_iconst (v := nI 0) hx hb dX6_lend_82 (by decide) ?_
                  refine lv_goto (tgt := 97) hx hb dX6_lend_83 (by decide) ?_
                  exact ct_iret (S := mt0 S) (v := nI 0) hx hb hr hlocks hK hw (⟨by simp only [bI, mldF, mldG, mldR, c_2, ec_b9, c_4, ec_s9, c_6, ec_f9, c_8, ec_t9, cI, c_10, c_12, c_13, decide_true, decide_false, Bool.not_true, Bool.not_false, Bool.true_and, Bool.and_true, Bool.false_and, Bool.and_false, Bool.or_true, Bool.true_or, Bool.or_false, Bool.false_or, Bool.false_eq_true, Bool.true_eq_false, if_true, if_false, ↓reduceIte], by simp only [mldF, mldG, mldR, c_2, ec_b9, c_4, ec_s9, c_6, ec_f9, c_8, ec_t9, cI, c_10, c_12, c_13, decide_true, decide_false, Bool.not_true, Bool.not_false, Bool.true_and, Bool.and_true, Bool.false_and, Bool.and_false, Bool.or_true, Bool.true_or, Bool.or_false, Bool.false_or, Bool.false_eq_true, Bool.true_eq_false, if_true, if_false, ↓reduceIte]⟩) dX6_lend_97
            · skip
              refine lv_iconst (v := (-1)) hx hb dX6_lend_53 (by decide) ?_
              exact ct_iret (S := mt0 S) (v := (-1)) hx hb hr hlocks hK hw (⟨by simp only [bI, mldF, mldG, mldR, c_2, ec_b9, c_4, ec_s9, c_6, ec_f9, c_8, ec_t9, cI, c_10, decide_true, decide_false, Bool.not_true, Bool.not_false, Bool.true_and, Bool.and_true, Bool.false_and, Bool.and_false, Bool.or_true, Bool.true_or, Bool.or_false, Bool.false_or, Bool.false_eq_true, Bool.true_eq_false, if_true, if_false, ↓reduceIte], by simp only [mldF, mldG, mldR, c_2, ec_b9, c_4, ec_s9, c_6, ec_f9, c_8, ec_t9, cI, c_10, decide_true, decide_false, Bool.not_true, Bool.not_false, Bool.true_and, Bool.and_true, Bool.false_and, Bool.and_false, Bool.or_true, Bool.true_or, Bool.or_false, Bool.false_or, Bool.false_eq_true, Bool.true_eq_false, if_true, if_false, ↓reduceIte]⟩) dX6_lend_54

set_option maxHeartbeats 4000000 in
set_option maxRecDepth 100000 in
theorem kX6_ask (l : Launch) (dC : Nat → ClassId) (dI : Nat → Nat → Nat) (ca : Nat → ClassId) (ad : Nat → Nat) (S : sSt) (bb : Int32) (sd : Int32) (pp : Int32) (vv : Int64) (nb : Nat) (nr : Nat) (hb6 : nb ≤ 6) (hr2 : nr ≤ 200) (hmi : MI nb nr S) : ct_I l yX6_ask (Cond.code yX6_ask cX6_ask 9 (some .int) :: wa_T) ({ frames := 2, cells := 0, slots := 0, locals := 48 } : Room) (dC, dI) vwCl (tyl ca) (wq ca ad) S [.ref (ad 0), .int bb, .int sd, .int pp, .long vv] (fun r S2 => r = (makF (mt0 S) nr bb sd pp vv).1 ∧ S2 = (makF (mt0 S) nr bb sd pp vv).2) := by
  refine ct_ofI (by decide) (Nat.le_of_ble_eq_true rfl) ?_
  intro p e s m below meth c A ls hx hb hr hml hts hown hlocks hK hA hw hl
  have hl : lv_has ls 9 [(0, .ref (ad 0)), (1, .int bb), (2, .int sd), (3, .int pp), (4, .long vv)] := hl
  refine lv_aload_n hx hb dX6_ask_0 rfl (lv_at hl 0 rfl) ?_
  refine lv_iconst (v := nI 0) hx hb dX6_ask_1 (by decide) ?_
  refine wo_put (ty := .int) (v := .int (nI 0)) hx hb hts inX6 tyX6 tyX6_ok nmX6 hown hK hw 0 rfl rfl 0 (by decide) (hts _ wd_565) (fun _ h9 => h9) rfl (by decide +kernel) rfl rfl (Nat.le_of_ble_eq_true rfl) (sg_0 ca ad S (nI 0)) dX6_ask_2 (fun H locs hw => ?_)
  have hw : wo_w (dC, dI) vwCl A s.heap (wq ca ad (mt0 S)) H locs := hw
  have hmt := MI_0 hmi
  refine lv_aload_n hx hb dX6_ask_5 rfl (lv_at hl 0 rfl) ?_
  refine lv_iload_n hx hb dX6_ask_6 rfl (lv_at hl 1 rfl) ?_
  refine wo_vI (As := [.int bb]) (rest := []) (kX6_isBound l dC dI ca ad (mt0 S) bb) ⟨hx, hb, hml, hown, hts⟩ (cwV 1 hts (wa_gV wd_691 wd_693 ws_16 wd_8 wd_694) rfl rfl rfl (by decide +kernel) ⟨Nat.le_of_ble_eq_true rfl, Nat.le_of_ble_eq_true rfl⟩) hK hw hA 0 rfl rfl rfl rfl hl.1 rfl (Nat.le_of_ble_eq_true rfl) dX6_ask_7 ⟨Nat.zero_le _, Nat.zero_le _⟩ (fun r_1 S_1 H locs hp_1 hw => ?_)
  have e9 := hp_1.1.symm
  subst e9
  have e9 := hp_1.2.symm
  subst e9
  refine lv_if_eq (tgt := 38) hx hb dX6_ask_10 (by decide) (fun c_2 => ?_) (fun c_2 => ?_)
  · skip
    have c_2 : mbd (mt0 S) bb = false := nb_0 c_2
    refine lv_iconst (v := (-1)) hx hb dX6_ask_38 (by decide) ?_
    exact ct_iret (S := mt0 S) (v := (-1)) hx hb hr hlocks hK hw (⟨by simp only [makF, makR, c_2, makG, decide_true, decide_false, Bool.not_true, Bool.not_false, Bool.true_and, Bool.and_true, Bool.false_and, Bool.and_false, Bool.or_true, Bool.true_or, Bool.or_false, Bool.false_or, Bool.false_eq_true, Bool.true_eq_false, if_true, if_false, ↓reduceIte], by simp only [makF, makR, c_2, makG, decide_true, decide_false, Bool.not_true, Bool.not_false, Bool.true_and, Bool.and_true, Bool.false_and, Bool.and_false, Bool.or_true, Bool.true_or, Bool.or_false, Bool.false_or, Bool.false_eq_true, Bool.true_eq_false, if_true, if_false, ↓reduceIte]⟩) dX6_ask_39
  · skip
    have c_2 : mbd (mt0 S) bb = true := nb_1 c_2
    obtain ⟨b9, hb9, rfl⟩ := mbd_n hmt.2.1 hb6 c_2
    have ec_b9 := nI_clamp (n := b9) (by omega)
    refine lv_iload_n hx hb dX6_ask_13 rfl (lv_at hl 2 rfl) ?_
    refine lv_i2l hx hb dX6_ask_14 rfl ?_
    refine lv_lconst (v := 0) hx hb dX6_ask_15 (by decide) ?_
    refine lv_lconst (v := 1) hx hb dX6_ask_16 (by decide) ?_
    refine wo_sI (As := [.long ((sd).toInt64), .long 0, .long 1]) (rest := []) (kX6_within l dC dI ca ad (mt0 S) ((sd).toInt64) 0 1) ⟨hx, hb, hml, hown, hts⟩ (va_cwS 3 hts (wa_gS wd_660 wd_661 wd_8 wd_662) rfl rfl rfl (by decide +kernel) ⟨Nat.le_of_ble_eq_true rfl, Nat.le_of_ble_eq_true rfl⟩) hK hw hA rfl hl.1 rfl (Nat.le_of_ble_eq_true rfl) dX6_ask_17 ⟨Nat.zero_le _, Nat.zero_le _⟩ (fun r_3 S_3 H locs hp_3 hw => ?_)
    have e9 := hp_3.1.symm
    subst e9
    have e9 := hp_3.2.symm
    subst e9
    refine lv_if_eq (tgt := 38) hx hb dX6_ask_20 (by decide) (fun c_4 => ?_) (fun c_4 => ?_)
    · skip
      have c_4 : wth ((sd).toInt64) 0 1 = false := nb_0 c_4
      refine lv_iconst (v := (-1)) hx hb dX6_ask_38 (by decide) ?_
      exact ct_iret (S := mt0 S) (v := (-1)) hx hb hr hlocks hK hw (⟨by simp only [makF, makR, c_2, ec_b9, c_4, makG, decide_true, decide_false, Bool.not_true, Bool.not_false, Bool.true_and, Bool.and_true, Bool.false_and, Bool.and_false, Bool.or_true, Bool.true_or, Bool.or_false, Bool.false_or, Bool.false_eq_true, Bool.true_eq_false, if_true, if_false, ↓reduceIte], by simp only [makF, makR, c_2, ec_b9, c_4, makG, decide_true, decide_false, Bool.not_true, Bool.not_false, Bool.true_and, Bool.and_true, Bool.false_and, Bool.and_false, Bool.or_true, Bool.true_or, Bool.or_false, Bool.false_or, Bool.false_eq_true, Bool.true_eq_false, if_true, if_false, ↓reduceIte]⟩) dX6_ask_39
    · skip
      have c_4 : wth ((sd).toInt64) 0 1 = true := nb_1 c_4
      obtain ⟨s9, hs9, rfl⟩ := w1_n c_4
      have ec_s9 := nI_clamp (n := s9) (by omega)
      refine lv_aload_n hx hb dX6_ask_23 rfl (lv_at hl 0 rfl) ?_
      refine lv_iload_n hx hb dX6_ask_24 rfl (lv_at hl 3 rfl) ?_
      refine wo_vI (As := [.int pp]) (rest := []) (kX6_isWell l dC dI ca ad (mt0 S) pp) ⟨hx, hb, hml, hown, hts⟩ (cwV 1 hts (wa_gV wd_655 wd_657 ws_13 wd_8 wd_658) rfl rfl rfl (by decide +kernel) ⟨Nat.le_of_ble_eq_true rfl, Nat.le_of_ble_eq_true rfl⟩) hK hw hA 0 rfl rfl rfl rfl hl.1 rfl (Nat.le_of_ble_eq_true rfl) dX6_ask_25 ⟨Nat.zero_le _, Nat.zero_le _⟩ (fun r_5 S_5 H locs hp_5 hw => ?_)
      have e9 := hp_5.1.symm
      subst e9
      have e9 := hp_5.2.symm
      subst e9
      refine lv_if_eq (tgt := 38) hx hb dX6_ask_28 (by decide) (fun c_6 => ?_) (fun c_6 => ?_)
      · skip
        have c_6 : mwl (mt0 S) pp = false := nb_0 c_6
        refine lv_iconst (v := (-1)) hx hb dX6_ask_38 (by decide) ?_
        exact ct_iret (S := mt0 S) (v := (-1)) hx hb hr hlocks hK hw (⟨by simp only [makF, makR, c_2, ec_b9, c_4, ec_s9, c_6, makG, decide_true, decide_false, Bool.not_true, Bool.not_false, Bool.true_and, Bool.and_true, Bool.false_and, Bool.and_false, Bool.or_true, Bool.true_or, Bool.or_false, Bool.false_or, Bool.false_eq_true, Bool.true_eq_false, if_true, if_false, ↓reduceIte], by simp only [makF, makR, c_2, ec_b9, c_4, ec_s9, c_6, makG, decide_true, decide_false, Bool.not_true, Bool.not_false, Bool.true_and, Bool.and_true, Bool.false_and, Bool.and_false, Bool.or_true, Bool.true_or, Bool.or_false, Bool.false_or, Bool.false_eq_true, Bool.true_eq_false, if_true, if_false, ↓reduceIte]⟩) dX6_ask_39
      · skip
        have c_6 : mwl (mt0 S) pp = true := nb_1 c_6
        obtain ⟨p9, hp9, rfl⟩ := mwl_n c_6
        have ec_p9 := nI_clamp (n := p9) (by omega)
        refine lv_lload hx hb dX6_ask_31 (lv_at hl 4 rfl) ?_
        refine lv_lconst (v := 1) hx hb dX6_ask_33 (by decide) ?_
        refine lc_ge (tgt := 40) hx hb dX6_ask_34 dX6_ask_35 (by decide) (fun c_7 => ?_) (fun c_7 => ?_)
        · skip
          have hgG : makG (mt0 S) (nI b9) (nI s9) (nI p9) vv = true := by simp only [makG, c_2, ec_b9, c_4, ec_s9, c_6, ec_p9, c_7, decide_true, decide_false, Bool.not_true, Bool.not_false, Bool.true_and, Bool.and_true, Bool.false_and, Bool.and_false, Bool.or_true, Bool.true_or, Bool.or_false, Bool.false_or, Bool.false_eq_true, Bool.true_eq_false, if_true, if_false, ↓reduceIte]
          refine lv_iconst (v := (-1)) hx hb dX6_ask_40 (by decide) ?_
          refine lv_istore (lv' := [(6, .int (-1)), (0, .ref (ad 0)), (1, .int (nI b9)), (2, .int (nI s9)), (3, .int (nI p9)), (4, .long vv)]) hx hb dX6_ask_41 hl (by decide) rfl (fun ls hl => ?_)
          refine lv_iconst (v := nI 0) hx hb dX6_ask_43 (by decide) ?_
          refine lv_istore (lv' := [(7, .int (nI 0)), (6, .int (-1)), (0, .ref (ad 0)), (1, .int (nI b9)), (2, .int (nI s9)), (3, .int (nI p9)), (4, .long vv)]) hx hb dX6_ask_44 hl (by decide) rfl (fun ls hl => ?_)
          have lp_46 : ∀ (n : Nat) (i : Nat), i ≤ 6 → 7 ≤ i + n → ∀ (H : Heap) (locs : List Loc) (ls : Array Slot), wo_w (dC, dI) vwCl A s.heap (wq ca ad (mt0 S)) H locs → lv_has ls 9 [(0, .ref (ad 0)), (1, .int (nI b9)), (2, .int (nI s9)), (3, .int (nI p9)), (4, .long vv), (6, .int (mrich (mt0 S) b9 s9 p9 i)), (7, .int (nI i))] → W p l e ({ frames := 2, cells := 0, slots := 0, locals := 48 } : Room) s m ([.ref (ad 0), .int (nI b9), .int (nI s9), .int (nI p9), .long vv] : List Value).toArray below meth c H locs 0 0 (MQ below (va_Qi (fun r S2 => r = (makF (mt0 S) nr (nI b9) (nI s9) (nI p9) vv).1 ∧ S2 = (makF (mt0 S) nr (nI b9) (nI s9) (nI p9) vv).2) (ct_B (dC, dI) vwCl (tyl ca) (wq ca ad) A) A) ([.ref (ad 0), .int (nI b9), .int (nI s9), .int (nI p9), .long vv] : List Value).toArray s 0 0 A) (F0 m 46 ls []) := by
            intro n
            induction n with
            | zero =>
              intro i hi hn
              exfalso
              omega
            | succ n ih_46 =>
              intro i hi hn H locs ls hw hl
              refine lv_iload hx hb dX6_ask_46 (lv_at hl 6 rfl) ?_
              refine lv_bipush (v := nI 6) hx hb dX6_ask_48 (by decide) ?_
              refine lv_icmp_ge (tgt := 115) hx hb dX6_ask_50 (by decide) (fun c_8 => ?_) (fun c_8 => ?_)
              · skip
                have c_8 : 6 ≤ i := (nI_leI (a := 6) (b := i) (by omega) (by omega)).mp c_8
                obtain rfl : 6 = i := by omega
                refine lv_iload hx hb dX6_ask_115 (lv_at hl 5 rfl) ?_
                refine lv_iconst (v := (-1)) hx hb dX6_ask_117 (by decide) ?_
                refine lv_icmp_eq (tgt := 148) hx hb dX6_ask_118 (by decide) (fun c_9 => ?_) (fun c_9 => ?_)
                · skip
                  refine lv_iconst (v := nI 0) hx hb dX6_ask_148 (by decide) ?_
                  exact ct_iret (S := mt0 S) (v := nI 0) hx hb hr hlocks hK hw (⟨by simp only [makF, makR, c_8, c_9, hgG, ec_b9, ec_s9, ec_p9, decide_true, decide_false, Bool.not_true, Bool.not_false, Bool.true_and, Bool.and_true, Bool.false_and, Bool.and_false, Bool.or_true, Bool.true_or, Bool.or_false, Bool.false_or, Bool.false_eq_true, Bool.true_eq_false, if_true, if_false, ↓reduceIte], by simp only [makF, makR, c_8, c_9, hgG, ec_b9, ec_s9, ec_p9, decide_true, decide_false, Bool.not_true, Bool.not_false, Bool.true_and, Bool.and_true, Bool.false_and, Bool.and_false, Bool.or_true, Bool.true_or, Bool.or_false, Bool.false_or, Bool.false_eq_true, Bool.true_eq_false, if_true, if_false, ↓reduceIte]⟩) dX6_ask_149
                · skip
                  obtain ⟨q9, hq9, eq9⟩ := (mrich_n (mt0 S) b9 s9 p9 6).resolve_left c_9
                  have ec_q9 := nI_clamp (n := q9) (by omega)
                  rw [eq9] at hl
                  have nq9 : ¬ nI q9 = (-1) := eq9 ▸ c_9
                  refine lv_aload_n hx hb dX6_ask_121 rfl (lv_at hl 0 rfl) ?_
                  refine wo_get hx hb hts inX6 hown hK hw 0 rfl rfl 5 (by decide) (hts _ wd_570) (fun _ h9 => h9) rfl dX6_ask_122 ?_
                  refine lv_iload_n hx hb dX6_ask_125 rfl (lv_at hl 1 rfl) ?_
                  refine lv_iload_n hx hb dX6_ask_126 rfl (lv_at hl 2 rfl) ?_
                  refine lv_iload hx hb dX6_ask_127 (lv_at hl 5 rfl) ?_
                  refine wo_sI (As := [.int (nI b9), .int (nI s9), .int (nI q9)]) (rest := [.ref (ad 4)]) (kX6_at l dC dI ca ad (mt0 S) b9 s9 q9) ⟨hx, hb, hml, hown, hts⟩ (va_cwS 3 hts (wa_gS wd_680 wd_681 wd_8 wd_682) rfl rfl rfl (by decide +kernel) ⟨Nat.le_of_ble_eq_true rfl, Nat.le_of_ble_eq_true rfl⟩) hK hw hA rfl hl.1 rfl (Nat.le_of_ble_eq_true rfl) dX6_ask_129 ⟨Nat.zero_le _, Nat.zero_le _⟩ (fun r_10 S_10 H locs hp_10 hw => ?_)
                  have e9 := hp_10.1.symm
                  subst e9
                  have e9 := hp_10.2.symm
                  subst e9
                  refine wo_lald hx hb hK hw 4 1 rfl rfl (12 * b9 + 6 * s9 + q9) rfl (by first | assumption | omega) (by decide) dX6_ask_132 ?_
                  refine lv_lconst (v := 0) hx hb dX6_ask_133 (by decide) ?_
                  refine lc_eq (tgt := 148) hx hb dX6_ask_134 dX6_ask_135 (by decide) (fun c_11 => ?_) (fun c_11 => ?_)
                  · skip
                    refine lv_iconst (v := nI 0) hx hb dX6_ask_148 (by decide) ?_
                    exact ct_iret (S := mt0 S) (v := nI 0) hx hb hr hlocks hK hw (⟨by simp only [makF, makR, c_8, eq9, nq9, ec_q9, c_11, hgG, ec_b9, ec_s9, ec_p9, decide_true, decide_false, Bool.not_true, Bool.not_false, Bool.true_and, Bool.and_true, Bool.false_and, Bool.and_false, Bool.or_true, Bool.true_or, Bool.or_false, Bool.false_or, Bool.false_eq_true, Bool.true_eq_false, if_true, if_false, ↓reduceIte], by simp only [makF, makR, c_8, eq9, nq9, ec_q9, c_11, hgG, ec_b9, ec_s9, ec_p9, decide_true, decide_false, Bool.not_true, Bool.not_false, Bool.true_and, Bool.and_true, Bool.false_and, Bool.and_false, Bool.or_true, Bool.true_or, Bool.or_false, Bool.false_or, Bool.false_eq_true, Bool.true_eq_false, if_true, if_false, ↓reduceIte]⟩) dX6_ask_149
                  · skip
                    refine lv_aload_n hx hb dX6_ask_138 rfl (lv_at hl 0 rfl) ?_
                    refine wo_get hx hb hts inX6 hown hK hw 0 rfl rfl 13 (by decide) (hts _ wd_578) (fun _ h9 => h9) rfl dX6_ask_139 ?_
                    refine tp_i (y := nI nr) (hmt.2.2) ?_
                    refine lv_sipush (v := nI 200) hx hb dX6_ask_142 (by decide) ?_
                    refine lv_icmp_ne (tgt := 150) hx hb dX6_ask_145 (by decide) (fun c_12 => ?_) (fun c_12 => ?_)
                    · skip
                      have c_12 : ¬ (nr = 200) := fun h9 => c_12 ((nI_eq (a := nr) (b := 200) (by omega) (by omega)).mpr h9)
                      refine lv_aload_n hx hb dX6_ask_150 rfl (lv_at hl 0 rfl) ?_
                      refine wo_get hx hb hts inX6 hown hK hw 0 rfl rfl 5 (by decide) (hts _ wd_570) (fun _ h9 => h9) rfl dX6_ask_151 ?_
                      refine lv_iload_n hx hb dX6_ask_154 rfl (lv_at hl 1 rfl) ?_
                      refine lv_iload_n hx hb dX6_ask_155 rfl (lv_at hl 2 rfl) ?_
                      refine lv_iload hx hb dX6_ask_156 (lv_at hl 5 rfl) ?_
                      refine wo_sI (As := [.int (nI b9), .int (nI s9), .int (nI q9)]) (rest := [.ref (ad 4)]) (kX6_at l dC dI ca ad (mt0 S) b9 s9 q9) ⟨hx, hb, hml, hown, hts⟩ (va_cwS 3 hts (wa_gS wd_680 wd_681 wd_8 wd_682) rfl rfl rfl (by decide +kernel) ⟨Nat.le_of_ble_eq_true rfl, Nat.le_of_ble_eq_true rfl⟩) hK hw hA rfl hl.1 rfl (Nat.le_of_ble_eq_true rfl) dX6_ask_158 ⟨Nat.zero_le _, Nat.zero_le _⟩ (fun r_13 S_13 H locs hp_13 hw => ?_)
                      have e9 := hp_13.1.symm
                      subst e9
                      have e9 := hp_13.2.symm
                      subst e9
                      refine wo_lald hx hb hK hw 4 1 rfl rfl (12 * b9 + 6 * s9 + q9) rfl (by first | assumption | omega) (by decide) dX6_ask_161 ?_
                      refine lv_lstore (lv' := [(7, .long ((mt0 S).2 4 (12 * b9 + 6 * s9 + q9))), (0, .ref (ad 0)), (1, .int (nI b9)), (2, .int (nI s9)), (3, .int (nI p9)), (4, .long vv), (6, .int (nI q9))]) hx hb dX6_ask_162 hl (by decide) rfl (fun ls hl => ?_)
                      refine lv_aload_n hx hb dX6_ask_164 rfl (lv_at hl 1 rfl) ?_
                      refine lv_iload_n hx hb dX6_ask_165 rfl (lv_at hl 2 rfl) ?_
                      refine lv_iload_n hx hb dX6_ask_166 rfl (lv_at hl 3 rfl) ?_
                      refine lv_iload hx hb dX6_ask_167 (lv_at hl 6 rfl) ?_
                      refine lv_iload_n hx hb dX6_ask_169 rfl (lv_at hl 4 rfl) ?_
                      refine lv_lload hx hb dX6_ask_170 (lv_at hl 0 rfl) ?_
                      refine lv_lload hx hb dX6_ask_172 (lv_at hl 5 rfl) ?_
                      refine lc_ge (tgt := 183) hx hb dX6_ask_174 dX6_ask_175 (by decide) (fun c_14 => ?_) (fun c_14 => ?_)
                      · skip
                        refine lv_lload hx hb dX6_ask_183 (lv_at hl 5 rfl) ?_
                        refine wo_vI (As := [.int (nI b9), .int (nI s9), .int (nI q9), .int (nI p9), .long vv]) (rest := []) (kX6_add l dC dI ca ad (mt0 S) b9 s9 q9 p9 vv nr (by first | assumption | omega) (by first | assumption | omega) (by first | assumption | omega) (by first | assumption | omega) hmt.2.2) ⟨hx, hb, hml, hown, hts⟩ (cwV 5 hts (wa_gV wd_704 wd_706 ws_18 wd_8 wd_707) rfl rfl rfl (by decide +kernel) ⟨Nat.le_of_ble_eq_true rfl, Nat.le_of_ble_eq_true rfl⟩) hK hw hA 0 rfl rfl rfl rfl hl.1 rfl (Nat.le_of_ble_eq_true rfl) dX6_ask_185 ⟨Nat.zero_le _, Nat.zero_le _⟩ (fun r_15 S_15 H locs hp_15 hw => ?_)
                        have e9 := hp_15.1.symm
                        subst e9
                        have e9 := hp_15.2.symm
                        subst e9
                        exact ct_iret (S := madS (mt0 S) nr b9 s9 q9 p9 vv) (v := nI (nr + 1)) hx hb hr hlocks hK hw (⟨by simp only [makF, makR, c_8, eq9, nq9, ec_q9, c_11, c_12, c_14, hgG, ec_b9, ec_s9, ec_p9, decide_true, decide_false, Bool.not_true, Bool.not_false, Bool.true_and, Bool.and_true, Bool.false_and, Bool.and_false, Bool.or_true, Bool.true_or, Bool.or_false, Bool.false_or, Bool.false_eq_true, Bool.true_eq_false, if_true, if_false, ↓reduceIte], by simp only [makF, makR, c_8, eq9, nq9, ec_q9, c_11, c_12, c_14, hgG, ec_b9, ec_s9, ec_p9, decide_true, decide_false, Bool.not_true, Bool.not_false, Bool.true_and, Bool.and_true, Bool.false_and, Bool.and_false, Bool.or_true, Bool.true_or, Bool.or_false, Bool.false_or, Bool.false_eq_true, Bool.true_eq_false, if_true, if_false, ↓reduceIte]⟩) dX6_ask_188
                      · skip
                        refine lv_lload hx hb dX6_ask_178 (lv_at hl 0 rfl) ?_
                        refine lv_goto (tgt := 185) hx hb dX6_ask_180 (by decide) ?_
                        refine wo_vI (As := [.int (nI b9), .int (nI s9), .int (nI q9), .int (nI p9), .long ((mt0 S).2 4 (12 * b9 + 6 * s9 + q9))]) (rest := []) (kX6_add l dC dI ca ad (mt0 S) b9 s9 q9 p9 ((mt0 S).2 4 (12 * b9 + 6 * s9 + q9)) nr (by first | assumption | omega) (by first | assumption | omega) (by first | assumption | omega) (by first | assumption | omega) hmt.2.2) ⟨hx, hb, hml, hown, hts⟩ (cwV 5 hts (wa_gV wd_704 wd_706 ws_18 wd_8 wd_707) rfl rfl rfl (by decide +kernel) ⟨Nat.le_of_ble_eq_true rfl, Nat.le_of_ble_eq_true rfl⟩) hK hw hA 0 rfl rfl rfl rfl hl.1 rfl (Nat.le_of_ble_eq_true rfl) dX6_ask_185 ⟨Nat.zero_le _, Nat.zero_le _⟩ (fun r_16 S_16 H locs hp_16 hw => ?_)
                        have e9 := hp_16.1.symm
                        subst e9
                        have e9 := hp_16.2.symm
                        subst e9
                        exact ct_iret (S := madS (mt0 S) nr b9 s9 q9 p9 ((mt0 S).2 4 (12 * b9 + 6 * s9 + q9))) (v := nI (nr + 1)) hx hb hr hlocks hK hw (⟨by simp only [makF, makR, c_8, eq9, nq9, ec_q9, c_11, c_12, c_14, hgG, ec_b9, ec_s9, ec_p9, decide_true, decide_false, Bool.not_true, Bool.not_false, Bool.true_and, Bool.and_true, Bool.false_and, Bool.and_false, Bool.or_true, Bool.true_or, Bool.or_false, Bool.false_or, Bool.false_eq_true, Bool.true_eq_false, if_true, if_false, ↓reduceIte], by simp only [makF, makR, c_8, eq9, nq9, ec_q9, c_11, c_12, c_14, hgG, ec_b9, ec_s9, ec_p9, decide_true, decide_false, Bool.not_true, Bool.not_false, Bool.true_and, Bool.and_true, Bool.false_and, Bool.and_false, Bool.or_true, Bool.true_or, Bool.or_false, Bool.false_or, Bool.false_eq_true, Bool.true_eq_false, if_true, if_false, ↓reduceIte]⟩) dX6_ask_188
                    · skip
                      have c_12 : nr = 200 := (nI_eq (a := nr) (b := 200) (by omega) (by omega)).mp c_12
                      refine lv_iconst (v := nI 0) hx hb dX6_ask_148 (by decide) ?_
                      exact ct_iret (S := mt0 S) (v := nI 0) hx hb hr hlocks hK hw (⟨by simp only [makF, makR, c_8, eq9, nq9, ec_q9, c_11, c_12, hgG, ec_b9, ec_s9, ec_p9, decide_true, decide_false, Bool.not_true, Bool.not_false, Bool.true_and, Bool.and_true, Bool.false_and, Bool.and_false, Bool.or_true, Bool.true_or, Bool.or_false, Bool.false_or, Bool.false_eq_true, Bool.true_eq_false, if_true, if_false, ↓reduceIte], by simp only [makF, makR, c_8, eq9, nq9, ec_q9, c_11, c_12, hgG, ec_b9, ec_s9, ec_p9, decide_true, decide_false, Bool.not_true, Bool.not_false, Bool.true_and, Bool.and_true, Bool.false_and, Bool.and_false, Bool.or_true, Bool.true_or, Bool.or_false, Bool.false_or, Bool.false_eq_true, Bool.true_eq_false, if_true, if_false, ↓reduceIte]⟩) dX6_ask_149
              · skip
                have c_8 : ¬ (6 ≤ i) := fun h9 => c_8 ((nI_leI (a := 6) (b := i) (by omega) (by omega)).mpr h9)
                refine lv_iload hx hb dX6_ask_53 (lv_at hl 6 rfl) ?_
                refine lv_iload_n hx hb dX6_ask_55 rfl (lv_at hl 3 rfl) ?_
                refine lv_icmp_eq (tgt := 109) hx hb dX6_ask_56 (by decide) (fun c_17 => ?_) (fun c_17 => ?_)
                · skip
                  have c_17 : i = p9 := (nI_eq (a := i) (b := p9) (by omega) (by omega)).mp c_17
                  refine lv_iinc (v := nI (i + 1)) (lv' := [(7, .int (nI (i + 1))), (0, .ref (ad 0)), (1, .int (nI b9)), (2, .int (nI s9)), (3, .int (nI p9)), (4, .long vv), (6, .int (mrich (mt0 S) b9 s9 p9 i))]) hx hb dX6_ask_109 hl (k := 6) rfl (nI_inc _) (by decide) rfl (fun ls hl => ?_)
                  refine lv_goto (tgt := 46) hx hb dX6_ask_112 (by decide) ?_
                  have e9 : mrich (mt0 S) b9 s9 p9 i = mrich (mt0 S) b9 s9 p9 (i + 1) := by first | rfl | (simp only [mrich, c_8, c_17, decide_true, decide_false, Bool.not_true, Bool.not_false, Bool.true_and, Bool.and_true, Bool.false_and, Bool.and_false, Bool.or_true, Bool.true_or, Bool.or_false, Bool.false_or, Bool.false_eq_true, Bool.true_eq_false, if_true, if_false, ↓reduceIte]; done)
                  try rw [e9] at hl
                  exact ih_46 (i + 1) (by omega) (by omega) _ _ _ hw (lv_sub hl [1, 2, 3, 4, 5, 6, 0] rfl)
                · skip
                  have c_17 : ¬ (i = p9) := fun h9 => c_17 ((nI_eq (a := i) (b := p9) (by omega) (by omega)).mpr h9)
                  refine lv_aload_n hx hb dX6_ask_59 rfl (lv_at hl 0 rfl) ?_
                  refine lv_iload hx hb dX6_ask_60 (lv_at hl 6 rfl) ?_
                  refine wo_vI (As := [.int (nI i)]) (rest := []) (kX6_isWell l dC dI ca ad (mt0 S) (nI i)) ⟨hx, hb, hml, hown, hts⟩ (cwV 1 hts (wa_gV wd_655 wd_657 ws_13 wd_8 wd_658) rfl rfl rfl (by decide +kernel) ⟨Nat.le_of_ble_eq_true rfl, Nat.le_of_ble_eq_true rfl⟩) hK hw hA 0 rfl rfl rfl rfl hl.1 rfl (Nat.le_of_ble_eq_true rfl) dX6_ask_62 ⟨Nat.zero_le _, Nat.zero_le _⟩ (fun r_18 S_18 H locs hp_18 hw => ?_)
                  have e9 := hp_18.1.symm
                  subst e9
                  have e9 := hp_18.2.symm
                  subst e9
                  refine lv_if_ne (tgt := 71) hx hb dX6_ask_65 (by decide) (fun c_19 => ?_) (fun c_19 => ?_)
                  · skip
                    have c_19 : mwl (mt0 S) (nI i) = true := nb_1 c_19
                    refine lv_iload hx hb dX6_ask_71 (lv_at hl 5 rfl) ?_
                    refine lv_iconst (v := (-1)) hx hb dX6_ask_73 (by decide) ?_
                    refine lv_icmp_eq (tgt := 105) hx hb dX6_ask_74 (by decide) (fun c_20 => ?_) (fun c_20 => ?_)
                    · skip
                      refine lv_iload hx hb dX6_ask_105 (lv_at hl 6 rfl) ?_
                      refine lv_istore (lv' := [(6, .int (nI i)), (0, .ref (ad 0)), (1, .int (nI b9)), (2, .int (nI s9)), (3, .int (nI p9)), (4, .long vv), (7, .int (nI i))]) hx hb dX6_ask_107 hl (by decide) rfl (fun ls hl => ?_)
                      refine lv_iinc (v := nI (i + 1)) (lv' := [(7, .int (nI (i + 1))), (6, .int (nI i)), (0, .ref (ad 0)), (1, .int (nI b9)), (2, .int (nI s9)), (3, .int (nI p9)), (4, .long vv)]) hx hb dX6_ask_109 hl (k := 6) rfl (nI_inc _) (by decide) rfl (fun ls hl => ?_)
                      refine lv_goto (tgt := 46) hx hb dX6_ask_112 (by decide) ?_
                      have e9 : nI i = mrich (mt0 S) b9 s9 p9 (i + 1) := by first | rfl | (simp only [mrich, c_8, c_17, c_19, c_20, decide_true, decide_false, Bool.not_true, Bool.not_false, Bool.true_and, Bool.and_true, Bool.false_and, Bool.and_false, Bool.or_true, Bool.true_or, Bool.or_false, Bool.false_or, Bool.false_eq_true, Bool.true_eq_false, if_true, if_false, ↓reduceIte]; done)
                      try rw [e9] at hl
                      exact ih_46 (i + 1) (by omega) (by omega) _ _ _ hw (lv_sub hl [2, 3, 4, 5, 6, 1, 0] rfl)
                    · skip
                      obtain ⟨q9, hq9, eq9⟩ := (mrich_n (mt0 S) b9 s9 p9 i).resolve_left c_20
                      have ec_q9 := nI_clamp (n := q9) (by omega)
                      rw [eq9] at hl
                      have nq9 : ¬ nI q9 = (-1) := eq9 ▸ c_20
                      refine lv_aload_n hx hb dX6_ask_77 rfl (lv_at hl 0 rfl) ?_
                      refine wo_get hx hb hts inX6 hown hK hw 0 rfl rfl 5 (by decide) (hts _ wd_570) (fun _ h9 => h9) rfl dX6_ask_78 ?_
                      refine lv_iload_n hx hb dX6_ask_81 rfl (lv_at hl 1 rfl) ?_
                      refine lv_iload_n hx hb dX6_ask_82 rfl (lv_at hl 2 rfl) ?_
                      refine lv_iload hx hb dX6_ask_83 (lv_at hl 6 rfl) ?_
                      refine wo_sI (As := [.int (nI b9), .int (nI s9), .int (nI i)]) (rest := [.ref (ad 4)]) (kX6_at l dC dI ca ad (mt0 S) b9 s9 i) ⟨hx, hb, hml, hown, hts⟩ (va_cwS 3 hts (wa_gS wd_680 wd_681 wd_8 wd_682) rfl rfl rfl (by decide +kernel) ⟨Nat.le_of_ble_eq_true rfl, Nat.le_of_ble_eq_true rfl⟩) hK hw hA rfl hl.1 rfl (Nat.le_of_ble_eq_true rfl) dX6_ask_85 ⟨Nat.zero_le _, Nat.zero_le _⟩ (fun r_21 S_21 H locs hp_21 hw => ?_)
                      have e9 := hp_21.1.symm
                      subst e9
                      have e9 := hp_21.2.symm
                      subst e9
                      refine wo_lald hx hb hK hw 4 1 rfl rfl (12 * b9 + 6 * s9 + i) rfl (by first | assumption | omega) (by decide) dX6_ask_88 ?_
                      refine lv_aload_n hx hb dX6_ask_89 rfl (lv_at hl 0 rfl) ?_
                      refine wo_get hx hb hts inX6 hown hK hw 0 rfl rfl 5 (by decide) (hts _ wd_570) (fun _ h9 => h9) rfl dX6_ask_90 ?_
                      refine lv_iload_n hx hb dX6_ask_93 rfl (lv_at hl 1 rfl) ?_
                      refine lv_iload_n hx hb dX6_ask_94 rfl (lv_at hl 2 rfl) ?_
                      refine lv_iload hx hb dX6_ask_95 (lv_at hl 5 rfl) ?_
                      refine wo_sI (As := [.int (nI b9), .int (nI s9), .int (nI q9)]) (rest := [.ref (ad 4), .long ((mt0 S).2 4 (12 * b9 + 6 * s9 + i))]) (kX6_at l dC dI ca ad (mt0 S) b9 s9 q9) ⟨hx, hb, hml, hown, hts⟩ (va_cwS 3 hts (wa_gS wd_680 wd_681 wd_8 wd_682) rfl rfl rfl (by decide +kernel) ⟨Nat.le_of_ble_eq_true rfl, Nat.le_of_ble_eq_true rfl⟩) hK hw hA rfl hl.1 rfl (Nat.le_of_ble_eq_true rfl) dX6_ask_97 ⟨Nat.zero_le _, Nat.zero_le _⟩ (fun r_22 S_22 H locs hp_22 hw => ?_)
                      have e9 := hp_22.1.symm
                      subst e9
                      have e9 := hp_22.2.symm
                      subst e9
                      refine wo_lald hx hb hK hw 4 1 rfl rfl (12 * b9 + 6 * s9 + q9) rfl (by first | assumption | omega) (by decide) dX6_ask_100 ?_
                      refine lc_le (tgt := 109) hx hb dX6_ask_101 dX6_ask_102 (by decide) (fun c_23 => ?_) (fun c_23 => ?_)
                      · skip
                        refine lv_iinc (v := nI (i + 1)) (lv' := [(7, .int (nI (i + 1))), (0, .ref (ad 0)), (1, .int (nI b9)), (2, .int (nI s9)), (3, .int (nI p9)), (4, .long vv), (6, .int (nI q9))]) hx hb dX6_ask_109 hl (k := 6) rfl (nI_inc _) (by decide) rfl (fun ls hl => ?_)
                        refine lv_goto (tgt := 46) hx hb dX6_ask_112 (by decide) ?_
                        have e9 : nI q9 = mrich (mt0 S) b9 s9 p9 (i + 1) := by first | rfl | (simp only [mrich, c_8, c_17, c_19, eq9, nq9, ec_q9, c_23, decide_true, decide_false, Bool.not_true, Bool.not_false, Bool.true_and, Bool.and_true, Bool.false_and, Bool.and_false, Bool.or_true, Bool.true_or, Bool.or_false, Bool.false_or, Bool.false_eq_true, Bool.true_eq_false, if_true, if_false, ↓reduceIte]; done)
                        try rw [e9] at hl
                        exact ih_46 (i + 1) (by omega) (by omega) _ _ _ hw (lv_sub hl [1, 2, 3, 4, 5, 6, 0] rfl)
                      · skip
                        refine lv_iload hx hb dX6_ask_105 (lv_at hl 6 rfl) ?_
                        refine lv_istore (lv' := [(6, .int (nI i)), (0, .ref (ad 0)), (1, .int (nI b9)), (2, .int (nI s9)), (3, .int (nI p9)), (4, .long vv), (7, .int (nI i))]) hx hb dX6_ask_107 hl (by decide) rfl (fun ls hl => ?_)
                        refine lv_iinc (v := nI (i + 1)) (lv' := [(7, .int (nI (i + 1))), (6, .int (nI i)), (0, .ref (ad 0)), (1, .int (nI b9)), (2, .int (nI s9)), (3, .int (nI p9)), (4, .long vv)]) hx hb dX6_ask_109 hl (k := 6) rfl (nI_inc _) (by decide) rfl (fun ls hl => ?_)
                        refine lv_goto (tgt := 46) hx hb dX6_ask_112 (by decide) ?_
                        have e9 : nI i = mrich (mt0 S) b9 s9 p9 (i + 1) := by first | rfl | (simp only [mrich, c_8, c_17, c_19, eq9, nq9, ec_q9, c_23, decide_true, decide_false, Bool.not_true, Bool.not_false, Bool.true_and, Bool.and_true, Bool.false_and, Bool.and_false, Bool.or_true, Bool.true_or, Bool.or_false, Bool.false_or, Bool.false_eq_true, Bool.true_eq_false, if_true, if_false, ↓reduceIte]; done)
                        try rw [e9] at hl
                        exact ih_46 (i + 1) (by omega) (by omega) _ _ _ hw (lv_sub hl [2, 3, 4, 5, 6, 1, 0] rfl)
                  · skip
                    have c_19 : mwl (mt0 S) (nI i) = false := nb_0 c_19
                    refine lv_goto (tgt := 109) hx hb dX6_ask_68 (by decide) ?_
                    refine lv_iinc (v := nI (i + 1)) (lv' := [(7, .int (nI (i + 1))), (0, .ref (ad 0)), (1, .int (nI b9)), (2, .int (nI s9)), (3, .int (nI p9)), (4, .long vv), (6, .int (mrich (mt0 S) b9 s9 p9 i))]) hx hb dX6_ask_109 hl (k := 6) rfl (nI_inc _) (by decide) rfl (fun ls hl => ?_)
                    refine lv_goto (tgt := 46) hx hb dX6_ask_112 (by decide) ?_
                    have e9 : mrich (mt0 S) b9 s9 p9 i = mrich (mt0 S) b9 s9 p9 (i + 1) := by first | rfl | (simp only [mrich, c_8, c_17, c_19, decide_true, decide_false, Bool.not_true, Bool.not_false, Bool.true_and, Bool.and_true, Bool.false_and, Bool.and_false, Bool.or_true, Bool.true_or, Bool.or_false, Bool.false_or, Bool.false_eq_true, Bool.true_eq_false, if_true, if_false, ↓reduceIte]; done)
                    try rw [e9] at hl
                    exact ih_46 (i + 1) (by omega) (by omega) _ _ _ hw (lv_sub hl [1, 2, 3, 4, 5, 6, 0] rfl)
          have e9 : (-1) = mrich (mt0 S) b9 s9 p9 0 := by first | rfl | (simp only [mrich, c_2, ec_b9, c_4, ec_s9, c_6, ec_p9, c_7, decide_true, decide_false, Bool.not_true, Bool.not_false, Bool.true_and, Bool.and_true, Bool.false_and, Bool.and_false, Bool.or_true, Bool.true_or, Bool.or_false, Bool.false_or, Bool.false_eq_true, Bool.true_eq_false, if_true, if_false, ↓reduceIte]; done)
          try rw [e9] at hl
          exact lp_46 7 0 (by omega) (by omega) _ _ _ hw (lv_sub hl [2, 3, 4, 5, 6, 1, 0] rfl)
        · skip
          refine lv_iconst (v := (-1)) hx hb dX6_ask_38 (by decide) ?_
          exact ct_iret (S := mt0 S) (v := (-1)) hx hb hr hlocks hK hw (⟨by simp only [makF, makR, c_2, ec_b9, c_4, ec_s9, c_6, ec_p9, c_7, makG, decide_true, decide_false, Bool.not_true, Bool.not_false, Bool.true_and, Bool.and_true, Bool.false_and, Bool.and_false, Bool.or_true, Bool.true_or, Bool.or_false, Bool.false_or, Bool.false_eq_true, Bool.true_eq_false, if_true, if_false, ↓reduceIte], by simp only [makF, makR, c_2, ec_b9, c_4, ec_s9, c_6, ec_p9, c_7, makG, decide_true, decide_false, Bool.not_true, Bool.not_false, Bool.true_and, Bool.and_true, Bool.false_and, Bool.and_false, Bool.or_true, Bool.true_or, Bool.or_false, Bool.false_or, Bool.false_eq_true, Bool.true_eq_false, if_true, if_false, ↓reduceIte]⟩) dX6_ask_39
