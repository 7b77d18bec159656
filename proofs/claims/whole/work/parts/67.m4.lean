theorem dX6_lose_0 : decode cX6_lose 0 = .ok (.aload_n 0, 1) := by decide +kernel
theorem dX6_lose_1 : decode cX6_lose 1 = .ok (.iconst 0, 1) := by decide +kernel
theorem dX6_lose_2 : decode cX6_lose 2 = .ok (.putfield 78, 3) := by decide +kernel
theorem dX6_lose_5 : decode cX6_lose 5 = .ok (.aload_n 0, 1) := by decide +kernel
theorem dX6_lose_6 : decode cX6_lose 6 = .ok (.iload_n 1, 1) := by decide +kernel
theorem dX6_lose_7 : decode cX6_lose 7 = .ok (.invokevirtual 137, 3) := by decide +kernel
theorem dX6_lose_10 : decode cX6_lose 10 = .ok (.ifCond .eq 12, 3) := by decide +kernel
theorem dX6_lose_13 : decode cX6_lose 13 = .ok (.aload_n 0, 1) := by decide +kernel
theorem dX6_lose_14 : decode cX6_lose 14 = .ok (.getfield 60, 3) := by decide +kernel
theorem dX6_lose_17 : decode cX6_lose 17 = .ok (.iload_n 1, 1) := by decide +kernel
theorem dX6_lose_18 : decode cX6_lose 18 = .ok (.iaload, 1) := by decide +kernel
theorem dX6_lose_19 : decode cX6_lose 19 = .ok (.ifCond .eq 5, 3) := by decide +kernel
theorem dX6_lose_22 : decode cX6_lose 22 = .ok (.iconst 0, 1) := by decide +kernel
theorem dX6_lose_23 : decode cX6_lose 23 = .ok (.ireturn, 1) := by decide +kernel
theorem dX6_lose_24 : decode cX6_lose 24 = .ok (.aload_n 0, 1) := by decide +kernel
theorem dX6_lose_25 : decode cX6_lose 25 = .ok (.getfield 60, 3) := by decide +kernel
theorem dX6_lose_28 : decode cX6_lose 28 = .ok (.iload_n 1, 1) := by decide +kernel
theorem dX6_lose_29 : decode cX6_lose 29 = .ok (.iconst 2, 1) := by decide +kernel
theorem dX6_lose_30 : decode cX6_lose 30 = .ok (.iastore, 1) := by decide +kernel
theorem dX6_lose_31 : decode cX6_lose 31 = .ok (.iconst 1, 1) := by decide +kernel
theorem dX6_lose_32 : decode cX6_lose 32 = .ok (.ireturn, 1) := by decide +kernel

theorem dX6_deliver_0 : decode cX6_deliver 0 = .ok (.aload_n 0, 1) := by decide +kernel
theorem dX6_deliver_1 : decode cX6_deliver 1 = .ok (.iconst 0, 1) := by decide +kernel
theorem dX6_deliver_2 : decode cX6_deliver 2 = .ok (.putfield 78, 3) := by decide +kernel
theorem dX6_deliver_5 : decode cX6_deliver 5 = .ok (.aload_n 0, 1) := by decide +kernel
theorem dX6_deliver_6 : decode cX6_deliver 6 = .ok (.iload_n 1, 1) := by decide +kernel
theorem dX6_deliver_7 : decode cX6_deliver 7 = .ok (.invokevirtual 137, 3) := by decide +kernel
theorem dX6_deliver_10 : decode cX6_deliver 10 = .ok (.ifCond .eq 13, 3) := by decide +kernel
theorem dX6_deliver_13 : decode cX6_deliver 13 = .ok (.aload_n 0, 1) := by decide +kernel
theorem dX6_deliver_14 : decode cX6_deliver 14 = .ok (.getfield 60, 3) := by decide +kernel
theorem dX6_deliver_17 : decode cX6_deliver 17 = .ok (.iload_n 1, 1) := by decide +kernel
theorem dX6_deliver_18 : decode cX6_deliver 18 = .ok (.iaload, 1) := by decide +kernel
theorem dX6_deliver_19 : decode cX6_deliver 19 = .ok (.iconst 2, 1) := by decide +kernel
theorem dX6_deliver_20 : decode cX6_deliver 20 = .ok (.if_icmp .ne 5, 3) := by decide +kernel
theorem dX6_deliver_23 : decode cX6_deliver 23 = .ok (.iconst (-1), 1) := by decide +kernel
theorem dX6_deliver_24 : decode cX6_deliver 24 = .ok (.ireturn, 1) := by decide +kernel
theorem dX6_deliver_25 : decode cX6_deliver 25 = .ok (.aload_n 0, 1) := by decide +kernel
theorem dX6_deliver_26 : decode cX6_deliver 26 = .ok (.getfield 63, 3) := by decide +kernel
theorem dX6_deliver_29 : decode cX6_deliver 29 = .ok (.iload_n 1, 1) := by decide +kernel
theorem dX6_deliver_30 : decode cX6_deliver 30 = .ok (.dup2, 1) := by decide +kernel
theorem dX6_deliver_31 : decode cX6_deliver 31 = .ok (.iaload, 1) := by decide +kernel
theorem dX6_deliver_32 : decode cX6_deliver 32 = .ok (.iconst 1, 1) := by decide +kernel
theorem dX6_deliver_33 : decode cX6_deliver 33 = .ok (.iadd, 1) := by decide +kernel
theorem dX6_deliver_34 : decode cX6_deliver 34 = .ok (.iastore, 1) := by decide +kernel
theorem dX6_deliver_35 : decode cX6_deliver 35 = .ok (.aload_n 0, 1) := by decide +kernel
theorem dX6_deliver_36 : decode cX6_deliver 36 = .ok (.getfield 60, 3) := by decide +kernel
theorem dX6_deliver_39 : decode cX6_deliver 39 = .ok (.iload_n 1, 1) := by decide +kernel
theorem dX6_deliver_40 : decode cX6_deliver 40 = .ok (.iaload, 1) := by decide +kernel
theorem dX6_deliver_41 : decode cX6_deliver 41 = .ok (.iconst 1, 1) := by decide +kernel
theorem dX6_deliver_42 : decode cX6_deliver 42 = .ok (.if_icmp .ne 5, 3) := by decide +kernel
theorem dX6_deliver_45 : decode cX6_deliver 45 = .ok (.iconst 0, 1) := by decide +kernel
theorem dX6_deliver_46 : decode cX6_deliver 46 = .ok (.ireturn, 1) := by decide +kernel
theorem dX6_deliver_47 : decode cX6_deliver 47 = .ok (.aload_n 0, 1) := by decide +kernel
theorem dX6_deliver_48 : decode cX6_deliver 48 = .ok (.getfield 60, 3) := by decide +kernel
theorem dX6_deliver_51 : decode cX6_deliver 51 = .ok (.iload_n 1, 1) := by decide +kernel
theorem dX6_deliver_52 : decode cX6_deliver 52 = .ok (.iconst 1, 1) := by decide +kernel
theorem dX6_deliver_53 : decode cX6_deliver 53 = .ok (.iastore, 1) := by decide +kernel
theorem dX6_deliver_54 : decode cX6_deliver 54 = .ok (.aload_n 0, 1) := by decide +kernel
theorem dX6_deliver_55 : decode cX6_deliver 55 = .ok (.getfield 19, 3) := by decide +kernel
theorem dX6_deliver_58 : decode cX6_deliver 58 = .ok (.aload_n 0, 1) := by decide +kernel
theorem dX6_deliver_59 : decode cX6_deliver 59 = .ok (.getfield 45, 3) := by decide +kernel
theorem dX6_deliver_62 : decode cX6_deliver 62 = .ok (.iload_n 1, 1) := by decide +kernel
theorem dX6_deliver_63 : decode cX6_deliver 63 = .ok (.iaload, 1) := by decide +kernel
theorem dX6_deliver_64 : decode cX6_deliver 64 = .ok (.aload_n 0, 1) := by decide +kernel
theorem dX6_deliver_65 : decode cX6_deliver 65 = .ok (.getfield 48, 3) := by decide +kernel
theorem dX6_deliver_68 : decode cX6_deliver 68 = .ok (.iload_n 1, 1) := by decide +kernel
theorem dX6_deliver_69 : decode cX6_deliver 69 = .ok (.iaload, 1) := by decide +kernel
theorem dX6_deliver_70 : decode cX6_deliver 70 = .ok (.aload_n 0, 1) := by decide +kernel
theorem dX6_deliver_71 : decode cX6_deliver 71 = .ok (.getfield 54, 3) := by decide +kernel
theorem dX6_deliver_74 : decode cX6_deliver 74 = .ok (.iload_n 1, 1) := by decide +kernel
theorem dX6_deliver_75 : decode cX6_deliver 75 = .ok (.iaload, 1) := by decide +kernel
theorem dX6_deliver_76 : decode cX6_deliver 76 = .ok (.invokestatic 111, 3) := by decide +kernel
theorem dX6_deliver_79 : decode cX6_deliver 79 = .ok (.dup2, 1) := by decide +kernel
theorem dX6_deliver_80 : decode cX6_deliver 80 = .ok (.laload, 1) := by decide +kernel
theorem dX6_deliver_81 : decode cX6_deliver 81 = .ok (.aload_n 0, 1) := by decide +kernel
theorem dX6_deliver_82 : decode cX6_deliver 82 = .ok (.getfield 57, 3) := by decide +kernel
theorem dX6_deliver_85 : decode cX6_deliver 85 = .ok (.iload_n 1, 1) := by decide +kernel
theorem dX6_deliver_86 : decode cX6_deliver 86 = .ok (.laload, 1) := by decide +kernel
theorem dX6_deliver_87 : decode cX6_deliver 87 = .ok (.ladd, 1) := by decide +kernel
theorem dX6_deliver_88 : decode cX6_deliver 88 = .ok (.lastore, 1) := by decide +kernel
theorem dX6_deliver_89 : decode cX6_deliver 89 = .ok (.aload_n 0, 1) := by decide +kernel
theorem dX6_deliver_90 : decode cX6_deliver 90 = .ok (.aload_n 0, 1) := by decide +kernel
theorem dX6_deliver_91 : decode cX6_deliver 91 = .ok (.getfield 54, 3) := by decide +kernel
theorem dX6_deliver_94 : decode cX6_deliver 94 = .ok (.iload_n 1, 1) := by decide +kernel
theorem dX6_deliver_95 : decode cX6_deliver 95 = .ok (.iaload, 1) := by decide +kernel
theorem dX6_deliver_96 : decode cX6_deliver 96 = .ok (.invokevirtual 140, 3) := by decide +kernel
theorem dX6_deliver_99 : decode cX6_deliver 99 = .ok (.iconst 1, 1) := by decide +kernel
theorem dX6_deliver_100 : decode cX6_deliver 100 = .ok (.ireturn, 1) := by decide +kernel

theorem dX6_row_0 : decode cX6_row 0 = .ok (.aload_n 0, 1) := by decide +kernel
theorem dX6_row_1 : decode cX6_row 1 = .ok (.iconst 0, 1) := by decide +kernel
theorem dX6_row_2 : decode cX6_row 2 = .ok (.putfield 78, 3) := by decide +kernel
theorem dX6_row_5 : decode cX6_row 5 = .ok (.aload_n 0, 1) := by decide +kernel
theorem dX6_row_6 : decode cX6_row 6 = .ok (.iload_n 1, 1) := by decide +kernel
theorem dX6_row_7 : decode cX6_row 7 = .ok (.invokevirtual 137, 3) := by decide +kernel
theorem dX6_row_10 : decode cX6_row 10 = .ok (.ifCond .ne 5, 3) := by decide +kernel
theorem dX6_row_13 : decode cX6_row 13 = .ok (.iconst (-1), 1) := by decide +kernel
theorem dX6_row_14 : decode cX6_row 14 = .ok (.ireturn, 1) := by decide +kernel
theorem dX6_row_15 : decode cX6_row 15 = .ok (.iload_n 2, 1) := by decide +kernel
theorem dX6_row_16 : decode cX6_row 16 = .ok (.tableswitch 82 0 5 #[40, 47, 54, 61, 68, 75], 40) := by decide +kernel
theorem dX6_row_56 : decode cX6_row 56 = .ok (.aload_n 0, 1) := by decide +kernel
theorem dX6_row_57 : decode cX6_row 57 = .ok (.getfield 45, 3) := by decide +kernel
theorem dX6_row_60 : decode cX6_row 60 = .ok (.iload_n 1, 1) := by decide +kernel
theorem dX6_row_61 : decode cX6_row 61 = .ok (.iaload, 1) := by decide +kernel
theorem dX6_row_62 : decode cX6_row 62 = .ok (.ireturn, 1) := by decide +kernel
theorem dX6_row_63 : decode cX6_row 63 = .ok (.aload_n 0, 1) := by decide +kernel
theorem dX6_row_64 : decode cX6_row 64 = .ok (.getfield 48, 3) := by decide +kernel
theorem dX6_row_67 : decode cX6_row 67 = .ok (.iload_n 1, 1) := by decide +kernel
theorem dX6_row_68 : decode cX6_row 68 = .ok (.iaload, 1) := by decide +kernel
theorem dX6_row_69 : decode cX6_row 69 = .ok (.ireturn, 1) := by decide +kernel
theorem dX6_row_70 : decode cX6_row 70 = .ok (.aload_n 0, 1) := by decide +kernel
theorem dX6_row_71 : decode cX6_row 71 = .ok (.getfield 51, 3) := by decide +kernel
theorem dX6_row_74 : decode cX6_row 74 = .ok (.iload_n 1, 1) := by decide +kernel
theorem dX6_row_75 : decode cX6_row 75 = .ok (.iaload, 1) := by decide +kernel
theorem dX6_row_76 : decode cX6_row 76 = .ok (.ireturn, 1) := by decide +kernel
theorem dX6_row_77 : decode cX6_row 77 = .ok (.aload_n 0, 1) := by decide +kernel
theorem dX6_row_78 : decode cX6_row 78 = .ok (.getfield 54, 3) := by decide +kernel
theorem dX6_row_81 : decode cX6_row 81 = .ok (.iload_n 1, 1) := by decide +kernel
theorem dX6_row_82 : decode cX6_row 82 = .ok (.iaload, 1) := by decide +kernel
theorem dX6_row_83 : decode cX6_row 83 = .ok (.ireturn, 1) := by decide +kernel
theorem dX6_row_84 : decode cX6_row 84 = .ok (.aload_n 0, 1) := by decide +kernel
theorem dX6_row_85 : decode cX6_row 85 = .ok (.getfield 60, 3) := by decide +kernel
theorem dX6_row_88 : decode cX6_row 88 = .ok (.iload_n 1, 1) := by decide +kernel
theorem dX6_row_89 : decode cX6_row 89 = .ok (.iaload, 1) := by decide +kernel
theorem dX6_row_90 : decode cX6_row 90 = .ok (.ireturn, 1) := by decide +kernel
theorem dX6_row_91 : decode cX6_row 91 = .ok (.aload_n 0, 1) := by decide +kernel
theorem dX6_row_92 : decode cX6_row 92 = .ok (.getfield 63, 3) := by decide +kernel
theorem dX6_row_95 : decode cX6_row 95 = .ok (.iload_n 1, 1) := by decide +kernel
theorem dX6_row_96 : decode cX6_row 96 = .ok (.iaload, 1) := by decide +kernel
theorem dX6_row_97 : decode cX6_row 97 = .ok (.ireturn, 1) := by decide +kernel
theorem dX6_row_98 : decode cX6_row 98 = .ok (.iconst (-1), 1) := by decide +kernel
theorem dX6_row_99 : decode cX6_row 99 = .ok (.ireturn, 1) := by decide +kernel

theorem dX6_total_0 : decode cX6_total 0 = .ok (.aload_n 0, 1) := by decide +kernel
theorem dX6_total_1 : decode cX6_total 1 = .ok (.iconst 0, 1) := by decide +kernel
theorem dX6_total_2 : decode cX6_total 2 = .ok (.putfield 78, 3) := by decide +kernel
theorem dX6_total_5 : decode cX6_total 5 = .ok (.iload_n 1, 1) := by decide +kernel
theorem dX6_total_6 : decode cX6_total 6 = .ok (.ifCond .ne 10, 3) := by decide +kernel
theorem dX6_total_9 : decode cX6_total 9 = .ok (.aload_n 0, 1) := by decide +kernel
theorem dX6_total_10 : decode cX6_total 10 = .ok (.getfield 88, 3) := by decide +kernel
theorem dX6_total_13 : decode cX6_total 13 = .ok (.goto 40, 3) := by decide +kernel
theorem dX6_total_16 : decode cX6_total 16 = .ok (.iload_n 1, 1) := by decide +kernel
theorem dX6_total_17 : decode cX6_total 17 = .ok (.iconst 1, 1) := by decide +kernel
theorem dX6_total_18 : decode cX6_total 18 = .ok (.if_icmp .ne 10, 3) := by decide +kernel
theorem dX6_total_21 : decode cX6_total 21 = .ok (.aload_n 0, 1) := by decide +kernel
theorem dX6_total_22 : decode cX6_total 22 = .ok (.getfield 130, 3) := by decide +kernel
theorem dX6_total_25 : decode cX6_total 25 = .ok (.goto 28, 3) := by decide +kernel
theorem dX6_total_28 : decode cX6_total 28 = .ok (.iload_n 1, 1) := by decide +kernel
theorem dX6_total_29 : decode cX6_total 29 = .ok (.iconst 2, 1) := by decide +kernel
theorem dX6_total_30 : decode cX6_total 30 = .ok (.if_icmp .ne 10, 3) := by decide +kernel
theorem dX6_total_33 : decode cX6_total 33 = .ok (.aload_n 0, 1) := by decide +kernel
theorem dX6_total_34 : decode cX6_total 34 = .ok (.getfield 115, 3) := by decide +kernel
theorem dX6_total_37 : decode cX6_total 37 = .ok (.goto 16, 3) := by decide +kernel
theorem dX6_total_40 : decode cX6_total 40 = .ok (.iload_n 1, 1) := by decide +kernel
theorem dX6_total_41 : decode cX6_total 41 = .ok (.iconst 3, 1) := by decide +kernel
theorem dX6_total_42 : decode cX6_total 42 = .ok (.if_icmp .ne 10, 3) := by decide +kernel
theorem dX6_total_45 : decode cX6_total 45 = .ok (.aload_n 0, 1) := by decide +kernel
theorem dX6_total_46 : decode cX6_total 46 = .ok (.getfield 127, 3) := by decide +kernel
theorem dX6_total_49 : decode cX6_total 49 = .ok (.goto 4, 3) := by decide +kernel
theorem dX6_total_52 : decode cX6_total 52 = .ok (.iconst (-1), 1) := by decide +kernel
theorem dX6_total_53 : decode cX6_total 53 = .ok (.ireturn, 1) := by decide +kernel

theorem dX6_person_0 : decode cX6_person 0 = .ok (.aload_n 0, 1) := by decide +kernel
theorem dX6_person_1 : decode cX6_person 1 = .ok (.iconst 0, 1) := by decide +kernel
theorem dX6_person_2 : decode cX6_person 2 = .ok (.putfield 78, 3) := by decide +kernel
theorem dX6_person_5 : decode cX6_person 5 = .ok (.iload_n 1, 1) := by decide +kernel
theorem dX6_person_6 : decode cX6_person 6 = .ok (.i2l, 1) := by decide +kernel
theorem dX6_person_7 : decode cX6_person 7 = .ok (.lconst 0, 1) := by decide +kernel
theorem dX6_person_8 : decode cX6_person 8 = .ok (.ldc2_w 82, 3) := by decide +kernel
theorem dX6_person_11 : decode cX6_person 11 = .ok (.invokestatic 84, 3) := by decide +kernel
theorem dX6_person_14 : decode cX6_person 14 = .ok (.ifCond .ne 5, 3) := by decide +kernel
theorem dX6_person_17 : decode cX6_person 17 = .ok (.iconst (-1), 1) := by decide +kernel
theorem dX6_person_18 : decode cX6_person 18 = .ok (.ireturn, 1) := by decide +kernel
theorem dX6_person_19 : decode cX6_person 19 = .ok (.iconst 0, 1) := by decide +kernel
theorem dX6_person_20 : decode cX6_person 20 = .ok (.istore_n 3, 1) := by decide +kernel
theorem dX6_person_21 : decode cX6_person 21 = .ok (.iconst 0, 1) := by decide +kernel
theorem dX6_person_22 : decode cX6_person 22 = .ok (.istore 4, 2) := by decide +kernel
theorem dX6_person_24 : decode cX6_person 24 = .ok (.iload 4, 2) := by decide +kernel
theorem dX6_person_26 : decode cX6_person 26 = .ok (.bipush 6, 2) := by decide +kernel
theorem dX6_person_28 : decode cX6_person 28 = .ok (.if_icmp .ge 32, 3) := by decide +kernel
theorem dX6_person_31 : decode cX6_person 31 = .ok (.iload_n 3, 1) := by decide +kernel
theorem dX6_person_32 : decode cX6_person 32 = .ok (.aload_n 0, 1) := by decide +kernel
theorem dX6_person_33 : decode cX6_person 33 = .ok (.getfield 33, 3) := by decide +kernel
theorem dX6_person_36 : decode cX6_person 36 = .ok (.bipush 6, 2) := by decide +kernel
theorem dX6_person_38 : decode cX6_person 38 = .ok (.iload_n 1, 1) := by decide +kernel
theorem dX6_person_39 : decode cX6_person 39 = .ok (.imul, 1) := by decide +kernel
theorem dX6_person_40 : decode cX6_person 40 = .ok (.iload 4, 2) := by decide +kernel
theorem dX6_person_42 : decode cX6_person 42 = .ok (.iadd, 1) := by decide +kernel
theorem dX6_person_43 : decode cX6_person 43 = .ok (.baload, 1) := by decide +kernel
theorem dX6_person_44 : decode cX6_person 44 = .ok (.ifCond .eq 7, 3) := by decide +kernel
theorem dX6_person_47 : decode cX6_person 47 = .ok (.iconst 1, 1) := by decide +kernel
theorem dX6_person_48 : decode cX6_person 48 = .ok (.goto 4, 3) := by decide +kernel
theorem dX6_person_51 : decode cX6_person 51 = .ok (.iconst 0, 1) := by decide +kernel
theorem dX6_person_52 : decode cX6_person 52 = .ok (.iadd, 1) := by decide +kernel
theorem dX6_person_53 : decode cX6_person 53 = .ok (.istore_n 3, 1) := by decide +kernel
theorem dX6_person_54 : decode cX6_person 54 = .ok (.iinc 4 1, 3) := by decide +kernel
theorem dX6_person_57 : decode cX6_person 57 = .ok (.goto (-33), 3) := by decide +kernel
theorem dX6_person_60 : decode cX6_person 60 = .ok (.iload_n 2, 1) := by decide +kernel
theorem dX6_person_61 : decode cX6_person 61 = .ok (.ifCond .ne 12, 3) := by decide +kernel
theorem dX6_person_64 : decode cX6_person 64 = .ok (.aload_n 0, 1) := by decide +kernel
theorem dX6_person_65 : decode cX6_person 65 = .ok (.getfield 25, 3) := by decide +kernel
theorem dX6_person_68 : decode cX6_person 68 = .ok (.iload_n 1, 1) := by decide +kernel
theorem dX6_person_69 : decode cX6_person 69 = .ok (.iaload, 1) := by decide +kernel
theorem dX6_person_70 : decode cX6_person 70 = .ok (.goto 49, 3) := by decide +kernel
theorem dX6_person_73 : decode cX6_person 73 = .ok (.iload_n 2, 1) := by decide +kernel
theorem dX6_person_74 : decode cX6_person 74 = .ok (.iconst 1, 1) := by decide +kernel
theorem dX6_person_75 : decode cX6_person 75 = .ok (.if_icmp .ne 20, 3) := by decide +kernel
theorem dX6_person_78 : decode cX6_person 78 = .ok (.aload_n 0, 1) := by decide +kernel
theorem dX6_person_79 : decode cX6_person 79 = .ok (.getfield 29, 3) := by decide +kernel
theorem dX6_person_82 : decode cX6_person 82 = .ok (.iload_n 1, 1) := by decide +kernel
theorem dX6_person_83 : decode cX6_person 83 = .ok (.baload, 1) := by decide +kernel
theorem dX6_person_84 : decode cX6_person 84 = .ok (.ifCond .eq 7, 3) := by decide +kernel
theorem dX6_person_87 : decode cX6_person 87 = .ok (.iconst 1, 1) := by decide +kernel
theorem dX6_person_88 : decode cX6_person 88 = .ok (.goto 31, 3) := by decide +kernel
theorem dX6_person_91 : decode cX6_person 91 = .ok (.iconst 0, 1) := by decide +kernel
theorem dX6_person_92 : decode cX6_person 92 = .ok (.goto 27, 3) := by decide +kernel
theorem dX6_person_95 : decode cX6_person 95 = .ok (.iload_n 2, 1) := by decide +kernel
theorem dX6_person_96 : decode cX6_person 96 = .ok (.iconst 2, 1) := by decide +kernel
theorem dX6_person_97 : decode cX6_person 97 = .ok (.if_icmp .ne 12, 3) := by decide +kernel
theorem dX6_person_100 : decode cX6_person 100 = .ok (.aload_n 0, 1) := by decide +kernel
theorem dX6_person_101 : decode cX6_person 101 = .ok (.getfield 36, 3) := by decide +kernel
theorem dX6_person_104 : decode cX6_person 104 = .ok (.iload_n 1, 1) := by decide +kernel
theorem dX6_person_105 : decode cX6_person 105 = .ok (.iaload, 1) := by decide +kernel
theorem dX6_person_106 : decode cX6_person 106 = .ok (.goto 13, 3) := by decide +kernel
theorem dX6_person_109 : decode cX6_person 109 = .ok (.iload_n 2, 1) := by decide +kernel
theorem dX6_person_110 : decode cX6_person 110 = .ok (.iconst 3, 1) := by decide +kernel
theorem dX6_person_111 : decode cX6_person 111 = .ok (.if_icmp .ne 7, 3) := by decide +kernel
theorem dX6_person_114 : decode cX6_person 114 = .ok (.iload_n 3, 1) := by decide +kernel
theorem dX6_person_115 : decode cX6_person 115 = .ok (.goto 4, 3) := by decide +kernel
theorem dX6_person_118 : decode cX6_person 118 = .ok (.iconst (-1), 1) := by decide +kernel
theorem dX6_person_119 : decode cX6_person 119 = .ok (.ireturn, 1) := by decide +kernel

set_option maxHeartbeats 4000000 in
set_option maxRecDepth 100000 in
theorem kX6_lose (l : Launch) (dC : Nat → ClassId) (dI : Nat → Nat → Nat) (ca : Nat → ClassId) (ad : Nat → Nat) (S : sSt) (rr : Int32) (nb : Nat) (nr : Nat) (hb6 : nb ≤ 6) (hr2 : nr ≤ 200) (hmi : MI nb nr S) : ct_I l yX6_lose (Cond.code yX6_lose cX6_lose 2 (some .boolean) :: wa_T) ({ frames := 2, cells := 0, slots := 0, locals := 46 } : Room) (dC, dI) vwCl (tyl ca) (wq ca ad) S [.ref (ad 0), .int rr] (fun r S2 => r = bI (mlsOk (mt0 S) rr) ∧ S2 = (if mlsOk (mt0 S) rr = true then sI (mt0 S) 17 rr.toNatClampNeg (nI 2) else (mt0 S))) := by
  refine ct_ofI (by decide) (Nat.le_of_ble_eq_true rfl) ?_
  intro p e s m below meth c A ls hx hb hr hml hts hown hlocks hK hA hw hl
  have hl : lv_has ls 2 [(0, .ref (ad 0)), (1, .int rr)] := hl
  refine lv_aload_n hx hb dX6_lose_0 rfl (lv_at hl 0 rfl) ?_
  refine lv_iconst (v := nI 0) hx hb dX6_lose_1 (by decide) ?_
  refine wo_put (ty := .int) (v := .int (nI 0)) hx hb hts inX6 tyX6 tyX6_ok nmX6 hown hK hw 0 rfl rfl 0 (by decide) (hts _ wd_565) (fun _ h9 => h9) rfl (by decide +kernel) rfl rfl (Nat.le_of_ble_eq_true rfl) (sg_0 ca ad S (nI 0)) dX6_lose_2 (fun H locs hw => ?_)
  have hw : wo_w (dC, dI) vwCl A s.heap (wq ca ad (mt0 S)) H locs := hw
  have hmt := MI_0 hmi
  refine lv_aload_n hx hb dX6_lose_5 rfl (lv_at hl 0 rfl) ?_
  refine lv_iload_n hx hb dX6_lose_6 rfl (lv_at hl 1 rfl) ?_
  refine wo_vI (As := [.int rr]) (rest := []) (kX6_isRow l dC dI ca ad (mt0 S) rr) ⟨hx, hb, hml, hown, hts⟩ (cwV 1 hts (wa_gV wd_716 wd_718 ws_19 wd_8 wd_719) rfl rfl rfl (by decide +kernel) ⟨Nat.le_of_ble_eq_true rfl, Nat.le_of_ble_eq_true rfl⟩) hK hw hA 0 rfl rfl rfl rfl hl.1 rfl (Nat.le_of_ble_eq_true rfl) dX6_lose_7 ⟨Nat.zero_le _, Nat.zero_le _⟩ (fun r_1 S_1 H locs hp_1 hw => ?_)
  have e9 := hp_1.1.symm
  subst e9
  have e9 := hp_1.2.symm
  subst e9
  refine lv_if_eq (tgt := 22) hx hb dX6_lose_10 (by decide) (fun c_2 => ?_) (fun c_2 => ?_)
  · skip
    have c_2 : mrw (mt0 S) rr = false := nb_0 c_2
    refine lv_iconst (v := nI 0) hx hb dX6_lose_22 (by decide) ?_
    exact ct_zret (S := mt0 S) (v := nI 0) hx hb hr hlocks hK (by first | decide | exact nb_z _) hw (⟨by simp only [bI, mlsOk, c_2, decide_true, decide_false, Bool.not_true, Bool.not_false, Bool.true_and, Bool.and_true, Bool.false_and, Bool.and_false, Bool.or_true, Bool.true_or, Bool.or_false, Bool.false_or, Bool.false_eq_true, Bool.true_eq_false, if_true, if_false, ↓reduceIte], by simp only [mlsOk, c_2, decide_true, decide_false, Bool.not_true, Bool.not_false, Bool.true_and, Bool.and_true, Bool.false_and, Bool.and_false, Bool.or_true, Bool.true_or, Bool.or_false, Bool.false_or, Bool.false_eq_true, Bool.true_eq_false, if_true, if_false, ↓reduceIte]⟩) dX6_lose_23
  · skip
    have c_2 : mrw (mt0 S) rr = true := nb_1 c_2
    obtain ⟨r9, hr9, hr9n, rfl⟩ := mrw_n hmt.2.2 hr2 c_2
    have ec_r9 := nI_clamp (n := r9) (by omega)
    refine lv_aload_n hx hb dX6_lose_13 rfl (lv_at hl 0 rfl) ?_
    refine wo_get hx hb hts inX6 hown hK hw 0 rfl rfl 19 (by decide) (hts _ wd_584) (fun _ h9 => h9) rfl dX6_lose_14 ?_
    refine lv_iload_n hx hb dX6_lose_17 rfl (lv_at hl 1 rfl) ?_
    refine wo_iald hx hb hK hw 17 0 rfl rfl r9 rfl (by first | assumption | omega) (by decide) dX6_lose_18 ?_
    refine lv_if_eq (tgt := 24) hx hb dX6_lose_19 (by decide) (fun c_3 => ?_) (fun c_3 => ?_)
    · skip
      refine lv_aload_n hx hb dX6_lose_24 rfl (lv_at hl 0 rfl) ?_
      refine wo_get hx hb hts inX6 hown hK hw 0 rfl rfl 19 (by decide) (hts _ wd_584) (fun _ h9 => h9) rfl dX6_lose_25 ?_
      refine lv_iload_n hx hb dX6_lose_28 rfl (lv_at hl 1 rfl) ?_
      refine lv_iconst (v := nI 2) hx hb dX6_lose_29 (by decide) ?_
      refine wo_iast hx hb hK hw 17 0 rfl rfl r9 rfl (by first | assumption | omega) (by decide) (sm_17 ca ad (mt0 S) r9 (nI 2)) dX6_lose_30 (fun H locs hw => ?_)
      refine lv_iconst (v := nI 1) hx hb dX6_lose_31 (by decide) ?_
      exact ct_zret (S := sI (mt0 S) 17 r9 (nI 2)) (v := nI 1) hx hb hr hlocks hK (by first | decide | exact nb_z _) hw (⟨by simp only [bI, mlsOk, c_2, ec_r9, c_3, decide_true, decide_false, Bool.not_true, Bool.not_false, Bool.true_and, Bool.and_true, Bool.false_and, Bool.and_false, Bool.or_true, Bool.true_or, Bool.or_false, Bool.false_or, Bool.false_eq_true, Bool.true_eq_false, if_true, if_false, ↓reduceIte], by simp only [mlsOk, c_2, ec_r9, c_3, decide_true, decide_false, Bool.not_true, Bool.not_false, Bool.true_and, Bool.and_true, Bool.false_and, Bool.and_false, Bool.or_true, Bool.true_or, Bool.or_false, Bool.false_or, Bool.false_eq_true, Bool.true_eq_false, if_true, if_false, ↓reduceIte]⟩) dX6_lose_32
    · skip
      refine lv_iconst (v := nI 0) hx hb dX6_lose_22 (by decide) ?_
      exact ct_zret (S := mt0 S) (v := nI 0) hx hb hr hlocks hK (by first | decide | exact nb_z _) hw (⟨by simp only [bI, mlsOk, c_2, ec_r9, c_3, decide_true, decide_false, Bool.not_true, Bool.not_false, Bool.true_and, Bool.and_true, Bool.false_and, Bool.and_false, Bool.or_true, Bool.true_or, Bool.or_false, Bool.false_or, Bool.false_eq_true, Bool.true_eq_false, if_true, if_false, ↓reduceIte], by simp only [mlsOk, c_2, ec_r9, c_3, decide_true, decide_false, Bool.not_true, Bool.not_false, Bool.true_and, Bool.and_true, Bool.false_and, Bool.and_false, Bool.or_true, Bool.true_or, Bool.or_false, Bool.false_or, Bool.false_eq_true, Bool.true_eq_false, if_true, if_false, ↓reduceIte]⟩) dX6_lose_23

set_option maxHeartbeats 4000000 in
set_option maxRecDepth 100000 in
theorem kX6_deliver (l : Launch) (dC : Nat → ClassId) (dI : Nat → Nat → Nat) (ca : Nat → ClassId) (ad : Nat → Nat) (S : sSt) (rr : Int32) (nb : Nat) (nr : Nat) (hb6 : nb ≤ 6) (hr2 : nr ≤ 200) (hmi : MI nb nr S) (hrows : MRW nb nr S) : ct_I l yX6_deliver (Cond.code yX6_deliver cX6_deliver 2 (some .int) :: wa_T) ({ frames := 3, cells := 0, slots := 0, locals := 71 } : Room) (dC, dI) vwCl (tyl ca) (wq ca ad) S [.ref (ad 0), .int rr] (fun r S2 => r = (mdlF (mt0 S) rr).1 ∧ S2 = (mdlF (mt0 S) rr).2) := by
  refine ct_ofI (by decide) (Nat.le_of_ble_eq_true rfl) ?_
  intro p e s m below meth c A ls hx hb hr hml hts hown hlocks hK hA hw hl
  have hl : lv_has ls 2 [(0, .ref (ad 0)), (1, .int rr)] := hl
  refine lv_aload_n hx hb dX6_deliver_0 rfl (lv_at hl 0 rfl) ?_
  refine lv_iconst (v := nI 0) hx hb dX6_deliver_1 (by decide) ?_
  refine wo_put (ty := .int) (v := .int (nI 0)) hx hb hts inX6 tyX6 tyX6_ok nmX6 hown hK hw 0 rfl rfl 0 (by decide) (hts _ wd_565) (fun _ h9 => h9) rfl (by decide +kernel) rfl rfl (Nat.le_of_ble_eq_true rfl) (sg_0 ca ad S (nI 0)) dX6_deliver_2 (fun H locs hw => ?_)
  have hw : wo_w (dC, dI) vwCl A s.heap (wq ca ad (mt0 S)) H locs := hw
  have hmt := MI_0 hmi
  refine lv_aload_n hx hb dX6_deliver_5 rfl (lv_at hl 0 rfl) ?_
  refine lv_iload_n hx hb dX6_deliver_6 rfl (lv_at hl 1 rfl) ?_
  refine wo_vI (As := [.int rr]) (rest := []) (kX6_isRow l dC dI ca ad (mt0 S) rr) ⟨hx, hb, hml, hown, hts⟩ (cwV 1 hts (wa_gV wd_716 wd_718 ws_19 wd_8 wd_719) rfl rfl rfl (by decide +kernel) ⟨Nat.le_of_ble_eq_true rfl, Nat.le_of_ble_eq_true rfl⟩) hK hw hA 0 rfl rfl rfl rfl hl.1 rfl (Nat.le_of_ble_eq_true rfl) dX6_deliver_7 ⟨Nat.zero_le _, Nat.zero_le _⟩ (fun r_1 S_1 H locs hp_1 hw => ?_)
  have e9 := hp_1.1.symm
  subst e9
  have e9 := hp_1.2.symm
  subst e9
  refine lv_if_eq (tgt := 23) hx hb dX6_deliver_10 (by decide) (fun c_2 => ?_) (fun c_2 => ?_)
  · skip
    have c_2 : mrw (mt0 S) rr = false := nb_0 c_2
    refine lv_iconst (v := (-1)) hx hb dX6_deliver_23 (by decide) ?_
    exact ct_iret (S := mt0 S) (v := (-1)) hx hb hr hlocks hK hw (⟨by simp only [mdlF, mdlR, mdl1, mdl2, c_2, decide_true, decide_false, Bool.not_true, Bool.not_false, Bool.true_and, Bool.and_true, Bool.false_and, Bool.and_false, Bool.or_true, Bool.true_or, Bool.or_false, Bool.false_or, Bool.false_eq_true, Bool.true_eq_false, if_true, if_false, ↓reduceIte], by simp only [mdlF, mdlR, mdl1, mdl2, c_2, decide_true, decide_false, Bool.not_true, Bool.not_false, Bool.true_and, Bool.and_true, Bool.false_and, Bool.and_false, Bool.or_true, Bool.true_or, Bool.or_false, Bool.false_or, Bool.false_eq_true, Bool.true_eq_false, if_true, if_false, ↓reduceIte]⟩) dX6_deliver_24
  · skip
    have c_2 : mrw (mt0 S) rr = true := nb_1 c_2
    obtain ⟨r9, hr9, hr9n, rfl⟩ := mrw_n hmt.2.2 hr2 c_2
    have ec_r9 := nI_clamp (n := r9) (by omega)
    refine lv_aload_n hx hb dX6_deliver_13 rfl (lv_at hl 0 rfl) ?_
    refine wo_get hx hb hts inX6 hown hK hw 0 rfl rfl 19 (by decide) (hts _ wd_584) (fun _ h9 => h9) rfl dX6_deliver_14 ?_
    refine lv_iload_n hx hb dX6_deliver_17 rfl (lv_at hl 1 rfl) ?_
    refine wo_iald hx hb hK hw 17 0 rfl rfl r9 rfl (by first | assumption | omega) (by decide) dX6_deliver_18 ?_
    refine lv_iconst (v := nI 2) hx hb dX6_deliver_19 (by decide) ?_
    refine lv_icmp_ne (tgt := 25) hx hb dX6_deliver_20 (by decide) (fun c_3 => ?_) (fun c_3 => ?_)
    · skip
      obtain ⟨b9, s9, f9, t9, hb9, hs9, hf9, ht9, e12, e13, e14, e15⟩ := hrows r9 hr9 hr9n
      have eb12 : ((mt0 S).1 12 r9).toNatClampNeg = b9 := by rw [show (mt0 S).1 12 r9 = S.1 12 r9 from rfl, e12, nI_clamp (by omega)]
      have eb13 : ((mt0 S).1 13 r9).toNatClampNeg = s9 := by rw [show (mt0 S).1 13 r9 = S.1 13 r9 from rfl, e13, nI_clamp (by omega)]
      have eb15 : ((mt0 S).1 15 r9).toNatClampNeg = t9 := by rw [show (mt0 S).1 15 r9 = S.1 15 r9 from rfl, e15, nI_clamp (by omega)]
      refine lv_aload_n hx hb dX6_deliver_25 rfl (lv_at hl 0 rfl) ?_
      refine wo_get hx hb hts inX6 hown hK hw 0 rfl rfl 20 (by decide) (hts _ wd_585) (fun _ h9 => h9) rfl dX6_deliver_26 ?_
      refine lv_iload_n hx hb dX6_deliver_29 rfl (lv_at hl 1 rfl) ?_
      refine lv_dup2_11 hx hb dX6_deliver_30 rfl rfl ?_
      refine wo_iald hx hb hK hw 18 0 rfl rfl r9 rfl (by first | assumption | omega) (by decide) dX6_deliver_31 ?_
      refine lv_iconst (v := nI 1) hx hb dX6_deliver_32 (by decide) ?_
      refine lv_iadd hx hb dX6_deliver_33 ?_
      refine wo_iast hx hb hK hw 18 0 rfl rfl r9 rfl (by first | assumption | omega) (by decide) (sm_18 ca ad (mt0 S) r9 (((mt0 S).1 18 r9) + (nI 1))) dX6_deliver_34 (fun H locs hw => ?_)
      refine lv_aload_n hx hb dX6_deliver_35 rfl (lv_at hl 0 rfl) ?_
      refine wo_get hx hb hts inX6 hown hK hw 0 rfl rfl 19 (by decide) (hts _ wd_584) (fun _ h9 => h9) rfl dX6_deliver_36 ?_
      refine lv_iload_n hx hb dX6_deliver_39 rfl (lv_at hl 1 rfl) ?_
      refine wo_iald hx hb hK hw 17 0 rfl rfl r9 rfl (by first | assumption | omega) (by decide) dX6_deliver_40 ?_
      refine lv_iconst (v := nI 1) hx hb dX6_deliver_41 (by decide) ?_
      refine lv_icmp_ne (tgt := 47) hx hb dX6_deliver_42 (by decide) (fun c_4 => ?_) (fun c_4 => ?_)
      · skip
        refine lv_aload_n hx hb dX6_deliver_47 rfl (lv_at hl 0 rfl) ?_
        refine wo_get hx hb hts inX6 hown hK hw 0 rfl rfl 19 (by decide) (hts _ wd_584) (fun _ h9 => h9) rfl dX6_deliver_48 ?_
        refine lv_iload_n hx hb dX6_deliver_51 rfl (lv_at hl 1 rfl) ?_
        refine lv_iconst (v := nI 1) hx hb dX6_deliver_52 (by decide) ?_
        refine wo_iast hx hb hK hw 17 0 rfl rfl r9 rfl (by first | assumption | omega) (by decide) (sm_17 ca ad (sI (mt0 S) 18 r9 (((mt0 S).1 18 r9) + (nI 1))) r9 (nI 1)) dX6_deliver_53 (fun H locs hw => ?_)
        refine lv_aload_n hx hb dX6_deliver_54 rfl (lv_at hl 0 rfl) ?_
        refine wo_get hx hb hts inX6 hown hK hw 0 rfl rfl 5 (by decide) (hts _ wd_570) (fun _ h9 => h9) rfl dX6_deliver_55 ?_
        refine lv_aload_n hx hb dX6_deliver_58 rfl (lv_at hl 0 rfl) ?_
        refine wo_get hx hb hts inX6 hown hK hw 0 rfl rfl 14 (by decide) (hts _ wd_579) (fun _ h9 => h9) rfl dX6_deliver_59 ?_
        refine lv_iload_n hx hb dX6_deliver_62 rfl (lv_at hl 1 rfl) ?_
        refine wo_iald hx hb hK hw 12 0 rfl rfl r9 rfl (by first | assumption | omega) (by decide) dX6_deliver_63 ?_
        refine tp_i (y := nI b9) (e12) ?_
        refine lv_aload_n hx hb dX6_deliver_64 rfl (lv_at hl 0 rfl) ?_
        refine wo_get hx hb hts inX6 hown hK hw 0 rfl rfl 15 (by decide) (hts _ wd_580) (fun _ h9 => h9) rfl dX6_deliver_65 ?_
        refine lv_iload_n hx hb dX6_deliver_68 rfl (lv_at hl 1 rfl) ?_
        refine wo_iald hx hb hK hw 13 0 rfl rfl r9 rfl (by first | assumption | omega) (by decide) dX6_deliver_69 ?_
        refine tp_i (y := nI s9) (e13) ?_
        refine lv_aload_n hx hb dX6_deliver_70 rfl (lv_at hl 0 rfl) ?_
        refine wo_get hx hb hts inX6 hown hK hw 0 rfl rfl 17 (by decide) (hts _ wd_582) (fun _ h9 => h9) rfl dX6_deliver_71 ?_
        refine lv_iload_n hx hb dX6_deliver_74 rfl (lv_at hl 1 rfl) ?_
        refine wo_iald hx hb hK hw 15 0 rfl rfl r9 rfl (by first | assumption | omega) (by decide) dX6_deliver_75 ?_
        refine tp_i (y := nI t9) (e15) ?_
        refine wo_sI (As := [.int (nI b9), .int (nI s9), .int (nI t9)]) (rest := [.ref (ad 4)]) (kX6_at l dC dI ca ad (sI (sI (mt0 S) 18 r9 (((mt0 S).1 18 r9) + (nI 1))) 17 r9 (nI 1)) b9 s9 t9) ⟨hx, hb, hml, hown, hts⟩ (va_cwS 3 hts (wa_gS wd_680 wd_681 wd_8 wd_682) rfl rfl rfl (by decide +kernel) ⟨Nat.le_of_ble_eq_true rfl, Nat.le_of_ble_eq_true rfl⟩) hK hw hA rfl hl.1 rfl (Nat.le_of_ble_eq_true rfl) dX6_deliver_76 ⟨Nat.zero_le _, Nat.zero_le _⟩ (fun r_5 S_5 H locs hp_5 hw => ?_)
        have e9 := hp_5.1.symm
        subst e9
        have e9 := hp_5.2.symm
        subst e9
        refine lv_dup2_11 hx hb dX6_deliver_79 rfl rfl ?_
        refine wo_lald hx hb hK hw 4 1 rfl rfl (12 * b9 + 6 * s9 + t9) rfl (by first | assumption | omega) (by decide) dX6_deliver_80 ?_
        refine lv_aload_n hx hb dX6_deliver_81 rfl (lv_at hl 0 rfl) ?_
        refine wo_get hx hb hts inX6 hown hK hw 0 rfl rfl 18 (by decide) (hts _ wd_583) (fun _ h9 => h9) rfl dX6_deliver_82 ?_
        refine lv_iload_n hx hb dX6_deliver_85 rfl (lv_at hl 1 rfl) ?_
        refine wo_lald hx hb hK hw 16 1 rfl rfl r9 rfl (by first | assumption | omega) (by decide) dX6_deliver_86 ?_
        refine lv_ladd hx hb dX6_deliver_87 ?_
        refine wo_last hx hb hK hw 4 1 rfl rfl (12 * b9 + 6 * s9 + t9) rfl (by first | assumption | omega) (by decide) (sm_4 ca ad (sI (sI (mt0 S) 18 r9 (((mt0 S).1 18 r9) + (nI 1))) 17 r9 (nI 1)) (12 * b9 + 6 * s9 + t9) (((sI (sI (mt0 S) 18 r9 (((mt0 S).1 18 r9) + (nI 1))) 17 r9 (nI 1)).2 4 (12 * b9 + 6 * s9 + t9)) + ((sI (sI (mt0 S) 18 r9 (((mt0 S).1 18 r9) + (nI 1))) 17 r9 (nI 1)).2 16 r9))) dX6_deliver_88 (fun H locs hw => ?_)
        refine lv_aload_n hx hb dX6_deliver_89 rfl (lv_at hl 0 rfl) ?_
        refine lv_aload_n hx hb dX6_deliver_90 rfl (lv_at hl 0 rfl) ?_
        refine wo_get hx hb hts inX6 hown hK hw 0 rfl rfl 17 (by decide) (hts _ wd_582) (fun _ h9 => h9) rfl dX6_deliver_91 ?_
        refine lv_iload_n hx hb dX6_deliver_94 rfl (lv_at hl 1 rfl) ?_
        refine wo_iald hx hb hK hw 15 0 rfl rfl r9 rfl (by first | assumption | omega) (by decide) dX6_deliver_95 ?_
        refine tp_i (y := nI t9) (e15) ?_
        refine wo_vV (As := [.int (nI t9)]) (rest := []) (kX6_came l dC dI ca ad (sL (sI (sI (mt0 S) 18 r9 (((mt0 S).1 18 r9) + (nI 1))) 17 r9 (nI 1)) 4 (12 * b9 + 6 * s9 + t9) (((sI (sI (mt0 S) 18 r9 (((mt0 S).1 18 r9) + (nI 1))) 17 r9 (nI 1)).2 4 (12 * b9 + 6 * s9 + t9)) + ((sI (sI (mt0 S) 18 r9 (((mt0 S).1 18 r9) + (nI 1))) 17 r9 (nI 1)).2 16 r9))) t9 nb nr (by first | assumption | omega) (MI_of hmt rfl rfl rfl rfl)) ⟨hx, hb, hml, hown, hts⟩ (cwV 1 hts (wa_gV wd_720 wd_722 ws_20 wd_8 wd_723) rfl rfl rfl (by decide +kernel) ⟨Nat.le_of_ble_eq_true rfl, Nat.le_of_ble_eq_true rfl⟩) hK hw hA 0 rfl rfl rfl rfl hl.1 rfl (Nat.le_of_ble_eq_true rfl) dX6_deliver_96 ⟨Nat.zero_le _, Nat.zero_le _⟩ (fun S_6 H locs hp_6 hw => ?_)
        have eS_6 := hp_6
        refine lv_iconst (v := nI 1) hx hb dX6_deliver_99 (by decide) ?_
        exact ct_iret (S := S_6) (v := nI 1) hx hb hr hlocks hK hw (⟨by simp only [mdlF, mdlR, mdl1, mdl2, c_2, ec_r9, c_3, eb12, eb13, eb15, c_4, decide_true, decide_false, Bool.not_true, Bool.not_false, Bool.true_and, Bool.and_true, Bool.false_and, Bool.and_false, Bool.or_true, Bool.true_or, Bool.or_false, Bool.false_or, Bool.false_eq_true, Bool.true_eq_false, if_true, if_false, ↓reduceIte], by rw [eS_6]; simp only [mdlF, mdlR, mdl1, mdl2, c_2, ec_r9, c_3, eb12, eb13, eb15, c_4, decide_true, decide_false, Bool.not_true, Bool.not_false, Bool.true_and, Bool.and_true, Bool.false_and, Bool.and_false, Bool.or_true, Bool.true_or, Bool.or_false, Bool.false_or, Bool.false_eq_true, Bool.true_eq_false, if_true, if_false, ↓reduceIte]⟩) dX6_deliver_100
      · skip
        refine lv_iconst (v := nI 0) hx hb dX6_deliver_45 (by decide) ?_
        exact ct_iret (S := sI (mt0 S) 18 r9 (((mt0 S).1 18 r9) + (nI 1))) (v := nI 0) hx hb hr hlocks hK hw (⟨by simp only [mdlF, mdlR, mdl1, mdl2, c_2, ec_r9, c_3, eb12, eb13, eb15, c_4, decide_true, decide_false, Bool.not_true, Bool.not_false, Bool.true_and, Bool.and_true, Bool.false_and, Bool.and_false, Bool.or_true, Bool.true_or, Bool.or_false, Bool.false_or, Bool.false_eq_true, Bool.true_eq_false, if_true, if_false, ↓reduceIte], by simp only [mdlF, mdlR, mdl1, mdl2, c_2, ec_r9, c_3, eb12, eb13, eb15, c_4, decide_true, decide_false, Bool.not_true, Bool.not_false, Bool.true_and, Bool.and_true, Bool.false_and, Bool.and_false, Bool.or_true, Bool.true_or, Bool.or_false, Bool.false_or, Bool.false_eq_true, Bool.true_eq_false, if_true, if_false, ↓reduceIte]⟩) dX6_deliver_46
    · skip
      refine lv_iconst (v := (-1)) hx hb dX6_deliver_23 (by decide) ?_
      exact ct_iret (S := mt0 S) (v := (-1)) hx hb hr hlocks hK hw (⟨by simp only [mdlF, mdlR, mdl1, mdl2, c_2, ec_r9, c_3, decide_true, decide_false, Bool.not_true, Bool.not_false, Bool.true_and, Bool.and_true, Bool.false_and, Bool.and_false, Bool.or_true, Bool.true_or, Bool.or_false, Bool.false_or, Bool.false_eq_true, Bool.true_eq_false, if_true, if_false, ↓reduceIte], by simp only [mdlF, mdlR, mdl1, mdl2, c_2, ec_r9, c_3, decide_true, decide_false, Bool.not_true, Bool.not_false, Bool.true_and, Bool.and_true, Bool.false_and, Bool.and_false, Bool.or_true, Bool.true_or, Bool.or_false, Bool.false_or, Bool.false_eq_true, Bool.true_eq_false, if_true, if_false, ↓reduceIte]⟩) dX6_deliver_24

set_option maxHeartbeats 4000000 in
set_option maxRecDepth 100000 in
theorem kX6_row (l : Launch) (dC : Nat → ClassId) (dI : Nat → Nat → Nat) (ca : Nat → ClassId) (ad : Nat → Nat) (S : sSt) (rr : Int32) (wh : Int32) (nb : Nat) (nr : Nat) (hb6 : nb ≤ 6) (hr2 : nr ≤ 200) (hmi : MI nb nr S) : ct_I l yX6_row (Cond.code yX6_row cX6_row 3 (some .int) :: wa_T) ({ frames := 2, cells := 0, slots := 0, locals := 46 } : Room) (dC, dI) vwCl (tyl ca) (wq ca ad) S [.ref (ad 0), .int rr, .int wh] (fun r S2 => r = mrwF (mt0 S) rr wh ∧ S2 = mt0 S) := by
  refine ct_ofI (by decide) (Nat.le_of_ble_eq_true rfl) ?_
  intro p e s m below meth c A ls hx hb hr hml hts hown hlocks hK hA hw hl
  have hl : lv_has ls 3 [(0, .ref (ad 0)), (1, .int rr), (2, .int wh)] := hl
  refine lv_aload_n hx hb dX6_row_0 rfl (lv_at hl 0 rfl) ?_
  refine lv_iconst (v := nI 0) hx hb dX6_row_1 (by decide) ?_
  refine wo_put (ty := .int) (v := .int (nI 0)) hx hb hts inX6 tyX6 tyX6_ok nmX6 hown hK hw 0 rfl rfl 0 (by decide) (hts _ wd_565) (fun _ h9 => h9) rfl (by decide +kernel) rfl rfl (Nat.le_of_ble_eq_true rfl) (sg_0 ca ad S (nI 0)) dX6_row_2 (fun H locs hw => ?_)
  have hw : wo_w (dC, dI) vwCl A s.heap (wq ca ad (mt0 S)) H locs := hw
  have hmt := MI_0 hmi
  refine lv_aload_n hx hb dX6_row_5 rfl (lv_at hl 0 rfl) ?_
  refine lv_iload_n hx hb dX6_row_6 rfl (lv_at hl 1 rfl) ?_
  refine wo_vI (As := [.int rr]) (rest := []) (kX6_isRow l dC dI ca ad (mt0 S) rr) ⟨hx, hb, hml, hown, hts⟩ (cwV 1 hts (wa_gV wd_716 wd_718 ws_19 wd_8 wd_719) rfl rfl rfl (by decide +kernel) ⟨Nat.le_of_ble_eq_true rfl, Nat.le_of_ble_eq_true rfl⟩) hK hw hA 0 rfl rfl rfl rfl hl.1 rfl (Nat.le_of_ble_eq_true rfl) dX6_row_7 ⟨Nat.zero_le _, Nat.zero_le _⟩ (fun r_1 S_1 H locs hp_1 hw => ?_)
  have e9 := hp_1.1.symm
  subst e9
  have e9 := hp_1.2.symm
  subst e9
  refine lv_if_ne (tgt := 15) hx hb dX6_row_10 (by decide) (fun c_2 => ?_) (fun c_2 => ?_)
  · skip
    have c_2 : mrw (mt0 S) rr = true := nb_1 c_2
    obtain ⟨r9, hr9, hr9n, rfl⟩ := mrw_n hmt.2.2 hr2 c_2
    have ec_r9 := nI_clamp (n := r9) (by omega)
    refine lv_iload_n hx hb dX6_row_15 rfl (lv_at hl 2 rfl) ?_
    by_cases c_3 : wh = nI 0
    · skip
      subst c_3
      refine lv_tableIn (tgt := 56) hx hb dX6_row_16 (by decide) (by decide) rfl (by decide) ?_
      refine lv_aload_n hx hb dX6_row_56 rfl (lv_at hl 0 rfl) ?_
      refine wo_get hx hb hts inX6 hown hK hw 0 rfl rfl 14 (by decide) (hts _ wd_579) (fun _ h9 => h9) rfl dX6_row_57 ?_
      refine lv_iload_n hx hb dX6_row_60 rfl (lv_at hl 1 rfl) ?_
      refine wo_iald hx hb hK hw 12 0 rfl rfl r9 rfl (by first | assumption | omega) (by decide) dX6_row_61 ?_
      exact ct_iret (S := mt0 S) (v := (mt0 S).1 12 r9) hx hb hr hlocks hK hw (⟨by rw [mrwF, if_pos c_2, ec_r9]; rfl, rfl⟩) dX6_row_62
    by_cases c_4 : wh = nI 1
    · skip
      subst c_4
      refine lv_tableIn (tgt := 63) hx hb dX6_row_16 (by decide) (by decide) rfl (by decide) ?_
      refine lv_aload_n hx hb dX6_row_63 rfl (lv_at hl 0 rfl) ?_
      refine wo_get hx hb hts inX6 hown hK hw 0 rfl rfl 15 (by decide) (hts _ wd_580) (fun _ h9 => h9) rfl dX6_row_64 ?_
      refine lv_iload_n hx hb dX6_row_67 rfl (lv_at hl 1 rfl) ?_
      refine wo_iald hx hb hK hw 13 0 rfl rfl r9 rfl (by first | assumption | omega) (by decide) dX6_row_68 ?_
      exact ct_iret (S := mt0 S) (v := (mt0 S).1 13 r9) hx hb hr hlocks hK hw (⟨by rw [mrwF, if_pos c_2, ec_r9]; rfl, rfl⟩) dX6_row_69
    by_cases c_5 : wh = nI 2
    · skip
      subst c_5
      refine lv_tableIn (tgt := 70) hx hb dX6_row_16 (by decide) (by decide) rfl (by decide) ?_
      refine lv_aload_n hx hb dX6_row_70 rfl (lv_at hl 0 rfl) ?_
      refine wo_get hx hb hts inX6 hown hK hw 0 rfl rfl 16 (by decide) (hts _ wd_581) (fun _ h9 => h9) rfl dX6_row_71 ?_
      refine lv_iload_n hx hb dX6_row_74 rfl (lv_at hl 1 rfl) ?_
      refine wo_iald hx hb hK hw 14 0 rfl rfl r9 rfl (by first | assumption | omega) (by decide) dX6_row_75 ?_
      exact ct_iret (S := mt0 S) (v := (mt0 S).1 14 r9) hx hb hr hlocks hK hw (⟨by rw [mrwF, if_pos c_2, ec_r9]; rfl, rfl⟩) dX6_row_76
    by_cases c_6 : wh = nI 3
    · skip
      subst c_6
      refine lv_tableIn (tgt := 77) hx hb dX6_row_16 (by decide) (by decide) rfl (by decide) ?_
      refine lv_aload_n hx hb dX6_row_77 rfl (lv_at hl 0 rfl) ?_
      refine wo_get hx hb hts inX6 hown hK hw 0 rfl rfl 17 (by decide) (hts _ wd_582) (fun _ h9 => h9) rfl dX6_row_78 ?_
      refine lv_iload_n hx hb dX6_row_81 rfl (lv_at hl 1 rfl) ?_
      refine wo_iald hx hb hK hw 15 0 rfl rfl r9 rfl (by first | assumption | omega) (by decide) dX6_row_82 ?_
      exact ct_iret (S := mt0 S) (v := (mt0 S).1 15 r9) hx hb hr hlocks hK hw (⟨by rw [mrwF, if_pos c_2, ec_r9]; rfl, rfl⟩) dX6_row_83
    by_cases c_7 : wh = nI 4
    · skip
      subst c_7
      refine lv_tableIn (tgt := 84) hx hb dX6_row_16 (by decide) (by decide) rfl (by decide) ?_
      refine lv_aload_n hx hb dX6_row_84 rfl (lv_at hl 0 rfl) ?_
      refine wo_get hx hb hts inX6 hown hK hw 0 rfl rfl 19 (by decide) (hts _ wd_584) (fun _ h9 => h9) rfl dX6_row_85 ?_
      refine lv_iload_n hx hb dX6_row_88 rfl (lv_at hl 1 rfl) ?_
      refine wo_iald hx hb hK hw 17 0 rfl rfl r9 rfl (by first | assumption | omega) (by decide) dX6_row_89 ?_
      exact ct_iret (S := mt0 S) (v := (mt0 S).1 17 r9) hx hb hr hlocks hK hw (⟨by rw [mrwF, if_pos c_2, ec_r9]; rfl, rfl⟩) dX6_row_90
    by_cases c_8 : wh = nI 5
    · skip
      subst c_8
      refine lv_tableIn (tgt := 91) hx hb dX6_row_16 (by decide) (by decide) rfl (by decide) ?_
      refine lv_aload_n hx hb dX6_row_91 rfl (lv_at hl 0 rfl) ?_
      refine wo_get hx hb hts inX6 hown hK hw 0 rfl rfl 20 (by decide) (hts _ wd_585) (fun _ h9 => h9) rfl dX6_row_92 ?_
      refine lv_iload_n hx hb dX6_row_95 rfl (lv_at hl 1 rfl) ?_
      refine wo_iald hx hb hK hw 18 0 rfl rfl r9 rfl (by first | assumption | omega) (by decide) dX6_row_96 ?_
      exact ct_iret (S := mt0 S) (v := (mt0 S).1 18 r9) hx hb hr hlocks hK hw (⟨by rw [mrwF, if_pos c_2, ec_r9]; rfl, rfl⟩) dX6_row_97
    refine lv_tableOut (tgt := 98) hx hb dX6_row_16 (by have q0 := lv_neT c_3 (a := 0) (by decide); have q1 := lv_neT c_4 (a := 1) (by decide); have q2 := lv_neT c_5 (a := 2) (by decide); have q3 := lv_neT c_6 (a := 3) (by decide); have q4 := lv_neT c_7 (a := 4) (by decide); have q5 := lv_neT c_8 (a := 5) (by decide); omega) (by decide) ?_
    refine lv_iconst (v := (-1)) hx hb dX6_row_98 (by decide) ?_
    exact ct_iret (S := mt0 S) (v := (-1)) hx hb hr hlocks hK hw (⟨by simp only [mrwF, mrwV, c_2, ec_r9, c_3, c_4, c_5, c_6, c_7, c_8, decide_true, decide_false, Bool.not_true, Bool.not_false, Bool.true_and, Bool.and_true, Bool.false_and, Bool.and_false, Bool.or_true, Bool.true_or, Bool.or_false, Bool.false_or, Bool.false_eq_true, Bool.true_eq_false, if_true, if_false, ↓reduceIte], rfl⟩) dX6_row_99
  · skip
    have c_2 : mrw (mt0 S) rr = false := nb_0 c_2
    refine lv_iconst (v := (-1)) hx hb dX6_row_13 (by decide) ?_
    exact ct_iret (S := mt0 S) (v := (-1)) hx hb hr hlocks hK hw (⟨by simp only [mrwF, mrwV, c_2, decide_true, decide_false, Bool.not_true, Bool.not_false, Bool.true_and, Bool.and_true, Bool.false_and, Bool.and_false, Bool.or_true, Bool.true_or, Bool.or_false, Bool.false_or, Bool.false_eq_true, Bool.true_eq_false, if_true, if_false, ↓reduceIte], rfl⟩) dX6_row_14

set_option maxHeartbeats 4000000 in
set_option maxRecDepth 100000 in
theorem kX6_total (l : Launch) (dC : Nat → ClassId) (dI : Nat → Nat → Nat) (ca : Nat → ClassId) (ad : Nat → Nat) (S : sSt) (wh : Int32) : ct_I l yX6_total (Cond.code yX6_total cX6_total 2 (some .int) :: wa_T) ({ frames := 0, cells := 0, slots := 0, locals := 0 } : Room) (dC, dI) vwCl (tyl ca) (wq ca ad) S [.ref (ad 0), .int wh] (fun r S2 => r = mttF (mt0 S) wh ∧ S2 = mt0 S) := by
  refine ct_ofI (by decide) (Nat.le_of_ble_eq_true rfl) ?_
  intro p e s m below meth c A ls hx hb hr hml hts hown hlocks hK hA hw hl
  have hl : lv_has ls 2 [(0, .ref (ad 0)), (1, .int wh)] := hl
  refine lv_aload_n hx hb dX6_total_0 rfl (lv_at hl 0 rfl) ?_
  refine lv_iconst (v := nI 0) hx hb dX6_total_1 (by decide) ?_
  refine wo_put (ty := .int) (v := .int (nI 0)) hx hb hts inX6 tyX6 tyX6_ok nmX6 hown hK hw 0 rfl rfl 0 (by decide) (hts _ wd_565) (fun _ h9 => h9) rfl (by decide +kernel) rfl rfl (Nat.le_of_ble_eq_true rfl) (sg_0 ca ad S (nI 0)) dX6_total_2 (fun H locs hw => ?_)
  have hw : wo_w (dC, dI) vwCl A s.heap (wq ca ad (mt0 S)) H locs := hw
  refine lv_iload_n hx hb dX6_total_5 rfl (lv_at hl 1 rfl) ?_
  refine lv_if_ne (tgt := 16) hx hb dX6_total_6 (by decide) (fun c_1 => ?_) (fun c_1 => ?_)
  · skip
    refine lv_iload_n hx hb dX6_total_16 rfl (lv_at hl 1 rfl) ?_
    refine lv_iconst (v := nI 1) hx hb dX6_total_17 (by decide) ?_
    refine lv_icmp_ne (tgt := 28) hx hb dX6_total_18 (by decide) (fun c_2 => ?_) (fun c_2 => ?_)
    · skip
      refine lv_iload_n hx hb dX6_total_28 rfl (lv_at hl 1 rfl) ?_
      refine lv_iconst (v := nI 2) hx hb dX6_total_29 (by decide) ?_
      refine lv_icmp_ne (tgt := 40) hx hb dX6_total_30 (by decide) (fun c_3 => ?_) (fun c_3 => ?_)
      · skip
        refine lv_iload_n hx hb dX6_total_40 rfl (lv_at hl 1 rfl) ?_
        refine lv_iconst (v := nI 3) hx hb dX6_total_41 (by decide) ?_
        refine lv_icmp_ne (tgt := 52) hx hb dX6_total_42 (by decide) (fun c_4 => ?_) (fun c_4 => ?_)
        · skip
          refine lv_iconst (v := (-1)) hx hb dX6_total_52 (by decide) ?_
          exact ct_iret (S := mt0 S) (v := (-1)) hx hb hr hlocks hK hw (⟨by rw [mttF, if_neg c_1, if_neg c_2, if_neg c_3, if_neg c_4], rfl⟩) dX6_total_53
        · skip
          refine lv_aload_n hx hb dX6_total_45 rfl (lv_at hl 0 rfl) ?_
          refine wo_get hx hb hts inX6 hown hK hw 0 rfl rfl 23 (by decide) (hts _ wd_588) (fun _ h9 => h9) rfl dX6_total_46 ?_
          refine lv_goto (tgt := 53) hx hb dX6_total_49 (by decide) ?_
          exact ct_iret (S := mt0 S) (v := (mt0 S).1 0 23) hx hb hr hlocks hK hw (⟨by rw [mttF, if_neg c_1, if_neg c_2, if_neg c_3, if_pos c_4], rfl⟩) dX6_total_53
      · skip
        refine lv_aload_n hx hb dX6_total_33 rfl (lv_at hl 0 rfl) ?_
        refine wo_get hx hb hts inX6 hown hK hw 0 rfl rfl 22 (by decide) (hts _ wd_587) (fun _ h9 => h9) rfl dX6_total_34 ?_
        refine lv_goto (tgt := 53) hx hb dX6_total_37 (by decide) ?_
        exact ct_iret (S := mt0 S) (v := (mt0 S).1 0 22) hx hb hr hlocks hK hw (⟨by rw [mttF, if_neg c_1, if_neg c_2, if_pos c_3], rfl⟩) dX6_total_53
    · skip
      refine lv_aload_n hx hb dX6_total_21 rfl (lv_at hl 0 rfl) ?_
      refine wo_get hx hb hts inX6 hown hK hw 0 rfl rfl 13 (by decide) (hts _ wd_578) (fun _ h9 => h9) rfl dX6_total_22 ?_
      refine lv_goto (tgt := 53) hx hb dX6_total_25 (by decide) ?_
      exact ct_iret (S := mt0 S) (v := (mt0 S).1 0 13) hx hb hr hlocks hK hw (⟨by rw [mttF, if_neg c_1, if_pos c_2], rfl⟩) dX6_total_53
  · skip
    refine lv_aload_n hx hb dX6_total_9 rfl (lv_at hl 0 rfl) ?_
    refine wo_get hx hb hts inX6 hown hK hw 0 rfl rfl 1 (by decide) (hts _ wd_566) (fun _ h9 => h9) rfl dX6_total_10 ?_
    refine lv_goto (tgt := 53) hx hb dX6_total_13 (by decide) ?_
    exact ct_iret (S := mt0 S) (v := (mt0 S).1 0 1) hx hb hr hlocks hK hw (⟨by rw [mttF, if_pos c_1], rfl⟩) dX6_total_53

set_option maxHeartbeats 4000000 in
set_option maxRecDepth 100000 in
theorem kX6_person (l : Launch) (dC : Nat → ClassId) (dI : Nat → Nat → Nat) (ca : Nat → ClassId) (ad : Nat → Nat) (S : sSt) (pp : Int32) (wh : Int32) : ct_I l yX6_person (Cond.code yX6_person cX6_person 5 (some .int) :: wa_T) ({ frames := 1, cells := 0, slots := 0, locals := 25 } : Room) (dC, dI) vwCl (tyl ca) (wq ca ad) S [.ref (ad 0), .int pp, .int wh] (fun r S2 => r = mpsF (mt0 S) pp wh ∧ S2 = mt0 S) := by
  refine ct_ofI (by decide) (Nat.le_of_ble_eq_true rfl) ?_
  intro p e s m below meth c A ls hx hb hr hml hts hown hlocks hK hA hw hl
  have hl : lv_has ls 5 [(0, .ref (ad 0)), (1, .int pp), (2, .int wh)] := hl
  refine lv_aload_n hx hb dX6_person_0 rfl (lv_at hl 0 rfl) ?_
  refine lv_iconst (v := nI 0) hx hb dX6_person_1 (by decide) ?_
  refine wo_put (ty := .int) (v := .int (nI 0)) hx hb hts inX6 tyX6 tyX6_ok nmX6 hown hK hw 0 rfl rfl 0 (by decide) (hts _ wd_565) (fun _ h9 => h9) rfl (by decide +kernel) rfl rfl (Nat.le_of_ble_eq_true rfl) (sg_0 ca ad S (nI 0)) dX6_person_2 (fun H locs hw => ?_)
  have hw : wo_w (dC, dI) vwCl A s.heap (wq ca ad (mt0 S)) H locs := hw
  refine lv_iload_n hx hb dX6_person_5 rfl (lv_at hl 1 rfl) ?_
  refine lv_i2l hx hb dX6_person_6 rfl ?_
  refine lv_lconst (v := 0) hx hb dX6_person_7 (by decide) ?_
  refine lv_ldc2 hx hb hown (hts _ wd_659) dX6_person_8 ?_
  refine wo_sI (As := [.long ((pp).toInt64), .long 0, .long 5]) (rest := []) (kX6_within l dC dI ca ad (mt0 S) ((pp).toInt64) 0 5) ⟨hx, hb, hml, hown, hts⟩ (va_cwS 3 hts (wa_gS wd_660 wd_661 wd_8 wd_662) rfl rfl rfl (by decide +kernel) ⟨Nat.le_of_ble_eq_true rfl, Nat.le_of_ble_eq_true rfl⟩) hK hw hA rfl hl.1 rfl (Nat.le_of_ble_eq_true rfl) dX6_person_11 ⟨Nat.zero_le _, Nat.zero_le _⟩ (fun r_1 S_1 H locs hp_1 hw => ?_)
  have e9 := hp_1.1.symm
  subst e9
  have e9 := hp_1.2.symm
  subst e9
  refine lv_if_ne (tgt := 19) hx hb dX6_person_14 (by decide) (fun c_2 => ?_) (fun c_2 => ?_)
  · skip
    have c_2 : wth ((pp).toInt64) 0 5 = true := nb_1 c_2
    obtain ⟨p9, hp9, rfl⟩ := w5_n c_2
    have ec_p9 := nI_clamp (n := p9) (by omega)
    have hgG := c_2
    refine lv_iconst (v := nI 0) hx hb dX6_person_19 (by decide) ?_
    refine lv_istore_n (lv' := [(3, .int (nI 0)), (0, .ref (ad 0)), (1, .int (nI p9)), (2, .int wh)]) hx hb dX6_person_20 rfl hl (by decide) rfl (fun ls hl => ?_)
    refine lv_iconst (v := nI 0) hx hb dX6_person_21 (by decide) ?_
    refine lv_istore (lv' := [(4, .int (nI 0)), (3, .int (nI 0)), (0, .ref (ad 0)), (1, .int (nI p9)), (2, .int wh)]) hx hb dX6_person_22 hl (by decide) rfl (fun ls hl => ?_)
    have lp_24 : ∀ (n : Nat) (i : Nat), i ≤ 6 → 7 ≤ i + n → ∀ (H : Heap) (locs : List Loc) (ls : Array Slot), wo_w (dC, dI) vwCl A s.heap (wq ca ad (mt0 S)) H locs → lv_has ls 5 [(0, .ref (ad 0)), (1, .int (nI p9)), (2, .int wh), (3, .int (mcnt (mt0 S) p9 i)), (4, .int (nI i))] → W p l e ({ frames := 1, cells := 0, slots := 0, locals := 25 } : Room) s m ([.ref (ad 0), .int (nI p9), .int wh] : List Value).toArray below meth c H locs 0 0 (MQ below (va_Qi (fun r S2 => r = mpsF (mt0 S) (nI p9) wh ∧ S2 = mt0 S) (ct_B (dC, dI) vwCl (tyl ca) (wq ca ad) A) A) ([.ref (ad 0), .int (nI p9), .int wh] : List Value).toArray s 0 0 A) (F0 m 24 ls []) := by
      intro n
      induction n with
      | zero =>
        intro i hi hn
        exfalso
        omega
      | succ n ih_24 =>
        intro i hi hn H locs ls hw hl
        refine lv_iload hx hb dX6_person_24 (lv_at hl 4 rfl) ?_
        refine lv_bipush (v := nI 6) hx hb dX6_person_26 (by decide) ?_
        refine lv_icmp_ge (tgt := 60) hx hb dX6_person_28 (by decide) (fun c_3 => ?_) (fun c_3 => ?_)
        · skip
          have c_3 : 6 ≤ i := (nI_leI (a := 6) (b := i) (by omega) (by omega)).mp c_3
          obtain rfl : 6 = i := by omega
          refine lv_iload_n hx hb dX6_person_60 rfl (lv_at hl 2 rfl) ?_
          refine lv_if_ne (tgt := 73) hx hb dX6_person_61 (by decide) (fun c_4 => ?_) (fun c_4 => ?_)
          · skip
            refine lv_iload_n hx hb dX6_person_73 rfl (lv_at hl 2 rfl) ?_
            refine lv_iconst (v := nI 1) hx hb dX6_person_74 (by decide) ?_
            refine lv_icmp_ne (tgt := 95) hx hb dX6_person_75 (by decide) (fun c_5 => ?_) (fun c_5 => ?_)
            · skip
              refine lv_iload_n hx hb dX6_person_95 rfl (lv_at hl 2 rfl) ?_
              refine lv_iconst (v := nI 2) hx hb dX6_person_96 (by decide) ?_
              refine lv_icmp_ne (tgt := 109) hx hb dX6_person_97 (by decide) (fun c_6 => ?_) (fun c_6 => ?_)
              · skip
                refine lv_iload_n hx hb dX6_person_109 rfl (lv_at hl 2 rfl) ?_
                refine lv_iconst (v := nI 3) hx hb dX6_person_110 (by decide) ?_
                refine lv_icmp_ne (tgt := 118) hx hb dX6_person_111 (by decide) (fun c_7 => ?_) (fun c_7 => ?_)
                · skip
                  refine lv_iconst (v := (-1)) hx hb dX6_person_118 (by decide) ?_
                  exact ct_iret (S := mt0 S) (v := (-1)) hx hb hr hlocks hK hw (⟨by rw [mpsF, if_pos hgG, ec_p9, mpsV, if_neg c_4, if_neg c_5, if_neg c_6, if_neg c_7], rfl⟩) dX6_person_119
                · skip
                  refine lv_iload_n hx hb dX6_person_114 rfl (lv_at hl 3 rfl) ?_
                  refine lv_goto (tgt := 119) hx hb dX6_person_115 (by decide) ?_
                  exact ct_iret (S := mt0 S) (v := mcnt (mt0 S) p9 6) hx hb hr hlocks hK hw (⟨by rw [mpsF, if_pos hgG, ec_p9, mpsV, if_neg c_4, if_neg c_5, if_neg c_6, if_pos c_7], rfl⟩) dX6_person_119
              · skip
                refine lv_aload_n hx hb dX6_person_100 rfl (lv_at hl 0 rfl) ?_
                refine wo_get hx hb hts inX6 hown hK hw 0 rfl rfl 10 (by decide) (hts _ wd_575) (fun _ h9 => h9) rfl dX6_person_101 ?_
                refine lv_iload_n hx hb dX6_person_104 rfl (lv_at hl 1 rfl) ?_
                refine wo_iald hx hb hK hw 9 0 rfl rfl p9 rfl (by first | assumption | omega) (by decide) dX6_person_105 ?_
                refine lv_goto (tgt := 119) hx hb dX6_person_106 (by decide) ?_
                exact ct_iret (S := mt0 S) (v := (mt0 S).1 9 p9) hx hb hr hlocks hK hw (⟨by rw [mpsF, if_pos hgG, ec_p9, mpsV, if_neg c_4, if_neg c_5, if_pos c_6], rfl⟩) dX6_person_119
            · skip
              refine lv_aload_n hx hb dX6_person_78 rfl (lv_at hl 0 rfl) ?_
              refine wo_get hx hb hts inX6 hown hK hw 0 rfl rfl 8 (by decide) (hts _ wd_573) (fun _ h9 => h9) rfl dX6_person_79 ?_
              refine lv_iload_n hx hb dX6_person_82 rfl (lv_at hl 1 rfl) ?_
              refine wo_zald hx hb hK hw 7 2 rfl rfl p9 rfl (by first | assumption | omega) (by decide) dX6_person_83 ?_
              refine lv_if_eq (tgt := 91) hx hb dX6_person_84 (by decide) (fun c_8 => ?_) (fun c_8 => ?_)
              · skip
                refine lv_iconst (v := nI 0) hx hb dX6_person_91 (by decide) ?_
                refine lv_goto (tgt := 119) hx hb dX6_person_92 (by decide) ?_
                exact ct_iret (S := mt0 S) (v := nI 0) hx hb hr hlocks hK hw (⟨by rw [mpsF, if_pos hgG, ec_p9, mpsV, if_neg c_4, if_pos c_5, if_pos c_8], rfl⟩) dX6_person_119
              · skip
                refine lv_iconst (v := nI 1) hx hb dX6_person_87 (by decide) ?_
                refine lv_goto (tgt := 119) hx hb dX6_person_88 (by decide) ?_
                exact ct_iret (S := mt0 S) (v := nI 1) hx hb hr hlocks hK hw (⟨by rw [mpsF, if_pos hgG, ec_p9, mpsV, if_neg c_4, if_pos c_5, if_neg c_8], rfl⟩) dX6_person_119
          · skip
            refine lv_aload_n hx hb dX6_person_64 rfl (lv_at hl 0 rfl) ?_
            refine wo_get hx hb hts inX6 hown hK hw 0 rfl rfl 7 (by decide) (hts _ wd_572) (fun _ h9 => h9) rfl dX6_person_65 ?_
            refine lv_iload_n hx hb dX6_person_68 rfl (lv_at hl 1 rfl) ?_
            refine wo_iald hx hb hK hw 6 0 rfl rfl p9 rfl (by first | assumption | omega) (by decide) dX6_person_69 ?_
            refine lv_goto (tgt := 119) hx hb dX6_person_70 (by decide) ?_
            exact ct_iret (S := mt0 S) (v := (mt0 S).1 6 p9) hx hb hr hlocks hK hw (⟨by rw [mpsF, if_pos hgG, ec_p9, mpsV, if_pos c_4], rfl⟩) dX6_person_119
        · skip
          have c_3 : ¬ (6 ≤ i) := fun h9 => c_3 ((nI_leI (a := 6) (b := i) (by omega) (by omega)).mpr h9)
          refine lv_iload_n hx hb dX6_person_31 rfl (lv_at hl 3 rfl) ?_
          refine lv_aload_n hx hb dX6_person_32 rfl (lv_at hl 0 rfl) ?_
          refine wo_get hx hb hts inX6 hown hK hw 0 rfl rfl 9 (by decide) (hts _ wd_574) (fun _ h9 => h9) rfl dX6_person_33 ?_
          refine lv_bipush (v := nI 6) hx hb dX6_person_36 (by decide) ?_
          refine lv_iload_n hx hb dX6_person_38 rfl (lv_at hl 1 rfl) ?_
          refine lv_imul hx hb dX6_person_39 ?_
          refine tp_i (pk_mul 6 p9) ?_
          refine lv_iload hx hb dX6_person_40 (lv_at hl 4 rfl) ?_
          refine lv_iadd hx hb dX6_person_42 ?_
          refine tp_i (nI_add (6 * p9) i) ?_
          refine wo_zald hx hb hK hw 8 2 rfl rfl ((6 * p9) + i) rfl (by first | assumption | omega) (by decide) dX6_person_43 ?_
          refine lv_if_eq (tgt := 51) hx hb dX6_person_44 (by decide) (fun c_9 => ?_) (fun c_9 => ?_)
          · skip
            refine lv_iconst (v := nI 0) hx hb dX6_person_51 (by decide) ?_
            refine lv_iadd hx hb dX6_person_52 ?_
            refine lv_istore_n (lv' := [(3, .int ((mcnt (mt0 S) p9 i) + (nI 0))), (0, .ref (ad 0)), (1, .int (nI p9)), (2, .int wh), (4, .int (nI i))]) hx hb dX6_person_53 rfl hl (by decide) rfl (fun ls hl => ?_)
            refine lv_iinc (v := nI (i + 1)) (lv' := [(4, .int (nI (i + 1))), (3, .int ((mcnt (mt0 S) p9 i) + (nI 0))), (0, .ref (ad 0)), (1, .int (nI p9)), (2, .int wh)]) hx hb dX6_person_54 hl (k := 4) rfl (nI_inc _) (by decide) rfl (fun ls hl => ?_)
            refine lv_goto (tgt := 24) hx hb dX6_person_57 (by decide) ?_
            have e9 : (mcnt (mt0 S) p9 i) + (nI 0) = mcnt (mt0 S) p9 (i + 1) := by first | rfl | (simp only [mcnt, c_3, c_9, decide_true, decide_false, Bool.not_true, Bool.not_false, Bool.true_and, Bool.and_true, Bool.false_and, Bool.and_false, Bool.or_true, Bool.true_or, Bool.or_false, Bool.false_or, Bool.false_eq_true, Bool.true_eq_false, if_true, if_false, ↓reduceIte]; done)
            try rw [e9] at hl
            exact ih_24 (i + 1) (by omega) (by omega) _ _ _ hw (lv_sub hl [2, 3, 4, 1, 0] rfl)
          · skip
            refine lv_iconst (v := nI 1) hx hb dX6_person_47 (by decide) ?_
            refine lv_goto (tgt := 52) hx hb dX6_person_48 (by decide) ?_
            refine lv_iadd hx hb dX6_person_52 ?_
            refine lv_istore_n (lv' := [(3, .int ((mcnt (mt0 S) p9 i) + (nI 1))), (0, .ref (ad 0)), (1, .int (nI p9)), (2, .int wh), (4, .int (nI i))]) hx hb dX6_person_53 rfl hl (by decide) rfl (fun ls hl => ?_)
            refine lv_iinc (v := nI (i + 1)) (lv' := [(4, .int (nI (i + 1))), (3, .int ((mcnt (mt0 S) p9 i) + (nI 1))), (0, .ref (ad 0)), (1, .int (nI p9)), (2, .int wh)]) hx hb dX6_person_54 hl (k := 4) rfl (nI_inc _) (by decide) rfl (fun ls hl => ?_)
            refine lv_goto (tgt := 24) hx hb dX6_person_57 (by decide) ?_
            have e9 : (mcnt (mt0 S) p9 i) + (nI 1) = mcnt (mt0 S) p9 (i + 1) := by first | rfl | (simp only [mcnt, c_3, c_9, decide_true, decide_false, Bool.not_true, Bool.not_false, Bool.true_and, Bool.and_true, Bool.false_and, Bool.and_false, Bool.or_true, Bool.true_or, Bool.or_false, Bool.false_or, Bool.false_eq_true, Bool.true_eq_false, if_true, if_false, ↓reduceIte]; done)
            try rw [e9] at hl
            exact ih_24 (i + 1) (by omega) (by omega) _ _ _ hw (lv_sub hl [2, 3, 4, 1, 0] rfl)
    have e9 : nI 0 = mcnt (mt0 S) p9 0 := by first | rfl | (simp only [mcnt, c_2, ec_p9, decide_true, decide_false, Bool.not_true, Bool.not_false, Bool.true_and, Bool.and_true, Bool.false_and, Bool.and_false, Bool.or_true, Bool.true_or, Bool.or_false, Bool.false_or, Bool.false_eq_true, Bool.true_eq_false, if_true, if_false, ↓reduceIte]; done)
    try rw [e9] at hl
    exact lp_24 7 0 (by omega) (by omega) _ _ _ hw (lv_sub hl [2, 3, 4, 1, 0] rfl)
  · skip
    have c_2 : wth ((pp).toInt64) 0 5 = false := nb_0 c_2
    refine lv_iconst (v := (-1)) hx hb dX6_person_17 (by decide) ?_
    exact ct_iret (S := mt0 S) (v := (-1)) hx hb hr hlocks hK hw (⟨by simp only [mpsF, c_2, decide_true, decide_false, Bool.not_true, Bool.not_false, Bool.true_and, Bool.and_true, Bool.false_and, Bool.and_false, Bool.or_true, Bool.true_or, Bool.or_false, Bool.false_or, Bool.false_eq_true, Bool.true_eq_false, if_true, if_false, ↓reduceIte], rfl⟩) dX6_person_18
