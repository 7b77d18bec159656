theorem dX5_isRoom_0 : decode cX5_isRoom 0 = .ok (.lload_n 0, 1) := by decide +kernel
theorem dX5_isRoom_1 : decode cX5_isRoom 1 = .ok (.lconst 0, 1) := by decide +kernel
theorem dX5_isRoom_2 : decode cX5_isRoom 2 = .ok (.lcmp, 1) := by decide +kernel
theorem dX5_isRoom_3 : decode cX5_isRoom 3 = .ok (.ifCond .lt 15, 3) := by decide +kernel
theorem dX5_isRoom_6 : decode cX5_isRoom 6 = .ok (.lload_n 0, 1) := by decide +kernel
theorem dX5_isRoom_7 : decode cX5_isRoom 7 = .ok (.ldc2_w 110, 3) := by decide +kernel
theorem dX5_isRoom_10 : decode cX5_isRoom 10 = .ok (.lcmp, 1) := by decide +kernel
theorem dX5_isRoom_11 : decode cX5_isRoom 11 = .ok (.ifCond .gt 7, 3) := by decide +kernel
theorem dX5_isRoom_14 : decode cX5_isRoom 14 = .ok (.iconst 1, 1) := by decide +kernel
theorem dX5_isRoom_15 : decode cX5_isRoom 15 = .ok (.goto 4, 3) := by decide +kernel
theorem dX5_isRoom_18 : decode cX5_isRoom 18 = .ok (.iconst 0, 1) := by decide +kernel
theorem dX5_isRoom_19 : decode cX5_isRoom 19 = .ok (.ireturn, 1) := by decide +kernel

theorem dX5_isInOrder_0 : decode cX5_isInOrder 0 = .ok (.lload_n 0, 1) := by decide +kernel
theorem dX5_isInOrder_1 : decode cX5_isInOrder 1 = .ok (.lload_n 2, 1) := by decide +kernel
theorem dX5_isInOrder_2 : decode cX5_isInOrder 2 = .ok (.lcmp, 1) := by decide +kernel
theorem dX5_isInOrder_3 : decode cX5_isInOrder 3 = .ok (.ifCond .gt 33, 3) := by decide +kernel
theorem dX5_isInOrder_6 : decode cX5_isInOrder 6 = .ok (.lload_n 2, 1) := by decide +kernel
theorem dX5_isInOrder_7 : decode cX5_isInOrder 7 = .ok (.lload 4, 2) := by decide +kernel
theorem dX5_isInOrder_9 : decode cX5_isInOrder 9 = .ok (.lcmp, 1) := by decide +kernel
theorem dX5_isInOrder_10 : decode cX5_isInOrder 10 = .ok (.ifCond .gt 26, 3) := by decide +kernel
theorem dX5_isInOrder_13 : decode cX5_isInOrder 13 = .ok (.lload_n 2, 1) := by decide +kernel
theorem dX5_isInOrder_14 : decode cX5_isInOrder 14 = .ok (.lload_n 0, 1) := by decide +kernel
theorem dX5_isInOrder_15 : decode cX5_isInOrder 15 = .ok (.lsub, 1) := by decide +kernel
theorem dX5_isInOrder_16 : decode cX5_isInOrder 16 = .ok (.invokestatic 242, 3) := by decide +kernel
theorem dX5_isInOrder_19 : decode cX5_isInOrder 19 = .ok (.ifCond .eq 17, 3) := by decide +kernel
theorem dX5_isInOrder_22 : decode cX5_isInOrder 22 = .ok (.lload 4, 2) := by decide +kernel
theorem dX5_isInOrder_24 : decode cX5_isInOrder 24 = .ok (.lload_n 2, 1) := by decide +kernel
theorem dX5_isInOrder_25 : decode cX5_isInOrder 25 = .ok (.lsub, 1) := by decide +kernel
theorem dX5_isInOrder_26 : decode cX5_isInOrder 26 = .ok (.invokestatic 242, 3) := by decide +kernel
theorem dX5_isInOrder_29 : decode cX5_isInOrder 29 = .ok (.ifCond .eq 7, 3) := by decide +kernel
theorem dX5_isInOrder_32 : decode cX5_isInOrder 32 = .ok (.iconst 1, 1) := by decide +kernel
theorem dX5_isInOrder_33 : decode cX5_isInOrder 33 = .ok (.goto 4, 3) := by decide +kernel
theorem dX5_isInOrder_36 : decode cX5_isInOrder 36 = .ok (.iconst 0, 1) := by decide +kernel
theorem dX5_isInOrder_37 : decode cX5_isInOrder 37 = .ok (.ireturn, 1) := by decide +kernel

theorem dX5_isSide_0 : decode cX5_isSide 0 = .ok (.iload_n 0, 1) := by decide +kernel
theorem dX5_isSide_1 : decode cX5_isSide 1 = .ok (.ifCond .eq 8, 3) := by decide +kernel
theorem dX5_isSide_4 : decode cX5_isSide 4 = .ok (.iload_n 0, 1) := by decide +kernel
theorem dX5_isSide_5 : decode cX5_isSide 5 = .ok (.iconst 1, 1) := by decide +kernel
theorem dX5_isSide_6 : decode cX5_isSide 6 = .ok (.if_icmp .ne 7, 3) := by decide +kernel
theorem dX5_isSide_9 : decode cX5_isSide 9 = .ok (.iconst 1, 1) := by decide +kernel
theorem dX5_isSide_10 : decode cX5_isSide 10 = .ok (.goto 4, 3) := by decide +kernel
theorem dX5_isSide_13 : decode cX5_isSide 13 = .ok (.iconst 0, 1) := by decide +kernel
theorem dX5_isSide_14 : decode cX5_isSide 14 = .ok (.ireturn, 1) := by decide +kernel

theorem dX5_canAskFor_0 : decode cX5_canAskFor 0 = .ok (.aload_n 0, 1) := by decide +kernel
theorem dX5_canAskFor_1 : decode cX5_canAskFor 1 = .ok (.getfield 19, 3) := by decide +kernel
theorem dX5_canAskFor_4 : decode cX5_canAskFor 4 = .ok (.iload_n 1, 1) := by decide +kernel
theorem dX5_canAskFor_5 : decode cX5_canAskFor 5 = .ok (.invokevirtual 105, 3) := by decide +kernel
theorem dX5_canAskFor_8 : decode cX5_canAskFor 8 = .ok (.ifCond .eq 32, 3) := by decide +kernel
theorem dX5_canAskFor_11 : decode cX5_canAskFor 11 = .ok (.iload_n 2, 1) := by decide +kernel
theorem dX5_canAskFor_12 : decode cX5_canAskFor 12 = .ok (.invokestatic 188, 3) := by decide +kernel
theorem dX5_canAskFor_15 : decode cX5_canAskFor 15 = .ok (.ifCond .eq 25, 3) := by decide +kernel
theorem dX5_canAskFor_18 : decode cX5_canAskFor 18 = .ok (.aload_n 0, 1) := by decide +kernel
theorem dX5_canAskFor_19 : decode cX5_canAskFor 19 = .ok (.getfield 10, 3) := by decide +kernel
theorem dX5_canAskFor_22 : decode cX5_canAskFor 22 = .ok (.iload_n 3, 1) := by decide +kernel
theorem dX5_canAskFor_23 : decode cX5_canAskFor 23 = .ok (.invokevirtual 44, 3) := by decide +kernel
theorem dX5_canAskFor_26 : decode cX5_canAskFor 26 = .ok (.ifCond .eq 14, 3) := by decide +kernel
theorem dX5_canAskFor_29 : decode cX5_canAskFor 29 = .ok (.lload 4, 2) := by decide +kernel
theorem dX5_canAskFor_31 : decode cX5_canAskFor 31 = .ok (.lconst 1, 1) := by decide +kernel
theorem dX5_canAskFor_32 : decode cX5_canAskFor 32 = .ok (.lcmp, 1) := by decide +kernel
theorem dX5_canAskFor_33 : decode cX5_canAskFor 33 = .ok (.ifCond .lt 7, 3) := by decide +kernel
theorem dX5_canAskFor_36 : decode cX5_canAskFor 36 = .ok (.iconst 1, 1) := by decide +kernel
theorem dX5_canAskFor_37 : decode cX5_canAskFor 37 = .ok (.goto 4, 3) := by decide +kernel
theorem dX5_canAskFor_40 : decode cX5_canAskFor 40 = .ok (.iconst 0, 1) := by decide +kernel
theorem dX5_canAskFor_41 : decode cX5_canAskFor 41 = .ok (.ireturn, 1) := by decide +kernel

theorem dX5_richestOther_0 : decode cX5_richestOther 0 = .ok (.iconst (-1), 1) := by decide +kernel
theorem dX5_richestOther_1 : decode cX5_richestOther 1 = .ok (.istore 4, 2) := by decide +kernel
theorem dX5_richestOther_3 : decode cX5_richestOther 3 = .ok (.lconst 0, 1) := by decide +kernel
theorem dX5_richestOther_4 : decode cX5_richestOther 4 = .ok (.lstore 5, 2) := by decide +kernel
theorem dX5_richestOther_6 : decode cX5_richestOther 6 = .ok (.iconst 0, 1) := by decide +kernel
theorem dX5_richestOther_7 : decode cX5_richestOther 7 = .ok (.istore 7, 2) := by decide +kernel
theorem dX5_richestOther_9 : decode cX5_richestOther 9 = .ok (.iload 7, 2) := by decide +kernel
theorem dX5_richestOther_11 : decode cX5_richestOther 11 = .ok (.bipush 6, 2) := by decide +kernel
theorem dX5_richestOther_13 : decode cX5_richestOther 13 = .ok (.if_icmp .ge 61, 3) := by decide +kernel
theorem dX5_richestOther_16 : decode cX5_richestOther 16 = .ok (.iload 7, 2) := by decide +kernel
theorem dX5_richestOther_18 : decode cX5_richestOther 18 = .ok (.iload_n 3, 1) := by decide +kernel
theorem dX5_richestOther_19 : decode cX5_richestOther 19 = .ok (.if_icmp .eq 49, 3) := by decide +kernel
theorem dX5_richestOther_22 : decode cX5_richestOther 22 = .ok (.aload_n 0, 1) := by decide +kernel
theorem dX5_richestOther_23 : decode cX5_richestOther 23 = .ok (.getfield 10, 3) := by decide +kernel
theorem dX5_richestOther_26 : decode cX5_richestOther 26 = .ok (.iload 7, 2) := by decide +kernel
theorem dX5_richestOther_28 : decode cX5_richestOther 28 = .ok (.invokevirtual 44, 3) := by decide +kernel
theorem dX5_richestOther_31 : decode cX5_richestOther 31 = .ok (.ifCond .eq 37, 3) := by decide +kernel
theorem dX5_richestOther_34 : decode cX5_richestOther 34 = .ok (.aload_n 0, 1) := by decide +kernel
theorem dX5_richestOther_35 : decode cX5_richestOther 35 = .ok (.getfield 19, 3) := by decide +kernel
theorem dX5_richestOther_38 : decode cX5_richestOther 38 = .ok (.iload_n 1, 1) := by decide +kernel
theorem dX5_richestOther_39 : decode cX5_richestOther 39 = .ok (.iload_n 2, 1) := by decide +kernel
theorem dX5_richestOther_40 : decode cX5_richestOther 40 = .ok (.iload 7, 2) := by decide +kernel
theorem dX5_richestOther_42 : decode cX5_richestOther 42 = .ok (.invokevirtual 129, 3) := by decide +kernel
theorem dX5_richestOther_45 : decode cX5_richestOther 45 = .ok (.lload 5, 2) := by decide +kernel
theorem dX5_richestOther_47 : decode cX5_richestOther 47 = .ok (.lcmp, 1) := by decide +kernel
theorem dX5_richestOther_48 : decode cX5_richestOther 48 = .ok (.ifCond .le 20, 3) := by decide +kernel
theorem dX5_richestOther_51 : decode cX5_richestOther 51 = .ok (.iload 7, 2) := by decide +kernel
theorem dX5_richestOther_53 : decode cX5_richestOther 53 = .ok (.istore 4, 2) := by decide +kernel
theorem dX5_richestOther_55 : decode cX5_richestOther 55 = .ok (.aload_n 0, 1) := by decide +kernel
theorem dX5_richestOther_56 : decode cX5_richestOther 56 = .ok (.getfield 19, 3) := by decide +kernel
theorem dX5_richestOther_59 : decode cX5_richestOther 59 = .ok (.iload_n 1, 1) := by decide +kernel
theorem dX5_richestOther_60 : decode cX5_richestOther 60 = .ok (.iload_n 2, 1) := by decide +kernel
theorem dX5_richestOther_61 : decode cX5_richestOther 61 = .ok (.iload 7, 2) := by decide +kernel
theorem dX5_richestOther_63 : decode cX5_richestOther 63 = .ok (.invokevirtual 129, 3) := by decide +kernel
theorem dX5_richestOther_66 : decode cX5_richestOther 66 = .ok (.lstore 5, 2) := by decide +kernel
theorem dX5_richestOther_68 : decode cX5_richestOther 68 = .ok (.iinc 7 1, 3) := by decide +kernel
theorem dX5_richestOther_71 : decode cX5_richestOther 71 = .ok (.goto (-62), 3) := by decide +kernel
theorem dX5_richestOther_74 : decode cX5_richestOther 74 = .ok (.iload 4, 2) := by decide +kernel
theorem dX5_richestOther_76 : decode cX5_richestOther 76 = .ok (.ireturn, 1) := by decide +kernel

theorem dX5_send_0 : decode cX5_send 0 = .ok (.aload_n 0, 1) := by decide +kernel
theorem dX5_send_1 : decode cX5_send 1 = .ok (.getfield 26, 3) := by decide +kernel
theorem dX5_send_4 : decode cX5_send 4 = .ok (.getfield 241, 3) := by decide +kernel
theorem dX5_send_7 : decode cX5_send 7 = .ok (.sipush 200, 3) := by decide +kernel
theorem dX5_send_10 : decode cX5_send 10 = .ok (.if_icmp .lt 5, 3) := by decide +kernel
theorem dX5_send_13 : decode cX5_send 13 = .ok (.iconst 0, 1) := by decide +kernel
theorem dX5_send_14 : decode cX5_send 14 = .ok (.ireturn, 1) := by decide +kernel
theorem dX5_send_15 : decode cX5_send 15 = .ok (.aload_n 0, 1) := by decide +kernel
theorem dX5_send_16 : decode cX5_send 16 = .ok (.getfield 19, 3) := by decide +kernel
theorem dX5_send_19 : decode cX5_send 19 = .ok (.iload_n 1, 1) := by decide +kernel
theorem dX5_send_20 : decode cX5_send 20 = .ok (.iload_n 2, 1) := by decide +kernel
theorem dX5_send_21 : decode cX5_send 21 = .ok (.iload_n 3, 1) := by decide +kernel
theorem dX5_send_22 : decode cX5_send 22 = .ok (.lload 5, 2) := by decide +kernel
theorem dX5_send_24 : decode cX5_send 24 = .ok (.lneg, 1) := by decide +kernel
theorem dX5_send_25 : decode cX5_send 25 = .ok (.invokevirtual 246, 3) := by decide +kernel
theorem dX5_send_28 : decode cX5_send 28 = .ok (.aload_n 0, 1) := by decide +kernel
theorem dX5_send_29 : decode cX5_send 29 = .ok (.getfield 26, 3) := by decide +kernel
theorem dX5_send_32 : decode cX5_send 32 = .ok (.iload_n 1, 1) := by decide +kernel
theorem dX5_send_33 : decode cX5_send 33 = .ok (.iload_n 2, 1) := by decide +kernel
theorem dX5_send_34 : decode cX5_send 34 = .ok (.iload_n 3, 1) := by decide +kernel
theorem dX5_send_35 : decode cX5_send 35 = .ok (.iload 4, 2) := by decide +kernel
theorem dX5_send_37 : decode cX5_send 37 = .ok (.lload 5, 2) := by decide +kernel
theorem dX5_send_39 : decode cX5_send 39 = .ok (.invokevirtual 249, 3) := by decide +kernel
theorem dX5_send_42 : decode cX5_send 42 = .ok (.ireturn, 1) := by decide +kernel

theorem dX5_goFirst_0 : decode cX5_goFirst 0 = .ok (.aload_n 0, 1) := by decide +kernel
theorem dX5_goFirst_1 : decode cX5_goFirst 1 = .ok (.getfield 33, 3) := by decide +kernel
theorem dX5_goFirst_4 : decode cX5_goFirst 4 = .ok (.getfield 224, 3) := by decide +kernel
theorem dX5_goFirst_7 : decode cX5_goFirst 7 = .ok (.iload_n 1, 1) := by decide +kernel
theorem dX5_goFirst_8 : decode cX5_goFirst 8 = .ok (.iaload, 1) := by decide +kernel
theorem dX5_goFirst_9 : decode cX5_goFirst 9 = .ok (.ifCond .eq 36, 3) := by decide +kernel
theorem dX5_goFirst_12 : decode cX5_goFirst 12 = .ok (.aload_n 0, 1) := by decide +kernel
theorem dX5_goFirst_13 : decode cX5_goFirst 13 = .ok (.getfield 19, 3) := by decide +kernel
theorem dX5_goFirst_16 : decode cX5_goFirst 16 = .ok (.aload_n 0, 1) := by decide +kernel
theorem dX5_goFirst_17 : decode cX5_goFirst 17 = .ok (.getfield 33, 3) := by decide +kernel
theorem dX5_goFirst_20 : decode cX5_goFirst 20 = .ok (.getfield 254, 3) := by decide +kernel
theorem dX5_goFirst_23 : decode cX5_goFirst 23 = .ok (.iload_n 1, 1) := by decide +kernel
theorem dX5_goFirst_24 : decode cX5_goFirst 24 = .ok (.aaload, 1) := by decide +kernel
theorem dX5_goFirst_25 : decode cX5_goFirst 25 = .ok (.iconst 0, 1) := by decide +kernel
theorem dX5_goFirst_26 : decode cX5_goFirst 26 = .ok (.iaload, 1) := by decide +kernel
theorem dX5_goFirst_27 : decode cX5_goFirst 27 = .ok (.iload_n 1, 1) := by decide +kernel
theorem dX5_goFirst_28 : decode cX5_goFirst 28 = .ok (.aload_n 0, 1) := by decide +kernel
theorem dX5_goFirst_29 : decode cX5_goFirst 29 = .ok (.getfield 33, 3) := by decide +kernel
theorem dX5_goFirst_32 : decode cX5_goFirst 32 = .ok (.getfield 229, 3) := by decide +kernel
theorem dX5_goFirst_35 : decode cX5_goFirst 35 = .ok (.iload_n 1, 1) := by decide +kernel
theorem dX5_goFirst_36 : decode cX5_goFirst 36 = .ok (.aaload, 1) := by decide +kernel
theorem dX5_goFirst_37 : decode cX5_goFirst 37 = .ok (.iconst 0, 1) := by decide +kernel
theorem dX5_goFirst_38 : decode cX5_goFirst 38 = .ok (.laload, 1) := by decide +kernel
theorem dX5_goFirst_39 : decode cX5_goFirst 39 = .ok (.invokevirtual 112, 3) := by decide +kernel
theorem dX5_goFirst_42 : decode cX5_goFirst 42 = .ok (.ifCond .ne 5, 3) := by decide +kernel
theorem dX5_goFirst_45 : decode cX5_goFirst 45 = .ok (.iconst 0, 1) := by decide +kernel
theorem dX5_goFirst_46 : decode cX5_goFirst 46 = .ok (.ireturn, 1) := by decide +kernel
theorem dX5_goFirst_47 : decode cX5_goFirst 47 = .ok (.aload_n 0, 1) := by decide +kernel
theorem dX5_goFirst_48 : decode cX5_goFirst 48 = .ok (.getfield 33, 3) := by decide +kernel
theorem dX5_goFirst_51 : decode cX5_goFirst 51 = .ok (.iload_n 1, 1) := by decide +kernel
theorem dX5_goFirst_52 : decode cX5_goFirst 52 = .ok (.invokevirtual 257, 3) := by decide +kernel
theorem dX5_goFirst_55 : decode cX5_goFirst 55 = .ok (.iconst 1, 1) := by decide +kernel
theorem dX5_goFirst_56 : decode cX5_goFirst 56 = .ok (.ireturn, 1) := by decide +kernel

theorem dX5_receive_0 : decode cX5_receive 0 = .ok (.lload 4, 2) := by decide +kernel
theorem dX5_receive_2 : decode cX5_receive 2 = .ok (.lconst 0, 1) := by decide +kernel
theorem dX5_receive_3 : decode cX5_receive 3 = .ok (.lcmp, 1) := by decide +kernel
theorem dX5_receive_4 : decode cX5_receive 4 = .ok (.ifCond .gt 4, 3) := by decide +kernel
theorem dX5_receive_7 : decode cX5_receive 7 = .ok (.return_, 1) := by decide +kernel
theorem dX5_receive_8 : decode cX5_receive 8 = .ok (.aload_n 0, 1) := by decide +kernel
theorem dX5_receive_9 : decode cX5_receive 9 = .ok (.getfield 19, 3) := by decide +kernel
theorem dX5_receive_12 : decode cX5_receive 12 = .ok (.iload_n 1, 1) := by decide +kernel
theorem dX5_receive_13 : decode cX5_receive 13 = .ok (.iload_n 2, 1) := by decide +kernel
theorem dX5_receive_14 : decode cX5_receive 14 = .ok (.iload_n 3, 1) := by decide +kernel
theorem dX5_receive_15 : decode cX5_receive 15 = .ok (.lload 4, 2) := by decide +kernel
theorem dX5_receive_17 : decode cX5_receive 17 = .ok (.invokevirtual 246, 3) := by decide +kernel
theorem dX5_receive_20 : decode cX5_receive 20 = .ok (.iconst 0, 1) := by decide +kernel
theorem dX5_receive_21 : decode cX5_receive 21 = .ok (.istore 6, 2) := by decide +kernel
theorem dX5_receive_23 : decode cX5_receive 23 = .ok (.iload 6, 2) := by decide +kernel
theorem dX5_receive_25 : decode cX5_receive 25 = .ok (.bipush 8, 2) := by decide +kernel
theorem dX5_receive_27 : decode cX5_receive 27 = .ok (.if_icmp .ge 27, 3) := by decide +kernel
theorem dX5_receive_30 : decode cX5_receive 30 = .ok (.aload_n 0, 1) := by decide +kernel
theorem dX5_receive_31 : decode cX5_receive 31 = .ok (.iload_n 3, 1) := by decide +kernel
theorem dX5_receive_32 : decode cX5_receive 32 = .ok (.invokevirtual 251, 3) := by decide +kernel
theorem dX5_receive_35 : decode cX5_receive 35 = .ok (.ifCond .eq 19, 3) := by decide +kernel
theorem dX5_receive_38 : decode cX5_receive 38 = .ok (.aload_n 0, 1) := by decide +kernel
theorem dX5_receive_39 : decode cX5_receive 39 = .ok (.dup, 1) := by decide +kernel
theorem dX5_receive_40 : decode cX5_receive 40 = .ok (.getfield 116, 3) := by decide +kernel
theorem dX5_receive_43 : decode cX5_receive 43 = .ok (.iconst 1, 1) := by decide +kernel
theorem dX5_receive_44 : decode cX5_receive 44 = .ok (.iadd, 1) := by decide +kernel
theorem dX5_receive_45 : decode cX5_receive 45 = .ok (.putfield 116, 3) := by decide +kernel
theorem dX5_receive_48 : decode cX5_receive 48 = .ok (.iinc 6 1, 3) := by decide +kernel
theorem dX5_receive_51 : decode cX5_receive 51 = .ok (.goto (-28), 3) := by decide +kernel
theorem dX5_receive_54 : decode cX5_receive 54 = .ok (.return_, 1) := by decide +kernel

theorem dX5_useOwnWeights_0 : decode cX5_useOwnWeights 0 = .ok (.iconst 0, 1) := by decide +kernel
theorem dX5_useOwnWeights_1 : decode cX5_useOwnWeights 1 = .ok (.istore_n 1, 1) := by decide +kernel
theorem dX5_useOwnWeights_2 : decode cX5_useOwnWeights 2 = .ok (.iload_n 1, 1) := by decide +kernel
theorem dX5_useOwnWeights_3 : decode cX5_useOwnWeights 3 = .ok (.bipush 6, 2) := by decide +kernel
theorem dX5_useOwnWeights_5 : decode cX5_useOwnWeights 5 = .ok (.if_icmp .ge 42, 3) := by decide +kernel
theorem dX5_useOwnWeights_8 : decode cX5_useOwnWeights 8 = .ok (.aload_n 0, 1) := by decide +kernel
theorem dX5_useOwnWeights_9 : decode cX5_useOwnWeights 9 = .ok (.getfield 40, 3) := by decide +kernel
theorem dX5_useOwnWeights_12 : decode cX5_useOwnWeights 12 = .ok (.getfield 269, 3) := by decide +kernel
theorem dX5_useOwnWeights_15 : decode cX5_useOwnWeights 15 = .ok (.iload_n 1, 1) := by decide +kernel
theorem dX5_useOwnWeights_16 : decode cX5_useOwnWeights 16 = .ok (.aload_n 0, 1) := by decide +kernel
theorem dX5_useOwnWeights_17 : decode cX5_useOwnWeights 17 = .ok (.getfield 10, 3) := by decide +kernel
theorem dX5_useOwnWeights_20 : decode cX5_useOwnWeights 20 = .ok (.iload_n 1, 1) := by decide +kernel
theorem dX5_useOwnWeights_21 : decode cX5_useOwnWeights 21 = .ok (.invokevirtual 44, 3) := by decide +kernel
theorem dX5_useOwnWeights_24 : decode cX5_useOwnWeights 24 = .ok (.ifCond .eq 15, 3) := by decide +kernel
theorem dX5_useOwnWeights_27 : decode cX5_useOwnWeights 27 = .ok (.aload_n 0, 1) := by decide +kernel
theorem dX5_useOwnWeights_28 : decode cX5_useOwnWeights 28 = .ok (.getfield 10, 3) := by decide +kernel
theorem dX5_useOwnWeights_31 : decode cX5_useOwnWeights 31 = .ok (.getfield 50, 3) := by decide +kernel
theorem dX5_useOwnWeights_34 : decode cX5_useOwnWeights 34 = .ok (.iload_n 1, 1) := by decide +kernel
theorem dX5_useOwnWeights_35 : decode cX5_useOwnWeights 35 = .ok (.laload, 1) := by decide +kernel
theorem dX5_useOwnWeights_36 : decode cX5_useOwnWeights 36 = .ok (.goto 4, 3) := by decide +kernel
theorem dX5_useOwnWeights_39 : decode cX5_useOwnWeights 39 = .ok (.lconst 0, 1) := by decide +kernel
theorem dX5_useOwnWeights_40 : decode cX5_useOwnWeights 40 = .ok (.lastore, 1) := by decide +kernel
theorem dX5_useOwnWeights_41 : decode cX5_useOwnWeights 41 = .ok (.iinc 1 1, 3) := by decide +kernel
theorem dX5_useOwnWeights_44 : decode cX5_useOwnWeights 44 = .ok (.goto (-42), 3) := by decide +kernel
theorem dX5_useOwnWeights_47 : decode cX5_useOwnWeights 47 = .ok (.return_, 1) := by decide +kernel

theorem dX5_useEqualWeights_0 : decode cX5_useEqualWeights 0 = .ok (.iconst 0, 1) := by decide +kernel
theorem dX5_useEqualWeights_1 : decode cX5_useEqualWeights 1 = .ok (.istore_n 1, 1) := by decide +kernel
theorem dX5_useEqualWeights_2 : decode cX5_useEqualWeights 2 = .ok (.iload_n 1, 1) := by decide +kernel
theorem dX5_useEqualWeights_3 : decode cX5_useEqualWeights 3 = .ok (.bipush 6, 2) := by decide +kernel
theorem dX5_useEqualWeights_5 : decode cX5_useEqualWeights 5 = .ok (.if_icmp .ge 34, 3) := by decide +kernel
theorem dX5_useEqualWeights_8 : decode cX5_useEqualWeights 8 = .ok (.aload_n 0, 1) := by decide +kernel
theorem dX5_useEqualWeights_9 : decode cX5_useEqualWeights 9 = .ok (.getfield 40, 3) := by decide +kernel
theorem dX5_useEqualWeights_12 : decode cX5_useEqualWeights 12 = .ok (.getfield 269, 3) := by decide +kernel
theorem dX5_useEqualWeights_15 : decode cX5_useEqualWeights 15 = .ok (.iload_n 1, 1) := by decide +kernel
theorem dX5_useEqualWeights_16 : decode cX5_useEqualWeights 16 = .ok (.aload_n 0, 1) := by decide +kernel
theorem dX5_useEqualWeights_17 : decode cX5_useEqualWeights 17 = .ok (.getfield 10, 3) := by decide +kernel
theorem dX5_useEqualWeights_20 : decode cX5_useEqualWeights 20 = .ok (.iload_n 1, 1) := by decide +kernel
theorem dX5_useEqualWeights_21 : decode cX5_useEqualWeights 21 = .ok (.invokevirtual 44, 3) := by decide +kernel
theorem dX5_useEqualWeights_24 : decode cX5_useEqualWeights 24 = .ok (.ifCond .eq 7, 3) := by decide +kernel
theorem dX5_useEqualWeights_27 : decode cX5_useEqualWeights 27 = .ok (.lconst 1, 1) := by decide +kernel
theorem dX5_useEqualWeights_28 : decode cX5_useEqualWeights 28 = .ok (.goto 4, 3) := by decide +kernel
theorem dX5_useEqualWeights_31 : decode cX5_useEqualWeights 31 = .ok (.lconst 0, 1) := by decide +kernel
theorem dX5_useEqualWeights_32 : decode cX5_useEqualWeights 32 = .ok (.lastore, 1) := by decide +kernel
theorem dX5_useEqualWeights_33 : decode cX5_useEqualWeights 33 = .ok (.iinc 1 1, 3) := by decide +kernel
theorem dX5_useEqualWeights_36 : decode cX5_useEqualWeights 36 = .ok (.goto (-34), 3) := by decide +kernel
theorem dX5_useEqualWeights_39 : decode cX5_useEqualWeights 39 = .ok (.return_, 1) := by decide +kernel

theorem dX5_sharesOfThose_0 : decode cX5_sharesOfThose 0 = .ok (.lconst 0, 1) := by decide +kernel
theorem dX5_sharesOfThose_1 : decode cX5_sharesOfThose 1 = .ok (.lstore 4, 2) := by decide +kernel
theorem dX5_sharesOfThose_3 : decode cX5_sharesOfThose 3 = .ok (.iconst 0, 1) := by decide +kernel
theorem dX5_sharesOfThose_4 : decode cX5_sharesOfThose 4 = .ok (.istore 6, 2) := by decide +kernel
theorem dX5_sharesOfThose_6 : decode cX5_sharesOfThose 6 = .ok (.iload 6, 2) := by decide +kernel
theorem dX5_sharesOfThose_8 : decode cX5_sharesOfThose 8 = .ok (.bipush 6, 2) := by decide +kernel
theorem dX5_sharesOfThose_10 : decode cX5_sharesOfThose 10 = .ok (.if_icmp .ge 38, 3) := by decide +kernel
theorem dX5_sharesOfThose_13 : decode cX5_sharesOfThose 13 = .ok (.aload_n 0, 1) := by decide +kernel
theorem dX5_sharesOfThose_14 : decode cX5_sharesOfThose 14 = .ok (.getfield 10, 3) := by decide +kernel
theorem dX5_sharesOfThose_17 : decode cX5_sharesOfThose 17 = .ok (.iload 6, 2) := by decide +kernel
theorem dX5_sharesOfThose_19 : decode cX5_sharesOfThose 19 = .ok (.invokevirtual 44, 3) := by decide +kernel
theorem dX5_sharesOfThose_22 : decode cX5_sharesOfThose 22 = .ok (.iload_n 3, 1) := by decide +kernel
theorem dX5_sharesOfThose_23 : decode cX5_sharesOfThose 23 = .ok (.if_icmp .ne 19, 3) := by decide +kernel
theorem dX5_sharesOfThose_26 : decode cX5_sharesOfThose 26 = .ok (.lload 4, 2) := by decide +kernel
theorem dX5_sharesOfThose_28 : decode cX5_sharesOfThose 28 = .ok (.aload_n 0, 1) := by decide +kernel
theorem dX5_sharesOfThose_29 : decode cX5_sharesOfThose 29 = .ok (.getfield 19, 3) := by decide +kernel
theorem dX5_sharesOfThose_32 : decode cX5_sharesOfThose 32 = .ok (.iload_n 1, 1) := by decide +kernel
theorem dX5_sharesOfThose_33 : decode cX5_sharesOfThose 33 = .ok (.iload_n 2, 1) := by decide +kernel
theorem dX5_sharesOfThose_34 : decode cX5_sharesOfThose 34 = .ok (.iload 6, 2) := by decide +kernel
theorem dX5_sharesOfThose_36 : decode cX5_sharesOfThose 36 = .ok (.invokevirtual 129, 3) := by decide +kernel
theorem dX5_sharesOfThose_39 : decode cX5_sharesOfThose 39 = .ok (.ladd, 1) := by decide +kernel
theorem dX5_sharesOfThose_40 : decode cX5_sharesOfThose 40 = .ok (.lstore 4, 2) := by decide +kernel
theorem dX5_sharesOfThose_42 : decode cX5_sharesOfThose 42 = .ok (.iinc 6 1, 3) := by decide +kernel
theorem dX5_sharesOfThose_45 : decode cX5_sharesOfThose 45 = .ok (.goto (-39), 3) := by decide +kernel
theorem dX5_sharesOfThose_48 : decode cX5_sharesOfThose 48 = .ok (.lload 4, 2) := by decide +kernel
theorem dX5_sharesOfThose_50 : decode cX5_sharesOfThose 50 = .ok (.lreturn, 1) := by decide +kernel

theorem dX5_isStuck_0 : decode cX5_isStuck 0 = .ok (.aload_n 0, 1) := by decide +kernel
theorem dX5_isStuck_1 : decode cX5_isStuck 1 = .ok (.getfield 26, 3) := by decide +kernel
theorem dX5_isStuck_4 : decode cX5_isStuck 4 = .ok (.getfield 148, 3) := by decide +kernel
theorem dX5_isStuck_7 : decode cX5_isStuck 7 = .ok (.iload_n 1, 1) := by decide +kernel
theorem dX5_isStuck_8 : decode cX5_isStuck 8 = .ok (.iaload, 1) := by decide +kernel
theorem dX5_isStuck_9 : decode cX5_isStuck 9 = .ok (.iconst 2, 1) := by decide +kernel
theorem dX5_isStuck_10 : decode cX5_isStuck 10 = .ok (.if_icmp .eq 22, 3) := by decide +kernel
theorem dX5_isStuck_13 : decode cX5_isStuck 13 = .ok (.aload_n 0, 1) := by decide +kernel
theorem dX5_isStuck_14 : decode cX5_isStuck 14 = .ok (.getfield 10, 3) := by decide +kernel
theorem dX5_isStuck_17 : decode cX5_isStuck 17 = .ok (.aload_n 0, 1) := by decide +kernel
theorem dX5_isStuck_18 : decode cX5_isStuck 18 = .ok (.getfield 26, 3) := by decide +kernel
theorem dX5_isStuck_21 : decode cX5_isStuck 21 = .ok (.getfield 161, 3) := by decide +kernel
theorem dX5_isStuck_24 : decode cX5_isStuck 24 = .ok (.iload_n 1, 1) := by decide +kernel
theorem dX5_isStuck_25 : decode cX5_isStuck 25 = .ok (.iaload, 1) := by decide +kernel
theorem dX5_isStuck_26 : decode cX5_isStuck 26 = .ok (.invokevirtual 44, 3) := by decide +kernel
theorem dX5_isStuck_29 : decode cX5_isStuck 29 = .ok (.ifCond .ne 7, 3) := by decide +kernel
theorem dX5_isStuck_32 : decode cX5_isStuck 32 = .ok (.iconst 1, 1) := by decide +kernel
theorem dX5_isStuck_33 : decode cX5_isStuck 33 = .ok (.goto 4, 3) := by decide +kernel
theorem dX5_isStuck_36 : decode cX5_isStuck 36 = .ok (.iconst 0, 1) := by decide +kernel
theorem dX5_isStuck_37 : decode cX5_isStuck 37 = .ok (.ireturn, 1) := by decide +kernel

theorem dX5_heldByRows_0 : decode cX5_heldByRows 0 = .ok (.lconst 0, 1) := by decide +kernel
theorem dX5_heldByRows_1 : decode cX5_heldByRows 1 = .ok (.lstore 4, 2) := by decide +kernel
theorem dX5_heldByRows_3 : decode cX5_heldByRows 3 = .ok (.iconst 1, 1) := by decide +kernel
theorem dX5_heldByRows_4 : decode cX5_heldByRows 4 = .ok (.istore 6, 2) := by decide +kernel
theorem dX5_heldByRows_6 : decode cX5_heldByRows 6 = .ok (.iload 6, 2) := by decide +kernel
theorem dX5_heldByRows_8 : decode cX5_heldByRows 8 = .ok (.aload_n 0, 1) := by decide +kernel
theorem dX5_heldByRows_9 : decode cX5_heldByRows 9 = .ok (.getfield 26, 3) := by decide +kernel
theorem dX5_heldByRows_12 : decode cX5_heldByRows 12 = .ok (.getfield 241, 3) := by decide +kernel
theorem dX5_heldByRows_15 : decode cX5_heldByRows 15 = .ok (.if_icmp .gt 48, 3) := by decide +kernel
theorem dX5_heldByRows_18 : decode cX5_heldByRows 18 = .ok (.aload_n 0, 1) := by decide +kernel
theorem dX5_heldByRows_19 : decode cX5_heldByRows 19 = .ok (.getfield 26, 3) := by decide +kernel
theorem dX5_heldByRows_22 : decode cX5_heldByRows 22 = .ok (.iload 6, 2) := by decide +kernel
theorem dX5_heldByRows_24 : decode cX5_heldByRows 24 = .ok (.iload_n 1, 1) := by decide +kernel
theorem dX5_heldByRows_25 : decode cX5_heldByRows 25 = .ok (.iload_n 2, 1) := by decide +kernel
theorem dX5_heldByRows_26 : decode cX5_heldByRows 26 = .ok (.invokevirtual 270, 3) := by decide +kernel
theorem dX5_heldByRows_29 : decode cX5_heldByRows 29 = .ok (.ifCond .eq 28, 3) := by decide +kernel
theorem dX5_heldByRows_32 : decode cX5_heldByRows 32 = .ok (.aload_n 0, 1) := by decide +kernel
theorem dX5_heldByRows_33 : decode cX5_heldByRows 33 = .ok (.iload 6, 2) := by decide +kernel
theorem dX5_heldByRows_35 : decode cX5_heldByRows 35 = .ok (.invokevirtual 274, 3) := by decide +kernel
theorem dX5_heldByRows_38 : decode cX5_heldByRows 38 = .ok (.iload_n 3, 1) := by decide +kernel
theorem dX5_heldByRows_39 : decode cX5_heldByRows 39 = .ok (.if_icmp .ne 18, 3) := by decide +kernel
theorem dX5_heldByRows_42 : decode cX5_heldByRows 42 = .ok (.lload 4, 2) := by decide +kernel
theorem dX5_heldByRows_44 : decode cX5_heldByRows 44 = .ok (.aload_n 0, 1) := by decide +kernel
theorem dX5_heldByRows_45 : decode cX5_heldByRows 45 = .ok (.getfield 26, 3) := by decide +kernel
theorem dX5_heldByRows_48 : decode cX5_heldByRows 48 = .ok (.getfield 277, 3) := by decide +kernel
theorem dX5_heldByRows_51 : decode cX5_heldByRows 51 = .ok (.iload 6, 2) := by decide +kernel
theorem dX5_heldByRows_53 : decode cX5_heldByRows 53 = .ok (.laload, 1) := by decide +kernel
theorem dX5_heldByRows_54 : decode cX5_heldByRows 54 = .ok (.ladd, 1) := by decide +kernel
theorem dX5_heldByRows_55 : decode cX5_heldByRows 55 = .ok (.lstore 4, 2) := by decide +kernel
theorem dX5_heldByRows_57 : decode cX5_heldByRows 57 = .ok (.iinc 6 1, 3) := by decide +kernel
theorem dX5_heldByRows_60 : decode cX5_heldByRows 60 = .ok (.goto (-54), 3) := by decide +kernel
theorem dX5_heldByRows_63 : decode cX5_heldByRows 63 = .ok (.lload 4, 2) := by decide +kernel
theorem dX5_heldByRows_65 : decode cX5_heldByRows 65 = .ok (.lreturn, 1) := by decide +kernel

set_option maxHeartbeats 4000000 in
set_option maxRecDepth 100000 in
theorem kX5_isRoom (l : Launch) (dC : Nat → ClassId) (dI : Nat → Nat → Nat) (ca : Nat → ClassId) (ad : Nat → Nat) (S : sSt) (dd : Int64) : ct_I l yX5_isRoom (Cond.code yX5_isRoom cX5_isRoom 2 (some .boolean) :: wa_T) ({ frames := 0, cells := 0, slots := 0, locals := 0 } : Room) (dC, dI) vwCl (tyl ca) (wc ca ad) S [.long dd] (fun r S2 => r = bI (rmOk dd) ∧ S2 = S) := by
  refine ct_ofI (by decide) (Nat.le_of_ble_eq_true rfl) ?_
  intro p e s m below meth c A ls hx hb hr hml hts hown hlocks hK hA hw hl
  have hl : lv_has ls 2 [(0, .long dd)] := hl
  refine lv_lload_n hx hb dX5_isRoom_0 rfl (lv_at hl 0 rfl) ?_
  refine lv_lconst (v := 0) hx hb dX5_isRoom_1 (by decide) ?_
  refine lc_lt (tgt := 18) hx hb dX5_isRoom_2 dX5_isRoom_3 (by decide) (fun c_1 => ?_) (fun c_1 => ?_)
  · skip
    refine lv_iconst (v := nI 0) hx hb dX5_isRoom_18 (by decide) ?_
    exact ct_zret (S := S) (v := nI 0) hx hb hr hlocks hK (by first | decide | exact nb_z _) hw (⟨by simp only [bI, rmOk, c_1, decide_true, decide_false, Bool.not_true, Bool.not_false, Bool.true_and, Bool.and_true, Bool.false_and, Bool.and_false, Bool.or_true, Bool.true_or, Bool.or_false, Bool.false_or, Bool.false_eq_true, Bool.true_eq_false, if_true, if_false, ↓reduceIte], rfl⟩) dX5_isRoom_19
  · skip
    refine lv_lload_n hx hb dX5_isRoom_6 rfl (lv_at hl 0 rfl) ?_
    refine lv_ldc2 hx hb hown (hts _ wd_213) dX5_isRoom_7 ?_
    refine lc_gt (tgt := 18) hx hb dX5_isRoom_10 dX5_isRoom_11 (by decide) (fun c_2 => ?_) (fun c_2 => ?_)
    · skip
      refine lv_iconst (v := nI 0) hx hb dX5_isRoom_18 (by decide) ?_
      exact ct_zret (S := S) (v := nI 0) hx hb hr hlocks hK (by first | decide | exact nb_z _) hw (⟨by simp only [bI, rmOk, c_1, c_2, decide_true, decide_false, Bool.not_true, Bool.not_false, Bool.true_and, Bool.and_true, Bool.false_and, Bool.and_false, Bool.or_true, Bool.true_or, Bool.or_false, Bool.false_or, Bool.false_eq_true, Bool.true_eq_false, if_true, if_false, ↓reduceIte], rfl⟩) dX5_isRoom_19
    · skip
      refine lv_iconst (v := nI 1) hx hb dX5_isRoom_14 (by decide) ?_
      refine lv_goto (tgt := 19) hx hb dX5_isRoom_15 (by decide) ?_
      exact ct_zret (S := S) (v := nI 1) hx hb hr hlocks hK (by first | decide | exact nb_z _) hw (⟨by simp only [bI, rmOk, c_1, c_2, decide_true, decide_false, Bool.not_true, Bool.not_false, Bool.true_and, Bool.and_true, Bool.false_and, Bool.and_false, Bool.or_true, Bool.true_or, Bool.or_false, Bool.false_or, Bool.false_eq_true, Bool.true_eq_false, if_true, if_false, ↓reduceIte], rfl⟩) dX5_isRoom_19

set_option maxHeartbeats 4000000 in
set_option maxRecDepth 100000 in
theorem kX5_isInOrder (l : Launch) (dC : Nat → ClassId) (dI : Nat → Nat → Nat) (ca : Nat → ClassId) (ad : Nat → Nat) (S : sSt) (fl : Int64) (va : Int64) (ce : Int64) : ct_I l yX5_isInOrder (Cond.code yX5_isInOrder cX5_isInOrder 6 (some .boolean) :: wa_T) ({ frames := 1, cells := 0, slots := 0, locals := 21 } : Room) (dC, dI) vwCl (tyl ca) (wc ca ad) S [.long fl, .long va, .long ce] (fun r S2 => r = bI (ordOk fl va ce) ∧ S2 = S) := by
  refine ct_ofI (by decide) (Nat.le_of_ble_eq_true rfl) ?_
  intro p e s m below meth c A ls hx hb hr hml hts hown hlocks hK hA hw hl
  have hl : lv_has ls 6 [(0, .long fl), (2, .long va), (4, .long ce)] := hl
  refine lv_lload_n hx hb dX5_isInOrder_0 rfl (lv_at hl 0 rfl) ?_
  refine lv_lload_n hx hb dX5_isInOrder_1 rfl (lv_at hl 1 rfl) ?_
  refine lc_gt (tgt := 36) hx hb dX5_isInOrder_2 dX5_isInOrder_3 (by decide) (fun c_1 => ?_) (fun c_1 => ?_)
  · skip
    refine lv_iconst (v := nI 0) hx hb dX5_isInOrder_36 (by decide) ?_
    exact ct_zret (S := S) (v := nI 0) hx hb hr hlocks hK (by first | decide | exact nb_z _) hw (⟨by simp only [bI, ordOk, c_1, decide_true, decide_false, Bool.not_true, Bool.not_false, Bool.true_and, Bool.and_true, Bool.false_and, Bool.and_false, Bool.or_true, Bool.true_or, Bool.or_false, Bool.false_or, Bool.false_eq_true, Bool.true_eq_false, if_true, if_false, ↓reduceIte], rfl⟩) dX5_isInOrder_37
  · skip
    refine lv_lload_n hx hb dX5_isInOrder_6 rfl (lv_at hl 1 rfl) ?_
    refine lv_lload hx hb dX5_isInOrder_7 (lv_at hl 2 rfl) ?_
    refine lc_gt (tgt := 36) hx hb dX5_isInOrder_9 dX5_isInOrder_10 (by decide) (fun c_2 => ?_) (fun c_2 => ?_)
    · skip
      refine lv_iconst (v := nI 0) hx hb dX5_isInOrder_36 (by decide) ?_
      exact ct_zret (S := S) (v := nI 0) hx hb hr hlocks hK (by first | decide | exact nb_z _) hw (⟨by simp only [bI, ordOk, c_1, c_2, decide_true, decide_false, Bool.not_true, Bool.not_false, Bool.true_and, Bool.and_true, Bool.false_and, Bool.and_false, Bool.or_true, Bool.true_or, Bool.or_false, Bool.false_or, Bool.false_eq_true, Bool.true_eq_false, if_true, if_false, ↓reduceIte], rfl⟩) dX5_isInOrder_37
    · skip
      refine lv_lload_n hx hb dX5_isInOrder_13 rfl (lv_at hl 1 rfl) ?_
      refine lv_lload_n hx hb dX5_isInOrder_14 rfl (lv_at hl 0 rfl) ?_
      refine lv_lsub hx hb dX5_isInOrder_15 ?_
      refine wo_sI (As := [.long (va - fl)]) (rest := []) (kX5_isRoom l dC dI ca ad S (va - fl)) ⟨hx, hb, hml, hown, hts⟩ (va_cwS 1 hts (wa_gS wd_380 wd_381 wd_1 wd_382) rfl rfl rfl (by decide +kernel) ⟨Nat.le_of_ble_eq_true rfl, Nat.le_of_ble_eq_true rfl⟩) hK hw hA rfl hl.1 rfl (Nat.le_of_ble_eq_true rfl) dX5_isInOrder_16 ⟨Nat.zero_le _, Nat.zero_le _⟩ (fun r_3 S_3 H locs hp_3 hw => ?_)
      have e9 := hp_3.1.symm
      subst e9
      have e9 := hp_3.2.symm
      subst e9
      refine lv_if_eq (tgt := 36) hx hb dX5_isInOrder_19 (by decide) (fun c_4 => ?_) (fun c_4 => ?_)
      · skip
        have c_4 : rmOk (va - fl) = false := nb_0 c_4
        refine lv_iconst (v := nI 0) hx hb dX5_isInOrder_36 (by decide) ?_
        exact ct_zret (S := S) (v := nI 0) hx hb hr hlocks hK (by first | decide | exact nb_z _) hw (⟨by simp only [bI, ordOk, c_1, c_2, c_4, decide_true, decide_false, Bool.not_true, Bool.not_false, Bool.true_and, Bool.and_true, Bool.false_and, Bool.and_false, Bool.or_true, Bool.true_or, Bool.or_false, Bool.false_or, Bool.false_eq_true, Bool.true_eq_false, if_true, if_false, ↓reduceIte], rfl⟩) dX5_isInOrder_37
      · skip
        have c_4 : rmOk (va - fl) = true := nb_1 c_4
        refine lv_lload hx hb dX5_isInOrder_22 (lv_at hl 2 rfl) ?_
        refine lv_lload_n hx hb dX5_isInOrder_24 rfl (lv_at hl 1 rfl) ?_
        refine lv_lsub hx hb dX5_isInOrder_25 ?_
        refine wo_sI (As := [.long (ce - va)]) (rest := []) (kX5_isRoom l dC dI ca ad S (ce - va)) ⟨hx, hb, hml, hown, hts⟩ (va_cwS 1 hts (wa_gS wd_380 wd_381 wd_1 wd_382) rfl rfl rfl (by decide +kernel) ⟨Nat.le_of_ble_eq_true rfl, Nat.le_of_ble_eq_true rfl⟩) hK hw hA rfl hl.1 rfl (Nat.le_of_ble_eq_true rfl) dX5_isInOrder_26 ⟨Nat.zero_le _, Nat.zero_le _⟩ (fun r_5 S_5 H locs hp_5 hw => ?_)
        have e9 := hp_5.1.symm
        subst e9
        have e9 := hp_5.2.symm
        subst e9
        refine lv_if_eq (tgt := 36) hx hb dX5_isInOrder_29 (by decide) (fun c_6 => ?_) (fun c_6 => ?_)
        · skip
          have c_6 : rmOk (ce - va) = false := nb_0 c_6
          refine lv_iconst (v := nI 0) hx hb dX5_isInOrder_36 (by decide) ?_
          exact ct_zret (S := S) (v := nI 0) hx hb hr hlocks hK (by first | decide | exact nb_z _) hw (⟨by simp only [bI, ordOk, c_1, c_2, c_4, c_6, decide_true, decide_false, Bool.not_true, Bool.not_false, Bool.true_and, Bool.and_true, Bool.false_and, Bool.and_false, Bool.or_true, Bool.true_or, Bool.or_false, Bool.false_or, Bool.false_eq_true, Bool.true_eq_false, if_true, if_false, ↓reduceIte], rfl⟩) dX5_isInOrder_37
        · skip
          have c_6 : rmOk (ce - va) = true := nb_1 c_6
          refine lv_iconst (v := nI 1) hx hb dX5_isInOrder_32 (by decide) ?_
          refine lv_goto (tgt := 37) hx hb dX5_isInOrder_33 (by decide) ?_
          exact ct_zret (S := S) (v := nI 1) hx hb hr hlocks hK (by first | decide | exact nb_z _) hw (⟨by simp only [bI, ordOk, c_1, c_2, c_4, c_6, decide_true, decide_false, Bool.not_true, Bool.not_false, Bool.true_and, Bool.and_true, Bool.false_and, Bool.and_false, Bool.or_true, Bool.true_or, Bool.or_false, Bool.false_or, Bool.false_eq_true, Bool.true_eq_false, if_true, if_false, ↓reduceIte], rfl⟩) dX5_isInOrder_37

set_option maxHeartbeats 4000000 in
set_option maxRecDepth 100000 in
theorem kX5_isSide (l : Launch) (dC : Nat → ClassId) (dI : Nat → Nat → Nat) (ca : Nat → ClassId) (ad : Nat → Nat) (S : sSt) (sd : Int32) : ct_I l yX5_isSide (Cond.code yX5_isSide cX5_isSide 1 (some .boolean) :: wa_T) ({ frames := 0, cells := 0, slots := 0, locals := 0 } : Room) (dC, dI) vwCl (tyl ca) (wc ca ad) S [.int sd] (fun r S2 => r = bI (sdOk sd) ∧ S2 = S) := by
  refine ct_ofI (by decide) (Nat.le_of_ble_eq_true rfl) ?_
  intro p e s m below meth c A ls hx hb hr hml hts hown hlocks hK hA hw hl
  have hl : lv_has ls 1 [(0, .int sd)] := hl
  refine lv_iload_n hx hb dX5_isSide_0 rfl (lv_at hl 0 rfl) ?_
  refine lv_if_eq (tgt := 9) hx hb dX5_isSide_1 (by decide) (fun c_1 => ?_) (fun c_1 => ?_)
  · skip
    refine lv_iconst (v := nI 1) hx hb dX5_isSide_9 (by decide) ?_
    refine lv_goto (tgt := 14) hx hb dX5_isSide_10 (by decide) ?_
    exact ct_zret (S := S) (v := nI 1) hx hb hr hlocks hK (by first | decide | exact nb_z _) hw (⟨by simp only [bI, sdOk, c_1, decide_true, decide_false, Bool.not_true, Bool.not_false, Bool.true_and, Bool.and_true, Bool.false_and, Bool.and_false, Bool.or_true, Bool.true_or, Bool.or_false, Bool.false_or, Bool.false_eq_true, Bool.true_eq_false, if_true, if_false, ↓reduceIte], rfl⟩) dX5_isSide_14
  · skip
    refine lv_iload_n hx hb dX5_isSide_4 rfl (lv_at hl 0 rfl) ?_
    refine lv_iconst (v := nI 1) hx hb dX5_isSide_5 (by decide) ?_
    refine lv_icmp_ne (tgt := 13) hx hb dX5_isSide_6 (by decide) (fun c_2 => ?_) (fun c_2 => ?_)
    · skip
      refine lv_iconst (v := nI 0) hx hb dX5_isSide_13 (by decide) ?_
      exact ct_zret (S := S) (v := nI 0) hx hb hr hlocks hK (by first | decide | exact nb_z _) hw (⟨by simp only [bI, sdOk, c_1, c_2, decide_true, decide_false, Bool.not_true, Bool.not_false, Bool.true_and, Bool.and_true, Bool.false_and, Bool.and_false, Bool.or_true, Bool.true_or, Bool.or_false, Bool.false_or, Bool.false_eq_true, Bool.true_eq_false, if_true, if_false, ↓reduceIte], rfl⟩) dX5_isSide_14
    · skip
      refine lv_iconst (v := nI 1) hx hb dX5_isSide_9 (by decide) ?_
      refine lv_goto (tgt := 14) hx hb dX5_isSide_10 (by decide) ?_
      exact ct_zret (S := S) (v := nI 1) hx hb hr hlocks hK (by first | decide | exact nb_z _) hw (⟨by simp only [bI, sdOk, c_1, c_2, decide_true, decide_false, Bool.not_true, Bool.not_false, Bool.true_and, Bool.and_true, Bool.false_and, Bool.and_false, Bool.or_true, Bool.true_or, Bool.or_false, Bool.false_or, Bool.false_eq_true, Bool.true_eq_false, if_true, if_false, ↓reduceIte], rfl⟩) dX5_isSide_14

set_option maxHeartbeats 4000000 in
set_option maxRecDepth 100000 in
theorem kX5_canAskFor (l : Launch) (dC : Nat → ClassId) (dI : Nat → Nat → Nat) (ca : Nat → ClassId) (ad : Nat → Nat) (S : sSt) (bb : Int32) (sd : Int32) (pp : Int32) (vv : Int64) : ct_I l yX5_canAskFor (Cond.code yX5_canAskFor cX5_canAskFor 6 (some .boolean) :: wa_T) ({ frames := 2, cells := 0, slots := 0, locals := 41 } : Room) (dC, dI) vwCl (tyl ca) (wc ca ad) S [.ref (ad 0), .int bb, .int sd, .int pp, .long vv] (fun r S2 => r = bI (caf S bb sd pp vv) ∧ S2 = S) := by
  refine ct_ofI (by decide) (Nat.le_of_ble_eq_true rfl) ?_
  intro p e s m below meth c A ls hx hb hr hml hts hown hlocks hK hA hw hl
  have hl : lv_has ls 6 [(0, .ref (ad 0)), (1, .int bb), (2, .int sd), (3, .int pp), (4, .long vv)] := hl
  refine lv_aload_n hx hb dX5_canAskFor_0 rfl (lv_at hl 0 rfl) ?_
  refine wo_get hx hb hts inX5 hown hK hw 0 rfl rfl 1 (by decide) (hts _ wd_167) (fun _ h9 => h9) rfl dX5_canAskFor_1 ?_
  refine lv_iload_n hx hb dX5_canAskFor_4 rfl (lv_at hl 1 rfl) ?_
  refine wo_vI (As := [.int bb]) (rest := []) (kX0_has l dC dI ca ad S bb) ⟨hx, hb, hml, hown, hts⟩ (cwV 1 hts (wa_gV wd_208 wd_209 wd_210 wd_4 wd_211) rfl rfl rfl (by decide +kernel) ⟨Nat.le_of_ble_eq_true rfl, Nat.le_of_ble_eq_true rfl⟩) hK hw hA 2 rfl rfl rfl rfl hl.1 rfl (Nat.le_of_ble_eq_true rfl) dX5_canAskFor_5 ⟨Nat.zero_le _, Nat.zero_le _⟩ (fun r_1 S_1 H locs hp_1 hw => ?_)
  have e9 := hp_1.1.symm
  subst e9
  have e9 := hp_1.2.symm
  subst e9
  refine lv_if_eq (tgt := 40) hx hb dX5_canAskFor_8 (by decide) (fun c_2 => ?_) (fun c_2 => ?_)
  · skip
    have c_2 : hbd S bb = false := nb_0 c_2
    refine lv_iconst (v := nI 0) hx hb dX5_canAskFor_40 (by decide) ?_
    exact ct_zret (S := S) (v := nI 0) hx hb hr hlocks hK (by first | decide | exact nb_z _) hw (⟨by simp only [bI, caf, c_2, decide_true, decide_false, Bool.not_true, Bool.not_false, Bool.true_and, Bool.and_true, Bool.false_and, Bool.and_false, Bool.or_true, Bool.true_or, Bool.or_false, Bool.false_or, Bool.false_eq_true, Bool.true_eq_false, if_true, if_false, ↓reduceIte], rfl⟩) dX5_canAskFor_41
  · skip
    have c_2 : hbd S bb = true := nb_1 c_2
    refine lv_iload_n hx hb dX5_canAskFor_11 rfl (lv_at hl 2 rfl) ?_
    refine wo_sI (As := [.int sd]) (rest := []) (kX5_isSide l dC dI ca ad S sd) ⟨hx, hb, hml, hown, hts⟩ (va_cwS 1 hts (wa_gS wd_241 wd_242 wd_1 wd_243) rfl rfl rfl (by decide +kernel) ⟨Nat.le_of_ble_eq_true rfl, Nat.le_of_ble_eq_true rfl⟩) hK hw hA rfl hl.1 rfl (Nat.le_of_ble_eq_true rfl) dX5_canAskFor_12 ⟨Nat.zero_le _, Nat.zero_le _⟩ (fun r_3 S_3 H locs hp_3 hw => ?_)
    have e9 := hp_3.1.symm
    subst e9
    have e9 := hp_3.2.symm
    subst e9
    refine lv_if_eq (tgt := 40) hx hb dX5_canAskFor_15 (by decide) (fun c_4 => ?_) (fun c_4 => ?_)
    · skip
      have c_4 : sdOk sd = false := nb_0 c_4
      refine lv_iconst (v := nI 0) hx hb dX5_canAskFor_40 (by decide) ?_
      exact ct_zret (S := S) (v := nI 0) hx hb hr hlocks hK (by first | decide | exact nb_z _) hw (⟨by simp only [bI, caf, c_2, c_4, decide_true, decide_false, Bool.not_true, Bool.not_false, Bool.true_and, Bool.and_true, Bool.false_and, Bool.and_false, Bool.or_true, Bool.true_or, Bool.or_false, Bool.false_or, Bool.false_eq_true, Bool.true_eq_false, if_true, if_false, ↓reduceIte], rfl⟩) dX5_canAskFor_41
    · skip
      have c_4 : sdOk sd = true := nb_1 c_4
      refine lv_aload_n hx hb dX5_canAskFor_18 rfl (lv_at hl 0 rfl) ?_
      refine wo_get hx hb hts inX5 hown hK hw 0 rfl rfl 0 (by decide) (hts _ wd_166) (fun _ h9 => h9) rfl dX5_canAskFor_19 ?_
      refine lv_iload_n hx hb dX5_canAskFor_22 rfl (lv_at hl 3 rfl) ?_
      refine wo_vI (As := [.int pp]) (rest := []) (kX1_isWell l dC dI ca ad S pp) ⟨hx, hb, hml, hown, hts⟩ (cwV 1 hts (wa_gV wd_192 wd_193 wd_194 wd_2 wd_195) rfl rfl rfl (by decide +kernel) ⟨Nat.le_of_ble_eq_true rfl, Nat.le_of_ble_eq_true rfl⟩) hK hw hA 1 rfl rfl rfl rfl hl.1 rfl (Nat.le_of_ble_eq_true rfl) dX5_canAskFor_23 ⟨Nat.zero_le _, Nat.zero_le _⟩ (fun r_5 S_5 H locs hp_5 hw => ?_)
      have e9 := hp_5.1.symm
      subst e9
      have e9 := hp_5.2.symm
      subst e9
      refine lv_if_eq (tgt := 40) hx hb dX5_canAskFor_26 (by decide) (fun c_6 => ?_) (fun c_6 => ?_)
      · skip
        have c_6 : wl S pp = false := nb_0 c_6
        refine lv_iconst (v := nI 0) hx hb dX5_canAskFor_40 (by decide) ?_
        exact ct_zret (S := S) (v := nI 0) hx hb hr hlocks hK (by first | decide | exact nb_z _) hw (⟨by simp only [bI, caf, c_2, c_4, c_6, decide_true, decide_false, Bool.not_true, Bool.not_false, Bool.true_and, Bool.and_true, Bool.false_and, Bool.and_false, Bool.or_true, Bool.true_or, Bool.or_false, Bool.false_or, Bool.false_eq_true, Bool.true_eq_false, if_true, if_false, ↓reduceIte], rfl⟩) dX5_canAskFor_41
      · skip
        have c_6 : wl S pp = true := nb_1 c_6
        refine lv_lload hx hb dX5_canAskFor_29 (lv_at hl 4 rfl) ?_
        refine lv_lconst (v := 1) hx hb dX5_canAskFor_31 (by decide) ?_
        refine lc_lt (tgt := 40) hx hb dX5_canAskFor_32 dX5_canAskFor_33 (by decide) (fun c_7 => ?_) (fun c_7 => ?_)
        · skip
          refine lv_iconst (v := nI 0) hx hb dX5_canAskFor_40 (by decide) ?_
          exact ct_zret (S := S) (v := nI 0) hx hb hr hlocks hK (by first | decide | exact nb_z _) hw (⟨by simp only [bI, caf, c_2, c_4, c_6, c_7, decide_true, decide_false, Bool.not_true, Bool.not_false, Bool.true_and, Bool.and_true, Bool.false_and, Bool.and_false, Bool.or_true, Bool.true_or, Bool.or_false, Bool.false_or, Bool.false_eq_true, Bool.true_eq_false, if_true, if_false, ↓reduceIte], rfl⟩) dX5_canAskFor_41
        · skip
          refine lv_iconst (v := nI 1) hx hb dX5_canAskFor_36 (by decide) ?_
          refine lv_goto (tgt := 41) hx hb dX5_canAskFor_37 (by decide) ?_
          exact ct_zret (S := S) (v := nI 1) hx hb hr hlocks hK (by first | decide | exact nb_z _) hw (⟨by simp only [bI, caf, c_2, c_4, c_6, c_7, decide_true, decide_false, Bool.not_true, Bool.not_false, Bool.true_and, Bool.and_true, Bool.false_and, Bool.and_false, Bool.or_true, Bool.true_or, Bool.or_false, Bool.false_or, Bool.false_eq_true, Bool.true_eq_false, if_true, if_false, ↓reduceIte], rfl⟩) dX5_canAskFor_41

set_option maxHeartbeats 4000000 in
set_option maxRecDepth 100000 in
theorem kX5_richestOther (l : Launch) (dC : Nat → ClassId) (dI : Nat → Nat → Nat) (ca : Nat → ClassId) (ad : Nat → Nat) (S : sSt) (bb : Nat) (sd : Nat) (pp : Nat) (hb6 : bb < 6) (hs2 : sd < 2) (hp6 : pp < 6) : ct_I l yX5_richestOther (Cond.code yX5_richestOther cX5_richestOther 8 (some .int) :: wa_T) ({ frames := 2, cells := 0, slots := 0, locals := 41 } : Room) (dC, dI) vwCl (tyl ca) (wc ca ad) S [.ref (ad 0), .int (nI bb), .int (nI sd), .int (nI pp)] (fun r S2 => r = (rich S (bb * 2 + sd) pp 6).1 ∧ S2 = S) := by
  refine ct_ofI (by decide) (Nat.le_of_ble_eq_true rfl) ?_
  intro p e s m below meth c A ls hx hb hr hml hts hown hlocks hK hA hw hl
  have hl : lv_has ls 8 [(0, .ref (ad 0)), (1, .int (nI bb)), (2, .int (nI sd)), (3, .int (nI pp))] := hl
  refine lv_iconst (v := (-1)) hx hb dX5_richestOther_0 (by decide) ?_
  refine lv_istore (lv' := [(4, .int (-1)), (0, .ref (ad 0)), (1, .int (nI bb)), (2, .int (nI sd)), (3, .int (nI pp))]) hx hb dX5_richestOther_1 hl (by decide) rfl (fun ls hl => ?_)
  refine lv_lconst (v := 0) hx hb dX5_richestOther_3 (by decide) ?_
  refine lv_lstore (lv' := [(5, .long 0), (4, .int (-1)), (0, .ref (ad 0)), (1, .int (nI bb)), (2, .int (nI sd)), (3, .int (nI pp))]) hx hb dX5_richestOther_4 hl (by decide) rfl (fun ls hl => ?_)
  refine lv_iconst (v := nI 0) hx hb dX5_richestOther_6 (by decide) ?_
  refine lv_istore (lv' := [(7, .int (nI 0)), (5, .long 0), (4, .int (-1)), (0, .ref (ad 0)), (1, .int (nI bb)), (2, .int (nI sd)), (3, .int (nI pp))]) hx hb dX5_richestOther_7 hl (by decide) rfl (fun ls hl => ?_)
  have lp_9 : ∀ (n : Nat) (i : Nat), i ≤ 6 → 7 ≤ i + n → ∀ (H : Heap) (locs : List Loc) (ls : Array Slot), wo_w (dC, dI) vwCl A s.heap (wc ca ad S) H locs → lv_has ls 8 [(0, .ref (ad 0)), (1, .int (nI bb)), (2, .int (nI sd)), (3, .int (nI pp)), (4, .int ((rich S (bb * 2 + sd) pp i).1)), (5, .long ((rich S (bb * 2 + sd) pp i).2)), (7, .int (nI i))] → W p l e ({ frames := 2, cells := 0, slots := 0, locals := 41 } : Room) s m ([.ref (ad 0), .int (nI bb), .int (nI sd), .int (nI pp)] : List Value).toArray below meth c H locs 0 0 (MQ below (va_Qi (fun r S2 => r = (rich S (bb * 2 + sd) pp 6).1 ∧ S2 = S) (ct_B (dC, dI) vwCl (tyl ca) (wc ca ad) A) A) ([.ref (ad 0), .int (nI bb), .int (nI sd), .int (nI pp)] : List Value).toArray s 0 0 A) (F0 m 9 ls []) := by
    intro n
    induction n with
    | zero =>
      intro i hi hn
      exfalso
      omega
    | succ n ih_9 =>
      intro i hi hn H locs ls hw hl
      refine lv_iload hx hb dX5_richestOther_9 (lv_at hl 6 rfl) ?_
      refine lv_bipush (v := nI 6) hx hb dX5_richestOther_11 (by decide) ?_
      refine lv_icmp_ge (tgt := 74) hx hb dX5_richestOther_13 (by decide) (fun c_1 => ?_) (fun c_1 => ?_)
      · skip
        have c_1 : 6 ≤ i := (nI_leI (a := 6) (b := i) (by omega) (by omega)).mp c_1
        obtain rfl : 6 = i := by omega
        refine lv_iload hx hb dX5_richestOther_74 (lv_at hl 4 rfl) ?_
        exact ct_iret (S := S) (v := (rich S (bb * 2 + sd) pp 6).1) hx hb hr hlocks hK hw (⟨rfl, rfl⟩) dX5_richestOther_76
      · skip
        have c_1 : ¬ (6 ≤ i) := fun h9 => c_1 ((nI_leI (a := 6) (b := i) (by omega) (by omega)).mpr h9)
        refine lv_iload hx hb dX5_richestOther_16 (lv_at hl 6 rfl) ?_
        refine lv_iload_n hx hb dX5_richestOther_18 rfl (lv_at hl 3 rfl) ?_
        refine lv_icmp_eq (tgt := 68) hx hb dX5_richestOther_19 (by decide) (fun c_2 => ?_) (fun c_2 => ?_)
        · skip
          have c_2 : i = pp := (nI_eq (a := i) (b := pp) (by omega) (by omega)).mp c_2
          refine lv_iinc (v := nI (i + 1)) (lv' := [(7, .int (nI (i + 1))), (0, .ref (ad 0)), (1, .int (nI bb)), (2, .int (nI sd)), (3, .int (nI pp)), (4, .int ((rich S (bb * 2 + sd) pp i).1)), (5, .long ((rich S (bb * 2 + sd) pp i).2))]) hx hb dX5_richestOther_68 hl (k := 6) rfl (nI_inc _) (by decide) rfl (fun ls hl => ?_)
          refine lv_goto (tgt := 9) hx hb dX5_richestOther_71 (by decide) ?_
          have e9 : (rich S (bb * 2 + sd) pp i).1 = (rich S (bb * 2 + sd) pp (i + 1)).1 := by first | rfl | (simp only [rich, c_1, c_2, decide_true, decide_false, Bool.not_true, Bool.not_false, Bool.true_and, Bool.and_true, Bool.false_and, Bool.and_false, Bool.or_true, Bool.true_or, Bool.or_false, Bool.false_or, Bool.false_eq_true, Bool.true_eq_false, if_true, if_false, ↓reduceIte]; done)
          rw [e9] at hl
          have e9 : (rich S (bb * 2 + sd) pp i).2 = (rich S (bb * 2 + sd) pp (i + 1)).2 := by first | rfl | (simp only [rich, c_1, c_2, decide_true, decide_false, Bool.not_true, Bool.not_false, Bool.true_and, Bool.and_true, Bool.false_and, Bool.and_false, Bool.or_true, Bool.true_or, Bool.or_false, Bool.false_or, Bool.false_eq_true, Bool.true_eq_false, if_true, if_false, ↓reduceIte]; done)
          rw [e9] at hl
          exact ih_9 (i + 1) (by omega) (by omega) _ _ _ hw (lv_sub hl [1, 2, 3, 4, 5, 6, 0] rfl)
        · skip
          have c_2 : ¬ (i = pp) := fun h9 => c_2 ((nI_eq (a := i) (b := pp) (by omega) (by omega)).mpr h9)
          refine lv_aload_n hx hb dX5_richestOther_22 rfl (lv_at hl 0 rfl) ?_
          refine wo_get hx hb hts inX5 hown hK hw 0 rfl rfl 0 (by decide) (hts _ wd_166) (fun _ h9 => h9) rfl dX5_richestOther_23 ?_
          refine lv_iload hx hb dX5_richestOther_26 (lv_at hl 6 rfl) ?_
          refine wo_vI (As := [.int (nI i)]) (rest := []) (kX1_isWell l dC dI ca ad S (nI i)) ⟨hx, hb, hml, hown, hts⟩ (cwV 1 hts (wa_gV wd_192 wd_193 wd_194 wd_2 wd_195) rfl rfl rfl (by decide +kernel) ⟨Nat.le_of_ble_eq_true rfl, Nat.le_of_ble_eq_true rfl⟩) hK hw hA 1 rfl rfl rfl rfl hl.1 rfl (Nat.le_of_ble_eq_true rfl) dX5_richestOther_28 ⟨Nat.zero_le _, Nat.zero_le _⟩ (fun r_3 S_3 H locs hp_3 hw => ?_)
          have e9 := hp_3.1.symm
          subst e9
          have e9 := hp_3.2.symm
          subst e9
          refine lv_if_eq (tgt := 68) hx hb dX5_richestOther_31 (by decide) (fun c_4 => ?_) (fun c_4 => ?_)
          · skip
            have c_4 : wl S (nI i) = false := nb_0 c_4
            refine lv_iinc (v := nI (i + 1)) (lv' := [(7, .int (nI (i + 1))), (0, .ref (ad 0)), (1, .int (nI bb)), (2, .int (nI sd)), (3, .int (nI pp)), (4, .int ((rich S (bb * 2 + sd) pp i).1)), (5, .long ((rich S (bb * 2 + sd) pp i).2))]) hx hb dX5_richestOther_68 hl (k := 6) rfl (nI_inc _) (by decide) rfl (fun ls hl => ?_)
            refine lv_goto (tgt := 9) hx hb dX5_richestOther_71 (by decide) ?_
            have e9 : (rich S (bb * 2 + sd) pp i).1 = (rich S (bb * 2 + sd) pp (i + 1)).1 := by first | rfl | (simp only [rich, c_1, c_2, c_4, decide_true, decide_false, Bool.not_true, Bool.not_false, Bool.true_and, Bool.and_true, Bool.false_and, Bool.and_false, Bool.or_true, Bool.true_or, Bool.or_false, Bool.false_or, Bool.false_eq_true, Bool.true_eq_false, if_true, if_false, ↓reduceIte]; done)
            rw [e9] at hl
            have e9 : (rich S (bb * 2 + sd) pp i).2 = (rich S (bb * 2 + sd) pp (i + 1)).2 := by first | rfl | (simp only [rich, c_1, c_2, c_4, decide_true, decide_false, Bool.not_true, Bool.not_false, Bool.true_and, Bool.and_true, Bool.false_and, Bool.and_false, Bool.or_true, Bool.true_or, Bool.or_false, Bool.false_or, Bool.false_eq_true, Bool.true_eq_false, if_true, if_false, ↓reduceIte]; done)
            rw [e9] at hl
            exact ih_9 (i + 1) (by omega) (by omega) _ _ _ hw (lv_sub hl [1, 2, 3, 4, 5, 6, 0] rfl)
          · skip
            have c_4 : wl S (nI i) = true := nb_1 c_4
            refine lv_aload_n hx hb dX5_richestOther_34 rfl (lv_at hl 0 rfl) ?_
            refine wo_get hx hb hts inX5 hown hK hw 0 rfl rfl 1 (by decide) (hts _ wd_167) (fun _ h9 => h9) rfl dX5_richestOther_35 ?_
            refine lv_iload_n hx hb dX5_richestOther_38 rfl (lv_at hl 1 rfl) ?_
            refine lv_iload_n hx hb dX5_richestOther_39 rfl (lv_at hl 2 rfl) ?_
            refine lv_iload hx hb dX5_richestOther_40 (lv_at hl 6 rfl) ?_
            refine wo_vL (As := [.int (nI bb), .int (nI sd), .int (nI i)]) (rest := []) (kX0_shareOf l dC dI ca ad S bb sd i (by first | assumption | omega) (by first | assumption | omega) (by first | assumption | omega)) ⟨hx, hb, hml, hown, hts⟩ (cwV 3 hts (wa_gV wd_244 wd_219 wd_220 wd_4 wd_221) rfl rfl rfl (by decide +kernel) ⟨Nat.le_of_ble_eq_true rfl, Nat.le_of_ble_eq_true rfl⟩) hK hw hA 2 rfl rfl rfl rfl hl.1 rfl (Nat.le_of_ble_eq_true rfl) dX5_richestOther_42 ⟨Nat.zero_le _, Nat.zero_le _⟩ (fun r_5 S_5 H locs hp_5 hw => ?_)
            have e9 := hp_5.1.symm
            subst e9
            have e9 := hp_5.2.symm
            subst e9
            refine lv_lload hx hb dX5_richestOther_45 (lv_at hl 5 rfl) ?_
            refine lc_le (tgt := 68) hx hb dX5_richestOther_47 dX5_richestOther_48 (by decide) (fun c_6 => ?_) (fun c_6 => ?_)
            · skip
              refine lv_iinc (v := nI (i + 1)) (lv' := [(7, .int (nI (i + 1))), (0, .ref (ad 0)), (1, .int (nI bb)), (2, .int (nI sd)), (3, .int (nI pp)), (4, .int ((rich S (bb * 2 + sd) pp i).1)), (5, .long ((rich S (bb * 2 + sd) pp i).2))]) hx hb dX5_richestOther_68 hl (k := 6) rfl (nI_inc _) (by decide) rfl (fun ls hl => ?_)
              refine lv_goto (tgt := 9) hx hb dX5_richestOther_71 (by decide) ?_
              have e9 : (rich S (bb * 2 + sd) pp i).1 = (rich S (bb * 2 + sd) pp (i + 1)).1 := by first | rfl | (simp only [rich, c_1, c_2, c_4, c_6, decide_true, decide_false, Bool.not_true, Bool.not_false, Bool.true_and, Bool.and_true, Bool.false_and, Bool.and_false, Bool.or_true, Bool.true_or, Bool.or_false, Bool.false_or, Bool.false_eq_true, Bool.true_eq_false, if_true, if_false, ↓reduceIte]; done)
              rw [e9] at hl
              have e9 : (rich S (bb * 2 + sd) pp i).2 = (rich S (bb * 2 + sd) pp (i + 1)).2 := by first | rfl | (simp only [rich, c_1, c_2, c_4, c_6, decide_true, decide_false, Bool.not_true, Bool.not_false, Bool.true_and, Bool.and_true, Bool.false_and, Bool.and_false, Bool.or_true, Bool.true_or, Bool.or_false, Bool.false_or, Bool.false_eq_true, Bool.true_eq_false, if_true, if_false, ↓reduceIte]; done)
              rw [e9] at hl
              exact ih_9 (i + 1) (by omega) (by omega) _ _ _ hw (lv_sub hl [1, 2, 3, 4, 5, 6, 0] rfl)
            · skip
              refine lv_iload hx hb dX5_richestOther_51 (lv_at hl 6 rfl) ?_
              refine lv_istore (lv' := [(4, .int (nI i)), (0, .ref (ad 0)), (1, .int (nI bb)), (2, .int (nI sd)), (3, .int (nI pp)), (5, .long ((rich S (bb * 2 + sd) pp i).2)), (7, .int (nI i))]) hx hb dX5_richestOther_53 hl (by decide) rfl (fun ls hl => ?_)
              refine lv_aload_n hx hb dX5_richestOther_55 rfl (lv_at hl 1 rfl) ?_
              refine wo_get hx hb hts inX5 hown hK hw 0 rfl rfl 1 (by decide) (hts _ wd_167) (fun _ h9 => h9) rfl dX5_richestOther_56 ?_
              refine lv_iload_n hx hb dX5_richestOther_59 rfl (lv_at hl 2 rfl) ?_
              refine lv_iload_n hx hb dX5_richestOther_60 rfl (lv_at hl 3 rfl) ?_
              refine lv_iload hx hb dX5_richestOther_61 (lv_at hl 6 rfl) ?_
              refine wo_vL (As := [.int (nI bb), .int (nI sd), .int (nI i)]) (rest := []) (kX0_shareOf l dC dI ca ad S bb sd i (by first | assumption | omega) (by first | assumption | omega) (by first | assumption | omega)) ⟨hx, hb, hml, hown, hts⟩ (cwV 3 hts (wa_gV wd_244 wd_219 wd_220 wd_4 wd_221) rfl rfl rfl (by decide +kernel) ⟨Nat.le_of_ble_eq_true rfl, Nat.le_of_ble_eq_true rfl⟩) hK hw hA 2 rfl rfl rfl rfl hl.1 rfl (Nat.le_of_ble_eq_true rfl) dX5_richestOther_63 ⟨Nat.zero_le _, Nat.zero_le _⟩ (fun r_7 S_7 H locs hp_7 hw => ?_)
              have e9 := hp_7.1.symm
              subst e9
              have e9 := hp_7.2.symm
              subst e9
              refine lv_lstore (lv' := [(5, .long (S.2 (14 + (bb * 2 + sd)) i)), (4, .int (nI i)), (0, .ref (ad 0)), (1, .int (nI bb)), (2, .int (nI sd)), (3, .int (nI pp)), (7, .int (nI i))]) hx hb dX5_richestOther_66 hl (by decide) rfl (fun ls hl => ?_)
              refine lv_iinc (v := nI (i + 1)) (lv' := [(7, .int (nI (i + 1))), (5, .long (S.2 (14 + (bb * 2 + sd)) i)), (4, .int (nI i)), (0, .ref (ad 0)), (1, .int (nI bb)), (2, .int (nI sd)), (3, .int (nI pp))]) hx hb dX5_richestOther_68 hl (k := 6) rfl (nI_inc _) (by decide) rfl (fun ls hl => ?_)
              refine lv_goto (tgt := 9) hx hb dX5_richestOther_71 (by decide) ?_
              have e9 : nI i = (rich S (bb * 2 + sd) pp (i + 1)).1 := by first | rfl | (simp only [rich, c_1, c_2, c_4, c_6, decide_true, decide_false, Bool.not_true, Bool.not_false, Bool.true_and, Bool.and_true, Bool.false_and, Bool.and_false, Bool.or_true, Bool.true_or, Bool.or_false, Bool.false_or, Bool.false_eq_true, Bool.true_eq_false, if_true, if_false, ↓reduceIte]; done)
              rw [e9] at hl
              have e9 : S.2 (14 + (bb * 2 + sd)) i = (rich S (bb * 2 + sd) pp (i + 1)).2 := by first | rfl | (simp only [rich, c_1, c_2, c_4, c_6, decide_true, decide_false, Bool.not_true, Bool.not_false, Bool.true_and, Bool.and_true, Bool.false_and, Bool.and_false, Bool.or_true, Bool.true_or, Bool.or_false, Bool.false_or, Bool.false_eq_true, Bool.true_eq_false, if_true, if_false, ↓reduceIte]; done)
              rw [e9] at hl
              exact ih_9 (i + 1) (by omega) (by omega) _ _ _ hw (lv_sub hl [3, 4, 5, 6, 2, 1, 0] rfl)
  have e9 : (-1) = (rich S (bb * 2 + sd) pp 0).1 := by first | rfl | (simp only [rich, decide_true, decide_false, Bool.not_true, Bool.not_false, Bool.true_and, Bool.and_true, Bool.false_and, Bool.and_false, Bool.or_true, Bool.true_or, Bool.or_false, Bool.false_or, Bool.false_eq_true, Bool.true_eq_false, if_true, if_false, ↓reduceIte]; done)
  rw [e9] at hl
  have e9 : 0 = (rich S (bb * 2 + sd) pp 0).2 := by first | rfl | (simp only [rich, decide_true, decide_false, Bool.not_true, Bool.not_false, Bool.true_and, Bool.and_true, Bool.false_and, Bool.and_false, Bool.or_true, Bool.true_or, Bool.or_false, Bool.false_or, Bool.false_eq_true, Bool.true_eq_false, if_true, if_false, ↓reduceIte]; done)
  rw [e9] at hl
  exact lp_9 7 0 (by omega) (by omega) _ _ _ hw (lv_sub hl [3, 4, 5, 6, 2, 1, 0] rfl)

set_option maxHeartbeats 4000000 in
set_option maxRecDepth 100000 in
theorem kX5_send (l : Launch) (dC : Nat → ClassId) (dI : Nat → Nat → Nat) (ca : Nat → ClassId) (ad : Nat → Nat) (S : sSt) (bb : Nat) (sd : Nat) (fr : Nat) (to : Nat) (vv : Int64) (nr : Nat) (hb6 : bb < 6) (hs2 : sd < 2) (hf6 : fr < 6) (hr : nr ≤ 200) (hcnt : S.1 3 0 = nI nr) : ct_I l yX5_send (Cond.code yX5_send cX5_send 7 (some .int) :: wa_T) ({ frames := 1, cells := 0, slots := 0, locals := 26 } : Room) (dC, dI) vwCl (tyl ca) (wc ca ad) S [.ref (ad 0), .int (nI bb), .int (nI sd), .int (nI fr), .int (nI to), .long vv] (fun r S2 => r = (if nr < 200 then nI (nr + 1) else nI 0) ∧ S2 = sendS S nr bb sd fr to vv) := by
  refine ct_ofI (by decide) (Nat.le_of_ble_eq_true rfl) ?_
  intro p e s m below meth c A ls hx hb hr hml hts hown hlocks hK hA hw hl
  have hl : lv_has ls 7 [(0, .ref (ad 0)), (1, .int (nI bb)), (2, .int (nI sd)), (3, .int (nI fr)), (4, .int (nI to)), (5, .long vv)] := hl
  refine lv_aload_n hx hb dX5_send_0 rfl (lv_at hl 0 rfl) ?_
  refine wo_get hx hb hts inX5 hown hK hw 0 rfl rfl 2 (by decide) (hts _ wd_168) (fun _ h9 => h9) rfl dX5_send_1 ?_
  refine wo_get hx hb hts inX3 hown hK hw 3 rfl rfl 0 (by decide) (hts _ wd_90) (fun _ h9 => h9) rfl dX5_send_4 ?_
  refine tp_i (y := nI nr) (hcnt) ?_
  refine lv_sipush (v := nI 200) hx hb dX5_send_7 (by decide) ?_
  refine lv_icmp_lt (tgt := 15) hx hb dX5_send_10 (by decide) (fun c_1 => ?_) (fun c_1 => ?_)
  · skip
    have c_1 : nr < 200 := (nI_ltI (a := nr) (b := 200) (by omega) (by omega)).mp c_1
    refine lv_aload_n hx hb dX5_send_15 rfl (lv_at hl 0 rfl) ?_
    refine wo_get hx hb hts inX5 hown hK hw 0 rfl rfl 1 (by decide) (hts _ wd_167) (fun _ h9 => h9) rfl dX5_send_16 ?_
    refine lv_iload_n hx hb dX5_send_19 rfl (lv_at hl 1 rfl) ?_
    refine lv_iload_n hx hb dX5_send_20 rfl (lv_at hl 2 rfl) ?_
    refine lv_iload_n hx hb dX5_send_21 rfl (lv_at hl 3 rfl) ?_
    refine lv_lload hx hb dX5_send_22 (lv_at hl 5 rfl) ?_
    refine lv_lneg hx hb dX5_send_24 ?_
    refine wo_vV (As := [.int (nI bb), .int (nI sd), .int (nI fr), .long (-vv)]) (rest := []) (kX0_addToShare l dC dI ca ad S bb sd fr (-vv) (by first | assumption | omega) (by first | assumption | omega) (by first | assumption | omega)) ⟨hx, hb, hml, hown, hts⟩ (cwV 4 hts (wa_gV wd_249 wd_226 wd_227 wd_4 wd_228) rfl rfl rfl (by decide +kernel) ⟨Nat.le_of_ble_eq_true rfl, Nat.le_of_ble_eq_true rfl⟩) hK hw hA 2 rfl rfl rfl rfl hl.1 rfl (Nat.le_of_ble_eq_true rfl) dX5_send_25 ⟨Nat.zero_le _, Nat.zero_le _⟩ (fun S_2 H locs hp_2 hw => ?_)
    have e9 := hp_2.symm
    subst e9
    refine lv_aload_n hx hb dX5_send_28 rfl (lv_at hl 0 rfl) ?_
    refine wo_get hx hb hts inX5 hown hK hw 0 rfl rfl 2 (by decide) (hts _ wd_168) (fun _ h9 => h9) rfl dX5_send_29 ?_
    refine lv_iload_n hx hb dX5_send_32 rfl (lv_at hl 1 rfl) ?_
    refine lv_iload_n hx hb dX5_send_33 rfl (lv_at hl 2 rfl) ?_
    refine lv_iload_n hx hb dX5_send_34 rfl (lv_at hl 3 rfl) ?_
    refine lv_iload hx hb dX5_send_35 (lv_at hl 4 rfl) ?_
    refine lv_lload hx hb dX5_send_37 (lv_at hl 5 rfl) ?_
    refine wo_vI (As := [.int (nI bb), .int (nI sd), .int (nI fr), .int (nI to), .long vv]) (rest := []) (kX3_open l dC dI ca ad (addSh S (bb * 2 + sd) fr (-vv)) bb sd fr to vv nr (by first | assumption | omega) (by first | assumption | omega)) ⟨hx, hb, hml, hown, hts⟩ (cwV 5 hts (wa_gV wd_250 wd_251 wd_252 wd_5 wd_253) rfl rfl rfl (by decide +kernel) ⟨Nat.le_of_ble_eq_true rfl, Nat.le_of_ble_eq_true rfl⟩) hK hw hA 3 rfl rfl rfl rfl hl.1 rfl (Nat.le_of_ble_eq_true rfl) dX5_send_39 ⟨Nat.zero_le _, Nat.zero_le _⟩ (fun r_3 S_3 H locs hp_3 hw => ?_)
    have e9 := hp_3.1.symm
    subst e9
    have e9 := hp_3.2.symm
    subst e9
    exact ct_iret (S := ropen (addSh S (bb * 2 + sd) fr (-vv)) nr bb sd fr to vv) (v := nI (nr + 1)) hx hb hr hlocks hK hw (⟨by simp only [c_1, decide_true, decide_false, Bool.not_true, Bool.not_false, Bool.true_and, Bool.and_true, Bool.false_and, Bool.and_false, Bool.or_true, Bool.true_or, Bool.or_false, Bool.false_or, Bool.false_eq_true, Bool.true_eq_false, if_true, if_false, ↓reduceIte], by simp only [sendS, c_1, decide_true, decide_false, Bool.not_true, Bool.not_false, Bool.true_and, Bool.and_true, Bool.false_and, Bool.and_false, Bool.or_true, Bool.true_or, Bool.or_false, Bool.false_or, Bool.false_eq_true, Bool.true_eq_false, if_true, if_false, ↓reduceIte]⟩) dX5_send_42
  · skip
    have c_1 : ¬ (nr < 200) := fun h9 => c_1 ((nI_ltI (a := nr) (b := 200) (by omega) (by omega)).mpr h9)
    refine lv_iconst (v := nI 0) hx hb dX5_send_13 (by decide) ?_
    exact ct_iret (S := S) (v := nI 0) hx hb hr hlocks hK hw (⟨by simp only [c_1, decide_true, decide_false, Bool.not_true, Bool.not_false, Bool.true_and, Bool.and_true, Bool.false_and, Bool.and_false, Bool.or_true, Bool.true_or, Bool.or_false, Bool.false_or, Bool.false_eq_true, Bool.true_eq_false, if_true, if_false, ↓reduceIte], by simp only [sendS, c_1, decide_true, decide_false, Bool.not_true, Bool.not_false, Bool.true_and, Bool.and_true, Bool.false_and, Bool.and_false, Bool.or_true, Bool.true_or, Bool.or_false, Bool.false_or, Bool.false_eq_true, Bool.true_eq_false, if_true, if_false, ↓reduceIte]⟩) dX5_send_14

set_option maxHeartbeats 4000000 in
set_option maxRecDepth 100000 in
theorem kX5_goFirst (l : Launch) (dC : Nat → ClassId) (dI : Nat → Nat → Nat) (ca : Nat → ClassId) (ad : Nat → Nat) (S : sSt) (pp : Nat) (hp6 : pp < 6) (hq : QW S pp) : ct_I l yX5_goFirst (Cond.code yX5_goFirst cX5_goFirst 2 (some .boolean) :: wa_T) ({ frames := 2, cells := 0, slots := 0, locals := 51 } : Room) (dC, dI) vwCl (tyl ca) (wc ca ad) S [.ref (ad 0), .int (nI pp)] (fun r S2 => r = bI (gfOk S pp) ∧ S2 = if gfOk S pp = true then gfS S pp else S) := by
  refine ct_ofI (by decide) (Nat.le_of_ble_eq_true rfl) ?_
  intro p e s m below meth c A ls hx hb hr hml hts hown hlocks hK hA hw hl
  have hl : lv_has ls 2 [(0, .ref (ad 0)), (1, .int (nI pp))] := hl
  refine lv_aload_n hx hb dX5_goFirst_0 rfl (lv_at hl 0 rfl) ?_
  refine wo_get hx hb hts inX5 hown hK hw 0 rfl rfl 3 (by decide) (hts _ wd_169) (fun _ h9 => h9) rfl dX5_goFirst_1 ?_
  refine wo_get hx hb hts inX2 hown hK hw 4 rfl rfl 0 (by decide) (hts _ wd_136) (fun _ h9 => h9) rfl dX5_goFirst_4 ?_
  refine lv_iload_n hx hb dX5_goFirst_7 rfl (lv_at hl 1 rfl) ?_
  refine wo_iald hx hb hK hw 34 0 rfl rfl pp rfl (by first | assumption | omega) (by decide) dX5_goFirst_8 ?_
  refine lv_if_eq (tgt := 45) hx hb dX5_goFirst_9 (by decide) (fun c_1 => ?_) (fun c_1 => ?_)
  · skip
    refine lv_iconst (v := nI 0) hx hb dX5_goFirst_45 (by decide) ?_
    exact ct_zret (S := S) (v := nI 0) hx hb hr hlocks hK (by first | decide | exact nb_z _) hw (⟨by simp only [bI, gfOk, c_1, decide_true, decide_false, Bool.not_true, Bool.not_false, Bool.true_and, Bool.and_true, Bool.false_and, Bool.and_false, Bool.or_true, Bool.true_or, Bool.or_false, Bool.false_or, Bool.false_eq_true, Bool.true_eq_false, if_true, if_false, ↓reduceIte], by simp only [gfOk, c_1, decide_true, decide_false, Bool.not_true, Bool.not_false, Bool.true_and, Bool.and_true, Bool.false_and, Bool.and_false, Bool.or_true, Bool.true_or, Bool.or_false, Bool.false_or, Bool.false_eq_true, Bool.true_eq_false, if_true, if_false, ↓reduceIte]⟩) dX5_goFirst_46
  · skip
    obtain ⟨kq, b9, hk9, hb9, e34, e36⟩ := QW_first hq c_1
    have hge := gfS_eq e34 hk9 e36 hb9
    refine lv_aload_n hx hb dX5_goFirst_12 rfl (lv_at hl 0 rfl) ?_
    refine wo_get hx hb hts inX5 hown hK hw 0 rfl rfl 1 (by decide) (hts _ wd_167) (fun _ h9 => h9) rfl dX5_goFirst_13 ?_
    refine lv_aload_n hx hb dX5_goFirst_16 rfl (lv_at hl 0 rfl) ?_
    refine wo_get hx hb hts inX5 hown hK hw 0 rfl rfl 3 (by decide) (hts _ wd_169) (fun _ h9 => h9) rfl dX5_goFirst_17 ?_
    refine wo_get hx hb hts inX2 hown hK hw 4 rfl rfl 1 (by decide) (hts _ wd_138) (fun _ h9 => h9) rfl dX5_goFirst_20 ?_
    refine lv_iload_n hx hb dX5_goFirst_23 rfl (lv_at hl 1 rfl) ?_
    refine wo_aald hx hb hK hw 35 4 rfl rfl pp rfl (by first | assumption | omega) (by decide) (if_pos (by first | assumption | omega)) dX5_goFirst_24 ?_
    refine lv_iconst (v := nI 0) hx hb dX5_goFirst_25 (by decide) ?_
    refine wo_iald hx hb hK hw (36 + pp) 0 (rw_35 ca ad _ pp (by first | assumption | omega)) rfl 0 rfl (by first | assumption | omega) (by decide) dX5_goFirst_26 ?_
    refine tp_i (y := nI b9) (e36) ?_
    refine lv_iload_n hx hb dX5_goFirst_27 rfl (lv_at hl 1 rfl) ?_
    refine lv_aload_n hx hb dX5_goFirst_28 rfl (lv_at hl 0 rfl) ?_
    refine wo_get hx hb hts inX5 hown hK hw 0 rfl rfl 3 (by decide) (hts _ wd_169) (fun _ h9 => h9) rfl dX5_goFirst_29 ?_
    refine wo_get hx hb hts inX2 hown hK hw 4 rfl rfl 2 (by decide) (hts _ wd_140) (fun _ h9 => h9) rfl dX5_goFirst_32 ?_
    refine lv_iload_n hx hb dX5_goFirst_35 rfl (lv_at hl 1 rfl) ?_
    refine wo_aald hx hb hK hw 42 3 rfl rfl pp rfl (by first | assumption | omega) (by decide) (if_pos (by first | assumption | omega)) dX5_goFirst_36 ?_
    refine lv_iconst (v := nI 0) hx hb dX5_goFirst_37 (by decide) ?_
    refine wo_lald hx hb hK hw (43 + pp) 1 (rw_42 ca ad _ pp (by first | assumption | omega)) rfl 0 rfl (by first | assumption | omega) (by decide) dX5_goFirst_38 ?_
    refine wo_vI (As := [.int (nI b9), .int (nI pp), .long (S.2 (43 + pp) 0)]) (rest := []) (kX0_move l dC dI ca ad S b9 pp (S.2 (43 + pp) 0) (by first | assumption | omega) (by first | assumption | omega)) ⟨hx, hb, hml, hown, hts⟩ (cwV 3 hts (wa_gV wd_214 wd_215 wd_216 wd_4 wd_217) rfl rfl rfl (by decide +kernel) ⟨Nat.le_of_ble_eq_true rfl, Nat.le_of_ble_eq_true rfl⟩) hK hw hA 2 rfl rfl rfl rfl hl.1 rfl (Nat.le_of_ble_eq_true rfl) dX5_goFirst_39 ⟨Nat.zero_le _, Nat.zero_le _⟩ (fun r_2 S_2 H locs hp_2 hw => ?_)
    have e9 := hp_2.1.symm
    subst e9
    have e9 := hp_2.2.symm
    subst e9
    refine lv_if_ne (tgt := 47) hx hb dX5_goFirst_42 (by decide) (fun c_3 => ?_) (fun c_3 => ?_)
    · skip
      have c_3 : mvOk S b9 pp (S.2 (43 + pp) 0) = true := nb_1 c_3
      rw [if_pos c_3] at hw
      refine lv_aload_n hx hb dX5_goFirst_47 rfl (lv_at hl 0 rfl) ?_
      refine wo_get hx hb hts inX5 hown hK hw 0 rfl rfl 3 (by decide) (hts _ wd_169) (fun _ h9 => h9) rfl dX5_goFirst_48 ?_
      refine lv_iload_n hx hb dX5_goFirst_51 rfl (lv_at hl 1 rfl) ?_
      refine wo_vV (As := [.int (nI pp)]) (rest := []) (kX2_removeFirst l dC dI ca ad (mvS S b9 pp (S.2 (43 + pp) 0)) pp kq (by first | assumption | omega) hk9 e34) ⟨hx, hb, hml, hown, hts⟩ (cwV 1 hts (wa_gV wd_285 wd_286 wd_287 wd_6 wd_288) rfl rfl rfl (by decide +kernel) ⟨Nat.le_of_ble_eq_true rfl, Nat.le_of_ble_eq_true rfl⟩) hK hw hA 4 rfl rfl rfl rfl hl.1 rfl (Nat.le_of_ble_eq_true rfl) dX5_goFirst_52 ⟨Nat.zero_le _, Nat.zero_le _⟩ (fun S_4 H locs hp_4 hw => ?_)
      have e9 := hp_4.symm
      subst e9
      refine lv_iconst (v := nI 1) hx hb dX5_goFirst_55 (by decide) ?_
      exact ct_zret (S := qrem (mvS S b9 pp (S.2 (43 + pp) 0)) pp kq) (v := nI 1) hx hb hr hlocks hK (by first | decide | exact nb_z _) hw (⟨by simp only [bI, gfOk, hge.2, c_1, c_3, decide_true, decide_false, Bool.not_true, Bool.not_false, Bool.true_and, Bool.and_true, Bool.false_and, Bool.and_false, Bool.or_true, Bool.true_or, Bool.or_false, Bool.false_or, Bool.false_eq_true, Bool.true_eq_false, if_true, if_false, ↓reduceIte], by simp only [gfOk, hge.2, hge.1, c_1, c_3, decide_true, decide_false, Bool.not_true, Bool.not_false, Bool.true_and, Bool.and_true, Bool.false_and, Bool.and_false, Bool.or_true, Bool.true_or, Bool.or_false, Bool.false_or, Bool.false_eq_true, Bool.true_eq_false, if_true, if_false, ↓reduceIte]⟩) dX5_goFirst_56
    · skip
      have c_3 : mvOk S b9 pp (S.2 (43 + pp) 0) = false := nb_0 c_3
      rw [if_neg (by rw [c_3]; decide)] at hw
      refine lv_iconst (v := nI 0) hx hb dX5_goFirst_45 (by decide) ?_
      exact ct_zret (S := S) (v := nI 0) hx hb hr hlocks hK (by first | decide | exact nb_z _) hw (⟨by simp only [bI, gfOk, hge.2, c_1, c_3, decide_true, decide_false, Bool.not_true, Bool.not_false, Bool.true_and, Bool.and_true, Bool.false_and, Bool.and_false, Bool.or_true, Bool.true_or, Bool.or_false, Bool.false_or, Bool.false_eq_true, Bool.true_eq_false, if_true, if_false, ↓reduceIte], by simp only [gfOk, hge.2, hge.1, c_1, c_3, decide_true, decide_false, Bool.not_true, Bool.not_false, Bool.true_and, Bool.and_true, Bool.false_and, Bool.and_false, Bool.or_true, Bool.true_or, Bool.or_false, Bool.false_or, Bool.false_eq_true, Bool.true_eq_false, if_true, if_false, ↓reduceIte]⟩) dX5_goFirst_46

set_option maxHeartbeats 4000000 in
set_option maxRecDepth 100000 in
theorem kX5_receive (l : Launch) (dC : Nat → ClassId) (dI : Nat → Nat → Nat) (ca : Nat → ClassId) (ad : Nat → Nat) (S : sSt) (bb : Nat) (sd : Nat) (pp : Nat) (vv : Int64) (nb : Nat) (nr : Nat) (hb6 : bb < 6) (hs2 : sd < 2) (hp6 : pp < 6) (hri : RI nb nr S) : ct_V l yX5_receive (Cond.code yX5_receive cX5_receive 7 none :: wa_T) ({ frames := 3, cells := 0, slots := 0, locals := 72 } : Room) (dC, dI) vwCl (tyl ca) (wc ca ad) S [.ref (ad 0), .int (nI bb), .int (nI sd), .int (nI pp), .long vv] (fun S2 => S2 = rcvF S bb sd pp vv) := by
  refine ct_ofV (by decide) (Nat.le_of_ble_eq_true rfl) ?_
  intro p e s m below meth c A ls hx hb hr hml hts hown hlocks hK hA hw hl
  have hl : lv_has ls 7 [(0, .ref (ad 0)), (1, .int (nI bb)), (2, .int (nI sd)), (3, .int (nI pp)), (4, .long vv)] := hl
  refine lv_lload hx hb dX5_receive_0 (lv_at hl 4 rfl) ?_
  refine lv_lconst (v := 0) hx hb dX5_receive_2 (by decide) ?_
  refine lc_gt (tgt := 8) hx hb dX5_receive_3 dX5_receive_4 (by decide) (fun c_1 => ?_) (fun c_1 => ?_)
  · skip
    have hv := c_1
    refine lv_aload_n hx hb dX5_receive_8 rfl (lv_at hl 0 rfl) ?_
    refine wo_get hx hb hts inX5 hown hK hw 0 rfl rfl 1 (by decide) (hts _ wd_167) (fun _ h9 => h9) rfl dX5_receive_9 ?_
    refine lv_iload_n hx hb dX5_receive_12 rfl (lv_at hl 1 rfl) ?_
    refine lv_iload_n hx hb dX5_receive_13 rfl (lv_at hl 2 rfl) ?_
    refine lv_iload_n hx hb dX5_receive_14 rfl (lv_at hl 3 rfl) ?_
    refine lv_lload hx hb dX5_receive_15 (lv_at hl 4 rfl) ?_
    refine wo_vV (As := [.int (nI bb), .int (nI sd), .int (nI pp), .long vv]) (rest := []) (kX0_addToShare l dC dI ca ad S bb sd pp vv (by first | assumption | omega) (by first | assumption | omega) (by first | assumption | omega)) ⟨hx, hb, hml, hown, hts⟩ (cwV 4 hts (wa_gV wd_249 wd_226 wd_227 wd_4 wd_228) rfl rfl rfl (by decide +kernel) ⟨Nat.le_of_ble_eq_true rfl, Nat.le_of_ble_eq_true rfl⟩) hK hw hA 2 rfl rfl rfl rfl hl.1 rfl (Nat.le_of_ble_eq_true rfl) dX5_receive_17 ⟨Nat.zero_le _, Nat.zero_le _⟩ (fun S_2 H locs hp_2 hw => ?_)
    have e9 := hp_2.symm
    subst e9
    refine lv_iconst (v := nI 0) hx hb dX5_receive_20 (by decide) ?_
    refine lv_istore (lv' := [(6, .int (nI 0)), (0, .ref (ad 0)), (1, .int (nI bb)), (2, .int (nI sd)), (3, .int (nI pp)), (4, .long vv)]) hx hb dX5_receive_21 hl (by decide) rfl (fun ls hl => ?_)
    have lp_23 : ∀ (n : Nat) (i : Nat) (X : sSt), i ≤ 8 → 9 ≤ i + n → RI nb nr X → rcvL pp (8 - i) X = rcvL pp 8 (addSh S (bb * 2 + sd) pp vv) → ∀ (H : Heap) (locs : List Loc) (ls : Array Slot), wo_w (dC, dI) vwCl A s.heap (wc ca ad X) H locs → lv_has ls 7 [(0, .ref (ad 0)), (3, .int (nI pp)), (6, .int (nI i))] → W p l e ({ frames := 3, cells := 0, slots := 0, locals := 72 } : Room) s m ([.ref (ad 0), .int (nI bb), .int (nI sd), .int (nI pp), .long vv] : List Value).toArray below meth c H locs 0 0 (MQ below (va_Qv (fun S2 => S2 = rcvF S bb sd pp vv) (ct_B (dC, dI) vwCl (tyl ca) (wc ca ad) A) A) ([.ref (ad 0), .int (nI bb), .int (nI sd), .int (nI pp), .long vv] : List Value).toArray s 0 0 A) (F0 m 23 ls []) := by
      intro n
      induction n with
      | zero =>
        intro i X hi hn hx9 hrem
        exfalso
        omega
      | succ n ih_23 =>
        intro i X hi hn hx9 hrem H locs ls hw hl
        refine lv_iload hx hb dX5_receive_23 (lv_at hl 2 rfl) ?_
        refine lv_bipush (v := nI 8) hx hb dX5_receive_25 (by decide) ?_
        refine lv_icmp_ge (tgt := 54) hx hb dX5_receive_27 (by decide) (fun c_3 => ?_) (fun c_3 => ?_)
        · skip
          have c_3 : 8 ≤ i := (nI_leI (a := 8) (b := i) (by omega) (by omega)).mp c_3
          have hX := rcvL_end hrem (by omega)
          exact ct_vret (S := X) hx hb hr hlocks hK hw (by rw [rcvF, if_pos hv, ← hX]) dX5_receive_54
        · skip
          have c_3 : ¬ (8 ≤ i) := fun h9 => c_3 ((nI_leI (a := 8) (b := i) (by omega) (by omega)).mpr h9)
          refine lv_aload_n hx hb dX5_receive_30 rfl (lv_at hl 0 rfl) ?_
          refine lv_iload_n hx hb dX5_receive_31 rfl (lv_at hl 1 rfl) ?_
          refine wo_vI (As := [.int (nI pp)]) (rest := []) (kX5_goFirst l dC dI ca ad X pp (by first | assumption | omega) (hx9.1 pp (by omega))) ⟨hx, hb, hml, hown, hts⟩ (cwV 1 hts (wa_gV wd_281 wd_283 ws_4 wd_1 wd_284) rfl rfl rfl (by decide +kernel) ⟨Nat.le_of_ble_eq_true rfl, Nat.le_of_ble_eq_true rfl⟩) hK hw hA 0 rfl rfl rfl rfl hl.1 rfl (Nat.le_of_ble_eq_true rfl) dX5_receive_32 ⟨Nat.zero_le _, Nat.zero_le _⟩ (fun r_4 S_4 H locs hp_4 hw => ?_)
          have e9 := hp_4.1.symm
          subst e9
          have e9 := hp_4.2.symm
          subst e9
          refine lv_if_eq (tgt := 54) hx hb dX5_receive_35 (by decide) (fun c_5 => ?_) (fun c_5 => ?_)
          · skip
            have c_5 : gfOk X pp = false := nb_0 c_5
            rw [if_neg (by rw [c_5]; decide)] at hw
            have hX := rcvL_stop hrem c_5
            exact ct_vret (S := X) hx hb hr hlocks hK hw (by rw [rcvF, if_pos hv, ← hX]) dX5_receive_54
          · skip
            have c_5 : gfOk X pp = true := nb_1 c_5
            rw [if_pos c_5] at hw
            have hgf := c_5
            refine lv_aload_n hx hb dX5_receive_38 rfl (lv_at hl 0 rfl) ?_
            refine lv_dup hx hb dX5_receive_39 rfl ?_
            refine wo_get hx hb hts inX5 hown hK hw 0 rfl rfl 5 (by decide) (hts _ wd_171) (fun _ h9 => h9) rfl dX5_receive_40 ?_
            refine lv_iconst (v := nI 1) hx hb dX5_receive_43 (by decide) ?_
            refine lv_iadd hx hb dX5_receive_44 ?_
            refine wo_put (ty := .int) (v := .int (((gfS X pp).1 0 5) + (nI 1))) hx hb hts inX5 tyX5 tyX5_ok nmX5 hown hK hw 0 rfl rfl 5 (by decide) (hts _ wd_171) (fun _ h9 => h9) rfl (by decide +kernel) rfl rfl (Nat.le_of_ble_eq_true rfl) (sf_0_5 ca ad (gfS X pp) (((gfS X pp).1 0 5) + (nI 1))) dX5_receive_45 (fun H locs hw => ?_)
            refine lv_iinc (v := nI (i + 1)) (lv' := [(6, .int (nI (i + 1))), (0, .ref (ad 0)), (3, .int (nI pp))]) hx hb dX5_receive_48 hl (k := 2) rfl (nI_inc _) (by decide) rfl (fun ls hl => ?_)
            refine lv_goto (tgt := 23) hx hb dX5_receive_51 (by decide) ?_
            have e9 : sI (gfS X pp) 0 5 (((gfS X pp).1 0 5) + (nI 1)) = (dnS (gfS X pp)) := rfl
            rw [e9] at hw
            exact ih_23 (i + 1) (dnS (gfS X pp)) (by omega) (by omega) (RI_dn (RI_gf (by omega) hx9 hgf)) (rcvL_step hrem (by omega) hgf) _ _ _ hw (lv_sub hl [1, 2, 0] rfl)
    exact lp_23 9 0 (addSh S (bb * 2 + sd) pp vv) (by omega) (by omega) (RI_eq hri rfl) rfl _ _ _ hw (lv_sub hl [1, 4, 0] rfl)
  · skip
    exact ct_vret (S := S) hx hb hr hlocks hK hw (by rw [rcvF, if_neg c_1]) dX5_receive_7

set_option maxHeartbeats 4000000 in
set_option maxRecDepth 100000 in
theorem kX5_useOwnWeights (l : Launch) (dC : Nat → ClassId) (dI : Nat → Nat → Nat) (ca : Nat → ClassId) (ad : Nat → Nat) (S : sSt)  : ct_V l yX5_useOwnWeights (Cond.code yX5_useOwnWeights cX5_useOwnWeights 2 none :: wa_T) ({ frames := 2, cells := 0, slots := 0, locals := 41 } : Room) (dC, dI) vwCl (tyl ca) (wc ca ad) S [.ref (ad 0)] (fun S2 => S2 = uow S 6) := by
  refine ct_ofV (by decide) (Nat.le_of_ble_eq_true rfl) ?_
  intro p e s m below meth c A ls hx hb hr hml hts hown hlocks hK hA hw hl
  have hl : lv_has ls 2 [(0, .ref (ad 0))] := hl
  refine lv_iconst (v := nI 0) hx hb dX5_useOwnWeights_0 (by decide) ?_
  refine lv_istore_n (lv' := [(1, .int (nI 0)), (0, .ref (ad 0))]) hx hb dX5_useOwnWeights_1 rfl hl (by decide) rfl (fun ls hl => ?_)
  have lp_2 : ∀ (n : Nat) (i : Nat), i ≤ 6 → 7 ≤ i + n → ∀ (H : Heap) (locs : List Loc) (ls : Array Slot), wo_w (dC, dI) vwCl A s.heap (wc ca ad (uow S i)) H locs → lv_has ls 2 [(0, .ref (ad 0)), (1, .int (nI i))] → W p l e ({ frames := 2, cells := 0, slots := 0, locals := 41 } : Room) s m ([.ref (ad 0)] : List Value).toArray below meth c H locs 0 0 (MQ below (va_Qv (fun S2 => S2 = uow S 6) (ct_B (dC, dI) vwCl (tyl ca) (wc ca ad) A) A) ([.ref (ad 0)] : List Value).toArray s 0 0 A) (F0 m 2 ls []) := by
    intro n
    induction n with
    | zero =>
      intro i hi hn
      exfalso
      omega
    | succ n ih_2 =>
      intro i hi hn H locs ls hw hl
      refine lv_iload_n hx hb dX5_useOwnWeights_2 rfl (lv_at hl 1 rfl) ?_
      refine lv_bipush (v := nI 6) hx hb dX5_useOwnWeights_3 (by decide) ?_
      refine lv_icmp_ge (tgt := 47) hx hb dX5_useOwnWeights_5 (by decide) (fun c_1 => ?_) (fun c_1 => ?_)
      · skip
        have c_1 : 6 ≤ i := (nI_leI (a := 6) (b := i) (by omega) (by omega)).mp c_1
        obtain rfl : 6 = i := by omega
        exact ct_vret (S := uow S 6) hx hb hr hlocks hK hw (rfl) dX5_useOwnWeights_47
      · skip
        have c_1 : ¬ (6 ≤ i) := fun h9 => c_1 ((nI_leI (a := 6) (b := i) (by omega) (by omega)).mpr h9)
        refine lv_aload_n hx hb dX5_useOwnWeights_8 rfl (lv_at hl 0 rfl) ?_
        refine wo_get hx hb hts inX5 hown hK hw 0 rfl rfl 4 (by decide) (hts _ wd_170) (fun _ h9 => h9) rfl dX5_useOwnWeights_9 ?_
        refine wo_get hx hb hts inX4 hown hK hw 5 rfl rfl 0 (by decide) (hts _ wd_155) (fun _ h9 => h9) rfl dX5_useOwnWeights_12 ?_
        refine lv_iload_n hx hb dX5_useOwnWeights_15 rfl (lv_at hl 1 rfl) ?_
        refine lv_aload_n hx hb dX5_useOwnWeights_16 rfl (lv_at hl 0 rfl) ?_
        refine wo_get hx hb hts inX5 hown hK hw 0 rfl rfl 0 (by decide) (hts _ wd_166) (fun _ h9 => h9) rfl dX5_useOwnWeights_17 ?_
        refine lv_iload_n hx hb dX5_useOwnWeights_20 rfl (lv_at hl 1 rfl) ?_
        refine wo_vI (As := [.int (nI i)]) (rest := [.int (nI i), .ref (ad 49)]) (kX1_isWell l dC dI ca ad (uow S i) (nI i)) ⟨hx, hb, hml, hown, hts⟩ (cwV 1 hts (wa_gV wd_192 wd_193 wd_194 wd_2 wd_195) rfl rfl rfl (by decide +kernel) ⟨Nat.le_of_ble_eq_true rfl, Nat.le_of_ble_eq_true rfl⟩) hK hw hA 1 rfl rfl rfl rfl hl.1 rfl (Nat.le_of_ble_eq_true rfl) dX5_useOwnWeights_21 ⟨Nat.zero_le _, Nat.zero_le _⟩ (fun r_2 S_2 H locs hp_2 hw => ?_)
        have e9 := hp_2.1.symm
        subst e9
        have e9 := hp_2.2.symm
        subst e9
        refine lv_if_eq (tgt := 39) hx hb dX5_useOwnWeights_24 (by decide) (fun c_3 => ?_) (fun c_3 => ?_)
        · skip
          have c_3 : wl (uow S i) (nI i) = false := nb_0 c_3
          refine lv_lconst (v := 0) hx hb dX5_useOwnWeights_39 (by decide) ?_
          refine wo_last hx hb hK hw 49 1 rfl rfl i rfl (by first | assumption | omega) (by decide) (se_49 ca ad (uow S i) i 0) dX5_useOwnWeights_40 (fun H locs hw => ?_)
          refine lv_iinc (v := nI (i + 1)) (lv' := [(1, .int (nI (i + 1))), (0, .ref (ad 0))]) hx hb dX5_useOwnWeights_41 hl (k := 1) rfl (nI_inc _) (by decide) rfl (fun ls hl => ?_)
          refine lv_goto (tgt := 2) hx hb dX5_useOwnWeights_44 (by decide) ?_
          have e9 : sL (uow S i) 49 i 0 = uow S (i + 1) := by first | rfl | (simp only [uow, c_1, c_3, decide_true, decide_false, Bool.not_true, Bool.not_false, Bool.true_and, Bool.and_true, Bool.false_and, Bool.and_false, Bool.or_true, Bool.true_or, Bool.or_false, Bool.false_or, Bool.false_eq_true, Bool.true_eq_false, if_true, if_false, ↓reduceIte]; done)
          rw [e9] at hw
          exact ih_2 (i + 1) (by omega) (by omega) _ _ _ hw (lv_sub hl [1, 0] rfl)
        · skip
          have c_3 : wl (uow S i) (nI i) = true := nb_1 c_3
          refine lv_aload_n hx hb dX5_useOwnWeights_27 rfl (lv_at hl 0 rfl) ?_
          refine wo_get hx hb hts inX5 hown hK hw 0 rfl rfl 0 (by decide) (hts _ wd_166) (fun _ h9 => h9) rfl dX5_useOwnWeights_28 ?_
          refine wo_get hx hb hts inX1 hown hK hw 1 rfl rfl 0 (by decide) (hts _ wd_36) (fun _ h9 => h9) rfl dX5_useOwnWeights_31 ?_
          refine lv_iload_n hx hb dX5_useOwnWeights_34 rfl (lv_at hl 1 rfl) ?_
          refine wo_lald hx hb hK hw 6 1 rfl rfl i rfl (by first | assumption | omega) (by decide) dX5_useOwnWeights_35 ?_
          refine lv_goto (tgt := 40) hx hb dX5_useOwnWeights_36 (by decide) ?_
          refine wo_last hx hb hK hw 49 1 rfl rfl i rfl (by first | assumption | omega) (by decide) (se_49 ca ad (uow S i) i ((uow S i).2 6 i)) dX5_useOwnWeights_40 (fun H locs hw => ?_)
          refine lv_iinc (v := nI (i + 1)) (lv' := [(1, .int (nI (i + 1))), (0, .ref (ad 0))]) hx hb dX5_useOwnWeights_41 hl (k := 1) rfl (nI_inc _) (by decide) rfl (fun ls hl => ?_)
          refine lv_goto (tgt := 2) hx hb dX5_useOwnWeights_44 (by decide) ?_
          have e9 : sL (uow S i) 49 i ((uow S i).2 6 i) = uow S (i + 1) := by first | rfl | (simp only [uow, c_1, c_3, decide_true, decide_false, Bool.not_true, Bool.not_false, Bool.true_and, Bool.and_true, Bool.false_and, Bool.and_false, Bool.or_true, Bool.true_or, Bool.or_false, Bool.false_or, Bool.false_eq_true, Bool.true_eq_false, if_true, if_false, ↓reduceIte]; done)
          rw [e9] at hw
          exact ih_2 (i + 1) (by omega) (by omega) _ _ _ hw (lv_sub hl [1, 0] rfl)
  have e9 : S = uow S 0 := by first | rfl | (simp only [uow, decide_true, decide_false, Bool.not_true, Bool.not_false, Bool.true_and, Bool.and_true, Bool.false_and, Bool.and_false, Bool.or_true, Bool.true_or, Bool.or_false, Bool.false_or, Bool.false_eq_true, Bool.true_eq_false, if_true, if_false, ↓reduceIte]; done)
  rw [e9] at hw
  exact lp_2 7 0 (by omega) (by omega) _ _ _ hw (lv_sub hl [1, 0] rfl)

set_option maxHeartbeats 4000000 in
set_option maxRecDepth 100000 in
theorem kX5_useEqualWeights (l : Launch) (dC : Nat → ClassId) (dI : Nat → Nat → Nat) (ca : Nat → ClassId) (ad : Nat → Nat) (S : sSt)  : ct_V l yX5_useEqualWeights (Cond.code yX5_useEqualWeights cX5_useEqualWeights 2 none :: wa_T) ({ frames := 2, cells := 0, slots := 0, locals := 41 } : Room) (dC, dI) vwCl (tyl ca) (wc ca ad) S [.ref (ad 0)] (fun S2 => S2 = uew S 6) := by
  refine ct_ofV (by decide) (Nat.le_of_ble_eq_true rfl) ?_
  intro p e s m below meth c A ls hx hb hr hml hts hown hlocks hK hA hw hl
  have hl : lv_has ls 2 [(0, .ref (ad 0))] := hl
  refine lv_iconst (v := nI 0) hx hb dX5_useEqualWeights_0 (by decide) ?_
  refine lv_istore_n (lv' := [(1, .int (nI 0)), (0, .ref (ad 0))]) hx hb dX5_useEqualWeights_1 rfl hl (by decide) rfl (fun ls hl => ?_)
  have lp_2 : ∀ (n : Nat) (i : Nat), i ≤ 6 → 7 ≤ i + n → ∀ (H : Heap) (locs : List Loc) (ls : Array Slot), wo_w (dC, dI) vwCl A s.heap (wc ca ad (uew S i)) H locs → lv_has ls 2 [(0, .ref (ad 0)), (1, .int (nI i))] → W p l e ({ frames := 2, cells := 0, slots := 0, locals := 41 } : Room) s m ([.ref (ad 0)] : List Value).toArray below meth c H locs 0 0 (MQ below (va_Qv (fun S2 => S2 = uew S 6) (ct_B (dC, dI) vwCl (tyl ca) (wc ca ad) A) A) ([.ref (ad 0)] : List Value).toArray s 0 0 A) (F0 m 2 ls []) := by
    intro n
    induction n with
    | zero =>
      intro i hi hn
      exfalso
      omega
    | succ n ih_2 =>
      intro i hi hn H locs ls hw hl
      refine lv_iload_n hx hb dX5_useEqualWeights_2 rfl (lv_at hl 1 rfl) ?_
      refine lv_bipush (v := nI 6) hx hb dX5_useEqualWeights_3 (by decide) ?_
      refine lv_icmp_ge (tgt := 39) hx hb dX5_useEqualWeights_5 (by decide) (fun c_1 => ?_) (fun c_1 => ?_)
      · skip
        have c_1 : 6 ≤ i := (nI_leI (a := 6) (b := i) (by omega) (by omega)).mp c_1
        obtain rfl : 6 = i := by omega
        exact ct_vret (S := uew S 6) hx hb hr hlocks hK hw (rfl) dX5_useEqualWeights_39
      · skip
        have c_1 : ¬ (6 ≤ i) := fun h9 => c_1 ((nI_leI (a := 6) (b := i) (by omega) (by omega)).mpr h9)
        refine lv_aload_n hx hb dX5_useEqualWeights_8 rfl (lv_at hl 0 rfl) ?_
        refine wo_get hx hb hts inX5 hown hK hw 0 rfl rfl 4 (by decide) (hts _ wd_170) (fun _ h9 => h9) rfl dX5_useEqualWeights_9 ?_
        refine wo_get hx hb hts inX4 hown hK hw 5 rfl rfl 0 (by decide) (hts _ wd_155) (fun _ h9 => h9) rfl dX5_useEqualWeights_12 ?_
        refine lv_iload_n hx hb dX5_useEqualWeights_15 rfl (lv_at hl 1 rfl) ?_
        refine lv_aload_n hx hb dX5_useEqualWeights_16 rfl (lv_at hl 0 rfl) ?_
        refine wo_get hx hb hts inX5 hown hK hw 0 rfl rfl 0 (by decide) (hts _ wd_166) (fun _ h9 => h9) rfl dX5_useEqualWeights_17 ?_
        refine lv_iload_n hx hb dX5_useEqualWeights_20 rfl (lv_at hl 1 rfl) ?_
        refine wo_vI (As := [.int (nI i)]) (rest := [.int (nI i), .ref (ad 49)]) (kX1_isWell l dC dI ca ad (uew S i) (nI i)) ⟨hx, hb, hml, hown, hts⟩ (cwV 1 hts (wa_gV wd_192 wd_193 wd_194 wd_2 wd_195) rfl rfl rfl (by decide +kernel) ⟨Nat.le_of_ble_eq_true rfl, Nat.le_of_ble_eq_true rfl⟩) hK hw hA 1 rfl rfl rfl rfl hl.1 rfl (Nat.le_of_ble_eq_true rfl) dX5_useEqualWeights_21 ⟨Nat.zero_le _, Nat.zero_le _⟩ (fun r_2 S_2 H locs hp_2 hw => ?_)
        have e9 := hp_2.1.symm
        subst e9
        have e9 := hp_2.2.symm
        subst e9
        refine lv_if_eq (tgt := 31) hx hb dX5_useEqualWeights_24 (by decide) (fun c_3 => ?_) (fun c_3 => ?_)
        · skip
          have c_3 : wl (uew S i) (nI i) = false := nb_0 c_3
          refine lv_lconst (v := 0) hx hb dX5_useEqualWeights_31 (by decide) ?_
          refine wo_last hx hb hK hw 49 1 rfl rfl i rfl (by first | assumption | omega) (by decide) (se_49 ca ad (uew S i) i 0) dX5_useEqualWeights_32 (fun H locs hw => ?_)
          refine lv_iinc (v := nI (i + 1)) (lv' := [(1, .int (nI (i + 1))), (0, .ref (ad 0))]) hx hb dX5_useEqualWeights_33 hl (k := 1) rfl (nI_inc _) (by decide) rfl (fun ls hl => ?_)
          refine lv_goto (tgt := 2) hx hb dX5_useEqualWeights_36 (by decide) ?_
          have e9 : sL (uew S i) 49 i 0 = uew S (i + 1) := by first | rfl | (simp only [uew, c_1, c_3, decide_true, decide_false, Bool.not_true, Bool.not_false, Bool.true_and, Bool.and_true, Bool.false_and, Bool.and_false, Bool.or_true, Bool.true_or, Bool.or_false, Bool.false_or, Bool.false_eq_true, Bool.true_eq_false, if_true, if_false, ↓reduceIte]; done)
          rw [e9] at hw
          exact ih_2 (i + 1) (by omega) (by omega) _ _ _ hw (lv_sub hl [1, 0] rfl)
        · skip
          have c_3 : wl (uew S i) (nI i) = true := nb_1 c_3
          refine lv_lconst (v := 1) hx hb dX5_useEqualWeights_27 (by decide) ?_
          refine lv_goto (tgt := 32) hx hb dX5_useEqualWeights_28 (by decide) ?_
          refine wo_last hx hb hK hw 49 1 rfl rfl i rfl (by first | assumption | omega) (by decide) (se_49 ca ad (uew S i) i 1) dX5_useEqualWeights_32 (fun H locs hw => ?_)
          refine lv_iinc (v := nI (i + 1)) (lv' := [(1, .int (nI (i + 1))), (0, .ref (ad 0))]) hx hb dX5_useEqualWeights_33 hl (k := 1) rfl (nI_inc _) (by decide) rfl (fun ls hl => ?_)
          refine lv_goto (tgt := 2) hx hb dX5_useEqualWeights_36 (by decide) ?_
          have e9 : sL (uew S i) 49 i 1 = uew S (i + 1) := by first | rfl | (simp only [uew, c_1, c_3, decide_true, decide_false, Bool.not_true, Bool.not_false, Bool.true_and, Bool.and_true, Bool.false_and, Bool.and_false, Bool.or_true, Bool.true_or, Bool.or_false, Bool.false_or, Bool.false_eq_true, Bool.true_eq_false, if_true, if_false, ↓reduceIte]; done)
          rw [e9] at hw
          exact ih_2 (i + 1) (by omega) (by omega) _ _ _ hw (lv_sub hl [1, 0] rfl)
  have e9 : S = uew S 0 := by first | rfl | (simp only [uew, decide_true, decide_false, Bool.not_true, Bool.not_false, Bool.true_and, Bool.and_true, Bool.false_and, Bool.and_false, Bool.or_true, Bool.true_or, Bool.or_false, Bool.false_or, Bool.false_eq_true, Bool.true_eq_false, if_true, if_false, ↓reduceIte]; done)
  rw [e9] at hw
  exact lp_2 7 0 (by omega) (by omega) _ _ _ hw (lv_sub hl [1, 0] rfl)

set_option maxHeartbeats 4000000 in
set_option maxRecDepth 100000 in
theorem kX5_sharesOfThose (l : Launch) (dC : Nat → ClassId) (dI : Nat → Nat → Nat) (ca : Nat → ClassId) (ad : Nat → Nat) (S : sSt) (bb : Nat) (sd : Nat) (b0 : Bool) (hb6 : bb < 6) (hs2 : sd < 2) : ct_L l yX5_sharesOfThose (Cond.code yX5_sharesOfThose cX5_sharesOfThose 7 (some .long) :: wa_T) ({ frames := 2, cells := 0, slots := 0, locals := 41 } : Room) (dC, dI) vwCl (tyl ca) (wc ca ad) S [.ref (ad 0), .int (nI bb), .int (nI sd), .int (bI b0)] (fun r S2 => r = shT S (bb * 2 + sd) b0 6 ∧ S2 = S) := by
  refine ct_ofL (by decide) (Nat.le_of_ble_eq_true rfl) ?_
  intro p e s m below meth c A ls hx hb hr hml hts hown hlocks hK hA hw hl
  have hl : lv_has ls 7 [(0, .ref (ad 0)), (1, .int (nI bb)), (2, .int (nI sd)), (3, .int (bI b0))] := hl
  refine lv_lconst (v := 0) hx hb dX5_sharesOfThose_0 (by decide) ?_
  refine lv_lstore (lv' := [(4, .long 0), (0, .ref (ad 0)), (1, .int (nI bb)), (2, .int (nI sd)), (3, .int (bI b0))]) hx hb dX5_sharesOfThose_1 hl (by decide) rfl (fun ls hl => ?_)
  refine lv_iconst (v := nI 0) hx hb dX5_sharesOfThose_3 (by decide) ?_
  refine lv_istore (lv' := [(6, .int (nI 0)), (4, .long 0), (0, .ref (ad 0)), (1, .int (nI bb)), (2, .int (nI sd)), (3, .int (bI b0))]) hx hb dX5_sharesOfThose_4 hl (by decide) rfl (fun ls hl => ?_)
  have lp_6 : ∀ (n : Nat) (i : Nat), i ≤ 6 → 7 ≤ i + n → ∀ (H : Heap) (locs : List Loc) (ls : Array Slot), wo_w (dC, dI) vwCl A s.heap (wc ca ad S) H locs → lv_has ls 7 [(0, .ref (ad 0)), (1, .int (nI bb)), (2, .int (nI sd)), (3, .int (bI b0)), (4, .long (shT S (bb * 2 + sd) b0 i)), (6, .int (nI i))] → W p l e ({ frames := 2, cells := 0, slots := 0, locals := 41 } : Room) s m ([.ref (ad 0), .int (nI bb), .int (nI sd), .int (bI b0)] : List Value).toArray below meth c H locs 0 0 (MQ below (va_Ql (fun r S2 => r = shT S (bb * 2 + sd) b0 6 ∧ S2 = S) (ct_B (dC, dI) vwCl (tyl ca) (wc ca ad) A) A) ([.ref (ad 0), .int (nI bb), .int (nI sd), .int (bI b0)] : List Value).toArray s 0 0 A) (F0 m 6 ls []) := by
    intro n
    induction n with
    | zero =>
      intro i hi hn
      exfalso
      omega
    | succ n ih_6 =>
      intro i hi hn H locs ls hw hl
      refine lv_iload hx hb dX5_sharesOfThose_6 (lv_at hl 5 rfl) ?_
      refine lv_bipush (v := nI 6) hx hb dX5_sharesOfThose_8 (by decide) ?_
      refine lv_icmp_ge (tgt := 48) hx hb dX5_sharesOfThose_10 (by decide) (fun c_1 => ?_) (fun c_1 => ?_)
      · skip
        have c_1 : 6 ≤ i := (nI_leI (a := 6) (b := i) (by omega) (by omega)).mp c_1
        obtain rfl : 6 = i := by omega
        refine lv_lload hx hb dX5_sharesOfThose_48 (lv_at hl 4 rfl) ?_
        exact ct_lret (S := S) (v := shT S (bb * 2 + sd) b0 6) hx hb hr hlocks hK hw (⟨rfl, rfl⟩) dX5_sharesOfThose_50
      · skip
        have c_1 : ¬ (6 ≤ i) := fun h9 => c_1 ((nI_leI (a := 6) (b := i) (by omega) (by omega)).mpr h9)
        refine lv_aload_n hx hb dX5_sharesOfThose_13 rfl (lv_at hl 0 rfl) ?_
        refine wo_get hx hb hts inX5 hown hK hw 0 rfl rfl 0 (by decide) (hts _ wd_166) (fun _ h9 => h9) rfl dX5_sharesOfThose_14 ?_
        refine lv_iload hx hb dX5_sharesOfThose_17 (lv_at hl 5 rfl) ?_
        refine wo_vI (As := [.int (nI i)]) (rest := []) (kX1_isWell l dC dI ca ad S (nI i)) ⟨hx, hb, hml, hown, hts⟩ (cwV 1 hts (wa_gV wd_192 wd_193 wd_194 wd_2 wd_195) rfl rfl rfl (by decide +kernel) ⟨Nat.le_of_ble_eq_true rfl, Nat.le_of_ble_eq_true rfl⟩) hK hw hA 1 rfl rfl rfl rfl hl.1 rfl (Nat.le_of_ble_eq_true rfl) dX5_sharesOfThose_19 ⟨Nat.zero_le _, Nat.zero_le _⟩ (fun r_2 S_2 H locs hp_2 hw => ?_)
        have e9 := hp_2.1.symm
        subst e9
        have e9 := hp_2.2.symm
        subst e9
        refine lv_iload_n hx hb dX5_sharesOfThose_22 rfl (lv_at hl 3 rfl) ?_
        refine lv_icmp_ne (tgt := 42) hx hb dX5_sharesOfThose_23 (by decide) (fun c_3 => ?_) (fun c_3 => ?_)
        · skip
          have c_3 : ¬ (wl S (nI i) = b0) := fun h9 => c_3 (bI_eq.mpr h9)
          refine lv_iinc (v := nI (i + 1)) (lv' := [(6, .int (nI (i + 1))), (0, .ref (ad 0)), (1, .int (nI bb)), (2, .int (nI sd)), (3, .int (bI b0)), (4, .long (shT S (bb * 2 + sd) b0 i))]) hx hb dX5_sharesOfThose_42 hl (k := 5) rfl (nI_inc _) (by decide) rfl (fun ls hl => ?_)
          refine lv_goto (tgt := 6) hx hb dX5_sharesOfThose_45 (by decide) ?_
          have e9 : shT S (bb * 2 + sd) b0 i = shT S (bb * 2 + sd) b0 (i + 1) := by first | rfl | (simp only [shT, c_1, c_3, decide_true, decide_false, Bool.not_true, Bool.not_false, Bool.true_and, Bool.and_true, Bool.false_and, Bool.and_false, Bool.or_true, Bool.true_or, Bool.or_false, Bool.false_or, Bool.false_eq_true, Bool.true_eq_false, if_true, if_false, ↓reduceIte]; done)
          rw [e9] at hl
          exact ih_6 (i + 1) (by omega) (by omega) _ _ _ hw (lv_sub hl [1, 2, 3, 4, 5, 0] rfl)
        · skip
          have c_3 : wl S (nI i) = b0 := bI_eq.mp c_3
          refine lv_lload hx hb dX5_sharesOfThose_26 (lv_at hl 4 rfl) ?_
          refine lv_aload_n hx hb dX5_sharesOfThose_28 rfl (lv_at hl 0 rfl) ?_
          refine wo_get hx hb hts inX5 hown hK hw 0 rfl rfl 1 (by decide) (hts _ wd_167) (fun _ h9 => h9) rfl dX5_sharesOfThose_29 ?_
          refine lv_iload_n hx hb dX5_sharesOfThose_32 rfl (lv_at hl 1 rfl) ?_
          refine lv_iload_n hx hb dX5_sharesOfThose_33 rfl (lv_at hl 2 rfl) ?_
          refine lv_iload hx hb dX5_sharesOfThose_34 (lv_at hl 5 rfl) ?_
          refine wo_vL (As := [.int (nI bb), .int (nI sd), .int (nI i)]) (rest := [.long (shT S (bb * 2 + sd) b0 i)]) (kX0_shareOf l dC dI ca ad S bb sd i (by first | assumption | omega) (by first | assumption | omega) (by first | assumption | omega)) ⟨hx, hb, hml, hown, hts⟩ (cwV 3 hts (wa_gV wd_244 wd_219 wd_220 wd_4 wd_221) rfl rfl rfl (by decide +kernel) ⟨Nat.le_of_ble_eq_true rfl, Nat.le_of_ble_eq_true rfl⟩) hK hw hA 2 rfl rfl rfl rfl hl.1 rfl (Nat.le_of_ble_eq_true rfl) dX5_sharesOfThose_36 ⟨Nat.zero_le _, Nat.zero_le _⟩ (fun r_4 S_4 H locs hp_4 hw => ?_)
          have e9 := hp_4.1.symm
          subst e9
          have e9 := hp_4.2.symm
          subst e9
          refine lv_ladd hx hb dX5_sharesOfThose_39 ?_
          refine lv_lstore (lv' := [(4, .long ((shT S (bb * 2 + sd) b0 i) + (S.2 (14 + (bb * 2 + sd)) i))), (0, .ref (ad 0)), (1, .int (nI bb)), (2, .int (nI sd)), (3, .int (bI b0)), (6, .int (nI i))]) hx hb dX5_sharesOfThose_40 hl (by decide) rfl (fun ls hl => ?_)
          refine lv_iinc (v := nI (i + 1)) (lv' := [(6, .int (nI (i + 1))), (4, .long ((shT S (bb * 2 + sd) b0 i) + (S.2 (14 + (bb * 2 + sd)) i))), (0, .ref (ad 0)), (1, .int (nI bb)), (2, .int (nI sd)), (3, .int (bI b0))]) hx hb dX5_sharesOfThose_42 hl (k := 5) rfl (nI_inc _) (by decide) rfl (fun ls hl => ?_)
          refine lv_goto (tgt := 6) hx hb dX5_sharesOfThose_45 (by decide) ?_
          have e9 : (shT S (bb * 2 + sd) b0 i) + (S.2 (14 + (bb * 2 + sd)) i) = shT S (bb * 2 + sd) b0 (i + 1) := by first | rfl | (simp only [shT, c_1, c_3, decide_true, decide_false, Bool.not_true, Bool.not_false, Bool.true_and, Bool.and_true, Bool.false_and, Bool.and_false, Bool.or_true, Bool.true_or, Bool.or_false, Bool.false_or, Bool.false_eq_true, Bool.true_eq_false, if_true, if_false, ↓reduceIte]; done)
          rw [e9] at hl
          exact ih_6 (i + 1) (by omega) (by omega) _ _ _ hw (lv_sub hl [2, 3, 4, 5, 1, 0] rfl)
  have e9 : 0 = shT S (bb * 2 + sd) b0 0 := by first | rfl | (simp only [shT, decide_true, decide_false, Bool.not_true, Bool.not_false, Bool.true_and, Bool.and_true, Bool.false_and, Bool.and_false, Bool.or_true, Bool.true_or, Bool.or_false, Bool.false_or, Bool.false_eq_true, Bool.true_eq_false, if_true, if_false, ↓reduceIte]; done)
  rw [e9] at hl
  exact lp_6 7 0 (by omega) (by omega) _ _ _ hw (lv_sub hl [2, 3, 4, 5, 1, 0] rfl)

set_option maxHeartbeats 4000000 in
set_option maxRecDepth 100000 in
theorem kX5_isStuck (l : Launch) (dC : Nat → ClassId) (dI : Nat → Nat → Nat) (ca : Nat → ClassId) (ad : Nat → Nat) (S : sSt) (rr : Nat) (hr : rr < 201) : ct_I l yX5_isStuck (Cond.code yX5_isStuck cX5_isStuck 2 (some .boolean) :: wa_T) ({ frames := 2, cells := 0, slots := 0, locals := 41 } : Room) (dC, dI) vwCl (tyl ca) (wc ca ad) S [.ref (ad 0), .int (nI rr)] (fun r S2 => r = bI (stk S rr) ∧ S2 = S) := by
  refine ct_ofI (by decide) (Nat.le_of_ble_eq_true rfl) ?_
  intro p e s m below meth c A ls hx hb hr hml hts hown hlocks hK hA hw hl
  have hl : lv_has ls 2 [(0, .ref (ad 0)), (1, .int (nI rr))] := hl
  refine lv_aload_n hx hb dX5_isStuck_0 rfl (lv_at hl 0 rfl) ?_
  refine wo_get hx hb hts inX5 hown hK hw 0 rfl rfl 2 (by decide) (hts _ wd_168) (fun _ h9 => h9) rfl dX5_isStuck_1 ?_
  refine wo_get hx hb hts inX3 hown hK hw 3 rfl rfl 5 (by decide) (hts _ wd_100) (fun _ h9 => h9) rfl dX5_isStuck_4 ?_
  refine lv_iload_n hx hb dX5_isStuck_7 rfl (lv_at hl 1 rfl) ?_
  refine wo_iald hx hb hK hw 30 0 rfl rfl rr rfl (by first | assumption | omega) (by decide) dX5_isStuck_8 ?_
  refine lv_iconst (v := nI 2) hx hb dX5_isStuck_9 (by decide) ?_
  refine lv_icmp_eq (tgt := 32) hx hb dX5_isStuck_10 (by decide) (fun c_1 => ?_) (fun c_1 => ?_)
  · skip
    refine lv_iconst (v := nI 1) hx hb dX5_isStuck_32 (by decide) ?_
    refine lv_goto (tgt := 37) hx hb dX5_isStuck_33 (by decide) ?_
    exact ct_zret (S := S) (v := nI 1) hx hb hr hlocks hK (by first | decide | exact nb_z _) hw (⟨by simp only [bI, stk, c_1, decide_true, decide_false, Bool.not_true, Bool.not_false, Bool.true_and, Bool.and_true, Bool.false_and, Bool.and_false, Bool.or_true, Bool.true_or, Bool.or_false, Bool.false_or, Bool.false_eq_true, Bool.true_eq_false, if_true, if_false, ↓reduceIte], rfl⟩) dX5_isStuck_37
  · skip
    refine lv_aload_n hx hb dX5_isStuck_13 rfl (lv_at hl 0 rfl) ?_
    refine wo_get hx hb hts inX5 hown hK hw 0 rfl rfl 0 (by decide) (hts _ wd_166) (fun _ h9 => h9) rfl dX5_isStuck_14 ?_
    refine lv_aload_n hx hb dX5_isStuck_17 rfl (lv_at hl 0 rfl) ?_
    refine wo_get hx hb hts inX5 hown hK hw 0 rfl rfl 2 (by decide) (hts _ wd_168) (fun _ h9 => h9) rfl dX5_isStuck_18 ?_
    refine wo_get hx hb hts inX3 hown hK hw 3 rfl rfl 4 (by decide) (hts _ wd_98) (fun _ h9 => h9) rfl dX5_isStuck_21 ?_
    refine lv_iload_n hx hb dX5_isStuck_24 rfl (lv_at hl 1 rfl) ?_
    refine wo_iald hx hb hK hw 29 0 rfl rfl rr rfl (by first | assumption | omega) (by decide) dX5_isStuck_25 ?_
    refine wo_vI (As := [.int (S.1 29 rr)]) (rest := []) (kX1_isWell l dC dI ca ad S (S.1 29 rr)) ⟨hx, hb, hml, hown, hts⟩ (cwV 1 hts (wa_gV wd_192 wd_193 wd_194 wd_2 wd_195) rfl rfl rfl (by decide +kernel) ⟨Nat.le_of_ble_eq_true rfl, Nat.le_of_ble_eq_true rfl⟩) hK hw hA 1 rfl rfl rfl rfl hl.1 rfl (Nat.le_of_ble_eq_true rfl) dX5_isStuck_26 ⟨Nat.zero_le _, Nat.zero_le _⟩ (fun r_2 S_2 H locs hp_2 hw => ?_)
    have e9 := hp_2.1.symm
    subst e9
    have e9 := hp_2.2.symm
    subst e9
    refine lv_if_ne (tgt := 36) hx hb dX5_isStuck_29 (by decide) (fun c_3 => ?_) (fun c_3 => ?_)
    · skip
      have c_3 : wl S (S.1 29 rr) = true := nb_1 c_3
      refine lv_iconst (v := nI 0) hx hb dX5_isStuck_36 (by decide) ?_
      exact ct_zret (S := S) (v := nI 0) hx hb hr hlocks hK (by first | decide | exact nb_z _) hw (⟨by simp only [bI, stk, c_1, c_3, decide_true, decide_false, Bool.not_true, Bool.not_false, Bool.true_and, Bool.and_true, Bool.false_and, Bool.and_false, Bool.or_true, Bool.true_or, Bool.or_false, Bool.false_or, Bool.false_eq_true, Bool.true_eq_false, if_true, if_false, ↓reduceIte], rfl⟩) dX5_isStuck_37
    · skip
      have c_3 : wl S (S.1 29 rr) = false := nb_0 c_3
      refine lv_iconst (v := nI 1) hx hb dX5_isStuck_32 (by decide) ?_
      refine lv_goto (tgt := 37) hx hb dX5_isStuck_33 (by decide) ?_
      exact ct_zret (S := S) (v := nI 1) hx hb hr hlocks hK (by first | decide | exact nb_z _) hw (⟨by simp only [bI, stk, c_1, c_3, decide_true, decide_false, Bool.not_true, Bool.not_false, Bool.true_and, Bool.and_true, Bool.false_and, Bool.and_false, Bool.or_true, Bool.true_or, Bool.or_false, Bool.false_or, Bool.false_eq_true, Bool.true_eq_false, if_true, if_false, ↓reduceIte], rfl⟩) dX5_isStuck_37

set_option maxHeartbeats 4000000 in
set_option maxRecDepth 100000 in
theorem kX5_heldByRows (l : Launch) (dC : Nat → ClassId) (dI : Nat → Nat → Nat) (ca : Nat → ClassId) (ad : Nat → Nat) (S : sSt) (bb : Nat) (sd : Nat) (b0 : Bool) (nr : Nat) (hr : nr ≤ 200) (hcnt : S.1 3 0 = nI nr) : ct_L l yX5_heldByRows (Cond.code yX5_heldByRows cX5_heldByRows 7 (some .long) :: wa_T) ({ frames := 3, cells := 0, slots := 0, locals := 62 } : Room) (dC, dI) vwCl (tyl ca) (wc ca ad) S [.ref (ad 0), .int (nI bb), .int (nI sd), .int (bI b0)] (fun r S2 => r = hbr S bb sd b0 nr ∧ S2 = S) := by
  refine ct_ofL (by decide) (Nat.le_of_ble_eq_true rfl) ?_
  intro p e s m below meth c A ls hx hb hr hml hts hown hlocks hK hA hw hl
  have hl : lv_has ls 7 [(0, .ref (ad 0)), (1, .int (nI bb)), (2, .int (nI sd)), (3, .int (bI b0))] := hl
  refine lv_lconst (v := 0) hx hb dX5_heldByRows_0 (by decide) ?_
  refine lv_lstore (lv' := [(4, .long 0), (0, .ref (ad 0)), (1, .int (nI bb)), (2, .int (nI sd)), (3, .int (bI b0))]) hx hb dX5_heldByRows_1 hl (by decide) rfl (fun ls hl => ?_)
  refine lv_iconst (v := nI 1) hx hb dX5_heldByRows_3 (by decide) ?_
  refine lv_istore (lv' := [(6, .int (nI 1)), (4, .long 0), (0, .ref (ad 0)), (1, .int (nI bb)), (2, .int (nI sd)), (3, .int (bI b0))]) hx hb dX5_heldByRows_4 hl (by decide) rfl (fun ls hl => ?_)
  have lp_6 : ∀ (n : Nat) (i : Nat), i ≤ nr → nr + 1 ≤ i + n → ∀ (H : Heap) (locs : List Loc) (ls : Array Slot), wo_w (dC, dI) vwCl A s.heap (wc ca ad S) H locs → lv_has ls 7 [(0, .ref (ad 0)), (1, .int (nI bb)), (2, .int (nI sd)), (3, .int (bI b0)), (4, .long (hbr S bb sd b0 i)), (6, .int (nI (i + 1)))] → W p l e ({ frames := 3, cells := 0, slots := 0, locals := 62 } : Room) s m ([.ref (ad 0), .int (nI bb), .int (nI sd), .int (bI b0)] : List Value).toArray below meth c H locs 0 0 (MQ below (va_Ql (fun r S2 => r = hbr S bb sd b0 nr ∧ S2 = S) (ct_B (dC, dI) vwCl (tyl ca) (wc ca ad) A) A) ([.ref (ad 0), .int (nI bb), .int (nI sd), .int (bI b0)] : List Value).toArray s 0 0 A) (F0 m 6 ls []) := by
    intro n
    induction n with
    | zero =>
      intro i hi hn
      exfalso
      omega
    | succ n ih_6 =>
      intro i hi hn H locs ls hw hl
      refine lv_iload hx hb dX5_heldByRows_6 (lv_at hl 5 rfl) ?_
      refine lv_aload_n hx hb dX5_heldByRows_8 rfl (lv_at hl 0 rfl) ?_
      refine wo_get hx hb hts inX5 hown hK hw 0 rfl rfl 2 (by decide) (hts _ wd_168) (fun _ h9 => h9) rfl dX5_heldByRows_9 ?_
      refine wo_get hx hb hts inX3 hown hK hw 3 rfl rfl 0 (by decide) (hts _ wd_90) (fun _ h9 => h9) rfl dX5_heldByRows_12 ?_
      refine tp_i (y := nI nr) (hcnt) ?_
      refine lv_icmp_gt (tgt := 63) hx hb dX5_heldByRows_15 (by decide) (fun c_1 => ?_) (fun c_1 => ?_)
      · skip
        have c_1 : nr < (i + 1) := (nI_ltI (a := nr) (b := i + 1) (by omega) (by omega)).mp c_1
        obtain rfl : nr = i := by omega
        refine lv_lload hx hb dX5_heldByRows_63 (lv_at hl 4 rfl) ?_
        exact ct_lret (S := S) (v := hbr S bb sd b0 nr) hx hb hr hlocks hK hw (⟨rfl, rfl⟩) dX5_heldByRows_65
      · skip
        have c_1 : ¬ (nr < (i + 1)) := fun h9 => c_1 ((nI_ltI (a := nr) (b := i + 1) (by omega) (by omega)).mpr h9)
        refine lv_aload_n hx hb dX5_heldByRows_18 rfl (lv_at hl 0 rfl) ?_
        refine wo_get hx hb hts inX5 hown hK hw 0 rfl rfl 2 (by decide) (hts _ wd_168) (fun _ h9 => h9) rfl dX5_heldByRows_19 ?_
        refine lv_iload hx hb dX5_heldByRows_22 (lv_at hl 5 rfl) ?_
        refine lv_iload_n hx hb dX5_heldByRows_24 rfl (lv_at hl 1 rfl) ?_
        refine lv_iload_n hx hb dX5_heldByRows_25 rfl (lv_at hl 2 rfl) ?_
        refine wo_vI (As := [.int (nI (i + 1)), .int (nI bb), .int (nI sd)]) (rest := []) (kX3_isOf l dC dI ca ad S (i + 1) bb sd (by first | assumption | omega)) ⟨hx, hb, hml, hown, hts⟩ (cwV 3 hts (wa_gV wd_537 wd_322 wd_323 wd_5 wd_324) rfl rfl rfl (by decide +kernel) ⟨Nat.le_of_ble_eq_true rfl, Nat.le_of_ble_eq_true rfl⟩) hK hw hA 3 rfl rfl rfl rfl hl.1 rfl (Nat.le_of_ble_eq_true rfl) dX5_heldByRows_26 ⟨Nat.zero_le _, Nat.zero_le _⟩ (fun r_2 S_2 H locs hp_2 hw => ?_)
        have e9 := hp_2.1.symm
        subst e9
        have e9 := hp_2.2.symm
        subst e9
        refine lv_if_eq (tgt := 57) hx hb dX5_heldByRows_29 (by decide) (fun c_3 => ?_) (fun c_3 => ?_)
        · skip
          have c_3 : isOf S (i + 1) bb sd = false := nb_0 c_3
          refine lv_iinc (v := nI ((i + 1) + 1)) (lv' := [(6, .int (nI ((i + 1) + 1))), (0, .ref (ad 0)), (1, .int (nI bb)), (2, .int (nI sd)), (3, .int (bI b0)), (4, .long (hbr S bb sd b0 i))]) hx hb dX5_heldByRows_57 hl (k := 5) rfl (nI_inc _) (by decide) rfl (fun ls hl => ?_)
          refine lv_goto (tgt := 6) hx hb dX5_heldByRows_60 (by decide) ?_
          have e9 : hbr S bb sd b0 i = hbr S bb sd b0 (i + 1) := by first | rfl | (simp only [hbr, c_1, c_3, decide_true, decide_false, Bool.not_true, Bool.not_false, Bool.true_and, Bool.and_true, Bool.false_and, Bool.and_false, Bool.or_true, Bool.true_or, Bool.or_false, Bool.false_or, Bool.false_eq_true, Bool.true_eq_false, if_true, if_false, ↓reduceIte]; done)
          rw [e9] at hl
          exact ih_6 (i + 1) (by omega) (by omega) _ _ _ hw (lv_sub hl [1, 2, 3, 4, 5, 0] rfl)
        · skip
          have c_3 : isOf S (i + 1) bb sd = true := nb_1 c_3
          refine lv_aload_n hx hb dX5_heldByRows_32 rfl (lv_at hl 0 rfl) ?_
          refine lv_iload hx hb dX5_heldByRows_33 (lv_at hl 5 rfl) ?_
          refine wo_vI (As := [.int (nI (i + 1))]) (rest := []) (kX5_isStuck l dC dI ca ad S (i + 1) (by first | assumption | omega)) ⟨hx, hb, hml, hown, hts⟩ (cwV 1 hts (wa_gV wd_538 wd_540 ws_12 wd_1 wd_541) rfl rfl rfl (by decide +kernel) ⟨Nat.le_of_ble_eq_true rfl, Nat.le_of_ble_eq_true rfl⟩) hK hw hA 0 rfl rfl rfl rfl hl.1 rfl (Nat.le_of_ble_eq_true rfl) dX5_heldByRows_35 ⟨Nat.zero_le _, Nat.zero_le _⟩ (fun r_4 S_4 H locs hp_4 hw => ?_)
          have e9 := hp_4.1.symm
          subst e9
          have e9 := hp_4.2.symm
          subst e9
          refine lv_iload_n hx hb dX5_heldByRows_38 rfl (lv_at hl 3 rfl) ?_
          refine lv_icmp_ne (tgt := 57) hx hb dX5_heldByRows_39 (by decide) (fun c_5 => ?_) (fun c_5 => ?_)
          · skip
            have c_5 : ¬ (stk S (i + 1) = b0) := fun h9 => c_5 (bI_eq.mpr h9)
            refine lv_iinc (v := nI ((i + 1) + 1)) (lv' := [(6, .int (nI ((i + 1) + 1))), (0, .ref (ad 0)), (1, .int (nI bb)), (2, .int (nI sd)), (3, .int (bI b0)), (4, .long (hbr S bb sd b0 i))]) hx hb dX5_heldByRows_57 hl (k := 5) rfl (nI_inc _) (by decide) rfl (fun ls hl => ?_)
            refine lv_goto (tgt := 6) hx hb dX5_heldByRows_60 (by decide) ?_
            have e9 : hbr S bb sd b0 i = hbr S bb sd b0 (i + 1) := by first | rfl | (simp only [hbr, c_1, c_3, c_5, decide_true, decide_false, Bool.not_true, Bool.not_false, Bool.true_and, Bool.and_true, Bool.false_and, Bool.and_false, Bool.or_true, Bool.true_or, Bool.or_false, Bool.false_or, Bool.false_eq_true, Bool.true_eq_false, if_true, if_false, ↓reduceIte]; done)
            rw [e9] at hl
            exact ih_6 (i + 1) (by omega) (by omega) _ _ _ hw (lv_sub hl [1, 2, 3, 4, 5, 0] rfl)
          · skip
            have c_5 : stk S (i + 1) = b0 := bI_eq.mp c_5
            refine lv_lload hx hb dX5_heldByRows_42 (lv_at hl 4 rfl) ?_
            refine lv_aload_n hx hb dX5_heldByRows_44 rfl (lv_at hl 0 rfl) ?_
            refine wo_get hx hb hts inX5 hown hK hw 0 rfl rfl 2 (by decide) (hts _ wd_168) (fun _ h9 => h9) rfl dX5_heldByRows_45 ?_
            refine wo_get hx hb hts inX3 hown hK hw 3 rfl rfl 8 (by decide) (hts _ wd_106) (fun _ h9 => h9) rfl dX5_heldByRows_48 ?_
            refine lv_iload hx hb dX5_heldByRows_51 (lv_at hl 5 rfl) ?_
            refine wo_lald hx hb hK hw 33 1 rfl rfl (i + 1) rfl (by first | assumption | omega) (by decide) dX5_heldByRows_53 ?_
            refine lv_ladd hx hb dX5_heldByRows_54 ?_
            refine lv_lstore (lv' := [(4, .long ((hbr S bb sd b0 i) + (S.2 33 (i + 1)))), (0, .ref (ad 0)), (1, .int (nI bb)), (2, .int (nI sd)), (3, .int (bI b0)), (6, .int (nI (i + 1)))]) hx hb dX5_heldByRows_55 hl (by decide) rfl (fun ls hl => ?_)
            refine lv_iinc (v := nI ((i + 1) + 1)) (lv' := [(6, .int (nI ((i + 1) + 1))), (4, .long ((hbr S bb sd b0 i) + (S.2 33 (i + 1)))), (0, .ref (ad 0)), (1, .int (nI bb)), (2, .int (nI sd)), (3, .int (bI b0))]) hx hb dX5_heldByRows_57 hl (k := 5) rfl (nI_inc _) (by decide) rfl (fun ls hl => ?_)
            refine lv_goto (tgt := 6) hx hb dX5_heldByRows_60 (by decide) ?_
            have e9 : (hbr S bb sd b0 i) + (S.2 33 (i + 1)) = hbr S bb sd b0 (i + 1) := by first | rfl | (simp only [hbr, c_1, c_3, c_5, decide_true, decide_false, Bool.not_true, Bool.not_false, Bool.true_and, Bool.and_true, Bool.false_and, Bool.and_false, Bool.or_true, Bool.true_or, Bool.or_false, Bool.false_or, Bool.false_eq_true, Bool.true_eq_false, if_true, if_false, ↓reduceIte]; done)
            rw [e9] at hl
            exact ih_6 (i + 1) (by omega) (by omega) _ _ _ hw (lv_sub hl [2, 3, 4, 5, 1, 0] rfl)
  have e9 : 0 = hbr S bb sd b0 0 := by first | rfl | (simp only [hbr, decide_true, decide_false, Bool.not_true, Bool.not_false, Bool.true_and, Bool.and_true, Bool.false_and, Bool.and_false, Bool.or_true, Bool.true_or, Bool.or_false, Bool.false_or, Bool.false_eq_true, Bool.true_eq_false, if_true, if_false, ↓reduceIte]; done)
  rw [e9] at hl
  have e9 : nI 1 = nI (0 + 1) := by first | rfl | (simp only [hbr, decide_true, decide_false, Bool.not_true, Bool.not_false, Bool.true_and, Bool.and_true, Bool.false_and, Bool.and_false, Bool.or_true, Bool.true_or, Bool.or_false, Bool.false_or, Bool.false_eq_true, Bool.true_eq_false, if_true, if_false, ↓reduceIte]; done)
  rw [e9] at hl
  exact lp_6 (nr + 1) 0 (by omega) (by omega) _ _ _ hw (lv_sub hl [2, 3, 4, 5, 1, 0] rfl)
