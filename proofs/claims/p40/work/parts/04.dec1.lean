theorem dX0_init_0 : decode cX0_init 0 = .ok (.aload_n 0, 1) := by decide +kernel
theorem dX0_init_1 : decode cX0_init 1 = .ok (.invokespecial 3, 3) := by decide +kernel
theorem dX0_init_4 : decode cX0_init 4 = .ok (.aload_n 0, 1) := by decide +kernel
theorem dX0_init_5 : decode cX0_init 5 = .ok (.bipush 11, 2) := by decide +kernel
theorem dX0_init_7 : decode cX0_init 7 = .ok (.newarray .int, 2) := by decide +kernel
theorem dX0_init_9 : decode cX0_init 9 = .ok (.putfield 11, 3) := by decide +kernel
theorem dX0_init_12 : decode cX0_init 12 = .ok (.aload_n 0, 1) := by decide +kernel
theorem dX0_init_13 : decode cX0_init 13 = .ok (.bipush 11, 2) := by decide +kernel
theorem dX0_init_15 : decode cX0_init 15 = .ok (.newarray .int, 2) := by decide +kernel
theorem dX0_init_17 : decode cX0_init 17 = .ok (.putfield 15, 3) := by decide +kernel
theorem dX0_init_20 : decode cX0_init 20 = .ok (.aload_n 0, 1) := by decide +kernel
theorem dX0_init_21 : decode cX0_init 21 = .ok (.bipush 12, 2) := by decide +kernel
theorem dX0_init_23 : decode cX0_init 23 = .ok (.newarray .long, 2) := by decide +kernel
theorem dX0_init_25 : decode cX0_init 25 = .ok (.putfield 18, 3) := by decide +kernel
theorem dX0_init_28 : decode cX0_init 28 = .ok (.aload_n 0, 1) := by decide +kernel
theorem dX0_init_29 : decode cX0_init 29 = .ok (.bipush 12, 2) := by decide +kernel
theorem dX0_init_31 : decode cX0_init 31 = .ok (.newarray .long, 2) := by decide +kernel
theorem dX0_init_33 : decode cX0_init 33 = .ok (.putfield 22, 3) := by decide +kernel
theorem dX0_init_36 : decode cX0_init 36 = .ok (.return_, 1) := by decide +kernel
theorem dX0_start_0 : decode cX0_start 0 = .ok (.aload_n 0, 1) := by decide +kernel
theorem dX0_start_1 : decode cX0_start 1 = .ok (.iconst 0, 1) := by decide +kernel
theorem dX0_start_2 : decode cX0_start 2 = .ok (.putfield 25, 3) := by decide +kernel
theorem dX0_start_5 : decode cX0_start 5 = .ok (.aload_n 0, 1) := by decide +kernel
theorem dX0_start_6 : decode cX0_start 6 = .ok (.aload_n 1, 1) := by decide +kernel
theorem dX0_start_7 : decode cX0_start 7 = .ok (.getfield 29, 3) := by decide +kernel
theorem dX0_start_10 : decode cX0_start 10 = .ok (.putfield 34, 3) := by decide +kernel
theorem dX0_start_13 : decode cX0_start 13 = .ok (.aload_n 0, 1) := by decide +kernel
theorem dX0_start_14 : decode cX0_start 14 = .ok (.aload_n 1, 1) := by decide +kernel
theorem dX0_start_15 : decode cX0_start 15 = .ok (.getfield 35, 3) := by decide +kernel
theorem dX0_start_18 : decode cX0_start 18 = .ok (.putfield 38, 3) := by decide +kernel
theorem dX0_start_21 : decode cX0_start 21 = .ok (.aload_n 0, 1) := by decide +kernel
theorem dX0_start_22 : decode cX0_start 22 = .ok (.aload_n 1, 1) := by decide +kernel
theorem dX0_start_23 : decode cX0_start 23 = .ok (.getfield 39, 3) := by decide +kernel
theorem dX0_start_26 : decode cX0_start 26 = .ok (.putfield 42, 3) := by decide +kernel
theorem dX0_start_29 : decode cX0_start 29 = .ok (.aload_n 0, 1) := by decide +kernel
theorem dX0_start_30 : decode cX0_start 30 = .ok (.aload_n 1, 1) := by decide +kernel
theorem dX0_start_31 : decode cX0_start 31 = .ok (.getfield 43, 3) := by decide +kernel
theorem dX0_start_34 : decode cX0_start 34 = .ok (.putfield 46, 3) := by decide +kernel
theorem dX0_start_37 : decode cX0_start 37 = .ok (.aload_n 0, 1) := by decide +kernel
theorem dX0_start_38 : decode cX0_start 38 = .ok (.aload_n 1, 1) := by decide +kernel
theorem dX0_start_39 : decode cX0_start 39 = .ok (.getfield 47, 3) := by decide +kernel
theorem dX0_start_42 : decode cX0_start 42 = .ok (.putfield 50, 3) := by decide +kernel
theorem dX0_start_45 : decode cX0_start 45 = .ok (.return_, 1) := by decide +kernel
theorem dX0_join_0 : decode cX0_join 0 = .ok (.aload_n 0, 1) := by decide +kernel
theorem dX0_join_1 : decode cX0_join 1 = .ok (.getfield 25, 3) := by decide +kernel
theorem dX0_join_4 : decode cX0_join 4 = .ok (.ifCond .lt 20, 3) := by decide +kernel
theorem dX0_join_7 : decode cX0_join 7 = .ok (.aload_n 0, 1) := by decide +kernel
theorem dX0_join_8 : decode cX0_join 8 = .ok (.getfield 25, 3) := by decide +kernel
theorem dX0_join_11 : decode cX0_join 11 = .ok (.bipush 11, 2) := by decide +kernel
theorem dX0_join_13 : decode cX0_join 13 = .ok (.if_icmp .ge 11, 3) := by decide +kernel
theorem dX0_join_16 : decode cX0_join 16 = .ok (.aload_n 0, 1) := by decide +kernel
theorem dX0_join_17 : decode cX0_join 17 = .ok (.iload_n 1, 1) := by decide +kernel
theorem dX0_join_18 : decode cX0_join 18 = .ok (.invokevirtual 51, 3) := by decide +kernel
theorem dX0_join_21 : decode cX0_join 21 = .ok (.ifCond .eq 5, 3) := by decide +kernel
theorem dX0_join_24 : decode cX0_join 24 = .ok (.iconst 0, 1) := by decide +kernel
theorem dX0_join_25 : decode cX0_join 25 = .ok (.ireturn, 1) := by decide +kernel
theorem dX0_join_26 : decode cX0_join 26 = .ok (.aload_n 0, 1) := by decide +kernel
theorem dX0_join_27 : decode cX0_join 27 = .ok (.getfield 18, 3) := by decide +kernel
theorem dX0_join_30 : decode cX0_join 30 = .ok (.aload_n 0, 1) := by decide +kernel
theorem dX0_join_31 : decode cX0_join 31 = .ok (.getfield 25, 3) := by decide +kernel
theorem dX0_join_34 : decode cX0_join 34 = .ok (.laload, 1) := by decide +kernel
theorem dX0_join_35 : decode cX0_join 35 = .ok (.aload_n 0, 1) := by decide +kernel
theorem dX0_join_36 : decode cX0_join 36 = .ok (.iload_n 1, 1) := by decide +kernel
theorem dX0_join_37 : decode cX0_join 37 = .ok (.invokevirtual 55, 3) := by decide +kernel
theorem dX0_join_40 : decode cX0_join 40 = .ok (.lor, 1) := by decide +kernel
theorem dX0_join_41 : decode cX0_join 41 = .ok (.lstore_n 3, 1) := by decide +kernel
theorem dX0_join_42 : decode cX0_join 42 = .ok (.aload_n 0, 1) := by decide +kernel
theorem dX0_join_43 : decode cX0_join 43 = .ok (.getfield 22, 3) := by decide +kernel
theorem dX0_join_46 : decode cX0_join 46 = .ok (.aload_n 0, 1) := by decide +kernel
theorem dX0_join_47 : decode cX0_join 47 = .ok (.getfield 25, 3) := by decide +kernel
theorem dX0_join_50 : decode cX0_join 50 = .ok (.laload, 1) := by decide +kernel
theorem dX0_join_51 : decode cX0_join 51 = .ok (.aload_n 0, 1) := by decide +kernel
theorem dX0_join_52 : decode cX0_join 52 = .ok (.iload_n 1, 1) := by decide +kernel
theorem dX0_join_53 : decode cX0_join 53 = .ok (.iload_n 2, 1) := by decide +kernel
theorem dX0_join_54 : decode cX0_join 54 = .ok (.invokevirtual 59, 3) := by decide +kernel
theorem dX0_join_57 : decode cX0_join 57 = .ok (.lor, 1) := by decide +kernel
theorem dX0_join_58 : decode cX0_join 58 = .ok (.aload_n 0, 1) := by decide +kernel
theorem dX0_join_59 : decode cX0_join 59 = .ok (.iload_n 1, 1) := by decide +kernel
theorem dX0_join_60 : decode cX0_join 60 = .ok (.iload_n 2, 1) := by decide +kernel
theorem dX0_join_61 : decode cX0_join 61 = .ok (.invokevirtual 63, 3) := by decide +kernel
theorem dX0_join_64 : decode cX0_join 64 = .ok (.lor, 1) := by decide +kernel
theorem dX0_join_65 : decode cX0_join 65 = .ok (.lstore 5, 2) := by decide +kernel
theorem dX0_join_67 : decode cX0_join 67 = .ok (.lload_n 3, 1) := by decide +kernel
theorem dX0_join_68 : decode cX0_join 68 = .ok (.lload 5, 2) := by decide +kernel
theorem dX0_join_70 : decode cX0_join 70 = .ok (.land, 1) := by decide +kernel
theorem dX0_join_71 : decode cX0_join 71 = .ok (.lconst 0, 1) := by decide +kernel
theorem dX0_join_72 : decode cX0_join 72 = .ok (.lcmp, 1) := by decide +kernel
theorem dX0_join_73 : decode cX0_join 73 = .ok (.ifCond .eq 5, 3) := by decide +kernel
theorem dX0_join_76 : decode cX0_join 76 = .ok (.iconst 0, 1) := by decide +kernel
theorem dX0_join_77 : decode cX0_join 77 = .ok (.ireturn, 1) := by decide +kernel
theorem dX0_join_78 : decode cX0_join 78 = .ok (.aload_n 0, 1) := by decide +kernel
theorem dX0_join_79 : decode cX0_join 79 = .ok (.getfield 11, 3) := by decide +kernel
theorem dX0_join_82 : decode cX0_join 82 = .ok (.aload_n 0, 1) := by decide +kernel
theorem dX0_join_83 : decode cX0_join 83 = .ok (.getfield 25, 3) := by decide +kernel
theorem dX0_join_86 : decode cX0_join 86 = .ok (.iload_n 1, 1) := by decide +kernel
theorem dX0_join_87 : decode cX0_join 87 = .ok (.iastore, 1) := by decide +kernel
theorem dX0_join_88 : decode cX0_join 88 = .ok (.aload_n 0, 1) := by decide +kernel
theorem dX0_join_89 : decode cX0_join 89 = .ok (.getfield 15, 3) := by decide +kernel
theorem dX0_join_92 : decode cX0_join 92 = .ok (.aload_n 0, 1) := by decide +kernel
theorem dX0_join_93 : decode cX0_join 93 = .ok (.getfield 25, 3) := by decide +kernel
theorem dX0_join_96 : decode cX0_join 96 = .ok (.iload_n 2, 1) := by decide +kernel
theorem dX0_join_97 : decode cX0_join 97 = .ok (.iastore, 1) := by decide +kernel
theorem dX0_join_98 : decode cX0_join 98 = .ok (.aload_n 0, 1) := by decide +kernel
theorem dX0_join_99 : decode cX0_join 99 = .ok (.dup, 1) := by decide +kernel
theorem dX0_join_100 : decode cX0_join 100 = .ok (.getfield 25, 3) := by decide +kernel
theorem dX0_join_103 : decode cX0_join 103 = .ok (.iconst 1, 1) := by decide +kernel
theorem dX0_join_104 : decode cX0_join 104 = .ok (.iadd, 1) := by decide +kernel
theorem dX0_join_105 : decode cX0_join 105 = .ok (.putfield 25, 3) := by decide +kernel
theorem dX0_join_108 : decode cX0_join 108 = .ok (.aload_n 0, 1) := by decide +kernel
theorem dX0_join_109 : decode cX0_join 109 = .ok (.getfield 18, 3) := by decide +kernel
theorem dX0_join_112 : decode cX0_join 112 = .ok (.aload_n 0, 1) := by decide +kernel
theorem dX0_join_113 : decode cX0_join 113 = .ok (.getfield 25, 3) := by decide +kernel
theorem dX0_join_116 : decode cX0_join 116 = .ok (.lload_n 3, 1) := by decide +kernel
theorem dX0_join_117 : decode cX0_join 117 = .ok (.lastore, 1) := by decide +kernel
theorem dX0_join_118 : decode cX0_join 118 = .ok (.aload_n 0, 1) := by decide +kernel
theorem dX0_join_119 : decode cX0_join 119 = .ok (.getfield 22, 3) := by decide +kernel
theorem dX0_join_122 : decode cX0_join 122 = .ok (.aload_n 0, 1) := by decide +kernel
theorem dX0_join_123 : decode cX0_join 123 = .ok (.getfield 25, 3) := by decide +kernel
theorem dX0_join_126 : decode cX0_join 126 = .ok (.lload 5, 2) := by decide +kernel
theorem dX0_join_128 : decode cX0_join 128 = .ok (.lastore, 1) := by decide +kernel
theorem dX0_join_129 : decode cX0_join 129 = .ok (.iconst 1, 1) := by decide +kernel
theorem dX0_join_130 : decode cX0_join 130 = .ok (.ireturn, 1) := by decide +kernel
theorem dX0_leave_0 : decode cX0_leave 0 = .ok (.aload_n 0, 1) := by decide +kernel
theorem dX0_leave_1 : decode cX0_leave 1 = .ok (.aload_n 0, 1) := by decide +kernel
theorem dX0_leave_2 : decode cX0_leave 2 = .ok (.getfield 25, 3) := by decide +kernel
theorem dX0_leave_5 : decode cX0_leave 5 = .ok (.iconst 1, 1) := by decide +kernel
theorem dX0_leave_6 : decode cX0_leave 6 = .ok (.isub, 1) := by decide +kernel
theorem dX0_leave_7 : decode cX0_leave 7 = .ok (.iconst 0, 1) := by decide +kernel
theorem dX0_leave_8 : decode cX0_leave 8 = .ok (.invokestatic 66, 3) := by decide +kernel
theorem dX0_leave_11 : decode cX0_leave 11 = .ok (.putfield 25, 3) := by decide +kernel
theorem dX0_leave_14 : decode cX0_leave 14 = .ok (.return_, 1) := by decide +kernel
theorem dX0_channelSet_0 : decode cX0_channelSet 0 = .ok (.lconst 0, 1) := by decide +kernel
theorem dX0_channelSet_1 : decode cX0_channelSet 1 = .ok (.lstore_n 1, 1) := by decide +kernel
theorem dX0_channelSet_2 : decode cX0_channelSet 2 = .ok (.iconst 0, 1) := by decide +kernel
theorem dX0_channelSet_3 : decode cX0_channelSet 3 = .ok (.istore_n 3, 1) := by decide +kernel
theorem dX0_channelSet_4 : decode cX0_channelSet 4 = .ok (.iload_n 3, 1) := by decide +kernel
theorem dX0_channelSet_5 : decode cX0_channelSet 5 = .ok (.aload_n 0, 1) := by decide +kernel
theorem dX0_channelSet_6 : decode cX0_channelSet 6 = .ok (.getfield 25, 3) := by decide +kernel
theorem dX0_channelSet_9 : decode cX0_channelSet 9 = .ok (.if_icmp .ge 26, 3) := by decide +kernel
theorem dX0_channelSet_12 : decode cX0_channelSet 12 = .ok (.iload_n 3, 1) := by decide +kernel
theorem dX0_channelSet_13 : decode cX0_channelSet 13 = .ok (.bipush 11, 2) := by decide +kernel
theorem dX0_channelSet_15 : decode cX0_channelSet 15 = .ok (.if_icmp .ge 20, 3) := by decide +kernel
theorem dX0_channelSet_18 : decode cX0_channelSet 18 = .ok (.lload_n 1, 1) := by decide +kernel
theorem dX0_channelSet_19 : decode cX0_channelSet 19 = .ok (.lconst 1, 1) := by decide +kernel
theorem dX0_channelSet_20 : decode cX0_channelSet 20 = .ok (.aload_n 0, 1) := by decide +kernel
theorem dX0_channelSet_21 : decode cX0_channelSet 21 = .ok (.getfield 11, 3) := by decide +kernel
theorem dX0_channelSet_24 : decode cX0_channelSet 24 = .ok (.iload_n 3, 1) := by decide +kernel
theorem dX0_channelSet_25 : decode cX0_channelSet 25 = .ok (.iaload, 1) := by decide +kernel
theorem dX0_channelSet_26 : decode cX0_channelSet 26 = .ok (.lshl, 1) := by decide +kernel
theorem dX0_channelSet_27 : decode cX0_channelSet 27 = .ok (.lor, 1) := by decide +kernel
theorem dX0_channelSet_28 : decode cX0_channelSet 28 = .ok (.lstore_n 1, 1) := by decide +kernel
theorem dX0_channelSet_29 : decode cX0_channelSet 29 = .ok (.iinc 3 1, 3) := by decide +kernel
theorem dX0_channelSet_32 : decode cX0_channelSet 32 = .ok (.goto (-28), 3) := by decide +kernel
theorem dX0_channelSet_35 : decode cX0_channelSet 35 = .ok (.lload_n 1, 1) := by decide +kernel
theorem dX0_channelSet_36 : decode cX0_channelSet 36 = .ok (.lreturn, 1) := by decide +kernel
theorem dX0_isCrowded_0 : decode cX0_isCrowded 0 = .ok (.iconst 0, 1) := by decide +kernel
theorem dX0_isCrowded_1 : decode cX0_isCrowded 1 = .ok (.istore_n 2, 1) := by decide +kernel
theorem dX0_isCrowded_2 : decode cX0_isCrowded 2 = .ok (.iload_n 2, 1) := by decide +kernel
theorem dX0_isCrowded_3 : decode cX0_isCrowded 3 = .ok (.aload_n 0, 1) := by decide +kernel
theorem dX0_isCrowded_4 : decode cX0_isCrowded 4 = .ok (.getfield 25, 3) := by decide +kernel
theorem dX0_isCrowded_7 : decode cX0_isCrowded 7 = .ok (.if_icmp .ge 35, 3) := by decide +kernel
theorem dX0_isCrowded_10 : decode cX0_isCrowded 10 = .ok (.iload_n 2, 1) := by decide +kernel
theorem dX0_isCrowded_11 : decode cX0_isCrowded 11 = .ok (.bipush 11, 2) := by decide +kernel
theorem dX0_isCrowded_13 : decode cX0_isCrowded 13 = .ok (.if_icmp .ge 29, 3) := by decide +kernel
theorem dX0_isCrowded_16 : decode cX0_isCrowded 16 = .ok (.aload_n 0, 1) := by decide +kernel
theorem dX0_isCrowded_17 : decode cX0_isCrowded 17 = .ok (.getfield 11, 3) := by decide +kernel
theorem dX0_isCrowded_20 : decode cX0_isCrowded 20 = .ok (.iload_n 2, 1) := by decide +kernel
theorem dX0_isCrowded_21 : decode cX0_isCrowded 21 = .ok (.iaload, 1) := by decide +kernel
theorem dX0_isCrowded_22 : decode cX0_isCrowded 22 = .ok (.iload_n 1, 1) := by decide +kernel
theorem dX0_isCrowded_23 : decode cX0_isCrowded 23 = .ok (.isub, 1) := by decide +kernel
theorem dX0_isCrowded_24 : decode cX0_isCrowded 24 = .ok (.invokestatic 72, 3) := by decide +kernel
theorem dX0_isCrowded_27 : decode cX0_isCrowded 27 = .ok (.aload_n 0, 1) := by decide +kernel
theorem dX0_isCrowded_28 : decode cX0_isCrowded 28 = .ok (.getfield 50, 3) := by decide +kernel
theorem dX0_isCrowded_31 : decode cX0_isCrowded 31 = .ok (.if_icmp .ge 5, 3) := by decide +kernel
theorem dX0_isCrowded_34 : decode cX0_isCrowded 34 = .ok (.iconst 1, 1) := by decide +kernel
theorem dX0_isCrowded_35 : decode cX0_isCrowded 35 = .ok (.ireturn, 1) := by decide +kernel
theorem dX0_isCrowded_36 : decode cX0_isCrowded 36 = .ok (.iinc 2 1, 3) := by decide +kernel
theorem dX0_isCrowded_39 : decode cX0_isCrowded 39 = .ok (.goto (-37), 3) := by decide +kernel
theorem dX0_isCrowded_42 : decode cX0_isCrowded 42 = .ok (.iconst 0, 1) := by decide +kernel
theorem dX0_isCrowded_43 : decode cX0_isCrowded 43 = .ok (.ireturn, 1) := by decide +kernel
theorem dX0_guardedBy_0 : decode cX0_guardedBy 0 = .ok (.lconst 1, 1) := by decide +kernel
theorem dX0_guardedBy_1 : decode cX0_guardedBy 1 = .ok (.iconst 2, 1) := by decide +kernel
theorem dX0_guardedBy_2 : decode cX0_guardedBy 2 = .ok (.aload_n 0, 1) := by decide +kernel
theorem dX0_guardedBy_3 : decode cX0_guardedBy 3 = .ok (.getfield 46, 3) := by decide +kernel
theorem dX0_guardedBy_6 : decode cX0_guardedBy 6 = .ok (.imul, 1) := by decide +kernel
theorem dX0_guardedBy_7 : decode cX0_guardedBy 7 = .ok (.iconst 1, 1) := by decide +kernel
theorem dX0_guardedBy_8 : decode cX0_guardedBy 8 = .ok (.iadd, 1) := by decide +kernel
theorem dX0_guardedBy_9 : decode cX0_guardedBy 9 = .ok (.lshl, 1) := by decide +kernel
theorem dX0_guardedBy_10 : decode cX0_guardedBy 10 = .ok (.lconst 1, 1) := by decide +kernel
theorem dX0_guardedBy_11 : decode cX0_guardedBy 11 = .ok (.lsub, 1) := by decide +kernel
theorem dX0_guardedBy_12 : decode cX0_guardedBy 12 = .ok (.lstore_n 2, 1) := by decide +kernel
theorem dX0_guardedBy_13 : decode cX0_guardedBy 13 = .ok (.iload_n 1, 1) := by decide +kernel
theorem dX0_guardedBy_14 : decode cX0_guardedBy 14 = .ok (.aload_n 0, 1) := by decide +kernel
theorem dX0_guardedBy_15 : decode cX0_guardedBy 15 = .ok (.getfield 46, 3) := by decide +kernel
theorem dX0_guardedBy_18 : decode cX0_guardedBy 18 = .ok (.isub, 1) := by decide +kernel
theorem dX0_guardedBy_19 : decode cX0_guardedBy 19 = .ok (.istore 4, 2) := by decide +kernel
theorem dX0_guardedBy_21 : decode cX0_guardedBy 21 = .ok (.iload 4, 2) := by decide +kernel
theorem dX0_guardedBy_23 : decode cX0_guardedBy 23 = .ok (.ifCond .lt 10, 3) := by decide +kernel
theorem dX0_guardedBy_26 : decode cX0_guardedBy 26 = .ok (.lload_n 2, 1) := by decide +kernel
theorem dX0_guardedBy_27 : decode cX0_guardedBy 27 = .ok (.iload 4, 2) := by decide +kernel
theorem dX0_guardedBy_29 : decode cX0_guardedBy 29 = .ok (.lshl, 1) := by decide +kernel
theorem dX0_guardedBy_30 : decode cX0_guardedBy 30 = .ok (.goto 8, 3) := by decide +kernel
theorem dX0_guardedBy_33 : decode cX0_guardedBy 33 = .ok (.lload_n 2, 1) := by decide +kernel
theorem dX0_guardedBy_34 : decode cX0_guardedBy 34 = .ok (.iload 4, 2) := by decide +kernel
theorem dX0_guardedBy_36 : decode cX0_guardedBy 36 = .ok (.ineg, 1) := by decide +kernel
theorem dX0_guardedBy_37 : decode cX0_guardedBy 37 = .ok (.lushr, 1) := by decide +kernel
theorem dX0_guardedBy_38 : decode cX0_guardedBy 38 = .ok (.lreturn, 1) := by decide +kernel
theorem dX0_pairsWith_0 : decode cX0_pairsWith 0 = .ok (.lconst 0, 1) := by decide +kernel
theorem dX0_pairsWith_1 : decode cX0_pairsWith 1 = .ok (.lstore_n 3, 1) := by decide +kernel
theorem dX0_pairsWith_2 : decode cX0_pairsWith 2 = .ok (.iconst 0, 1) := by decide +kernel
theorem dX0_pairsWith_3 : decode cX0_pairsWith 3 = .ok (.istore 5, 2) := by decide +kernel
theorem dX0_pairsWith_5 : decode cX0_pairsWith 5 = .ok (.iload 5, 2) := by decide +kernel
theorem dX0_pairsWith_7 : decode cX0_pairsWith 7 = .ok (.aload_n 0, 1) := by decide +kernel
theorem dX0_pairsWith_8 : decode cX0_pairsWith 8 = .ok (.getfield 25, 3) := by decide +kernel
theorem dX0_pairsWith_11 : decode cX0_pairsWith 11 = .ok (.if_icmp .ge 152, 3) := by decide +kernel
theorem dX0_pairsWith_14 : decode cX0_pairsWith 14 = .ok (.iload 5, 2) := by decide +kernel
theorem dX0_pairsWith_16 : decode cX0_pairsWith 16 = .ok (.bipush 11, 2) := by decide +kernel
theorem dX0_pairsWith_18 : decode cX0_pairsWith 18 = .ok (.if_icmp .ge 145, 3) := by decide +kernel
theorem dX0_pairsWith_21 : decode cX0_pairsWith 21 = .ok (.aload_n 0, 1) := by decide +kernel
theorem dX0_pairsWith_22 : decode cX0_pairsWith 22 = .ok (.getfield 11, 3) := by decide +kernel
theorem dX0_pairsWith_25 : decode cX0_pairsWith 25 = .ok (.iload 5, 2) := by decide +kernel
theorem dX0_pairsWith_27 : decode cX0_pairsWith 27 = .ok (.iaload, 1) := by decide +kernel
theorem dX0_pairsWith_28 : decode cX0_pairsWith 28 = .ok (.istore 6, 2) := by decide +kernel
theorem dX0_pairsWith_30 : decode cX0_pairsWith 30 = .ok (.aload_n 0, 1) := by decide +kernel
theorem dX0_pairsWith_31 : decode cX0_pairsWith 31 = .ok (.getfield 15, 3) := by decide +kernel
theorem dX0_pairsWith_34 : decode cX0_pairsWith 34 = .ok (.iload 5, 2) := by decide +kernel
theorem dX0_pairsWith_36 : decode cX0_pairsWith 36 = .ok (.iaload, 1) := by decide +kernel
theorem dX0_pairsWith_37 : decode cX0_pairsWith 37 = .ok (.istore 7, 2) := by decide +kernel
theorem dX0_pairsWith_39 : decode cX0_pairsWith 39 = .ok (.aload_n 0, 1) := by decide +kernel
theorem dX0_pairsWith_40 : decode cX0_pairsWith 40 = .ok (.getfield 34, 3) := by decide +kernel
theorem dX0_pairsWith_43 : decode cX0_pairsWith 43 = .ok (.iconst 1, 1) := by decide +kernel
theorem dX0_pairsWith_44 : decode cX0_pairsWith 44 = .ok (.iand, 1) := by decide +kernel
theorem dX0_pairsWith_45 : decode cX0_pairsWith 45 = .ok (.ifCond .eq 49, 3) := by decide +kernel
theorem dX0_pairsWith_48 : decode cX0_pairsWith 48 = .ok (.lload_n 3, 1) := by decide +kernel
theorem dX0_pairsWith_49 : decode cX0_pairsWith 49 = .ok (.iconst 2, 1) := by decide +kernel
theorem dX0_pairsWith_50 : decode cX0_pairsWith 50 = .ok (.iload_n 1, 1) := by decide +kernel
theorem dX0_pairsWith_51 : decode cX0_pairsWith 51 = .ok (.imul, 1) := by decide +kernel
theorem dX0_pairsWith_52 : decode cX0_pairsWith 52 = .ok (.iload 6, 2) := by decide +kernel
theorem dX0_pairsWith_54 : decode cX0_pairsWith 54 = .ok (.isub, 1) := by decide +kernel
theorem dX0_pairsWith_55 : decode cX0_pairsWith 55 = .ok (.iconst 2, 1) := by decide +kernel
theorem dX0_pairsWith_56 : decode cX0_pairsWith 56 = .ok (.iload_n 2, 1) := by decide +kernel
theorem dX0_pairsWith_57 : decode cX0_pairsWith 57 = .ok (.imul, 1) := by decide +kernel
theorem dX0_pairsWith_58 : decode cX0_pairsWith 58 = .ok (.iload 7, 2) := by decide +kernel
theorem dX0_pairsWith_60 : decode cX0_pairsWith 60 = .ok (.iadd, 1) := by decide +kernel
theorem dX0_pairsWith_61 : decode cX0_pairsWith 61 = .ok (.aload_n 0, 1) := by decide +kernel
theorem dX0_pairsWith_62 : decode cX0_pairsWith 62 = .ok (.getfield 38, 3) := by decide +kernel
theorem dX0_pairsWith_65 : decode cX0_pairsWith 65 = .ok (.isub, 1) := by decide +kernel
theorem dX0_pairsWith_66 : decode cX0_pairsWith 66 = .ok (.invokestatic 76, 3) := by decide +kernel
theorem dX0_pairsWith_69 : decode cX0_pairsWith 69 = .ok (.lor, 1) := by decide +kernel
theorem dX0_pairsWith_70 : decode cX0_pairsWith 70 = .ok (.lstore_n 3, 1) := by decide +kernel
theorem dX0_pairsWith_71 : decode cX0_pairsWith 71 = .ok (.lload_n 3, 1) := by decide +kernel
theorem dX0_pairsWith_72 : decode cX0_pairsWith 72 = .ok (.iconst 2, 1) := by decide +kernel
theorem dX0_pairsWith_73 : decode cX0_pairsWith 73 = .ok (.iload 6, 2) := by decide +kernel
theorem dX0_pairsWith_75 : decode cX0_pairsWith 75 = .ok (.imul, 1) := by decide +kernel
theorem dX0_pairsWith_76 : decode cX0_pairsWith 76 = .ok (.iload_n 1, 1) := by decide +kernel
theorem dX0_pairsWith_77 : decode cX0_pairsWith 77 = .ok (.isub, 1) := by decide +kernel
theorem dX0_pairsWith_78 : decode cX0_pairsWith 78 = .ok (.iconst 2, 1) := by decide +kernel
theorem dX0_pairsWith_79 : decode cX0_pairsWith 79 = .ok (.iload 7, 2) := by decide +kernel
theorem dX0_pairsWith_81 : decode cX0_pairsWith 81 = .ok (.imul, 1) := by decide +kernel
theorem dX0_pairsWith_82 : decode cX0_pairsWith 82 = .ok (.iload_n 2, 1) := by decide +kernel
theorem dX0_pairsWith_83 : decode cX0_pairsWith 83 = .ok (.iadd, 1) := by decide +kernel
theorem dX0_pairsWith_84 : decode cX0_pairsWith 84 = .ok (.aload_n 0, 1) := by decide +kernel
theorem dX0_pairsWith_85 : decode cX0_pairsWith 85 = .ok (.getfield 38, 3) := by decide +kernel
theorem dX0_pairsWith_88 : decode cX0_pairsWith 88 = .ok (.isub, 1) := by decide +kernel
theorem dX0_pairsWith_89 : decode cX0_pairsWith 89 = .ok (.invokestatic 76, 3) := by decide +kernel
theorem dX0_pairsWith_92 : decode cX0_pairsWith 92 = .ok (.lor, 1) := by decide +kernel
theorem dX0_pairsWith_93 : decode cX0_pairsWith 93 = .ok (.lstore_n 3, 1) := by decide +kernel
theorem dX0_pairsWith_94 : decode cX0_pairsWith 94 = .ok (.aload_n 0, 1) := by decide +kernel
theorem dX0_pairsWith_95 : decode cX0_pairsWith 95 = .ok (.getfield 34, 3) := by decide +kernel
theorem dX0_pairsWith_98 : decode cX0_pairsWith 98 = .ok (.iconst 4, 1) := by decide +kernel
theorem dX0_pairsWith_99 : decode cX0_pairsWith 99 = .ok (.iand, 1) := by decide +kernel
theorem dX0_pairsWith_100 : decode cX0_pairsWith 100 = .ok (.ifCond .eq 57, 3) := by decide +kernel
theorem dX0_pairsWith_103 : decode cX0_pairsWith 103 = .ok (.lload_n 3, 1) := by decide +kernel
theorem dX0_pairsWith_104 : decode cX0_pairsWith 104 = .ok (.iconst 3, 1) := by decide +kernel
theorem dX0_pairsWith_105 : decode cX0_pairsWith 105 = .ok (.iload_n 1, 1) := by decide +kernel
theorem dX0_pairsWith_106 : decode cX0_pairsWith 106 = .ok (.imul, 1) := by decide +kernel
theorem dX0_pairsWith_107 : decode cX0_pairsWith 107 = .ok (.iconst 2, 1) := by decide +kernel
theorem dX0_pairsWith_108 : decode cX0_pairsWith 108 = .ok (.iload 6, 2) := by decide +kernel
theorem dX0_pairsWith_110 : decode cX0_pairsWith 110 = .ok (.imul, 1) := by decide +kernel
theorem dX0_pairsWith_111 : decode cX0_pairsWith 111 = .ok (.isub, 1) := by decide +kernel
theorem dX0_pairsWith_112 : decode cX0_pairsWith 112 = .ok (.iconst 3, 1) := by decide +kernel
theorem dX0_pairsWith_113 : decode cX0_pairsWith 113 = .ok (.iload_n 2, 1) := by decide +kernel
theorem dX0_pairsWith_114 : decode cX0_pairsWith 114 = .ok (.imul, 1) := by decide +kernel
theorem dX0_pairsWith_115 : decode cX0_pairsWith 115 = .ok (.iconst 2, 1) := by decide +kernel
theorem dX0_pairsWith_116 : decode cX0_pairsWith 116 = .ok (.iload 7, 2) := by decide +kernel
theorem dX0_pairsWith_118 : decode cX0_pairsWith 118 = .ok (.imul, 1) := by decide +kernel
theorem dX0_pairsWith_119 : decode cX0_pairsWith 119 = .ok (.iadd, 1) := by decide +kernel
theorem dX0_pairsWith_120 : decode cX0_pairsWith 120 = .ok (.aload_n 0, 1) := by decide +kernel
theorem dX0_pairsWith_121 : decode cX0_pairsWith 121 = .ok (.getfield 42, 3) := by decide +kernel
theorem dX0_pairsWith_124 : decode cX0_pairsWith 124 = .ok (.isub, 1) := by decide +kernel
theorem dX0_pairsWith_125 : decode cX0_pairsWith 125 = .ok (.invokestatic 76, 3) := by decide +kernel
theorem dX0_pairsWith_128 : decode cX0_pairsWith 128 = .ok (.lor, 1) := by decide +kernel
theorem dX0_pairsWith_129 : decode cX0_pairsWith 129 = .ok (.lstore_n 3, 1) := by decide +kernel
theorem dX0_pairsWith_130 : decode cX0_pairsWith 130 = .ok (.lload_n 3, 1) := by decide +kernel
theorem dX0_pairsWith_131 : decode cX0_pairsWith 131 = .ok (.iconst 3, 1) := by decide +kernel
theorem dX0_pairsWith_132 : decode cX0_pairsWith 132 = .ok (.iload 6, 2) := by decide +kernel
theorem dX0_pairsWith_134 : decode cX0_pairsWith 134 = .ok (.imul, 1) := by decide +kernel
theorem dX0_pairsWith_135 : decode cX0_pairsWith 135 = .ok (.iconst 2, 1) := by decide +kernel
theorem dX0_pairsWith_136 : decode cX0_pairsWith 136 = .ok (.iload_n 1, 1) := by decide +kernel
theorem dX0_pairsWith_137 : decode cX0_pairsWith 137 = .ok (.imul, 1) := by decide +kernel
theorem dX0_pairsWith_138 : decode cX0_pairsWith 138 = .ok (.isub, 1) := by decide +kernel
theorem dX0_pairsWith_139 : decode cX0_pairsWith 139 = .ok (.iconst 3, 1) := by decide +kernel
theorem dX0_pairsWith_140 : decode cX0_pairsWith 140 = .ok (.iload 7, 2) := by decide +kernel
theorem dX0_pairsWith_142 : decode cX0_pairsWith 142 = .ok (.imul, 1) := by decide +kernel
theorem dX0_pairsWith_143 : decode cX0_pairsWith 143 = .ok (.iconst 2, 1) := by decide +kernel
theorem dX0_pairsWith_144 : decode cX0_pairsWith 144 = .ok (.iload_n 2, 1) := by decide +kernel
theorem dX0_pairsWith_145 : decode cX0_pairsWith 145 = .ok (.imul, 1) := by decide +kernel
theorem dX0_pairsWith_146 : decode cX0_pairsWith 146 = .ok (.iadd, 1) := by decide +kernel
theorem dX0_pairsWith_147 : decode cX0_pairsWith 147 = .ok (.aload_n 0, 1) := by decide +kernel
theorem dX0_pairsWith_148 : decode cX0_pairsWith 148 = .ok (.getfield 42, 3) := by decide +kernel
theorem dX0_pairsWith_151 : decode cX0_pairsWith 151 = .ok (.isub, 1) := by decide +kernel
theorem dX0_pairsWith_152 : decode cX0_pairsWith 152 = .ok (.invokestatic 76, 3) := by decide +kernel
theorem dX0_pairsWith_155 : decode cX0_pairsWith 155 = .ok (.lor, 1) := by decide +kernel
theorem dX0_pairsWith_156 : decode cX0_pairsWith 156 = .ok (.lstore_n 3, 1) := by decide +kernel
theorem dX0_pairsWith_157 : decode cX0_pairsWith 157 = .ok (.iinc 5 1, 3) := by decide +kernel
theorem dX0_pairsWith_160 : decode cX0_pairsWith 160 = .ok (.goto (-155), 3) := by decide +kernel
theorem dX0_pairsWith_163 : decode cX0_pairsWith 163 = .ok (.lload_n 3, 1) := by decide +kernel
theorem dX0_pairsWith_164 : decode cX0_pairsWith 164 = .ok (.lreturn, 1) := by decide +kernel
theorem dX0_triplesWith_0 : decode cX0_triplesWith 0 = .ok (.lconst 0, 1) := by decide +kernel
theorem dX0_triplesWith_1 : decode cX0_triplesWith 1 = .ok (.lstore_n 3, 1) := by decide +kernel
theorem dX0_triplesWith_2 : decode cX0_triplesWith 2 = .ok (.iconst 0, 1) := by decide +kernel
theorem dX0_triplesWith_3 : decode cX0_triplesWith 3 = .ok (.istore 5, 2) := by decide +kernel
theorem dX0_triplesWith_5 : decode cX0_triplesWith 5 = .ok (.iload 5, 2) := by decide +kernel
theorem dX0_triplesWith_7 : decode cX0_triplesWith 7 = .ok (.aload_n 0, 1) := by decide +kernel
theorem dX0_triplesWith_8 : decode cX0_triplesWith 8 = .ok (.getfield 25, 3) := by decide +kernel
theorem dX0_triplesWith_11 : decode cX0_triplesWith 11 = .ok (.if_icmp .ge 124, 3) := by decide +kernel
theorem dX0_triplesWith_14 : decode cX0_triplesWith 14 = .ok (.iload 5, 2) := by decide +kernel
theorem dX0_triplesWith_16 : decode cX0_triplesWith 16 = .ok (.bipush 11, 2) := by decide +kernel
theorem dX0_triplesWith_18 : decode cX0_triplesWith 18 = .ok (.if_icmp .ge 117, 3) := by decide +kernel
theorem dX0_triplesWith_21 : decode cX0_triplesWith 21 = .ok (.aload_n 0, 1) := by decide +kernel
theorem dX0_triplesWith_22 : decode cX0_triplesWith 22 = .ok (.getfield 34, 3) := by decide +kernel
theorem dX0_triplesWith_25 : decode cX0_triplesWith 25 = .ok (.iconst 2, 1) := by decide +kernel
theorem dX0_triplesWith_26 : decode cX0_triplesWith 26 = .ok (.iand, 1) := by decide +kernel
theorem dX0_triplesWith_27 : decode cX0_triplesWith 27 = .ok (.ifCond .eq 108, 3) := by decide +kernel
theorem dX0_triplesWith_30 : decode cX0_triplesWith 30 = .ok (.aload_n 0, 1) := by decide +kernel
theorem dX0_triplesWith_31 : decode cX0_triplesWith 31 = .ok (.getfield 11, 3) := by decide +kernel
theorem dX0_triplesWith_34 : decode cX0_triplesWith 34 = .ok (.iload 5, 2) := by decide +kernel
theorem dX0_triplesWith_36 : decode cX0_triplesWith 36 = .ok (.iaload, 1) := by decide +kernel
theorem dX0_triplesWith_37 : decode cX0_triplesWith 37 = .ok (.istore 6, 2) := by decide +kernel
theorem dX0_triplesWith_39 : decode cX0_triplesWith 39 = .ok (.iconst 0, 1) := by decide +kernel
theorem dX0_triplesWith_40 : decode cX0_triplesWith 40 = .ok (.istore 7, 2) := by decide +kernel
theorem dX0_triplesWith_42 : decode cX0_triplesWith 42 = .ok (.iload 7, 2) := by decide +kernel
theorem dX0_triplesWith_44 : decode cX0_triplesWith 44 = .ok (.iload 5, 2) := by decide +kernel
theorem dX0_triplesWith_46 : decode cX0_triplesWith 46 = .ok (.if_icmp .ge 83, 3) := by decide +kernel
theorem dX0_triplesWith_49 : decode cX0_triplesWith 49 = .ok (.aload_n 0, 1) := by decide +kernel
theorem dX0_triplesWith_50 : decode cX0_triplesWith 50 = .ok (.getfield 11, 3) := by decide +kernel
theorem dX0_triplesWith_53 : decode cX0_triplesWith 53 = .ok (.iload 7, 2) := by decide +kernel
theorem dX0_triplesWith_55 : decode cX0_triplesWith 55 = .ok (.iaload, 1) := by decide +kernel
theorem dX0_triplesWith_56 : decode cX0_triplesWith 56 = .ok (.istore 8, 2) := by decide +kernel
theorem dX0_triplesWith_58 : decode cX0_triplesWith 58 = .ok (.iload_n 2, 1) := by decide +kernel
theorem dX0_triplesWith_59 : decode cX0_triplesWith 59 = .ok (.aload_n 0, 1) := by decide +kernel
theorem dX0_triplesWith_60 : decode cX0_triplesWith 60 = .ok (.getfield 15, 3) := by decide +kernel
theorem dX0_triplesWith_63 : decode cX0_triplesWith 63 = .ok (.iload 5, 2) := by decide +kernel
theorem dX0_triplesWith_65 : decode cX0_triplesWith 65 = .ok (.iaload, 1) := by decide +kernel
theorem dX0_triplesWith_66 : decode cX0_triplesWith 66 = .ok (.iadd, 1) := by decide +kernel
theorem dX0_triplesWith_67 : decode cX0_triplesWith 67 = .ok (.aload_n 0, 1) := by decide +kernel
theorem dX0_triplesWith_68 : decode cX0_triplesWith 68 = .ok (.getfield 15, 3) := by decide +kernel
theorem dX0_triplesWith_71 : decode cX0_triplesWith 71 = .ok (.iload 7, 2) := by decide +kernel
theorem dX0_triplesWith_73 : decode cX0_triplesWith 73 = .ok (.iaload, 1) := by decide +kernel
theorem dX0_triplesWith_74 : decode cX0_triplesWith 74 = .ok (.iadd, 1) := by decide +kernel
theorem dX0_triplesWith_75 : decode cX0_triplesWith 75 = .ok (.aload_n 0, 1) := by decide +kernel
theorem dX0_triplesWith_76 : decode cX0_triplesWith 76 = .ok (.getfield 38, 3) := by decide +kernel
theorem dX0_triplesWith_79 : decode cX0_triplesWith 79 = .ok (.isub, 1) := by decide +kernel
theorem dX0_triplesWith_80 : decode cX0_triplesWith 80 = .ok (.istore 9, 2) := by decide +kernel
theorem dX0_triplesWith_82 : decode cX0_triplesWith 82 = .ok (.lload_n 3, 1) := by decide +kernel
theorem dX0_triplesWith_83 : decode cX0_triplesWith 83 = .ok (.iload_n 1, 1) := by decide +kernel
theorem dX0_triplesWith_84 : decode cX0_triplesWith 84 = .ok (.iload 6, 2) := by decide +kernel
theorem dX0_triplesWith_86 : decode cX0_triplesWith 86 = .ok (.iadd, 1) := by decide +kernel
theorem dX0_triplesWith_87 : decode cX0_triplesWith 87 = .ok (.iload 8, 2) := by decide +kernel
theorem dX0_triplesWith_89 : decode cX0_triplesWith 89 = .ok (.isub, 1) := by decide +kernel
theorem dX0_triplesWith_90 : decode cX0_triplesWith 90 = .ok (.iload 9, 2) := by decide +kernel
theorem dX0_triplesWith_92 : decode cX0_triplesWith 92 = .ok (.invokestatic 76, 3) := by decide +kernel
theorem dX0_triplesWith_95 : decode cX0_triplesWith 95 = .ok (.iload_n 1, 1) := by decide +kernel
theorem dX0_triplesWith_96 : decode cX0_triplesWith 96 = .ok (.iload 8, 2) := by decide +kernel
theorem dX0_triplesWith_98 : decode cX0_triplesWith 98 = .ok (.iadd, 1) := by decide +kernel
theorem dX0_triplesWith_99 : decode cX0_triplesWith 99 = .ok (.iload 6, 2) := by decide +kernel
theorem dX0_triplesWith_101 : decode cX0_triplesWith 101 = .ok (.isub, 1) := by decide +kernel
theorem dX0_triplesWith_102 : decode cX0_triplesWith 102 = .ok (.iload 9, 2) := by decide +kernel
theorem dX0_triplesWith_104 : decode cX0_triplesWith 104 = .ok (.invokestatic 76, 3) := by decide +kernel
theorem dX0_triplesWith_107 : decode cX0_triplesWith 107 = .ok (.lor, 1) := by decide +kernel
theorem dX0_triplesWith_108 : decode cX0_triplesWith 108 = .ok (.iload 6, 2) := by decide +kernel
theorem dX0_triplesWith_110 : decode cX0_triplesWith 110 = .ok (.iload 8, 2) := by decide +kernel
theorem dX0_triplesWith_112 : decode cX0_triplesWith 112 = .ok (.iadd, 1) := by decide +kernel
theorem dX0_triplesWith_113 : decode cX0_triplesWith 113 = .ok (.iload_n 1, 1) := by decide +kernel
theorem dX0_triplesWith_114 : decode cX0_triplesWith 114 = .ok (.isub, 1) := by decide +kernel
theorem dX0_triplesWith_115 : decode cX0_triplesWith 115 = .ok (.iload 9, 2) := by decide +kernel
theorem dX0_triplesWith_117 : decode cX0_triplesWith 117 = .ok (.invokestatic 76, 3) := by decide +kernel
theorem dX0_triplesWith_120 : decode cX0_triplesWith 120 = .ok (.lor, 1) := by decide +kernel
theorem dX0_triplesWith_121 : decode cX0_triplesWith 121 = .ok (.lor, 1) := by decide +kernel
theorem dX0_triplesWith_122 : decode cX0_triplesWith 122 = .ok (.lstore_n 3, 1) := by decide +kernel
theorem dX0_triplesWith_123 : decode cX0_triplesWith 123 = .ok (.iinc 7 1, 3) := by decide +kernel
theorem dX0_triplesWith_126 : decode cX0_triplesWith 126 = .ok (.goto (-84), 3) := by decide +kernel
theorem dX0_triplesWith_129 : decode cX0_triplesWith 129 = .ok (.iinc 5 1, 3) := by decide +kernel
theorem dX0_triplesWith_132 : decode cX0_triplesWith 132 = .ok (.goto (-127), 3) := by decide +kernel
theorem dX0_triplesWith_135 : decode cX0_triplesWith 135 = .ok (.lload_n 3, 1) := by decide +kernel
theorem dX0_triplesWith_136 : decode cX0_triplesWith 136 = .ok (.lreturn, 1) := by decide +kernel
theorem dX0_bitOf_0 : decode cX0_bitOf 0 = .ok (.iload_n 0, 1) := by decide +kernel
theorem dX0_bitOf_1 : decode cX0_bitOf 1 = .ok (.invokestatic 79, 3) := by decide +kernel
theorem dX0_bitOf_4 : decode cX0_bitOf 4 = .ok (.ifCond .eq 13, 3) := by decide +kernel
theorem dX0_bitOf_7 : decode cX0_bitOf 7 = .ok (.iload_n 1, 1) := by decide +kernel
theorem dX0_bitOf_8 : decode cX0_bitOf 8 = .ok (.ifCond .lt 9, 3) := by decide +kernel
theorem dX0_bitOf_11 : decode cX0_bitOf 11 = .ok (.lconst 1, 1) := by decide +kernel
theorem dX0_bitOf_12 : decode cX0_bitOf 12 = .ok (.iload_n 0, 1) := by decide +kernel
theorem dX0_bitOf_13 : decode cX0_bitOf 13 = .ok (.lshl, 1) := by decide +kernel
theorem dX0_bitOf_14 : decode cX0_bitOf 14 = .ok (.goto 4, 3) := by decide +kernel
theorem dX0_bitOf_17 : decode cX0_bitOf 17 = .ok (.lconst 0, 1) := by decide +kernel
theorem dX0_bitOf_18 : decode cX0_bitOf 18 = .ok (.lreturn, 1) := by decide +kernel
theorem dX1_init_0 : decode cX1_init 0 = .ok (.aload_n 0, 1) := by decide +kernel
theorem dX1_init_1 : decode cX1_init 1 = .ok (.invokespecial 3, 3) := by decide +kernel
theorem dX1_init_4 : decode cX1_init 4 = .ok (.aload_n 0, 1) := by decide +kernel
theorem dX1_init_5 : decode cX1_init 5 = .ok (.iconst 3, 1) := by decide +kernel
theorem dX1_init_6 : decode cX1_init 6 = .ok (.putfield 9, 3) := by decide +kernel
theorem dX1_init_9 : decode cX1_init 9 = .ok (.aload_n 0, 1) := by decide +kernel
theorem dX1_init_10 : decode cX1_init 10 = .ok (.iconst 0, 1) := by decide +kernel
theorem dX1_init_11 : decode cX1_init 11 = .ok (.putfield 15, 3) := by decide +kernel
theorem dX1_init_14 : decode cX1_init 14 = .ok (.aload_n 0, 1) := by decide +kernel
theorem dX1_init_15 : decode cX1_init 15 = .ok (.bipush 100, 2) := by decide +kernel
theorem dX1_init_17 : decode cX1_init 17 = .ok (.putfield 18, 3) := by decide +kernel
theorem dX1_init_20 : decode cX1_init 20 = .ok (.aload_n 0, 1) := by decide +kernel
theorem dX1_init_21 : decode cX1_init 21 = .ok (.iconst 0, 1) := by decide +kernel
theorem dX1_init_22 : decode cX1_init 22 = .ok (.putfield 21, 3) := by decide +kernel
theorem dX1_init_25 : decode cX1_init 25 = .ok (.aload_n 0, 1) := by decide +kernel
theorem dX1_init_26 : decode cX1_init 26 = .ok (.iconst 1, 1) := by decide +kernel
theorem dX1_init_27 : decode cX1_init 27 = .ok (.putfield 24, 3) := by decide +kernel
theorem dX1_init_30 : decode cX1_init 30 = .ok (.aload_n 0, 1) := by decide +kernel
theorem dX1_init_31 : decode cX1_init 31 = .ok (.bipush 10, 2) := by decide +kernel
theorem dX1_init_33 : decode cX1_init 33 = .ok (.newarray .int, 2) := by decide +kernel
theorem dX1_init_35 : decode cX1_init 35 = .ok (.putfield 27, 3) := by decide +kernel
theorem dX1_init_38 : decode cX1_init 38 = .ok (.aload_n 0, 1) := by decide +kernel
theorem dX1_init_39 : decode cX1_init 39 = .ok (.bipush 10, 2) := by decide +kernel
theorem dX1_init_41 : decode cX1_init 41 = .ok (.newarray .int, 2) := by decide +kernel
theorem dX1_init_43 : decode cX1_init 43 = .ok (.putfield 31, 3) := by decide +kernel
theorem dX1_init_46 : decode cX1_init 46 = .ok (.aload_n 0, 1) := by decide +kernel
theorem dX1_init_47 : decode cX1_init 47 = .ok (.iconst 5, 1) := by decide +kernel
theorem dX1_init_48 : decode cX1_init 48 = .ok (.newarray .int, 2) := by decide +kernel
theorem dX1_init_50 : decode cX1_init 50 = .ok (.putfield 34, 3) := by decide +kernel
theorem dX1_init_53 : decode cX1_init 53 = .ok (.aload_n 0, 1) := by decide +kernel
theorem dX1_init_54 : decode cX1_init 54 = .ok (.bipush 16, 2) := by decide +kernel
theorem dX1_init_56 : decode cX1_init 56 = .ok (.newarray .int, 2) := by decide +kernel
theorem dX1_init_58 : decode cX1_init 58 = .ok (.putfield 37, 3) := by decide +kernel
theorem dX1_init_61 : decode cX1_init 61 = .ok (.aload_n 0, 1) := by decide +kernel
theorem dX1_init_62 : decode cX1_init 62 = .ok (.bipush 16, 2) := by decide +kernel
theorem dX1_init_64 : decode cX1_init 64 = .ok (.newarray .int, 2) := by decide +kernel
theorem dX1_init_66 : decode cX1_init 66 = .ok (.putfield 40, 3) := by decide +kernel
theorem dX1_init_69 : decode cX1_init 69 = .ok (.aload_n 0, 1) := by decide +kernel
theorem dX1_init_70 : decode cX1_init 70 = .ok (.bipush 16, 2) := by decide +kernel
theorem dX1_init_72 : decode cX1_init 72 = .ok (.newarray .int, 2) := by decide +kernel
theorem dX1_init_74 : decode cX1_init 74 = .ok (.putfield 43, 3) := by decide +kernel
theorem dX1_init_77 : decode cX1_init 77 = .ok (.aload_n 0, 1) := by decide +kernel
theorem dX1_init_78 : decode cX1_init 78 = .ok (.bipush 16, 2) := by decide +kernel
theorem dX1_init_80 : decode cX1_init 80 = .ok (.newarray .int, 2) := by decide +kernel
theorem dX1_init_82 : decode cX1_init 82 = .ok (.putfield 46, 3) := by decide +kernel
theorem dX1_init_85 : decode cX1_init 85 = .ok (.return_, 1) := by decide +kernel
theorem dX1_takeFrom_0 : decode cX1_takeFrom 0 = .ok (.aload_n 0, 1) := by decide +kernel
theorem dX1_takeFrom_1 : decode cX1_takeFrom 1 = .ok (.aload_n 1, 1) := by decide +kernel
theorem dX1_takeFrom_2 : decode cX1_takeFrom 2 = .ok (.getfield 9, 3) := by decide +kernel
theorem dX1_takeFrom_5 : decode cX1_takeFrom 5 = .ok (.putfield 9, 3) := by decide +kernel
theorem dX1_takeFrom_8 : decode cX1_takeFrom 8 = .ok (.aload_n 0, 1) := by decide +kernel
theorem dX1_takeFrom_9 : decode cX1_takeFrom 9 = .ok (.aload_n 1, 1) := by decide +kernel
theorem dX1_takeFrom_10 : decode cX1_takeFrom 10 = .ok (.getfield 15, 3) := by decide +kernel
theorem dX1_takeFrom_13 : decode cX1_takeFrom 13 = .ok (.putfield 15, 3) := by decide +kernel
theorem dX1_takeFrom_16 : decode cX1_takeFrom 16 = .ok (.aload_n 0, 1) := by decide +kernel
theorem dX1_takeFrom_17 : decode cX1_takeFrom 17 = .ok (.aload_n 1, 1) := by decide +kernel
theorem dX1_takeFrom_18 : decode cX1_takeFrom 18 = .ok (.getfield 18, 3) := by decide +kernel
theorem dX1_takeFrom_21 : decode cX1_takeFrom 21 = .ok (.putfield 18, 3) := by decide +kernel
theorem dX1_takeFrom_24 : decode cX1_takeFrom 24 = .ok (.aload_n 0, 1) := by decide +kernel
theorem dX1_takeFrom_25 : decode cX1_takeFrom 25 = .ok (.aload_n 1, 1) := by decide +kernel
theorem dX1_takeFrom_26 : decode cX1_takeFrom 26 = .ok (.getfield 21, 3) := by decide +kernel
theorem dX1_takeFrom_29 : decode cX1_takeFrom 29 = .ok (.putfield 21, 3) := by decide +kernel
theorem dX1_takeFrom_32 : decode cX1_takeFrom 32 = .ok (.aload_n 0, 1) := by decide +kernel
theorem dX1_takeFrom_33 : decode cX1_takeFrom 33 = .ok (.aload_n 1, 1) := by decide +kernel
theorem dX1_takeFrom_34 : decode cX1_takeFrom 34 = .ok (.getfield 24, 3) := by decide +kernel
theorem dX1_takeFrom_37 : decode cX1_takeFrom 37 = .ok (.putfield 24, 3) := by decide +kernel
theorem dX1_takeFrom_40 : decode cX1_takeFrom 40 = .ok (.aload_n 0, 1) := by decide +kernel
theorem dX1_takeFrom_41 : decode cX1_takeFrom 41 = .ok (.aload_n 1, 1) := by decide +kernel
theorem dX1_takeFrom_42 : decode cX1_takeFrom 42 = .ok (.getfield 49, 3) := by decide +kernel
theorem dX1_takeFrom_45 : decode cX1_takeFrom 45 = .ok (.putfield 49, 3) := by decide +kernel
theorem dX1_takeFrom_48 : decode cX1_takeFrom 48 = .ok (.aload_n 0, 1) := by decide +kernel
theorem dX1_takeFrom_49 : decode cX1_takeFrom 49 = .ok (.aload_n 1, 1) := by decide +kernel
theorem dX1_takeFrom_50 : decode cX1_takeFrom 50 = .ok (.getfield 52, 3) := by decide +kernel
theorem dX1_takeFrom_53 : decode cX1_takeFrom 53 = .ok (.putfield 52, 3) := by decide +kernel
theorem dX1_takeFrom_56 : decode cX1_takeFrom 56 = .ok (.aload_n 0, 1) := by decide +kernel
theorem dX1_takeFrom_57 : decode cX1_takeFrom 57 = .ok (.aload_n 1, 1) := by decide +kernel
theorem dX1_takeFrom_58 : decode cX1_takeFrom 58 = .ok (.getfield 55, 3) := by decide +kernel
theorem dX1_takeFrom_61 : decode cX1_takeFrom 61 = .ok (.putfield 55, 3) := by decide +kernel
theorem dX1_takeFrom_64 : decode cX1_takeFrom 64 = .ok (.aload_n 1, 1) := by decide +kernel
theorem dX1_takeFrom_65 : decode cX1_takeFrom 65 = .ok (.getfield 27, 3) := by decide +kernel
theorem dX1_takeFrom_68 : decode cX1_takeFrom 68 = .ok (.iconst 0, 1) := by decide +kernel
theorem dX1_takeFrom_69 : decode cX1_takeFrom 69 = .ok (.aload_n 0, 1) := by decide +kernel
theorem dX1_takeFrom_70 : decode cX1_takeFrom 70 = .ok (.getfield 27, 3) := by decide +kernel
theorem dX1_takeFrom_73 : decode cX1_takeFrom 73 = .ok (.iconst 0, 1) := by decide +kernel
theorem dX1_takeFrom_74 : decode cX1_takeFrom 74 = .ok (.bipush 10, 2) := by decide +kernel
theorem dX1_takeFrom_76 : decode cX1_takeFrom 76 = .ok (.invokestatic 58, 3) := by decide +kernel
theorem dX1_takeFrom_79 : decode cX1_takeFrom 79 = .ok (.aload_n 1, 1) := by decide +kernel
theorem dX1_takeFrom_80 : decode cX1_takeFrom 80 = .ok (.getfield 31, 3) := by decide +kernel
theorem dX1_takeFrom_83 : decode cX1_takeFrom 83 = .ok (.iconst 0, 1) := by decide +kernel
theorem dX1_takeFrom_84 : decode cX1_takeFrom 84 = .ok (.aload_n 0, 1) := by decide +kernel
theorem dX1_takeFrom_85 : decode cX1_takeFrom 85 = .ok (.getfield 31, 3) := by decide +kernel
theorem dX1_takeFrom_88 : decode cX1_takeFrom 88 = .ok (.iconst 0, 1) := by decide +kernel
theorem dX1_takeFrom_89 : decode cX1_takeFrom 89 = .ok (.bipush 10, 2) := by decide +kernel
theorem dX1_takeFrom_91 : decode cX1_takeFrom 91 = .ok (.invokestatic 58, 3) := by decide +kernel
theorem dX1_takeFrom_94 : decode cX1_takeFrom 94 = .ok (.aload_n 1, 1) := by decide +kernel
theorem dX1_takeFrom_95 : decode cX1_takeFrom 95 = .ok (.getfield 34, 3) := by decide +kernel
theorem dX1_takeFrom_98 : decode cX1_takeFrom 98 = .ok (.iconst 0, 1) := by decide +kernel
theorem dX1_takeFrom_99 : decode cX1_takeFrom 99 = .ok (.aload_n 0, 1) := by decide +kernel
theorem dX1_takeFrom_100 : decode cX1_takeFrom 100 = .ok (.getfield 34, 3) := by decide +kernel
theorem dX1_takeFrom_103 : decode cX1_takeFrom 103 = .ok (.iconst 0, 1) := by decide +kernel
theorem dX1_takeFrom_104 : decode cX1_takeFrom 104 = .ok (.iconst 5, 1) := by decide +kernel
theorem dX1_takeFrom_105 : decode cX1_takeFrom 105 = .ok (.invokestatic 58, 3) := by decide +kernel
theorem dX1_takeFrom_108 : decode cX1_takeFrom 108 = .ok (.aload_n 1, 1) := by decide +kernel
theorem dX1_takeFrom_109 : decode cX1_takeFrom 109 = .ok (.getfield 37, 3) := by decide +kernel
theorem dX1_takeFrom_112 : decode cX1_takeFrom 112 = .ok (.iconst 0, 1) := by decide +kernel
theorem dX1_takeFrom_113 : decode cX1_takeFrom 113 = .ok (.aload_n 0, 1) := by decide +kernel
theorem dX1_takeFrom_114 : decode cX1_takeFrom 114 = .ok (.getfield 37, 3) := by decide +kernel
theorem dX1_takeFrom_117 : decode cX1_takeFrom 117 = .ok (.iconst 0, 1) := by decide +kernel
theorem dX1_takeFrom_118 : decode cX1_takeFrom 118 = .ok (.bipush 16, 2) := by decide +kernel
theorem dX1_takeFrom_120 : decode cX1_takeFrom 120 = .ok (.invokestatic 58, 3) := by decide +kernel
theorem dX1_takeFrom_123 : decode cX1_takeFrom 123 = .ok (.aload_n 1, 1) := by decide +kernel
theorem dX1_takeFrom_124 : decode cX1_takeFrom 124 = .ok (.getfield 40, 3) := by decide +kernel
theorem dX1_takeFrom_127 : decode cX1_takeFrom 127 = .ok (.iconst 0, 1) := by decide +kernel
theorem dX1_takeFrom_128 : decode cX1_takeFrom 128 = .ok (.aload_n 0, 1) := by decide +kernel
theorem dX1_takeFrom_129 : decode cX1_takeFrom 129 = .ok (.getfield 40, 3) := by decide +kernel
theorem dX1_takeFrom_132 : decode cX1_takeFrom 132 = .ok (.iconst 0, 1) := by decide +kernel
theorem dX1_takeFrom_133 : decode cX1_takeFrom 133 = .ok (.bipush 16, 2) := by decide +kernel
theorem dX1_takeFrom_135 : decode cX1_takeFrom 135 = .ok (.invokestatic 58, 3) := by decide +kernel
theorem dX1_takeFrom_138 : decode cX1_takeFrom 138 = .ok (.aload_n 1, 1) := by decide +kernel
theorem dX1_takeFrom_139 : decode cX1_takeFrom 139 = .ok (.getfield 43, 3) := by decide +kernel
theorem dX1_takeFrom_142 : decode cX1_takeFrom 142 = .ok (.iconst 0, 1) := by decide +kernel
theorem dX1_takeFrom_143 : decode cX1_takeFrom 143 = .ok (.aload_n 0, 1) := by decide +kernel
theorem dX1_takeFrom_144 : decode cX1_takeFrom 144 = .ok (.getfield 43, 3) := by decide +kernel
theorem dX1_takeFrom_147 : decode cX1_takeFrom 147 = .ok (.iconst 0, 1) := by decide +kernel
theorem dX1_takeFrom_148 : decode cX1_takeFrom 148 = .ok (.bipush 16, 2) := by decide +kernel
theorem dX1_takeFrom_150 : decode cX1_takeFrom 150 = .ok (.invokestatic 58, 3) := by decide +kernel
theorem dX1_takeFrom_153 : decode cX1_takeFrom 153 = .ok (.aload_n 1, 1) := by decide +kernel
theorem dX1_takeFrom_154 : decode cX1_takeFrom 154 = .ok (.getfield 46, 3) := by decide +kernel
theorem dX1_takeFrom_157 : decode cX1_takeFrom 157 = .ok (.iconst 0, 1) := by decide +kernel
theorem dX1_takeFrom_158 : decode cX1_takeFrom 158 = .ok (.aload_n 0, 1) := by decide +kernel
theorem dX1_takeFrom_159 : decode cX1_takeFrom 159 = .ok (.getfield 46, 3) := by decide +kernel
theorem dX1_takeFrom_162 : decode cX1_takeFrom 162 = .ok (.iconst 0, 1) := by decide +kernel
theorem dX1_takeFrom_163 : decode cX1_takeFrom 163 = .ok (.bipush 16, 2) := by decide +kernel
theorem dX1_takeFrom_165 : decode cX1_takeFrom 165 = .ok (.invokestatic 58, 3) := by decide +kernel
theorem dX1_takeFrom_168 : decode cX1_takeFrom 168 = .ok (.return_, 1) := by decide +kernel
theorem dX1_hasCarrier_0 : decode cX1_hasCarrier 0 = .ok (.iload_n 1, 1) := by decide +kernel
theorem dX1_hasCarrier_1 : decode cX1_hasCarrier 1 = .ok (.ifCond .lt 21, 3) := by decide +kernel
theorem dX1_hasCarrier_4 : decode cX1_hasCarrier 4 = .ok (.iload_n 1, 1) := by decide +kernel
theorem dX1_hasCarrier_5 : decode cX1_hasCarrier 5 = .ok (.aload_n 0, 1) := by decide +kernel
theorem dX1_hasCarrier_6 : decode cX1_hasCarrier 6 = .ok (.getfield 49, 3) := by decide +kernel
theorem dX1_hasCarrier_9 : decode cX1_hasCarrier 9 = .ok (.if_icmp .ge 13, 3) := by decide +kernel
theorem dX1_hasCarrier_12 : decode cX1_hasCarrier 12 = .ok (.iload_n 1, 1) := by decide +kernel
theorem dX1_hasCarrier_13 : decode cX1_hasCarrier 13 = .ok (.bipush 10, 2) := by decide +kernel
theorem dX1_hasCarrier_15 : decode cX1_hasCarrier 15 = .ok (.if_icmp .ge 7, 3) := by decide +kernel
theorem dX1_hasCarrier_18 : decode cX1_hasCarrier 18 = .ok (.iconst 1, 1) := by decide +kernel
theorem dX1_hasCarrier_19 : decode cX1_hasCarrier 19 = .ok (.goto 4, 3) := by decide +kernel
theorem dX1_hasCarrier_22 : decode cX1_hasCarrier 22 = .ok (.iconst 0, 1) := by decide +kernel
theorem dX1_hasCarrier_23 : decode cX1_hasCarrier 23 = .ok (.ireturn, 1) := by decide +kernel
theorem dX1_everyCarrier_0 : decode cX1_everyCarrier 0 = .ok (.iconst 1, 1) := by decide +kernel
theorem dX1_everyCarrier_1 : decode cX1_everyCarrier 1 = .ok (.aload_n 0, 1) := by decide +kernel
theorem dX1_everyCarrier_2 : decode cX1_everyCarrier 2 = .ok (.getfield 49, 3) := by decide +kernel
theorem dX1_everyCarrier_5 : decode cX1_everyCarrier 5 = .ok (.ishl, 1) := by decide +kernel
theorem dX1_everyCarrier_6 : decode cX1_everyCarrier 6 = .ok (.iconst 1, 1) := by decide +kernel
theorem dX1_everyCarrier_7 : decode cX1_everyCarrier 7 = .ok (.isub, 1) := by decide +kernel
theorem dX1_everyCarrier_8 : decode cX1_everyCarrier 8 = .ok (.ireturn, 1) := by decide +kernel
theorem dX1_channelOf_0 : decode cX1_channelOf 0 = .ok (.aload_n 0, 1) := by decide +kernel
theorem dX1_channelOf_1 : decode cX1_channelOf 1 = .ok (.iload_n 1, 1) := by decide +kernel
theorem dX1_channelOf_2 : decode cX1_channelOf 2 = .ok (.invokevirtual 64, 3) := by decide +kernel
theorem dX1_channelOf_5 : decode cX1_channelOf 5 = .ok (.ifCond .eq 12, 3) := by decide +kernel
theorem dX1_channelOf_8 : decode cX1_channelOf 8 = .ok (.aload_n 0, 1) := by decide +kernel
theorem dX1_channelOf_9 : decode cX1_channelOf 9 = .ok (.getfield 27, 3) := by decide +kernel
theorem dX1_channelOf_12 : decode cX1_channelOf 12 = .ok (.iload_n 1, 1) := by decide +kernel
theorem dX1_channelOf_13 : decode cX1_channelOf 13 = .ok (.iaload, 1) := by decide +kernel
theorem dX1_channelOf_14 : decode cX1_channelOf 14 = .ok (.goto 4, 3) := by decide +kernel
theorem dX1_channelOf_17 : decode cX1_channelOf 17 = .ok (.iconst (-1), 1) := by decide +kernel
theorem dX1_channelOf_18 : decode cX1_channelOf 18 = .ok (.ireturn, 1) := by decide +kernel
theorem dX1_levelOf_0 : decode cX1_levelOf 0 = .ok (.aload_n 0, 1) := by decide +kernel
theorem dX1_levelOf_1 : decode cX1_levelOf 1 = .ok (.iload_n 1, 1) := by decide +kernel
theorem dX1_levelOf_2 : decode cX1_levelOf 2 = .ok (.invokevirtual 64, 3) := by decide +kernel
theorem dX1_levelOf_5 : decode cX1_levelOf 5 = .ok (.ifCond .eq 12, 3) := by decide +kernel
theorem dX1_levelOf_8 : decode cX1_levelOf 8 = .ok (.aload_n 0, 1) := by decide +kernel
theorem dX1_levelOf_9 : decode cX1_levelOf 9 = .ok (.getfield 31, 3) := by decide +kernel
theorem dX1_levelOf_12 : decode cX1_levelOf 12 = .ok (.iload_n 1, 1) := by decide +kernel
theorem dX1_levelOf_13 : decode cX1_levelOf 13 = .ok (.iaload, 1) := by decide +kernel
theorem dX1_levelOf_14 : decode cX1_levelOf 14 = .ok (.goto 4, 3) := by decide +kernel
theorem dX1_levelOf_17 : decode cX1_levelOf 17 = .ok (.iconst (-1), 1) := by decide +kernel
theorem dX1_levelOf_18 : decode cX1_levelOf 18 = .ok (.ireturn, 1) := by decide +kernel
theorem dX1_carrierOn_0 : decode cX1_carrierOn 0 = .ok (.iconst 0, 1) := by decide +kernel
theorem dX1_carrierOn_1 : decode cX1_carrierOn 1 = .ok (.istore_n 2, 1) := by decide +kernel
theorem dX1_carrierOn_2 : decode cX1_carrierOn 2 = .ok (.iload_n 2, 1) := by decide +kernel
theorem dX1_carrierOn_3 : decode cX1_carrierOn 3 = .ok (.aload_n 0, 1) := by decide +kernel
theorem dX1_carrierOn_4 : decode cX1_carrierOn 4 = .ok (.getfield 49, 3) := by decide +kernel
theorem dX1_carrierOn_7 : decode cX1_carrierOn 7 = .ok (.if_icmp .ge 20, 3) := by decide +kernel
theorem dX1_carrierOn_10 : decode cX1_carrierOn 10 = .ok (.aload_n 0, 1) := by decide +kernel
theorem dX1_carrierOn_11 : decode cX1_carrierOn 11 = .ok (.iload_n 2, 1) := by decide +kernel
theorem dX1_carrierOn_12 : decode cX1_carrierOn 12 = .ok (.invokevirtual 68, 3) := by decide +kernel
theorem dX1_carrierOn_15 : decode cX1_carrierOn 15 = .ok (.iload_n 1, 1) := by decide +kernel
theorem dX1_carrierOn_16 : decode cX1_carrierOn 16 = .ok (.if_icmp .ne 5, 3) := by decide +kernel
theorem dX1_carrierOn_19 : decode cX1_carrierOn 19 = .ok (.iload_n 2, 1) := by decide +kernel
theorem dX1_carrierOn_20 : decode cX1_carrierOn 20 = .ok (.ireturn, 1) := by decide +kernel
theorem dX1_carrierOn_21 : decode cX1_carrierOn 21 = .ok (.iinc 2 1, 3) := by decide +kernel
theorem dX1_carrierOn_24 : decode cX1_carrierOn 24 = .ok (.goto (-22), 3) := by decide +kernel
theorem dX1_carrierOn_27 : decode cX1_carrierOn 27 = .ok (.iconst (-1), 1) := by decide +kernel
theorem dX1_carrierOn_28 : decode cX1_carrierOn 28 = .ok (.ireturn, 1) := by decide +kernel
theorem dX1_putCarrier_0 : decode cX1_putCarrier 0 = .ok (.aload_n 0, 1) := by decide +kernel
theorem dX1_putCarrier_1 : decode cX1_putCarrier 1 = .ok (.getfield 49, 3) := by decide +kernel
theorem dX1_putCarrier_4 : decode cX1_putCarrier 4 = .ok (.bipush 10, 2) := by decide +kernel
theorem dX1_putCarrier_6 : decode cX1_putCarrier 6 = .ok (.if_icmp .ge 25, 3) := by decide +kernel
theorem dX1_putCarrier_9 : decode cX1_putCarrier 9 = .ok (.aload_n 0, 1) := by decide +kernel
theorem dX1_putCarrier_10 : decode cX1_putCarrier 10 = .ok (.dup, 1) := by decide +kernel
theorem dX1_putCarrier_11 : decode cX1_putCarrier 11 = .ok (.getfield 49, 3) := by decide +kernel
theorem dX1_putCarrier_14 : decode cX1_putCarrier 14 = .ok (.iconst 1, 1) := by decide +kernel
theorem dX1_putCarrier_15 : decode cX1_putCarrier 15 = .ok (.iadd, 1) := by decide +kernel
theorem dX1_putCarrier_16 : decode cX1_putCarrier 16 = .ok (.putfield 49, 3) := by decide +kernel
theorem dX1_putCarrier_19 : decode cX1_putCarrier 19 = .ok (.aload_n 0, 1) := by decide +kernel
theorem dX1_putCarrier_20 : decode cX1_putCarrier 20 = .ok (.aload_n 0, 1) := by decide +kernel
theorem dX1_putCarrier_21 : decode cX1_putCarrier 21 = .ok (.getfield 49, 3) := by decide +kernel
theorem dX1_putCarrier_24 : decode cX1_putCarrier 24 = .ok (.iconst 1, 1) := by decide +kernel
theorem dX1_putCarrier_25 : decode cX1_putCarrier 25 = .ok (.isub, 1) := by decide +kernel
theorem dX1_putCarrier_26 : decode cX1_putCarrier 26 = .ok (.iload_n 1, 1) := by decide +kernel
theorem dX1_putCarrier_27 : decode cX1_putCarrier 27 = .ok (.iload_n 2, 1) := by decide +kernel
theorem dX1_putCarrier_28 : decode cX1_putCarrier 28 = .ok (.invokevirtual 72, 3) := by decide +kernel
theorem dX1_putCarrier_31 : decode cX1_putCarrier 31 = .ok (.return_, 1) := by decide +kernel
theorem dX1_setCarrier_0 : decode cX1_setCarrier 0 = .ok (.aload_n 0, 1) := by decide +kernel
theorem dX1_setCarrier_1 : decode cX1_setCarrier 1 = .ok (.iload_n 1, 1) := by decide +kernel
theorem dX1_setCarrier_2 : decode cX1_setCarrier 2 = .ok (.invokevirtual 64, 3) := by decide +kernel
theorem dX1_setCarrier_5 : decode cX1_setCarrier 5 = .ok (.ifCond .eq 17, 3) := by decide +kernel
theorem dX1_setCarrier_8 : decode cX1_setCarrier 8 = .ok (.aload_n 0, 1) := by decide +kernel
theorem dX1_setCarrier_9 : decode cX1_setCarrier 9 = .ok (.getfield 27, 3) := by decide +kernel
theorem dX1_setCarrier_12 : decode cX1_setCarrier 12 = .ok (.iload_n 1, 1) := by decide +kernel
theorem dX1_setCarrier_13 : decode cX1_setCarrier 13 = .ok (.iload_n 2, 1) := by decide +kernel
theorem dX1_setCarrier_14 : decode cX1_setCarrier 14 = .ok (.iastore, 1) := by decide +kernel
theorem dX1_setCarrier_15 : decode cX1_setCarrier 15 = .ok (.aload_n 0, 1) := by decide +kernel
theorem dX1_setCarrier_16 : decode cX1_setCarrier 16 = .ok (.getfield 31, 3) := by decide +kernel
theorem dX1_setCarrier_19 : decode cX1_setCarrier 19 = .ok (.iload_n 1, 1) := by decide +kernel
theorem dX1_setCarrier_20 : decode cX1_setCarrier 20 = .ok (.iload_n 3, 1) := by decide +kernel
theorem dX1_setCarrier_21 : decode cX1_setCarrier 21 = .ok (.iastore, 1) := by decide +kernel
theorem dX1_setCarrier_22 : decode cX1_setCarrier 22 = .ok (.aload_n 0, 1) := by decide +kernel
theorem dX1_setCarrier_23 : decode cX1_setCarrier 23 = .ok (.iconst 0, 1) := by decide +kernel
theorem dX1_setCarrier_24 : decode cX1_setCarrier 24 = .ok (.putfield 55, 3) := by decide +kernel
theorem dX1_setCarrier_27 : decode cX1_setCarrier 27 = .ok (.return_, 1) := by decide +kernel
theorem dX1_takeOut_0 : decode cX1_takeOut 0 = .ok (.aload_n 0, 1) := by decide +kernel
theorem dX1_takeOut_1 : decode cX1_takeOut 1 = .ok (.iload_n 1, 1) := by decide +kernel
theorem dX1_takeOut_2 : decode cX1_takeOut 2 = .ok (.invokevirtual 64, 3) := by decide +kernel
theorem dX1_takeOut_5 : decode cX1_takeOut 5 = .ok (.ifCond .ne 4, 3) := by decide +kernel
theorem dX1_takeOut_8 : decode cX1_takeOut 8 = .ok (.return_, 1) := by decide +kernel
theorem dX1_takeOut_9 : decode cX1_takeOut 9 = .ok (.iload_n 1, 1) := by decide +kernel
theorem dX1_takeOut_10 : decode cX1_takeOut 10 = .ok (.iconst 1, 1) := by decide +kernel
theorem dX1_takeOut_11 : decode cX1_takeOut 11 = .ok (.iadd, 1) := by decide +kernel
theorem dX1_takeOut_12 : decode cX1_takeOut 12 = .ok (.istore_n 2, 1) := by decide +kernel
theorem dX1_takeOut_13 : decode cX1_takeOut 13 = .ok (.iload_n 2, 1) := by decide +kernel
theorem dX1_takeOut_14 : decode cX1_takeOut 14 = .ok (.aload_n 0, 1) := by decide +kernel
theorem dX1_takeOut_15 : decode cX1_takeOut 15 = .ok (.getfield 49, 3) := by decide +kernel
theorem dX1_takeOut_18 : decode cX1_takeOut 18 = .ok (.if_icmp .ge 26, 3) := by decide +kernel
theorem dX1_takeOut_21 : decode cX1_takeOut 21 = .ok (.aload_n 0, 1) := by decide +kernel
theorem dX1_takeOut_22 : decode cX1_takeOut 22 = .ok (.iload_n 2, 1) := by decide +kernel
theorem dX1_takeOut_23 : decode cX1_takeOut 23 = .ok (.iconst 1, 1) := by decide +kernel
theorem dX1_takeOut_24 : decode cX1_takeOut 24 = .ok (.isub, 1) := by decide +kernel
theorem dX1_takeOut_25 : decode cX1_takeOut 25 = .ok (.aload_n 0, 1) := by decide +kernel
theorem dX1_takeOut_26 : decode cX1_takeOut 26 = .ok (.iload_n 2, 1) := by decide +kernel
theorem dX1_takeOut_27 : decode cX1_takeOut 27 = .ok (.invokevirtual 68, 3) := by decide +kernel
theorem dX1_takeOut_30 : decode cX1_takeOut 30 = .ok (.aload_n 0, 1) := by decide +kernel
theorem dX1_takeOut_31 : decode cX1_takeOut 31 = .ok (.iload_n 2, 1) := by decide +kernel
theorem dX1_takeOut_32 : decode cX1_takeOut 32 = .ok (.invokevirtual 76, 3) := by decide +kernel
theorem dX1_takeOut_35 : decode cX1_takeOut 35 = .ok (.invokevirtual 72, 3) := by decide +kernel
theorem dX1_takeOut_38 : decode cX1_takeOut 38 = .ok (.iinc 2 1, 3) := by decide +kernel
theorem dX1_takeOut_41 : decode cX1_takeOut 41 = .ok (.goto (-28), 3) := by decide +kernel
theorem dX1_takeOut_44 : decode cX1_takeOut 44 = .ok (.aload_n 0, 1) := by decide +kernel
theorem dX1_takeOut_45 : decode cX1_takeOut 45 = .ok (.dup, 1) := by decide +kernel
theorem dX1_takeOut_46 : decode cX1_takeOut 46 = .ok (.getfield 49, 3) := by decide +kernel
theorem dX1_takeOut_49 : decode cX1_takeOut 49 = .ok (.iconst 1, 1) := by decide +kernel
theorem dX1_takeOut_50 : decode cX1_takeOut 50 = .ok (.isub, 1) := by decide +kernel
theorem dX1_takeOut_51 : decode cX1_takeOut 51 = .ok (.putfield 49, 3) := by decide +kernel
theorem dX1_takeOut_54 : decode cX1_takeOut 54 = .ok (.iconst 1, 1) := by decide +kernel
theorem dX1_takeOut_55 : decode cX1_takeOut 55 = .ok (.iload_n 1, 1) := by decide +kernel
theorem dX1_takeOut_56 : decode cX1_takeOut 56 = .ok (.ishl, 1) := by decide +kernel
theorem dX1_takeOut_57 : decode cX1_takeOut 57 = .ok (.iconst 1, 1) := by decide +kernel
theorem dX1_takeOut_58 : decode cX1_takeOut 58 = .ok (.isub, 1) := by decide +kernel
theorem dX1_takeOut_59 : decode cX1_takeOut 59 = .ok (.istore_n 2, 1) := by decide +kernel
theorem dX1_takeOut_60 : decode cX1_takeOut 60 = .ok (.iconst 0, 1) := by decide +kernel
theorem dX1_takeOut_61 : decode cX1_takeOut 61 = .ok (.istore_n 3, 1) := by decide +kernel
theorem dX1_takeOut_62 : decode cX1_takeOut 62 = .ok (.iload_n 3, 1) := by decide +kernel
theorem dX1_takeOut_63 : decode cX1_takeOut 63 = .ok (.aload_n 0, 1) := by decide +kernel
theorem dX1_takeOut_64 : decode cX1_takeOut 64 = .ok (.getfield 52, 3) := by decide +kernel
theorem dX1_takeOut_67 : decode cX1_takeOut 67 = .ok (.if_icmp .ge 34, 3) := by decide +kernel
theorem dX1_takeOut_70 : decode cX1_takeOut 70 = .ok (.aload_n 0, 1) := by decide +kernel
theorem dX1_takeOut_71 : decode cX1_takeOut 71 = .ok (.iload_n 3, 1) := by decide +kernel
theorem dX1_takeOut_72 : decode cX1_takeOut 72 = .ok (.invokevirtual 79, 3) := by decide +kernel
theorem dX1_takeOut_75 : decode cX1_takeOut 75 = .ok (.istore 4, 2) := by decide +kernel
theorem dX1_takeOut_77 : decode cX1_takeOut 77 = .ok (.aload_n 0, 1) := by decide +kernel
theorem dX1_takeOut_78 : decode cX1_takeOut 78 = .ok (.iload_n 3, 1) := by decide +kernel
theorem dX1_takeOut_79 : decode cX1_takeOut 79 = .ok (.iload 4, 2) := by decide +kernel
theorem dX1_takeOut_81 : decode cX1_takeOut 81 = .ok (.iload_n 2, 1) := by decide +kernel
theorem dX1_takeOut_82 : decode cX1_takeOut 82 = .ok (.iand, 1) := by decide +kernel
theorem dX1_takeOut_83 : decode cX1_takeOut 83 = .ok (.iload 4, 2) := by decide +kernel
theorem dX1_takeOut_85 : decode cX1_takeOut 85 = .ok (.iconst 1, 1) := by decide +kernel
theorem dX1_takeOut_86 : decode cX1_takeOut 86 = .ok (.ishr, 1) := by decide +kernel
theorem dX1_takeOut_87 : decode cX1_takeOut 87 = .ok (.iload_n 2, 1) := by decide +kernel
theorem dX1_takeOut_88 : decode cX1_takeOut 88 = .ok (.iconst (-1), 1) := by decide +kernel
theorem dX1_takeOut_89 : decode cX1_takeOut 89 = .ok (.ixor, 1) := by decide +kernel
theorem dX1_takeOut_90 : decode cX1_takeOut 90 = .ok (.iand, 1) := by decide +kernel
theorem dX1_takeOut_91 : decode cX1_takeOut 91 = .ok (.ior, 1) := by decide +kernel
theorem dX1_takeOut_92 : decode cX1_takeOut 92 = .ok (.invokevirtual 82, 3) := by decide +kernel
theorem dX1_takeOut_95 : decode cX1_takeOut 95 = .ok (.iinc 3 1, 3) := by decide +kernel
theorem dX1_takeOut_98 : decode cX1_takeOut 98 = .ok (.goto (-36), 3) := by decide +kernel
theorem dX1_takeOut_101 : decode cX1_takeOut 101 = .ok (.aload_n 0, 1) := by decide +kernel
theorem dX1_takeOut_102 : decode cX1_takeOut 102 = .ok (.iconst 0, 1) := by decide +kernel
theorem dX1_takeOut_103 : decode cX1_takeOut 103 = .ok (.putfield 55, 3) := by decide +kernel
theorem dX1_takeOut_106 : decode cX1_takeOut 106 = .ok (.return_, 1) := by decide +kernel
theorem dX1_shiftAll_0 : decode cX1_shiftAll 0 = .ok (.iconst 0, 1) := by decide +kernel
theorem dX1_shiftAll_1 : decode cX1_shiftAll 1 = .ok (.istore_n 2, 1) := by decide +kernel
theorem dX1_shiftAll_2 : decode cX1_shiftAll 2 = .ok (.iload_n 2, 1) := by decide +kernel
theorem dX1_shiftAll_3 : decode cX1_shiftAll 3 = .ok (.aload_n 0, 1) := by decide +kernel
theorem dX1_shiftAll_4 : decode cX1_shiftAll 4 = .ok (.getfield 49, 3) := by decide +kernel
theorem dX1_shiftAll_7 : decode cX1_shiftAll 7 = .ok (.if_icmp .ge 26, 3) := by decide +kernel
theorem dX1_shiftAll_10 : decode cX1_shiftAll 10 = .ok (.aload_n 0, 1) := by decide +kernel
theorem dX1_shiftAll_11 : decode cX1_shiftAll 11 = .ok (.iload_n 2, 1) := by decide +kernel
theorem dX1_shiftAll_12 : decode cX1_shiftAll 12 = .ok (.aload_n 0, 1) := by decide +kernel
theorem dX1_shiftAll_13 : decode cX1_shiftAll 13 = .ok (.iload_n 2, 1) := by decide +kernel
theorem dX1_shiftAll_14 : decode cX1_shiftAll 14 = .ok (.invokevirtual 68, 3) := by decide +kernel
theorem dX1_shiftAll_17 : decode cX1_shiftAll 17 = .ok (.iload_n 1, 1) := by decide +kernel
theorem dX1_shiftAll_18 : decode cX1_shiftAll 18 = .ok (.iadd, 1) := by decide +kernel
theorem dX1_shiftAll_19 : decode cX1_shiftAll 19 = .ok (.aload_n 0, 1) := by decide +kernel
theorem dX1_shiftAll_20 : decode cX1_shiftAll 20 = .ok (.iload_n 2, 1) := by decide +kernel
theorem dX1_shiftAll_21 : decode cX1_shiftAll 21 = .ok (.invokevirtual 76, 3) := by decide +kernel
theorem dX1_shiftAll_24 : decode cX1_shiftAll 24 = .ok (.invokevirtual 72, 3) := by decide +kernel
theorem dX1_shiftAll_27 : decode cX1_shiftAll 27 = .ok (.iinc 2 1, 3) := by decide +kernel
theorem dX1_shiftAll_30 : decode cX1_shiftAll 30 = .ok (.goto (-28), 3) := by decide +kernel
theorem dX1_shiftAll_33 : decode cX1_shiftAll 33 = .ok (.aload_n 0, 1) := by decide +kernel
theorem dX1_shiftAll_34 : decode cX1_shiftAll 34 = .ok (.iconst 0, 1) := by decide +kernel
theorem dX1_shiftAll_35 : decode cX1_shiftAll 35 = .ok (.putfield 55, 3) := by decide +kernel
theorem dX1_shiftAll_38 : decode cX1_shiftAll 38 = .ok (.return_, 1) := by decide +kernel
theorem dX1_hasMixer_0 : decode cX1_hasMixer 0 = .ok (.iload_n 1, 1) := by decide +kernel
theorem dX1_hasMixer_1 : decode cX1_hasMixer 1 = .ok (.ifCond .lt 20, 3) := by decide +kernel
theorem dX1_hasMixer_4 : decode cX1_hasMixer 4 = .ok (.iload_n 1, 1) := by decide +kernel
theorem dX1_hasMixer_5 : decode cX1_hasMixer 5 = .ok (.aload_n 0, 1) := by decide +kernel
theorem dX1_hasMixer_6 : decode cX1_hasMixer 6 = .ok (.getfield 52, 3) := by decide +kernel
theorem dX1_hasMixer_9 : decode cX1_hasMixer 9 = .ok (.if_icmp .ge 12, 3) := by decide +kernel
theorem dX1_hasMixer_12 : decode cX1_hasMixer 12 = .ok (.iload_n 1, 1) := by decide +kernel
theorem dX1_hasMixer_13 : decode cX1_hasMixer 13 = .ok (.iconst 5, 1) := by decide +kernel
theorem dX1_hasMixer_14 : decode cX1_hasMixer 14 = .ok (.if_icmp .ge 7, 3) := by decide +kernel
theorem dX1_hasMixer_17 : decode cX1_hasMixer 17 = .ok (.iconst 1, 1) := by decide +kernel
theorem dX1_hasMixer_18 : decode cX1_hasMixer 18 = .ok (.goto 4, 3) := by decide +kernel
theorem dX1_hasMixer_21 : decode cX1_hasMixer 21 = .ok (.iconst 0, 1) := by decide +kernel
theorem dX1_hasMixer_22 : decode cX1_hasMixer 22 = .ok (.ireturn, 1) := by decide +kernel
theorem dX1_everyMixer_0 : decode cX1_everyMixer 0 = .ok (.iconst 1, 1) := by decide +kernel
theorem dX1_everyMixer_1 : decode cX1_everyMixer 1 = .ok (.aload_n 0, 1) := by decide +kernel
theorem dX1_everyMixer_2 : decode cX1_everyMixer 2 = .ok (.getfield 52, 3) := by decide +kernel
theorem dX1_everyMixer_5 : decode cX1_everyMixer 5 = .ok (.ishl, 1) := by decide +kernel
theorem dX1_everyMixer_6 : decode cX1_everyMixer 6 = .ok (.iconst 1, 1) := by decide +kernel
theorem dX1_everyMixer_7 : decode cX1_everyMixer 7 = .ok (.isub, 1) := by decide +kernel
theorem dX1_everyMixer_8 : decode cX1_everyMixer 8 = .ok (.ireturn, 1) := by decide +kernel
theorem dX1_membersOf_0 : decode cX1_membersOf 0 = .ok (.aload_n 0, 1) := by decide +kernel
theorem dX1_membersOf_1 : decode cX1_membersOf 1 = .ok (.iload_n 1, 1) := by decide +kernel
theorem dX1_membersOf_2 : decode cX1_membersOf 2 = .ok (.invokevirtual 86, 3) := by decide +kernel
theorem dX1_membersOf_5 : decode cX1_membersOf 5 = .ok (.ifCond .eq 12, 3) := by decide +kernel
theorem dX1_membersOf_8 : decode cX1_membersOf 8 = .ok (.aload_n 0, 1) := by decide +kernel
theorem dX1_membersOf_9 : decode cX1_membersOf 9 = .ok (.getfield 34, 3) := by decide +kernel
theorem dX1_membersOf_12 : decode cX1_membersOf 12 = .ok (.iload_n 1, 1) := by decide +kernel
theorem dX1_membersOf_13 : decode cX1_membersOf 13 = .ok (.iaload, 1) := by decide +kernel
theorem dX1_membersOf_14 : decode cX1_membersOf 14 = .ok (.goto 4, 3) := by decide +kernel
theorem dX1_membersOf_17 : decode cX1_membersOf 17 = .ok (.iconst 0, 1) := by decide +kernel
theorem dX1_membersOf_18 : decode cX1_membersOf 18 = .ok (.ireturn, 1) := by decide +kernel
theorem dX1_putMixer_0 : decode cX1_putMixer 0 = .ok (.aload_n 0, 1) := by decide +kernel
theorem dX1_putMixer_1 : decode cX1_putMixer 1 = .ok (.getfield 52, 3) := by decide +kernel
theorem dX1_putMixer_4 : decode cX1_putMixer 4 = .ok (.iconst 5, 1) := by decide +kernel
theorem dX1_putMixer_5 : decode cX1_putMixer 5 = .ok (.if_icmp .ge 24, 3) := by decide +kernel
theorem dX1_putMixer_8 : decode cX1_putMixer 8 = .ok (.aload_n 0, 1) := by decide +kernel
theorem dX1_putMixer_9 : decode cX1_putMixer 9 = .ok (.dup, 1) := by decide +kernel
theorem dX1_putMixer_10 : decode cX1_putMixer 10 = .ok (.getfield 52, 3) := by decide +kernel
theorem dX1_putMixer_13 : decode cX1_putMixer 13 = .ok (.iconst 1, 1) := by decide +kernel
theorem dX1_putMixer_14 : decode cX1_putMixer 14 = .ok (.iadd, 1) := by decide +kernel
theorem dX1_putMixer_15 : decode cX1_putMixer 15 = .ok (.putfield 52, 3) := by decide +kernel
theorem dX1_putMixer_18 : decode cX1_putMixer 18 = .ok (.aload_n 0, 1) := by decide +kernel
theorem dX1_putMixer_19 : decode cX1_putMixer 19 = .ok (.aload_n 0, 1) := by decide +kernel
theorem dX1_putMixer_20 : decode cX1_putMixer 20 = .ok (.getfield 52, 3) := by decide +kernel
theorem dX1_putMixer_23 : decode cX1_putMixer 23 = .ok (.iconst 1, 1) := by decide +kernel
theorem dX1_putMixer_24 : decode cX1_putMixer 24 = .ok (.isub, 1) := by decide +kernel
theorem dX1_putMixer_25 : decode cX1_putMixer 25 = .ok (.iload_n 1, 1) := by decide +kernel
theorem dX1_putMixer_26 : decode cX1_putMixer 26 = .ok (.invokevirtual 82, 3) := by decide +kernel
theorem dX1_putMixer_29 : decode cX1_putMixer 29 = .ok (.return_, 1) := by decide +kernel
theorem dX1_setMembers_0 : decode cX1_setMembers 0 = .ok (.aload_n 0, 1) := by decide +kernel
theorem dX1_setMembers_1 : decode cX1_setMembers 1 = .ok (.iload_n 1, 1) := by decide +kernel
theorem dX1_setMembers_2 : decode cX1_setMembers 2 = .ok (.invokevirtual 86, 3) := by decide +kernel
theorem dX1_setMembers_5 : decode cX1_setMembers 5 = .ok (.ifCond .eq 10, 3) := by decide +kernel
theorem dX1_setMembers_8 : decode cX1_setMembers 8 = .ok (.aload_n 0, 1) := by decide +kernel
theorem dX1_setMembers_9 : decode cX1_setMembers 9 = .ok (.getfield 34, 3) := by decide +kernel
theorem dX1_setMembers_12 : decode cX1_setMembers 12 = .ok (.iload_n 1, 1) := by decide +kernel
theorem dX1_setMembers_13 : decode cX1_setMembers 13 = .ok (.iload_n 2, 1) := by decide +kernel
theorem dX1_setMembers_14 : decode cX1_setMembers 14 = .ok (.iastore, 1) := by decide +kernel
theorem dX1_setMembers_15 : decode cX1_setMembers 15 = .ok (.aload_n 0, 1) := by decide +kernel
theorem dX1_setMembers_16 : decode cX1_setMembers 16 = .ok (.iconst 0, 1) := by decide +kernel
theorem dX1_setMembers_17 : decode cX1_setMembers 17 = .ok (.putfield 55, 3) := by decide +kernel
theorem dX1_setMembers_20 : decode cX1_setMembers 20 = .ok (.return_, 1) := by decide +kernel
theorem dX1_hasTest_0 : decode cX1_hasTest 0 = .ok (.iload_n 1, 1) := by decide +kernel
theorem dX1_hasTest_1 : decode cX1_hasTest 1 = .ok (.ifCond .lt 21, 3) := by decide +kernel
theorem dX1_hasTest_4 : decode cX1_hasTest 4 = .ok (.iload_n 1, 1) := by decide +kernel
theorem dX1_hasTest_5 : decode cX1_hasTest 5 = .ok (.aload_n 0, 1) := by decide +kernel
theorem dX1_hasTest_6 : decode cX1_hasTest 6 = .ok (.getfield 55, 3) := by decide +kernel
theorem dX1_hasTest_9 : decode cX1_hasTest 9 = .ok (.if_icmp .ge 13, 3) := by decide +kernel
theorem dX1_hasTest_12 : decode cX1_hasTest 12 = .ok (.iload_n 1, 1) := by decide +kernel
theorem dX1_hasTest_13 : decode cX1_hasTest 13 = .ok (.bipush 16, 2) := by decide +kernel
theorem dX1_hasTest_15 : decode cX1_hasTest 15 = .ok (.if_icmp .ge 7, 3) := by decide +kernel
theorem dX1_hasTest_18 : decode cX1_hasTest 18 = .ok (.iconst 1, 1) := by decide +kernel
theorem dX1_hasTest_19 : decode cX1_hasTest 19 = .ok (.goto 4, 3) := by decide +kernel
theorem dX1_hasTest_22 : decode cX1_hasTest 22 = .ok (.iconst 0, 1) := by decide +kernel
theorem dX1_hasTest_23 : decode cX1_hasTest 23 = .ok (.ireturn, 1) := by decide +kernel
theorem dX1_putTest_0 : decode cX1_putTest 0 = .ok (.aload_n 0, 1) := by decide +kernel
theorem dX1_putTest_1 : decode cX1_putTest 1 = .ok (.getfield 55, 3) := by decide +kernel
theorem dX1_putTest_4 : decode cX1_putTest 4 = .ok (.ifCond .lt 71, 3) := by decide +kernel
theorem dX1_putTest_7 : decode cX1_putTest 7 = .ok (.aload_n 0, 1) := by decide +kernel
theorem dX1_putTest_8 : decode cX1_putTest 8 = .ok (.getfield 55, 3) := by decide +kernel
theorem dX1_putTest_11 : decode cX1_putTest 11 = .ok (.bipush 16, 2) := by decide +kernel
theorem dX1_putTest_13 : decode cX1_putTest 13 = .ok (.if_icmp .ge 62, 3) := by decide +kernel
theorem dX1_putTest_16 : decode cX1_putTest 16 = .ok (.aload_n 0, 1) := by decide +kernel
theorem dX1_putTest_17 : decode cX1_putTest 17 = .ok (.getfield 37, 3) := by decide +kernel
theorem dX1_putTest_20 : decode cX1_putTest 20 = .ok (.aload_n 0, 1) := by decide +kernel
theorem dX1_putTest_21 : decode cX1_putTest 21 = .ok (.getfield 55, 3) := by decide +kernel
theorem dX1_putTest_24 : decode cX1_putTest 24 = .ok (.iload_n 1, 1) := by decide +kernel
theorem dX1_putTest_25 : decode cX1_putTest 25 = .ok (.iastore, 1) := by decide +kernel
theorem dX1_putTest_26 : decode cX1_putTest 26 = .ok (.aload_n 0, 1) := by decide +kernel
theorem dX1_putTest_27 : decode cX1_putTest 27 = .ok (.getfield 40, 3) := by decide +kernel
theorem dX1_putTest_30 : decode cX1_putTest 30 = .ok (.aload_n 0, 1) := by decide +kernel
theorem dX1_putTest_31 : decode cX1_putTest 31 = .ok (.getfield 55, 3) := by decide +kernel
theorem dX1_putTest_34 : decode cX1_putTest 34 = .ok (.iload_n 2, 1) := by decide +kernel
theorem dX1_putTest_35 : decode cX1_putTest 35 = .ok (.iastore, 1) := by decide +kernel
theorem dX1_putTest_36 : decode cX1_putTest 36 = .ok (.aload_n 0, 1) := by decide +kernel
theorem dX1_putTest_37 : decode cX1_putTest 37 = .ok (.getfield 43, 3) := by decide +kernel
theorem dX1_putTest_40 : decode cX1_putTest 40 = .ok (.aload_n 0, 1) := by decide +kernel
theorem dX1_putTest_41 : decode cX1_putTest 41 = .ok (.getfield 55, 3) := by decide +kernel
theorem dX1_putTest_44 : decode cX1_putTest 44 = .ok (.iload_n 3, 1) := by decide +kernel
theorem dX1_putTest_45 : decode cX1_putTest 45 = .ok (.ifCond .eq 7, 3) := by decide +kernel
theorem dX1_putTest_48 : decode cX1_putTest 48 = .ok (.iconst 1, 1) := by decide +kernel
theorem dX1_putTest_49 : decode cX1_putTest 49 = .ok (.goto 4, 3) := by decide +kernel
theorem dX1_putTest_52 : decode cX1_putTest 52 = .ok (.iconst 0, 1) := by decide +kernel
theorem dX1_putTest_53 : decode cX1_putTest 53 = .ok (.iastore, 1) := by decide +kernel
theorem dX1_putTest_54 : decode cX1_putTest 54 = .ok (.aload_n 0, 1) := by decide +kernel
theorem dX1_putTest_55 : decode cX1_putTest 55 = .ok (.getfield 46, 3) := by decide +kernel
theorem dX1_putTest_58 : decode cX1_putTest 58 = .ok (.aload_n 0, 1) := by decide +kernel
theorem dX1_putTest_59 : decode cX1_putTest 59 = .ok (.getfield 55, 3) := by decide +kernel
theorem dX1_putTest_62 : decode cX1_putTest 62 = .ok (.iload 4, 2) := by decide +kernel
theorem dX1_putTest_64 : decode cX1_putTest 64 = .ok (.iastore, 1) := by decide +kernel
theorem dX1_putTest_65 : decode cX1_putTest 65 = .ok (.aload_n 0, 1) := by decide +kernel
theorem dX1_putTest_66 : decode cX1_putTest 66 = .ok (.dup, 1) := by decide +kernel
theorem dX1_putTest_67 : decode cX1_putTest 67 = .ok (.getfield 55, 3) := by decide +kernel
theorem dX1_putTest_70 : decode cX1_putTest 70 = .ok (.iconst 1, 1) := by decide +kernel
theorem dX1_putTest_71 : decode cX1_putTest 71 = .ok (.iadd, 1) := by decide +kernel
theorem dX1_putTest_72 : decode cX1_putTest 72 = .ok (.putfield 55, 3) := by decide +kernel
theorem dX1_putTest_75 : decode cX1_putTest 75 = .ok (.return_, 1) := by decide +kernel
theorem dX1_testFact_0 : decode cX1_testFact 0 = .ok (.aload_n 0, 1) := by decide +kernel
theorem dX1_testFact_1 : decode cX1_testFact 1 = .ok (.iload_n 1, 1) := by decide +kernel
theorem dX1_testFact_2 : decode cX1_testFact 2 = .ok (.invokevirtual 89, 3) := by decide +kernel
theorem dX1_testFact_5 : decode cX1_testFact 5 = .ok (.ifCond .ne 5, 3) := by decide +kernel
theorem dX1_testFact_8 : decode cX1_testFact 8 = .ok (.iconst (-1), 1) := by decide +kernel
theorem dX1_testFact_9 : decode cX1_testFact 9 = .ok (.ireturn, 1) := by decide +kernel
theorem dX1_testFact_10 : decode cX1_testFact 10 = .ok (.iload_n 2, 1) := by decide +kernel
theorem dX1_testFact_11 : decode cX1_testFact 11 = .ok (.lookupswitch 39 #[(0, 25), (1, 32)], 25) := by decide +kernel
theorem dX1_testFact_36 : decode cX1_testFact 36 = .ok (.aload_n 0, 1) := by decide +kernel
theorem dX1_testFact_37 : decode cX1_testFact 37 = .ok (.getfield 37, 3) := by decide +kernel
theorem dX1_testFact_40 : decode cX1_testFact 40 = .ok (.iload_n 1, 1) := by decide +kernel
theorem dX1_testFact_41 : decode cX1_testFact 41 = .ok (.iaload, 1) := by decide +kernel
theorem dX1_testFact_42 : decode cX1_testFact 42 = .ok (.ireturn, 1) := by decide +kernel
theorem dX1_testFact_43 : decode cX1_testFact 43 = .ok (.aload_n 0, 1) := by decide +kernel
theorem dX1_testFact_44 : decode cX1_testFact 44 = .ok (.getfield 40, 3) := by decide +kernel
theorem dX1_testFact_47 : decode cX1_testFact 47 = .ok (.iload_n 1, 1) := by decide +kernel
theorem dX1_testFact_48 : decode cX1_testFact 48 = .ok (.iaload, 1) := by decide +kernel
theorem dX1_testFact_49 : decode cX1_testFact 49 = .ok (.ireturn, 1) := by decide +kernel
theorem dX1_testFact_50 : decode cX1_testFact 50 = .ok (.aload_n 0, 1) := by decide +kernel
theorem dX1_testFact_51 : decode cX1_testFact 51 = .ok (.getfield 43, 3) := by decide +kernel
theorem dX1_testFact_54 : decode cX1_testFact 54 = .ok (.iload_n 1, 1) := by decide +kernel
theorem dX1_testFact_55 : decode cX1_testFact 55 = .ok (.iaload, 1) := by decide +kernel
theorem dX1_testFact_56 : decode cX1_testFact 56 = .ok (.ireturn, 1) := by decide +kernel
theorem dX1_fitsTests_0 : decode cX1_fitsTests 0 = .ok (.iconst 0, 1) := by decide +kernel
theorem dX1_fitsTests_1 : decode cX1_fitsTests 1 = .ok (.istore_n 2, 1) := by decide +kernel
theorem dX1_fitsTests_2 : decode cX1_fitsTests 2 = .ok (.iload_n 2, 1) := by decide +kernel
theorem dX1_fitsTests_3 : decode cX1_fitsTests 3 = .ok (.aload_n 0, 1) := by decide +kernel
theorem dX1_fitsTests_4 : decode cX1_fitsTests 4 = .ok (.getfield 55, 3) := by decide +kernel
theorem dX1_fitsTests_7 : decode cX1_fitsTests 7 = .ok (.if_icmp .ge 53, 3) := by decide +kernel
theorem dX1_fitsTests_10 : decode cX1_fitsTests 10 = .ok (.iload_n 2, 1) := by decide +kernel
theorem dX1_fitsTests_11 : decode cX1_fitsTests 11 = .ok (.bipush 16, 2) := by decide +kernel
theorem dX1_fitsTests_13 : decode cX1_fitsTests 13 = .ok (.if_icmp .ge 47, 3) := by decide +kernel
theorem dX1_fitsTests_16 : decode cX1_fitsTests 16 = .ok (.iload_n 1, 1) := by decide +kernel
theorem dX1_fitsTests_17 : decode cX1_fitsTests 17 = .ok (.aload_n 0, 1) := by decide +kernel
theorem dX1_fitsTests_18 : decode cX1_fitsTests 18 = .ok (.getfield 46, 3) := by decide +kernel
theorem dX1_fitsTests_21 : decode cX1_fitsTests 21 = .ok (.iload_n 2, 1) := by decide +kernel
theorem dX1_fitsTests_22 : decode cX1_fitsTests 22 = .ok (.iaload, 1) := by decide +kernel
theorem dX1_fitsTests_23 : decode cX1_fitsTests 23 = .ok (.iand, 1) := by decide +kernel
theorem dX1_fitsTests_24 : decode cX1_fitsTests 24 = .ok (.ifCond .eq 7, 3) := by decide +kernel
theorem dX1_fitsTests_27 : decode cX1_fitsTests 27 = .ok (.iconst 1, 1) := by decide +kernel
theorem dX1_fitsTests_28 : decode cX1_fitsTests 28 = .ok (.goto 4, 3) := by decide +kernel
theorem dX1_fitsTests_31 : decode cX1_fitsTests 31 = .ok (.iconst 0, 1) := by decide +kernel
theorem dX1_fitsTests_32 : decode cX1_fitsTests 32 = .ok (.istore_n 3, 1) := by decide +kernel
theorem dX1_fitsTests_33 : decode cX1_fitsTests 33 = .ok (.iload_n 3, 1) := by decide +kernel
theorem dX1_fitsTests_34 : decode cX1_fitsTests 34 = .ok (.aload_n 0, 1) := by decide +kernel
theorem dX1_fitsTests_35 : decode cX1_fitsTests 35 = .ok (.getfield 43, 3) := by decide +kernel
theorem dX1_fitsTests_38 : decode cX1_fitsTests 38 = .ok (.iload_n 2, 1) := by decide +kernel
theorem dX1_fitsTests_39 : decode cX1_fitsTests 39 = .ok (.iaload, 1) := by decide +kernel
theorem dX1_fitsTests_40 : decode cX1_fitsTests 40 = .ok (.iconst 1, 1) := by decide +kernel
theorem dX1_fitsTests_41 : decode cX1_fitsTests 41 = .ok (.if_icmp .ne 7, 3) := by decide +kernel
theorem dX1_fitsTests_44 : decode cX1_fitsTests 44 = .ok (.iconst 1, 1) := by decide +kernel
theorem dX1_fitsTests_45 : decode cX1_fitsTests 45 = .ok (.goto 4, 3) := by decide +kernel
theorem dX1_fitsTests_48 : decode cX1_fitsTests 48 = .ok (.iconst 0, 1) := by decide +kernel
theorem dX1_fitsTests_49 : decode cX1_fitsTests 49 = .ok (.if_icmp .eq 5, 3) := by decide +kernel
theorem dX1_fitsTests_52 : decode cX1_fitsTests 52 = .ok (.iconst 0, 1) := by decide +kernel
theorem dX1_fitsTests_53 : decode cX1_fitsTests 53 = .ok (.ireturn, 1) := by decide +kernel
theorem dX1_fitsTests_54 : decode cX1_fitsTests 54 = .ok (.iinc 2 1, 3) := by decide +kernel
theorem dX1_fitsTests_57 : decode cX1_fitsTests 57 = .ok (.goto (-55), 3) := by decide +kernel
theorem dX1_fitsTests_60 : decode cX1_fitsTests 60 = .ok (.iconst 1, 1) := by decide +kernel
theorem dX1_fitsTests_61 : decode cX1_fitsTests 61 = .ok (.ireturn, 1) := by decide +kernel
theorem dX2_init_0 : decode cX2_init 0 = .ok (.aload_n 0, 1) := by decide +kernel
theorem dX2_init_1 : decode cX2_init 1 = .ok (.invokespecial 3, 3) := by decide +kernel
theorem dX2_init_4 : decode cX2_init 4 = .ok (.aload_n 0, 1) := by decide +kernel
theorem dX2_init_5 : decode cX2_init 5 = .ok (.iconst 4, 1) := by decide +kernel
theorem dX2_init_6 : decode cX2_init 6 = .ok (.anewarray 9, 3) := by decide +kernel
theorem dX2_init_9 : decode cX2_init 9 = .ok (.putfield 11, 3) := by decide +kernel
theorem dX2_init_12 : decode cX2_init 12 = .ok (.iconst 0, 1) := by decide +kernel
theorem dX2_init_13 : decode cX2_init 13 = .ok (.istore_n 1, 1) := by decide +kernel
theorem dX2_init_14 : decode cX2_init 14 = .ok (.iload_n 1, 1) := by decide +kernel
theorem dX2_init_15 : decode cX2_init 15 = .ok (.iconst 4, 1) := by decide +kernel
theorem dX2_init_16 : decode cX2_init 16 = .ok (.if_icmp .ge 22, 3) := by decide +kernel
theorem dX2_init_19 : decode cX2_init 19 = .ok (.aload_n 0, 1) := by decide +kernel
theorem dX2_init_20 : decode cX2_init 20 = .ok (.getfield 11, 3) := by decide +kernel
theorem dX2_init_23 : decode cX2_init 23 = .ok (.iload_n 1, 1) := by decide +kernel
theorem dX2_init_24 : decode cX2_init 24 = .ok (.new 9, 3) := by decide +kernel
theorem dX2_init_27 : decode cX2_init 27 = .ok (.dup, 1) := by decide +kernel
theorem dX2_init_28 : decode cX2_init 28 = .ok (.invokespecial 17, 3) := by decide +kernel
theorem dX2_init_31 : decode cX2_init 31 = .ok (.aastore, 1) := by decide +kernel
theorem dX2_init_32 : decode cX2_init 32 = .ok (.iinc 1 1, 3) := by decide +kernel
theorem dX2_init_35 : decode cX2_init 35 = .ok (.goto (-21), 3) := by decide +kernel
theorem dX2_init_38 : decode cX2_init 38 = .ok (.return_, 1) := by decide +kernel
theorem dX2_push_0 : decode cX2_push 0 = .ok (.aload_n 0, 1) := by decide +kernel
theorem dX2_push_1 : decode cX2_push 1 = .ok (.aload_n 0, 1) := by decide +kernel
theorem dX2_push_2 : decode cX2_push 2 = .ok (.getfield 18, 3) := by decide +kernel
theorem dX2_push_5 : decode cX2_push 5 = .ok (.iconst 1, 1) := by decide +kernel
theorem dX2_push_6 : decode cX2_push 6 = .ok (.iadd, 1) := by decide +kernel
theorem dX2_push_7 : decode cX2_push 7 = .ok (.iconst 4, 1) := by decide +kernel
theorem dX2_push_8 : decode cX2_push 8 = .ok (.if_icmp .ge 12, 3) := by decide +kernel
theorem dX2_push_11 : decode cX2_push 11 = .ok (.aload_n 0, 1) := by decide +kernel
theorem dX2_push_12 : decode cX2_push 12 = .ok (.getfield 18, 3) := by decide +kernel
theorem dX2_push_15 : decode cX2_push 15 = .ok (.iconst 1, 1) := by decide +kernel
theorem dX2_push_16 : decode cX2_push 16 = .ok (.iadd, 1) := by decide +kernel
theorem dX2_push_17 : decode cX2_push 17 = .ok (.goto 4, 3) := by decide +kernel
theorem dX2_push_20 : decode cX2_push 20 = .ok (.iconst 0, 1) := by decide +kernel
theorem dX2_push_21 : decode cX2_push 21 = .ok (.putfield 18, 3) := by decide +kernel
theorem dX2_push_24 : decode cX2_push 24 = .ok (.aload_n 0, 1) := by decide +kernel
theorem dX2_push_25 : decode cX2_push 25 = .ok (.aload_n 0, 1) := by decide +kernel
theorem dX2_push_26 : decode cX2_push 26 = .ok (.getfield 18, 3) := by decide +kernel
theorem dX2_push_29 : decode cX2_push 29 = .ok (.invokevirtual 22, 3) := by decide +kernel
theorem dX2_push_32 : decode cX2_push 32 = .ok (.astore_n 2, 1) := by decide +kernel
theorem dX2_push_33 : decode cX2_push 33 = .ok (.aload_n 2, 1) := by decide +kernel
theorem dX2_push_34 : decode cX2_push 34 = .ok (.ifnull 8, 3) := by decide +kernel
theorem dX2_push_37 : decode cX2_push 37 = .ok (.aload_n 2, 1) := by decide +kernel
theorem dX2_push_38 : decode cX2_push 38 = .ok (.aload_n 1, 1) := by decide +kernel
theorem dX2_push_39 : decode cX2_push 39 = .ok (.invokevirtual 26, 3) := by decide +kernel
theorem dX2_push_42 : decode cX2_push 42 = .ok (.aload_n 0, 1) := by decide +kernel
theorem dX2_push_43 : decode cX2_push 43 = .ok (.aload_n 0, 1) := by decide +kernel
theorem dX2_push_44 : decode cX2_push 44 = .ok (.getfield 30, 3) := by decide +kernel
theorem dX2_push_47 : decode cX2_push 47 = .ok (.iconst 1, 1) := by decide +kernel
theorem dX2_push_48 : decode cX2_push 48 = .ok (.iadd, 1) := by decide +kernel
theorem dX2_push_49 : decode cX2_push 49 = .ok (.iconst 4, 1) := by decide +kernel
theorem dX2_push_50 : decode cX2_push 50 = .ok (.invokestatic 33, 3) := by decide +kernel
theorem dX2_push_53 : decode cX2_push 53 = .ok (.putfield 30, 3) := by decide +kernel
theorem dX2_push_56 : decode cX2_push 56 = .ok (.return_, 1) := by decide +kernel
theorem dX2_popInto_0 : decode cX2_popInto 0 = .ok (.aload_n 0, 1) := by decide +kernel
theorem dX2_popInto_1 : decode cX2_popInto 1 = .ok (.aload_n 0, 1) := by decide +kernel
theorem dX2_popInto_2 : decode cX2_popInto 2 = .ok (.getfield 18, 3) := by decide +kernel
theorem dX2_popInto_5 : decode cX2_popInto 5 = .ok (.invokevirtual 22, 3) := by decide +kernel
theorem dX2_popInto_8 : decode cX2_popInto 8 = .ok (.astore_n 2, 1) := by decide +kernel
theorem dX2_popInto_9 : decode cX2_popInto 9 = .ok (.aload_n 2, 1) := by decide +kernel
theorem dX2_popInto_10 : decode cX2_popInto 10 = .ok (.ifnull 8, 3) := by decide +kernel
theorem dX2_popInto_13 : decode cX2_popInto 13 = .ok (.aload_n 1, 1) := by decide +kernel
theorem dX2_popInto_14 : decode cX2_popInto 14 = .ok (.aload_n 2, 1) := by decide +kernel
theorem dX2_popInto_15 : decode cX2_popInto 15 = .ok (.invokevirtual 26, 3) := by decide +kernel
theorem dX2_popInto_18 : decode cX2_popInto 18 = .ok (.aload_n 0, 1) := by decide +kernel
theorem dX2_popInto_19 : decode cX2_popInto 19 = .ok (.aload_n 0, 1) := by decide +kernel
theorem dX2_popInto_20 : decode cX2_popInto 20 = .ok (.getfield 18, 3) := by decide +kernel
theorem dX2_popInto_23 : decode cX2_popInto 23 = .ok (.ifCond .le 12, 3) := by decide +kernel
theorem dX2_popInto_26 : decode cX2_popInto 26 = .ok (.aload_n 0, 1) := by decide +kernel
theorem dX2_popInto_27 : decode cX2_popInto 27 = .ok (.getfield 18, 3) := by decide +kernel
theorem dX2_popInto_30 : decode cX2_popInto 30 = .ok (.iconst 1, 1) := by decide +kernel
theorem dX2_popInto_31 : decode cX2_popInto 31 = .ok (.isub, 1) := by decide +kernel
theorem dX2_popInto_32 : decode cX2_popInto 32 = .ok (.goto 4, 3) := by decide +kernel
theorem dX2_popInto_35 : decode cX2_popInto 35 = .ok (.iconst 3, 1) := by decide +kernel
theorem dX2_popInto_36 : decode cX2_popInto 36 = .ok (.putfield 18, 3) := by decide +kernel
theorem dX2_popInto_39 : decode cX2_popInto 39 = .ok (.aload_n 0, 1) := by decide +kernel
theorem dX2_popInto_40 : decode cX2_popInto 40 = .ok (.aload_n 0, 1) := by decide +kernel
theorem dX2_popInto_41 : decode cX2_popInto 41 = .ok (.getfield 30, 3) := by decide +kernel
theorem dX2_popInto_44 : decode cX2_popInto 44 = .ok (.iconst 1, 1) := by decide +kernel
theorem dX2_popInto_45 : decode cX2_popInto 45 = .ok (.isub, 1) := by decide +kernel
theorem dX2_popInto_46 : decode cX2_popInto 46 = .ok (.iconst 0, 1) := by decide +kernel
theorem dX2_popInto_47 : decode cX2_popInto 47 = .ok (.invokestatic 39, 3) := by decide +kernel
theorem dX2_popInto_50 : decode cX2_popInto 50 = .ok (.putfield 30, 3) := by decide +kernel
theorem dX2_popInto_53 : decode cX2_popInto 53 = .ok (.return_, 1) := by decide +kernel
theorem dX2_deskAt_0 : decode cX2_deskAt 0 = .ok (.iload_n 1, 1) := by decide +kernel
theorem dX2_deskAt_1 : decode cX2_deskAt 1 = .ok (.ifCond .lt 17, 3) := by decide +kernel
theorem dX2_deskAt_4 : decode cX2_deskAt 4 = .ok (.iload_n 1, 1) := by decide +kernel
theorem dX2_deskAt_5 : decode cX2_deskAt 5 = .ok (.iconst 4, 1) := by decide +kernel
theorem dX2_deskAt_6 : decode cX2_deskAt 6 = .ok (.if_icmp .ge 12, 3) := by decide +kernel
theorem dX2_deskAt_9 : decode cX2_deskAt 9 = .ok (.aload_n 0, 1) := by decide +kernel
theorem dX2_deskAt_10 : decode cX2_deskAt 10 = .ok (.getfield 11, 3) := by decide +kernel
theorem dX2_deskAt_13 : decode cX2_deskAt 13 = .ok (.iload_n 1, 1) := by decide +kernel
theorem dX2_deskAt_14 : decode cX2_deskAt 14 = .ok (.aaload, 1) := by decide +kernel
theorem dX2_deskAt_15 : decode cX2_deskAt 15 = .ok (.goto 4, 3) := by decide +kernel
theorem dX2_deskAt_18 : decode cX2_deskAt 18 = .ok (.aconst_null, 1) := by decide +kernel
theorem dX2_deskAt_19 : decode cX2_deskAt 19 = .ok (.areturn, 1) := by decide +kernel
theorem dX3_init_0 : decode cX3_init 0 = .ok (.aload_n 0, 1) := by decide +kernel
theorem dX3_init_1 : decode cX3_init 1 = .ok (.invokespecial 3, 3) := by decide +kernel
theorem dX3_init_4 : decode cX3_init 4 = .ok (.aload_n 0, 1) := by decide +kernel
theorem dX3_init_5 : decode cX3_init 5 = .ok (.sipush 3240, 3) := by decide +kernel
theorem dX3_init_8 : decode cX3_init 8 = .ok (.newarray .int, 2) := by decide +kernel
theorem dX3_init_10 : decode cX3_init 10 = .ok (.putfield 11, 3) := by decide +kernel
theorem dX3_init_13 : decode cX3_init 13 = .ok (.return_, 1) := by decide +kernel
theorem dX3_gather_0 : decode cX3_gather 0 = .ok (.aload_n 0, 1) := by decide +kernel
theorem dX3_gather_1 : decode cX3_gather 1 = .ok (.iconst 0, 1) := by decide +kernel
theorem dX3_gather_2 : decode cX3_gather 2 = .ok (.putfield 15, 3) := by decide +kernel
theorem dX3_gather_5 : decode cX3_gather 5 = .ok (.aload_n 1, 1) := by decide +kernel
theorem dX3_gather_6 : decode cX3_gather 6 = .ok (.getfield 19, 3) := by decide +kernel
theorem dX3_gather_9 : decode cX3_gather 9 = .ok (.iconst 1, 1) := by decide +kernel
theorem dX3_gather_10 : decode cX3_gather 10 = .ok (.iand, 1) := by decide +kernel
theorem dX3_gather_11 : decode cX3_gather 11 = .ok (.ifCond .eq 10, 3) := by decide +kernel
theorem dX3_gather_14 : decode cX3_gather 14 = .ok (.aload_n 0, 1) := by decide +kernel
theorem dX3_gather_15 : decode cX3_gather 15 = .ok (.aload_n 1, 1) := by decide +kernel
theorem dX3_gather_16 : decode cX3_gather 16 = .ok (.iload_n 2, 1) := by decide +kernel
theorem dX3_gather_17 : decode cX3_gather 17 = .ok (.iconst 0, 1) := by decide +kernel
theorem dX3_gather_18 : decode cX3_gather 18 = .ok (.invokevirtual 24, 3) := by decide +kernel
theorem dX3_gather_21 : decode cX3_gather 21 = .ok (.aload_n 1, 1) := by decide +kernel
theorem dX3_gather_22 : decode cX3_gather 22 = .ok (.getfield 19, 3) := by decide +kernel
theorem dX3_gather_25 : decode cX3_gather 25 = .ok (.iconst 2, 1) := by decide +kernel
theorem dX3_gather_26 : decode cX3_gather 26 = .ok (.iand, 1) := by decide +kernel
theorem dX3_gather_27 : decode cX3_gather 27 = .ok (.ifCond .eq 9, 3) := by decide +kernel
theorem dX3_gather_30 : decode cX3_gather 30 = .ok (.aload_n 0, 1) := by decide +kernel
theorem dX3_gather_31 : decode cX3_gather 31 = .ok (.aload_n 1, 1) := by decide +kernel
theorem dX3_gather_32 : decode cX3_gather 32 = .ok (.iload_n 2, 1) := by decide +kernel
theorem dX3_gather_33 : decode cX3_gather 33 = .ok (.invokevirtual 28, 3) := by decide +kernel
theorem dX3_gather_36 : decode cX3_gather 36 = .ok (.aload_n 1, 1) := by decide +kernel
theorem dX3_gather_37 : decode cX3_gather 37 = .ok (.getfield 19, 3) := by decide +kernel
theorem dX3_gather_40 : decode cX3_gather 40 = .ok (.iconst 4, 1) := by decide +kernel
theorem dX3_gather_41 : decode cX3_gather 41 = .ok (.iand, 1) := by decide +kernel
theorem dX3_gather_42 : decode cX3_gather 42 = .ok (.ifCond .eq 10, 3) := by decide +kernel
theorem dX3_gather_45 : decode cX3_gather 45 = .ok (.aload_n 0, 1) := by decide +kernel
theorem dX3_gather_46 : decode cX3_gather 46 = .ok (.aload_n 1, 1) := by decide +kernel
theorem dX3_gather_47 : decode cX3_gather 47 = .ok (.iload_n 2, 1) := by decide +kernel
theorem dX3_gather_48 : decode cX3_gather 48 = .ok (.iconst 2, 1) := by decide +kernel
theorem dX3_gather_49 : decode cX3_gather 49 = .ok (.invokevirtual 24, 3) := by decide +kernel
theorem dX3_gather_52 : decode cX3_gather 52 = .ok (.return_, 1) := by decide +kernel
theorem dX3_gatherPairs_0 : decode cX3_gatherPairs 0 = .ok (.iload_n 3, 1) := by decide +kernel
theorem dX3_gatherPairs_1 : decode cX3_gatherPairs 1 = .ok (.ifCond .ne 7, 3) := by decide +kernel
theorem dX3_gatherPairs_4 : decode cX3_gatherPairs 4 = .ok (.iconst 2, 1) := by decide +kernel
theorem dX3_gatherPairs_5 : decode cX3_gatherPairs 5 = .ok (.goto 4, 3) := by decide +kernel
theorem dX3_gatherPairs_8 : decode cX3_gatherPairs 8 = .ok (.iconst 3, 1) := by decide +kernel
theorem dX3_gatherPairs_9 : decode cX3_gatherPairs 9 = .ok (.istore 4, 2) := by decide +kernel
theorem dX3_gatherPairs_11 : decode cX3_gatherPairs 11 = .ok (.iload 4, 2) := by decide +kernel
theorem dX3_gatherPairs_13 : decode cX3_gatherPairs 13 = .ok (.iconst 1, 1) := by decide +kernel
theorem dX3_gatherPairs_14 : decode cX3_gatherPairs 14 = .ok (.isub, 1) := by decide +kernel
theorem dX3_gatherPairs_15 : decode cX3_gatherPairs 15 = .ok (.istore 5, 2) := by decide +kernel
theorem dX3_gatherPairs_17 : decode cX3_gatherPairs 17 = .ok (.iload_n 3, 1) := by decide +kernel
theorem dX3_gatherPairs_18 : decode cX3_gatherPairs 18 = .ok (.ifCond .ne 10, 3) := by decide +kernel
theorem dX3_gatherPairs_21 : decode cX3_gatherPairs 21 = .ok (.aload_n 1, 1) := by decide +kernel
theorem dX3_gatherPairs_22 : decode cX3_gatherPairs 22 = .ok (.getfield 32, 3) := by decide +kernel
theorem dX3_gatherPairs_25 : decode cX3_gatherPairs 25 = .ok (.goto 7, 3) := by decide +kernel
theorem dX3_gatherPairs_28 : decode cX3_gatherPairs 28 = .ok (.aload_n 1, 1) := by decide +kernel
theorem dX3_gatherPairs_29 : decode cX3_gatherPairs 29 = .ok (.getfield 35, 3) := by decide +kernel
theorem dX3_gatherPairs_32 : decode cX3_gatherPairs 32 = .ok (.istore 6, 2) := by decide +kernel
theorem dX3_gatherPairs_34 : decode cX3_gatherPairs 34 = .ok (.iconst 0, 1) := by decide +kernel
theorem dX3_gatherPairs_35 : decode cX3_gatherPairs 35 = .ok (.istore 7, 2) := by decide +kernel
theorem dX3_gatherPairs_37 : decode cX3_gatherPairs 37 = .ok (.iload 7, 2) := by decide +kernel
theorem dX3_gatherPairs_39 : decode cX3_gatherPairs 39 = .ok (.aload_n 1, 1) := by decide +kernel
theorem dX3_gatherPairs_40 : decode cX3_gatherPairs 40 = .ok (.getfield 38, 3) := by decide +kernel
theorem dX3_gatherPairs_43 : decode cX3_gatherPairs 43 = .ok (.if_icmp .ge 113, 3) := by decide +kernel
theorem dX3_gatherPairs_46 : decode cX3_gatherPairs 46 = .ok (.iconst 0, 1) := by decide +kernel
theorem dX3_gatherPairs_47 : decode cX3_gatherPairs 47 = .ok (.istore 8, 2) := by decide +kernel
theorem dX3_gatherPairs_49 : decode cX3_gatherPairs 49 = .ok (.iload 8, 2) := by decide +kernel
theorem dX3_gatherPairs_51 : decode cX3_gatherPairs 51 = .ok (.aload_n 1, 1) := by decide +kernel
theorem dX3_gatherPairs_52 : decode cX3_gatherPairs 52 = .ok (.getfield 38, 3) := by decide +kernel
theorem dX3_gatherPairs_55 : decode cX3_gatherPairs 55 = .ok (.if_icmp .ge 95, 3) := by decide +kernel
theorem dX3_gatherPairs_58 : decode cX3_gatherPairs 58 = .ok (.iload 7, 2) := by decide +kernel
theorem dX3_gatherPairs_60 : decode cX3_gatherPairs 60 = .ok (.iload 8, 2) := by decide +kernel
theorem dX3_gatherPairs_62 : decode cX3_gatherPairs 62 = .ok (.if_icmp .eq 82, 3) := by decide +kernel
theorem dX3_gatherPairs_65 : decode cX3_gatherPairs 65 = .ok (.iload 7, 2) := by decide +kernel
theorem dX3_gatherPairs_67 : decode cX3_gatherPairs 67 = .ok (.iload_n 2, 1) := by decide +kernel
theorem dX3_gatherPairs_68 : decode cX3_gatherPairs 68 = .ok (.i2l, 1) := by decide +kernel
theorem dX3_gatherPairs_69 : decode cX3_gatherPairs 69 = .ok (.invokestatic 41, 3) := by decide +kernel
theorem dX3_gatherPairs_72 : decode cX3_gatherPairs 72 = .ok (.ifCond .eq 72, 3) := by decide +kernel
theorem dX3_gatherPairs_75 : decode cX3_gatherPairs 75 = .ok (.iload 8, 2) := by decide +kernel
theorem dX3_gatherPairs_77 : decode cX3_gatherPairs 77 = .ok (.iload_n 2, 1) := by decide +kernel
theorem dX3_gatherPairs_78 : decode cX3_gatherPairs 78 = .ok (.i2l, 1) := by decide +kernel
theorem dX3_gatherPairs_79 : decode cX3_gatherPairs 79 = .ok (.invokestatic 41, 3) := by decide +kernel
theorem dX3_gatherPairs_82 : decode cX3_gatherPairs 82 = .ok (.ifCond .eq 62, 3) := by decide +kernel
theorem dX3_gatherPairs_85 : decode cX3_gatherPairs 85 = .ok (.iload 4, 2) := by decide +kernel
theorem dX3_gatherPairs_87 : decode cX3_gatherPairs 87 = .ok (.aload_n 1, 1) := by decide +kernel
theorem dX3_gatherPairs_88 : decode cX3_gatherPairs 88 = .ok (.iload 7, 2) := by decide +kernel
theorem dX3_gatherPairs_90 : decode cX3_gatherPairs 90 = .ok (.invokevirtual 45, 3) := by decide +kernel
theorem dX3_gatherPairs_93 : decode cX3_gatherPairs 93 = .ok (.imul, 1) := by decide +kernel
theorem dX3_gatherPairs_94 : decode cX3_gatherPairs 94 = .ok (.iload 5, 2) := by decide +kernel
theorem dX3_gatherPairs_96 : decode cX3_gatherPairs 96 = .ok (.aload_n 1, 1) := by decide +kernel
theorem dX3_gatherPairs_97 : decode cX3_gatherPairs 97 = .ok (.iload 8, 2) := by decide +kernel
theorem dX3_gatherPairs_99 : decode cX3_gatherPairs 99 = .ok (.invokevirtual 45, 3) := by decide +kernel
theorem dX3_gatherPairs_102 : decode cX3_gatherPairs 102 = .ok (.imul, 1) := by decide +kernel
theorem dX3_gatherPairs_103 : decode cX3_gatherPairs 103 = .ok (.isub, 1) := by decide +kernel
theorem dX3_gatherPairs_104 : decode cX3_gatherPairs 104 = .ok (.istore 9, 2) := by decide +kernel
theorem dX3_gatherPairs_106 : decode cX3_gatherPairs 106 = .ok (.iload 4, 2) := by decide +kernel
theorem dX3_gatherPairs_108 : decode cX3_gatherPairs 108 = .ok (.aload_n 1, 1) := by decide +kernel
theorem dX3_gatherPairs_109 : decode cX3_gatherPairs 109 = .ok (.iload 7, 2) := by decide +kernel
theorem dX3_gatherPairs_111 : decode cX3_gatherPairs 111 = .ok (.invokevirtual 49, 3) := by decide +kernel
theorem dX3_gatherPairs_114 : decode cX3_gatherPairs 114 = .ok (.imul, 1) := by decide +kernel
theorem dX3_gatherPairs_115 : decode cX3_gatherPairs 115 = .ok (.iload 5, 2) := by decide +kernel
theorem dX3_gatherPairs_117 : decode cX3_gatherPairs 117 = .ok (.aload_n 1, 1) := by decide +kernel
theorem dX3_gatherPairs_118 : decode cX3_gatherPairs 118 = .ok (.iload 8, 2) := by decide +kernel
theorem dX3_gatherPairs_120 : decode cX3_gatherPairs 120 = .ok (.invokevirtual 49, 3) := by decide +kernel
theorem dX3_gatherPairs_123 : decode cX3_gatherPairs 123 = .ok (.imul, 1) := by decide +kernel
theorem dX3_gatherPairs_124 : decode cX3_gatherPairs 124 = .ok (.iadd, 1) := by decide +kernel
theorem dX3_gatherPairs_125 : decode cX3_gatherPairs 125 = .ok (.iload 6, 2) := by decide +kernel
theorem dX3_gatherPairs_127 : decode cX3_gatherPairs 127 = .ok (.isub, 1) := by decide +kernel
theorem dX3_gatherPairs_128 : decode cX3_gatherPairs 128 = .ok (.istore 10, 2) := by decide +kernel
theorem dX3_gatherPairs_130 : decode cX3_gatherPairs 130 = .ok (.aload_n 0, 1) := by decide +kernel
theorem dX3_gatherPairs_131 : decode cX3_gatherPairs 131 = .ok (.iload_n 3, 1) := by decide +kernel
theorem dX3_gatherPairs_132 : decode cX3_gatherPairs 132 = .ok (.iload 7, 2) := by decide +kernel
theorem dX3_gatherPairs_134 : decode cX3_gatherPairs 134 = .ok (.iload 8, 2) := by decide +kernel
theorem dX3_gatherPairs_136 : decode cX3_gatherPairs 136 = .ok (.iconst (-1), 1) := by decide +kernel
theorem dX3_gatherPairs_137 : decode cX3_gatherPairs 137 = .ok (.iload 9, 2) := by decide +kernel
theorem dX3_gatherPairs_139 : decode cX3_gatherPairs 139 = .ok (.iload 10, 2) := by decide +kernel
theorem dX3_gatherPairs_141 : decode cX3_gatherPairs 141 = .ok (.invokevirtual 52, 3) := by decide +kernel
theorem dX3_gatherPairs_144 : decode cX3_gatherPairs 144 = .ok (.iinc 8 1, 3) := by decide +kernel
theorem dX3_gatherPairs_147 : decode cX3_gatherPairs 147 = .ok (.goto (-98), 3) := by decide +kernel
theorem dX3_gatherPairs_150 : decode cX3_gatherPairs 150 = .ok (.iinc 7 1, 3) := by decide +kernel
theorem dX3_gatherPairs_153 : decode cX3_gatherPairs 153 = .ok (.goto (-116), 3) := by decide +kernel
theorem dX3_gatherPairs_156 : decode cX3_gatherPairs 156 = .ok (.return_, 1) := by decide +kernel
theorem dX3_gatherTriples_0 : decode cX3_gatherTriples 0 = .ok (.iconst 0, 1) := by decide +kernel
theorem dX3_gatherTriples_1 : decode cX3_gatherTriples 1 = .ok (.istore_n 3, 1) := by decide +kernel
theorem dX3_gatherTriples_2 : decode cX3_gatherTriples 2 = .ok (.iload_n 3, 1) := by decide +kernel
theorem dX3_gatherTriples_3 : decode cX3_gatherTriples 3 = .ok (.aload_n 1, 1) := by decide +kernel
theorem dX3_gatherTriples_4 : decode cX3_gatherTriples 4 = .ok (.getfield 38, 3) := by decide +kernel
theorem dX3_gatherTriples_7 : decode cX3_gatherTriples 7 = .ok (.if_icmp .ge 150, 3) := by decide +kernel
theorem dX3_gatherTriples_10 : decode cX3_gatherTriples 10 = .ok (.iload_n 3, 1) := by decide +kernel
theorem dX3_gatherTriples_11 : decode cX3_gatherTriples 11 = .ok (.iconst 1, 1) := by decide +kernel
theorem dX3_gatherTriples_12 : decode cX3_gatherTriples 12 = .ok (.iadd, 1) := by decide +kernel
theorem dX3_gatherTriples_13 : decode cX3_gatherTriples 13 = .ok (.istore 4, 2) := by decide +kernel
theorem dX3_gatherTriples_15 : decode cX3_gatherTriples 15 = .ok (.iload 4, 2) := by decide +kernel
theorem dX3_gatherTriples_17 : decode cX3_gatherTriples 17 = .ok (.aload_n 1, 1) := by decide +kernel
theorem dX3_gatherTriples_18 : decode cX3_gatherTriples 18 = .ok (.getfield 38, 3) := by decide +kernel
theorem dX3_gatherTriples_21 : decode cX3_gatherTriples 21 = .ok (.if_icmp .ge 130, 3) := by decide +kernel
theorem dX3_gatherTriples_24 : decode cX3_gatherTriples 24 = .ok (.iconst 0, 1) := by decide +kernel
theorem dX3_gatherTriples_25 : decode cX3_gatherTriples 25 = .ok (.istore 5, 2) := by decide +kernel
theorem dX3_gatherTriples_27 : decode cX3_gatherTriples 27 = .ok (.iload 5, 2) := by decide +kernel
theorem dX3_gatherTriples_29 : decode cX3_gatherTriples 29 = .ok (.aload_n 1, 1) := by decide +kernel
theorem dX3_gatherTriples_30 : decode cX3_gatherTriples 30 = .ok (.getfield 38, 3) := by decide +kernel
theorem dX3_gatherTriples_33 : decode cX3_gatherTriples 33 = .ok (.if_icmp .ge 112, 3) := by decide +kernel
theorem dX3_gatherTriples_36 : decode cX3_gatherTriples 36 = .ok (.iload 5, 2) := by decide +kernel
theorem dX3_gatherTriples_38 : decode cX3_gatherTriples 38 = .ok (.iload_n 3, 1) := by decide +kernel
theorem dX3_gatherTriples_39 : decode cX3_gatherTriples 39 = .ok (.if_icmp .eq 100, 3) := by decide +kernel
theorem dX3_gatherTriples_42 : decode cX3_gatherTriples 42 = .ok (.iload 5, 2) := by decide +kernel
theorem dX3_gatherTriples_44 : decode cX3_gatherTriples 44 = .ok (.iload 4, 2) := by decide +kernel
theorem dX3_gatherTriples_46 : decode cX3_gatherTriples 46 = .ok (.if_icmp .eq 93, 3) := by decide +kernel
theorem dX3_gatherTriples_49 : decode cX3_gatherTriples 49 = .ok (.iload_n 3, 1) := by decide +kernel
theorem dX3_gatherTriples_50 : decode cX3_gatherTriples 50 = .ok (.iload_n 2, 1) := by decide +kernel
theorem dX3_gatherTriples_51 : decode cX3_gatherTriples 51 = .ok (.i2l, 1) := by decide +kernel
theorem dX3_gatherTriples_52 : decode cX3_gatherTriples 52 = .ok (.invokestatic 41, 3) := by decide +kernel
theorem dX3_gatherTriples_55 : decode cX3_gatherTriples 55 = .ok (.ifCond .eq 84, 3) := by decide +kernel
theorem dX3_gatherTriples_58 : decode cX3_gatherTriples 58 = .ok (.iload 4, 2) := by decide +kernel
theorem dX3_gatherTriples_60 : decode cX3_gatherTriples 60 = .ok (.iload_n 2, 1) := by decide +kernel
theorem dX3_gatherTriples_61 : decode cX3_gatherTriples 61 = .ok (.i2l, 1) := by decide +kernel
theorem dX3_gatherTriples_62 : decode cX3_gatherTriples 62 = .ok (.invokestatic 41, 3) := by decide +kernel
theorem dX3_gatherTriples_65 : decode cX3_gatherTriples 65 = .ok (.ifCond .eq 74, 3) := by decide +kernel
theorem dX3_gatherTriples_68 : decode cX3_gatherTriples 68 = .ok (.iload 5, 2) := by decide +kernel
theorem dX3_gatherTriples_70 : decode cX3_gatherTriples 70 = .ok (.iload_n 2, 1) := by decide +kernel
theorem dX3_gatherTriples_71 : decode cX3_gatherTriples 71 = .ok (.i2l, 1) := by decide +kernel
theorem dX3_gatherTriples_72 : decode cX3_gatherTriples 72 = .ok (.invokestatic 41, 3) := by decide +kernel
theorem dX3_gatherTriples_75 : decode cX3_gatherTriples 75 = .ok (.ifCond .eq 64, 3) := by decide +kernel
theorem dX3_gatherTriples_78 : decode cX3_gatherTriples 78 = .ok (.aload_n 1, 1) := by decide +kernel
theorem dX3_gatherTriples_79 : decode cX3_gatherTriples 79 = .ok (.iload_n 3, 1) := by decide +kernel
theorem dX3_gatherTriples_80 : decode cX3_gatherTriples 80 = .ok (.invokevirtual 45, 3) := by decide +kernel
theorem dX3_gatherTriples_83 : decode cX3_gatherTriples 83 = .ok (.aload_n 1, 1) := by decide +kernel
theorem dX3_gatherTriples_84 : decode cX3_gatherTriples 84 = .ok (.iload 4, 2) := by decide +kernel
theorem dX3_gatherTriples_86 : decode cX3_gatherTriples 86 = .ok (.invokevirtual 45, 3) := by decide +kernel
theorem dX3_gatherTriples_89 : decode cX3_gatherTriples 89 = .ok (.iadd, 1) := by decide +kernel
theorem dX3_gatherTriples_90 : decode cX3_gatherTriples 90 = .ok (.aload_n 1, 1) := by decide +kernel
theorem dX3_gatherTriples_91 : decode cX3_gatherTriples 91 = .ok (.iload 5, 2) := by decide +kernel
theorem dX3_gatherTriples_93 : decode cX3_gatherTriples 93 = .ok (.invokevirtual 45, 3) := by decide +kernel
theorem dX3_gatherTriples_96 : decode cX3_gatherTriples 96 = .ok (.isub, 1) := by decide +kernel
theorem dX3_gatherTriples_97 : decode cX3_gatherTriples 97 = .ok (.istore 6, 2) := by decide +kernel
theorem dX3_gatherTriples_99 : decode cX3_gatherTriples 99 = .ok (.aload_n 1, 1) := by decide +kernel
theorem dX3_gatherTriples_100 : decode cX3_gatherTriples 100 = .ok (.iload_n 3, 1) := by decide +kernel
theorem dX3_gatherTriples_101 : decode cX3_gatherTriples 101 = .ok (.invokevirtual 49, 3) := by decide +kernel
theorem dX3_gatherTriples_104 : decode cX3_gatherTriples 104 = .ok (.aload_n 1, 1) := by decide +kernel
theorem dX3_gatherTriples_105 : decode cX3_gatherTriples 105 = .ok (.iload 4, 2) := by decide +kernel
theorem dX3_gatherTriples_107 : decode cX3_gatherTriples 107 = .ok (.invokevirtual 49, 3) := by decide +kernel
theorem dX3_gatherTriples_110 : decode cX3_gatherTriples 110 = .ok (.iadd, 1) := by decide +kernel
theorem dX3_gatherTriples_111 : decode cX3_gatherTriples 111 = .ok (.aload_n 1, 1) := by decide +kernel
theorem dX3_gatherTriples_112 : decode cX3_gatherTriples 112 = .ok (.iload 5, 2) := by decide +kernel
theorem dX3_gatherTriples_114 : decode cX3_gatherTriples 114 = .ok (.invokevirtual 49, 3) := by decide +kernel
theorem dX3_gatherTriples_117 : decode cX3_gatherTriples 117 = .ok (.iadd, 1) := by decide +kernel
theorem dX3_gatherTriples_118 : decode cX3_gatherTriples 118 = .ok (.aload_n 1, 1) := by decide +kernel
theorem dX3_gatherTriples_119 : decode cX3_gatherTriples 119 = .ok (.getfield 32, 3) := by decide +kernel
theorem dX3_gatherTriples_122 : decode cX3_gatherTriples 122 = .ok (.isub, 1) := by decide +kernel
theorem dX3_gatherTriples_123 : decode cX3_gatherTriples 123 = .ok (.istore 7, 2) := by decide +kernel
theorem dX3_gatherTriples_125 : decode cX3_gatherTriples 125 = .ok (.aload_n 0, 1) := by decide +kernel
theorem dX3_gatherTriples_126 : decode cX3_gatherTriples 126 = .ok (.iconst 1, 1) := by decide +kernel
theorem dX3_gatherTriples_127 : decode cX3_gatherTriples 127 = .ok (.iload_n 3, 1) := by decide +kernel
theorem dX3_gatherTriples_128 : decode cX3_gatherTriples 128 = .ok (.iload 4, 2) := by decide +kernel
theorem dX3_gatherTriples_130 : decode cX3_gatherTriples 130 = .ok (.iload 5, 2) := by decide +kernel
theorem dX3_gatherTriples_132 : decode cX3_gatherTriples 132 = .ok (.iload 6, 2) := by decide +kernel
theorem dX3_gatherTriples_134 : decode cX3_gatherTriples 134 = .ok (.iload 7, 2) := by decide +kernel
theorem dX3_gatherTriples_136 : decode cX3_gatherTriples 136 = .ok (.invokevirtual 52, 3) := by decide +kernel
theorem dX3_gatherTriples_139 : decode cX3_gatherTriples 139 = .ok (.iinc 5 1, 3) := by decide +kernel
theorem dX3_gatherTriples_142 : decode cX3_gatherTriples 142 = .ok (.goto (-115), 3) := by decide +kernel
theorem dX3_gatherTriples_145 : decode cX3_gatherTriples 145 = .ok (.iinc 4 1, 3) := by decide +kernel
theorem dX3_gatherTriples_148 : decode cX3_gatherTriples 148 = .ok (.goto (-133), 3) := by decide +kernel
theorem dX3_gatherTriples_151 : decode cX3_gatherTriples 151 = .ok (.iinc 3 1, 3) := by decide +kernel
theorem dX3_gatherTriples_154 : decode cX3_gatherTriples 154 = .ok (.goto (-152), 3) := by decide +kernel
theorem dX3_gatherTriples_157 : decode cX3_gatherTriples 157 = .ok (.return_, 1) := by decide +kernel
theorem dX3_put_0 : decode cX3_put 0 = .ok (.iload 5, 2) := by decide +kernel
theorem dX3_put_2 : decode cX3_put 2 = .ok (.invokestatic 56, 3) := by decide +kernel
theorem dX3_put_5 : decode cX3_put 5 = .ok (.ifCond .eq 25, 3) := by decide +kernel
theorem dX3_put_8 : decode cX3_put 8 = .ok (.iload 6, 2) := by decide +kernel
theorem dX3_put_10 : decode cX3_put 10 = .ok (.ifCond .lt 20, 3) := by decide +kernel
theorem dX3_put_13 : decode cX3_put 13 = .ok (.aload_n 0, 1) := by decide +kernel
theorem dX3_put_14 : decode cX3_put 14 = .ok (.getfield 15, 3) := by decide +kernel
theorem dX3_put_17 : decode cX3_put 17 = .ok (.ifCond .lt 13, 3) := by decide +kernel
theorem dX3_put_20 : decode cX3_put 20 = .ok (.aload_n 0, 1) := by decide +kernel
theorem dX3_put_21 : decode cX3_put 21 = .ok (.getfield 15, 3) := by decide +kernel
theorem dX3_put_24 : decode cX3_put 24 = .ok (.sipush 540, 3) := by decide +kernel
theorem dX3_put_27 : decode cX3_put 27 = .ok (.if_icmp .lt 4, 3) := by decide +kernel
theorem dX3_put_30 : decode cX3_put 30 = .ok (.return_, 1) := by decide +kernel
theorem dX3_put_31 : decode cX3_put 31 = .ok (.bipush 6, 2) := by decide +kernel
theorem dX3_put_33 : decode cX3_put 33 = .ok (.aload_n 0, 1) := by decide +kernel
theorem dX3_put_34 : decode cX3_put 34 = .ok (.getfield 15, 3) := by decide +kernel
theorem dX3_put_37 : decode cX3_put 37 = .ok (.imul, 1) := by decide +kernel
theorem dX3_put_38 : decode cX3_put 38 = .ok (.istore 7, 2) := by decide +kernel
theorem dX3_put_40 : decode cX3_put 40 = .ok (.aload_n 0, 1) := by decide +kernel
theorem dX3_put_41 : decode cX3_put 41 = .ok (.getfield 11, 3) := by decide +kernel
theorem dX3_put_44 : decode cX3_put 44 = .ok (.iload 7, 2) := by decide +kernel
theorem dX3_put_46 : decode cX3_put 46 = .ok (.iload_n 1, 1) := by decide +kernel
theorem dX3_put_47 : decode cX3_put 47 = .ok (.iastore, 1) := by decide +kernel
theorem dX3_put_48 : decode cX3_put 48 = .ok (.aload_n 0, 1) := by decide +kernel
theorem dX3_put_49 : decode cX3_put 49 = .ok (.getfield 11, 3) := by decide +kernel
theorem dX3_put_52 : decode cX3_put 52 = .ok (.iload 7, 2) := by decide +kernel
theorem dX3_put_54 : decode cX3_put 54 = .ok (.iconst 1, 1) := by decide +kernel
theorem dX3_put_55 : decode cX3_put 55 = .ok (.iadd, 1) := by decide +kernel
theorem dX3_put_56 : decode cX3_put 56 = .ok (.iload_n 2, 1) := by decide +kernel
theorem dX3_put_57 : decode cX3_put 57 = .ok (.iastore, 1) := by decide +kernel
theorem dX3_put_58 : decode cX3_put 58 = .ok (.aload_n 0, 1) := by decide +kernel
theorem dX3_put_59 : decode cX3_put 59 = .ok (.getfield 11, 3) := by decide +kernel
theorem dX3_put_62 : decode cX3_put 62 = .ok (.iload 7, 2) := by decide +kernel
theorem dX3_put_64 : decode cX3_put 64 = .ok (.iconst 2, 1) := by decide +kernel
theorem dX3_put_65 : decode cX3_put 65 = .ok (.iadd, 1) := by decide +kernel
theorem dX3_put_66 : decode cX3_put 66 = .ok (.iload_n 3, 1) := by decide +kernel
theorem dX3_put_67 : decode cX3_put 67 = .ok (.iastore, 1) := by decide +kernel
theorem dX3_put_68 : decode cX3_put 68 = .ok (.aload_n 0, 1) := by decide +kernel
theorem dX3_put_69 : decode cX3_put 69 = .ok (.getfield 11, 3) := by decide +kernel
theorem dX3_put_72 : decode cX3_put 72 = .ok (.iload 7, 2) := by decide +kernel
theorem dX3_put_74 : decode cX3_put 74 = .ok (.iconst 3, 1) := by decide +kernel
theorem dX3_put_75 : decode cX3_put 75 = .ok (.iadd, 1) := by decide +kernel
theorem dX3_put_76 : decode cX3_put 76 = .ok (.iload 4, 2) := by decide +kernel
theorem dX3_put_78 : decode cX3_put 78 = .ok (.iastore, 1) := by decide +kernel
theorem dX3_put_79 : decode cX3_put 79 = .ok (.aload_n 0, 1) := by decide +kernel
theorem dX3_put_80 : decode cX3_put 80 = .ok (.getfield 11, 3) := by decide +kernel
theorem dX3_put_83 : decode cX3_put 83 = .ok (.iload 7, 2) := by decide +kernel
theorem dX3_put_85 : decode cX3_put 85 = .ok (.iconst 4, 1) := by decide +kernel
theorem dX3_put_86 : decode cX3_put 86 = .ok (.iadd, 1) := by decide +kernel
theorem dX3_put_87 : decode cX3_put 87 = .ok (.iload 5, 2) := by decide +kernel
theorem dX3_put_89 : decode cX3_put 89 = .ok (.iastore, 1) := by decide +kernel
theorem dX3_put_90 : decode cX3_put 90 = .ok (.aload_n 0, 1) := by decide +kernel
theorem dX3_put_91 : decode cX3_put 91 = .ok (.getfield 11, 3) := by decide +kernel
theorem dX3_put_94 : decode cX3_put 94 = .ok (.iload 7, 2) := by decide +kernel
theorem dX3_put_96 : decode cX3_put 96 = .ok (.iconst 5, 1) := by decide +kernel
theorem dX3_put_97 : decode cX3_put 97 = .ok (.iadd, 1) := by decide +kernel
theorem dX3_put_98 : decode cX3_put 98 = .ok (.iload 6, 2) := by decide +kernel
theorem dX3_put_100 : decode cX3_put 100 = .ok (.iastore, 1) := by decide +kernel
theorem dX3_put_101 : decode cX3_put 101 = .ok (.aload_n 0, 1) := by decide +kernel
theorem dX3_put_102 : decode cX3_put 102 = .ok (.dup, 1) := by decide +kernel
theorem dX3_put_103 : decode cX3_put 103 = .ok (.getfield 15, 3) := by decide +kernel
theorem dX3_put_106 : decode cX3_put 106 = .ok (.iconst 1, 1) := by decide +kernel
theorem dX3_put_107 : decode cX3_put 107 = .ok (.iadd, 1) := by decide +kernel
theorem dX3_put_108 : decode cX3_put 108 = .ok (.putfield 15, 3) := by decide +kernel
theorem dX3_put_111 : decode cX3_put 111 = .ok (.return_, 1) := by decide +kernel
theorem dX3_fact_0 : decode cX3_fact 0 = .ok (.iload_n 1, 1) := by decide +kernel
theorem dX3_fact_1 : decode cX3_fact 1 = .ok (.ifCond .lt 28, 3) := by decide +kernel
theorem dX3_fact_4 : decode cX3_fact 4 = .ok (.iload_n 1, 1) := by decide +kernel
theorem dX3_fact_5 : decode cX3_fact 5 = .ok (.aload_n 0, 1) := by decide +kernel
theorem dX3_fact_6 : decode cX3_fact 6 = .ok (.getfield 15, 3) := by decide +kernel
theorem dX3_fact_9 : decode cX3_fact 9 = .ok (.if_icmp .ge 20, 3) := by decide +kernel
theorem dX3_fact_12 : decode cX3_fact 12 = .ok (.iload_n 1, 1) := by decide +kernel
theorem dX3_fact_13 : decode cX3_fact 13 = .ok (.sipush 540, 3) := by decide +kernel
theorem dX3_fact_16 : decode cX3_fact 16 = .ok (.if_icmp .ge 13, 3) := by decide +kernel
theorem dX3_fact_19 : decode cX3_fact 19 = .ok (.iload_n 2, 1) := by decide +kernel
theorem dX3_fact_20 : decode cX3_fact 20 = .ok (.ifCond .lt 9, 3) := by decide +kernel
theorem dX3_fact_23 : decode cX3_fact 23 = .ok (.iload_n 2, 1) := by decide +kernel
theorem dX3_fact_24 : decode cX3_fact 24 = .ok (.bipush 6, 2) := by decide +kernel
theorem dX3_fact_26 : decode cX3_fact 26 = .ok (.if_icmp .lt 5, 3) := by decide +kernel
theorem dX3_fact_29 : decode cX3_fact 29 = .ok (.iconst (-1), 1) := by decide +kernel
theorem dX3_fact_30 : decode cX3_fact 30 = .ok (.ireturn, 1) := by decide +kernel
theorem dX3_fact_31 : decode cX3_fact 31 = .ok (.aload_n 0, 1) := by decide +kernel
theorem dX3_fact_32 : decode cX3_fact 32 = .ok (.getfield 11, 3) := by decide +kernel
theorem dX3_fact_35 : decode cX3_fact 35 = .ok (.bipush 6, 2) := by decide +kernel
theorem dX3_fact_37 : decode cX3_fact 37 = .ok (.iload_n 1, 1) := by decide +kernel
theorem dX3_fact_38 : decode cX3_fact 38 = .ok (.imul, 1) := by decide +kernel
theorem dX3_fact_39 : decode cX3_fact 39 = .ok (.iload_n 2, 1) := by decide +kernel
theorem dX3_fact_40 : decode cX3_fact 40 = .ok (.iadd, 1) := by decide +kernel
theorem dX3_fact_41 : decode cX3_fact 41 = .ok (.iaload, 1) := by decide +kernel
theorem dX3_fact_42 : decode cX3_fact 42 = .ok (.ireturn, 1) := by decide +kernel
theorem dX3_channelSet_0 : decode cX3_channelSet 0 = .ok (.lconst 0, 1) := by decide +kernel
theorem dX3_channelSet_1 : decode cX3_channelSet 1 = .ok (.lstore_n 1, 1) := by decide +kernel
theorem dX3_channelSet_2 : decode cX3_channelSet 2 = .ok (.iconst 0, 1) := by decide +kernel
theorem dX3_channelSet_3 : decode cX3_channelSet 3 = .ok (.istore_n 3, 1) := by decide +kernel
theorem dX3_channelSet_4 : decode cX3_channelSet 4 = .ok (.iload_n 3, 1) := by decide +kernel
theorem dX3_channelSet_5 : decode cX3_channelSet 5 = .ok (.aload_n 0, 1) := by decide +kernel
theorem dX3_channelSet_6 : decode cX3_channelSet 6 = .ok (.getfield 15, 3) := by decide +kernel
theorem dX3_channelSet_9 : decode cX3_channelSet 9 = .ok (.if_icmp .ge 20, 3) := by decide +kernel
theorem dX3_channelSet_12 : decode cX3_channelSet 12 = .ok (.lload_n 1, 1) := by decide +kernel
theorem dX3_channelSet_13 : decode cX3_channelSet 13 = .ok (.lconst 1, 1) := by decide +kernel
theorem dX3_channelSet_14 : decode cX3_channelSet 14 = .ok (.aload_n 0, 1) := by decide +kernel
theorem dX3_channelSet_15 : decode cX3_channelSet 15 = .ok (.iload_n 3, 1) := by decide +kernel
theorem dX3_channelSet_16 : decode cX3_channelSet 16 = .ok (.iconst 4, 1) := by decide +kernel
theorem dX3_channelSet_17 : decode cX3_channelSet 17 = .ok (.invokevirtual 60, 3) := by decide +kernel
theorem dX3_channelSet_20 : decode cX3_channelSet 20 = .ok (.lshl, 1) := by decide +kernel
theorem dX3_channelSet_21 : decode cX3_channelSet 21 = .ok (.lor, 1) := by decide +kernel
theorem dX3_channelSet_22 : decode cX3_channelSet 22 = .ok (.lstore_n 1, 1) := by decide +kernel
theorem dX3_channelSet_23 : decode cX3_channelSet 23 = .ok (.iinc 3 1, 3) := by decide +kernel
theorem dX3_channelSet_26 : decode cX3_channelSet 26 = .ok (.goto (-22), 3) := by decide +kernel
theorem dX3_channelSet_29 : decode cX3_channelSet 29 = .ok (.lload_n 1, 1) := by decide +kernel
theorem dX3_channelSet_30 : decode cX3_channelSet 30 = .ok (.lreturn, 1) := by decide +kernel
theorem dX3_countNear_0 : decode cX3_countNear 0 = .ok (.iconst 0, 1) := by decide +kernel
theorem dX3_countNear_1 : decode cX3_countNear 1 = .ok (.istore_n 3, 1) := by decide +kernel
theorem dX3_countNear_2 : decode cX3_countNear 2 = .ok (.iconst 0, 1) := by decide +kernel
theorem dX3_countNear_3 : decode cX3_countNear 3 = .ok (.istore 4, 2) := by decide +kernel
theorem dX3_countNear_5 : decode cX3_countNear 5 = .ok (.iload 4, 2) := by decide +kernel
theorem dX3_countNear_7 : decode cX3_countNear 7 = .ok (.aload_n 0, 1) := by decide +kernel
theorem dX3_countNear_8 : decode cX3_countNear 8 = .ok (.getfield 15, 3) := by decide +kernel
theorem dX3_countNear_11 : decode cX3_countNear 11 = .ok (.if_icmp .ge 28, 3) := by decide +kernel
theorem dX3_countNear_14 : decode cX3_countNear 14 = .ok (.aload_n 0, 1) := by decide +kernel
theorem dX3_countNear_15 : decode cX3_countNear 15 = .ok (.iload 4, 2) := by decide +kernel
theorem dX3_countNear_17 : decode cX3_countNear 17 = .ok (.iconst 4, 1) := by decide +kernel
theorem dX3_countNear_18 : decode cX3_countNear 18 = .ok (.invokevirtual 60, 3) := by decide +kernel
theorem dX3_countNear_21 : decode cX3_countNear 21 = .ok (.iload_n 1, 1) := by decide +kernel
theorem dX3_countNear_22 : decode cX3_countNear 22 = .ok (.isub, 1) := by decide +kernel
theorem dX3_countNear_23 : decode cX3_countNear 23 = .ok (.invokestatic 64, 3) := by decide +kernel
theorem dX3_countNear_26 : decode cX3_countNear 26 = .ok (.iload_n 2, 1) := by decide +kernel
theorem dX3_countNear_27 : decode cX3_countNear 27 = .ok (.if_icmp .gt 6, 3) := by decide +kernel
theorem dX3_countNear_30 : decode cX3_countNear 30 = .ok (.iinc 3 1, 3) := by decide +kernel
theorem dX3_countNear_33 : decode cX3_countNear 33 = .ok (.iinc 4 1, 3) := by decide +kernel
theorem dX3_countNear_36 : decode cX3_countNear 36 = .ok (.goto (-31), 3) := by decide +kernel
theorem dX3_countNear_39 : decode cX3_countNear 39 = .ok (.iload_n 3, 1) := by decide +kernel
theorem dX3_countNear_40 : decode cX3_countNear 40 = .ok (.ireturn, 1) := by decide +kernel
theorem dX4_init_0 : decode cX4_init 0 = .ok (.aload_n 0, 1) := by decide +kernel
theorem dX4_init_1 : decode cX4_init 1 = .ok (.invokespecial 3, 3) := by decide +kernel
theorem dX4_init_4 : decode cX4_init 4 = .ok (.aload_n 0, 1) := by decide +kernel
theorem dX4_init_5 : decode cX4_init 5 = .ok (.bipush 120, 2) := by decide +kernel
theorem dX4_init_7 : decode cX4_init 7 = .ok (.newarray .int, 2) := by decide +kernel
theorem dX4_init_9 : decode cX4_init 9 = .ok (.putfield 9, 3) := by decide +kernel
theorem dX4_init_12 : decode cX4_init 12 = .ok (.return_, 1) := by decide +kernel
theorem dX4_put_0 : decode cX4_put 0 = .ok (.aload_n 0, 1) := by decide +kernel
theorem dX4_put_1 : decode cX4_put 1 = .ok (.getfield 15, 3) := by decide +kernel
theorem dX4_put_4 : decode cX4_put 4 = .ok (.ifCond .lt 32, 3) := by decide +kernel
theorem dX4_put_7 : decode cX4_put 7 = .ok (.aload_n 0, 1) := by decide +kernel
theorem dX4_put_8 : decode cX4_put 8 = .ok (.getfield 15, 3) := by decide +kernel
theorem dX4_put_11 : decode cX4_put 11 = .ok (.bipush 120, 2) := by decide +kernel
theorem dX4_put_13 : decode cX4_put 13 = .ok (.if_icmp .ge 23, 3) := by decide +kernel
theorem dX4_put_16 : decode cX4_put 16 = .ok (.aload_n 0, 1) := by decide +kernel
theorem dX4_put_17 : decode cX4_put 17 = .ok (.getfield 9, 3) := by decide +kernel
theorem dX4_put_20 : decode cX4_put 20 = .ok (.aload_n 0, 1) := by decide +kernel
theorem dX4_put_21 : decode cX4_put 21 = .ok (.getfield 15, 3) := by decide +kernel
theorem dX4_put_24 : decode cX4_put 24 = .ok (.iload_n 1, 1) := by decide +kernel
theorem dX4_put_25 : decode cX4_put 25 = .ok (.iastore, 1) := by decide +kernel
theorem dX4_put_26 : decode cX4_put 26 = .ok (.aload_n 0, 1) := by decide +kernel
theorem dX4_put_27 : decode cX4_put 27 = .ok (.dup, 1) := by decide +kernel
theorem dX4_put_28 : decode cX4_put 28 = .ok (.getfield 15, 3) := by decide +kernel
theorem dX4_put_31 : decode cX4_put 31 = .ok (.iconst 1, 1) := by decide +kernel
theorem dX4_put_32 : decode cX4_put 32 = .ok (.iadd, 1) := by decide +kernel
theorem dX4_put_33 : decode cX4_put 33 = .ok (.putfield 15, 3) := by decide +kernel
theorem dX4_put_36 : decode cX4_put 36 = .ok (.return_, 1) := by decide +kernel
theorem dX5_init_0 : decode cX5_init 0 = .ok (.aload_n 0, 1) := by decide +kernel
theorem dX5_init_1 : decode cX5_init 1 = .ok (.invokespecial 1, 3) := by decide +kernel
theorem dX5_init_4 : decode cX5_init 4 = .ok (.aload_n 0, 1) := by decide +kernel
theorem dX5_init_5 : decode cX5_init 5 = .ok (.new 7, 3) := by decide +kernel
theorem dX5_init_8 : decode cX5_init 8 = .ok (.dup, 1) := by decide +kernel
theorem dX5_init_9 : decode cX5_init 9 = .ok (.invokespecial 9, 3) := by decide +kernel
theorem dX5_init_12 : decode cX5_init 12 = .ok (.putfield 10, 3) := by decide +kernel
theorem dX5_init_15 : decode cX5_init 15 = .ok (.aload_n 0, 1) := by decide +kernel
theorem dX5_init_16 : decode cX5_init 16 = .ok (.new 7, 3) := by decide +kernel
theorem dX5_init_19 : decode cX5_init 19 = .ok (.dup, 1) := by decide +kernel
theorem dX5_init_20 : decode cX5_init 20 = .ok (.invokespecial 9, 3) := by decide +kernel
theorem dX5_init_23 : decode cX5_init 23 = .ok (.putfield 16, 3) := by decide +kernel
theorem dX5_init_26 : decode cX5_init 26 = .ok (.aload_n 0, 1) := by decide +kernel
theorem dX5_init_27 : decode cX5_init 27 = .ok (.new 19, 3) := by decide +kernel
theorem dX5_init_30 : decode cX5_init 30 = .ok (.dup, 1) := by decide +kernel
theorem dX5_init_31 : decode cX5_init 31 = .ok (.invokespecial 21, 3) := by decide +kernel
theorem dX5_init_34 : decode cX5_init 34 = .ok (.putfield 22, 3) := by decide +kernel
theorem dX5_init_37 : decode cX5_init 37 = .ok (.aload_n 0, 1) := by decide +kernel
theorem dX5_init_38 : decode cX5_init 38 = .ok (.new 26, 3) := by decide +kernel
theorem dX5_init_41 : decode cX5_init 41 = .ok (.dup, 1) := by decide +kernel
theorem dX5_init_42 : decode cX5_init 42 = .ok (.invokespecial 28, 3) := by decide +kernel
theorem dX5_init_45 : decode cX5_init 45 = .ok (.putfield 29, 3) := by decide +kernel
theorem dX5_init_48 : decode cX5_init 48 = .ok (.aload_n 0, 1) := by decide +kernel
theorem dX5_init_49 : decode cX5_init 49 = .ok (.new 33, 3) := by decide +kernel
theorem dX5_init_52 : decode cX5_init 52 = .ok (.dup, 1) := by decide +kernel
theorem dX5_init_53 : decode cX5_init 53 = .ok (.invokespecial 35, 3) := by decide +kernel
theorem dX5_init_56 : decode cX5_init 56 = .ok (.putfield 36, 3) := by decide +kernel
theorem dX5_init_59 : decode cX5_init 59 = .ok (.aload_n 0, 1) := by decide +kernel
theorem dX5_init_60 : decode cX5_init 60 = .ok (.new 40, 3) := by decide +kernel
theorem dX5_init_63 : decode cX5_init 63 = .ok (.dup, 1) := by decide +kernel
theorem dX5_init_64 : decode cX5_init 64 = .ok (.invokespecial 42, 3) := by decide +kernel
theorem dX5_init_67 : decode cX5_init 67 = .ok (.putfield 43, 3) := by decide +kernel
theorem dX5_init_70 : decode cX5_init 70 = .ok (.aload_n 0, 1) := by decide +kernel
theorem dX5_init_71 : decode cX5_init 71 = .ok (.iconst 5, 1) := by decide +kernel
theorem dX5_init_72 : decode cX5_init 72 = .ok (.newarray .long, 2) := by decide +kernel
theorem dX5_init_74 : decode cX5_init 74 = .ok (.putfield 47, 3) := by decide +kernel
theorem dX5_init_77 : decode cX5_init 77 = .ok (.return_, 1) := by decide +kernel
theorem dX5_addCarrier_0 : decode cX5_addCarrier 0 = .ok (.iload_n 1, 1) := by decide +kernel
theorem dX5_addCarrier_1 : decode cX5_addCarrier 1 = .ok (.invokestatic 51, 3) := by decide +kernel
theorem dX5_addCarrier_4 : decode cX5_addCarrier 4 = .ok (.ifCond .eq 22, 3) := by decide +kernel
theorem dX5_addCarrier_7 : decode cX5_addCarrier 7 = .ok (.iload_n 2, 1) := by decide +kernel
theorem dX5_addCarrier_8 : decode cX5_addCarrier 8 = .ok (.invokestatic 55, 3) := by decide +kernel
theorem dX5_addCarrier_11 : decode cX5_addCarrier 11 = .ok (.ifCond .eq 15, 3) := by decide +kernel
theorem dX5_addCarrier_14 : decode cX5_addCarrier 14 = .ok (.aload_n 0, 1) := by decide +kernel
theorem dX5_addCarrier_15 : decode cX5_addCarrier 15 = .ok (.getfield 10, 3) := by decide +kernel
theorem dX5_addCarrier_18 : decode cX5_addCarrier 18 = .ok (.iload_n 1, 1) := by decide +kernel
theorem dX5_addCarrier_19 : decode cX5_addCarrier 19 = .ok (.invokevirtual 58, 3) := by decide +kernel
theorem dX5_addCarrier_22 : decode cX5_addCarrier 22 = .ok (.iconst (-1), 1) := by decide +kernel
theorem dX5_addCarrier_23 : decode cX5_addCarrier 23 = .ok (.if_icmp .eq 13, 3) := by decide +kernel
theorem dX5_addCarrier_26 : decode cX5_addCarrier 26 = .ok (.new 62, 3) := by decide +kernel
theorem dX5_addCarrier_29 : decode cX5_addCarrier 29 = .ok (.dup, 1) := by decide +kernel
theorem dX5_addCarrier_30 : decode cX5_addCarrier 30 = .ok (.ldc 64, 2) := by decide +kernel
theorem dX5_addCarrier_32 : decode cX5_addCarrier 32 = .ok (.invokespecial 66, 3) := by decide +kernel
theorem dX5_addCarrier_35 : decode cX5_addCarrier 35 = .ok (.athrow, 1) := by decide +kernel
theorem dX5_addCarrier_36 : decode cX5_addCarrier 36 = .ok (.aload_n 0, 1) := by decide +kernel
theorem dX5_addCarrier_37 : decode cX5_addCarrier 37 = .ok (.invokevirtual 69, 3) := by decide +kernel
theorem dX5_addCarrier_40 : decode cX5_addCarrier 40 = .ok (.aload_n 0, 1) := by decide +kernel
theorem dX5_addCarrier_41 : decode cX5_addCarrier 41 = .ok (.getfield 22, 3) := by decide +kernel
theorem dX5_addCarrier_44 : decode cX5_addCarrier 44 = .ok (.aload_n 0, 1) := by decide +kernel
theorem dX5_addCarrier_45 : decode cX5_addCarrier 45 = .ok (.getfield 10, 3) := by decide +kernel
theorem dX5_addCarrier_48 : decode cX5_addCarrier 48 = .ok (.invokevirtual 72, 3) := by decide +kernel
theorem dX5_addCarrier_51 : decode cX5_addCarrier 51 = .ok (.aload_n 0, 1) := by decide +kernel
theorem dX5_addCarrier_52 : decode cX5_addCarrier 52 = .ok (.getfield 10, 3) := by decide +kernel
theorem dX5_addCarrier_55 : decode cX5_addCarrier 55 = .ok (.iload_n 1, 1) := by decide +kernel
theorem dX5_addCarrier_56 : decode cX5_addCarrier 56 = .ok (.iload_n 2, 1) := by decide +kernel
theorem dX5_addCarrier_57 : decode cX5_addCarrier 57 = .ok (.invokevirtual 76, 3) := by decide +kernel
theorem dX5_addCarrier_60 : decode cX5_addCarrier 60 = .ok (.aload_n 0, 1) := by decide +kernel
theorem dX5_addCarrier_61 : decode cX5_addCarrier 61 = .ok (.getfield 10, 3) := by decide +kernel
theorem dX5_addCarrier_64 : decode cX5_addCarrier 64 = .ok (.getfield 80, 3) := by decide +kernel
theorem dX5_addCarrier_67 : decode cX5_addCarrier 67 = .ok (.iconst 1, 1) := by decide +kernel
theorem dX5_addCarrier_68 : decode cX5_addCarrier 68 = .ok (.isub, 1) := by decide +kernel
theorem dX5_addCarrier_69 : decode cX5_addCarrier 69 = .ok (.ireturn, 1) := by decide +kernel
theorem dX5_moveCarrier_0 : decode cX5_moveCarrier 0 = .ok (.aload_n 0, 1) := by decide +kernel
theorem dX5_moveCarrier_1 : decode cX5_moveCarrier 1 = .ok (.iload_n 1, 1) := by decide +kernel
theorem dX5_moveCarrier_2 : decode cX5_moveCarrier 2 = .ok (.invokevirtual 84, 3) := by decide +kernel
theorem dX5_moveCarrier_5 : decode cX5_moveCarrier 5 = .ok (.iload_n 2, 1) := by decide +kernel
theorem dX5_moveCarrier_6 : decode cX5_moveCarrier 6 = .ok (.invokestatic 51, 3) := by decide +kernel
theorem dX5_moveCarrier_9 : decode cX5_moveCarrier 9 = .ok (.ifCond .eq 10, 3) := by decide +kernel
theorem dX5_moveCarrier_12 : decode cX5_moveCarrier 12 = .ok (.iload_n 3, 1) := by decide +kernel
theorem dX5_moveCarrier_13 : decode cX5_moveCarrier 13 = .ok (.invokestatic 55, 3) := by decide +kernel
theorem dX5_moveCarrier_16 : decode cX5_moveCarrier 16 = .ok (.ifCond .ne 13, 3) := by decide +kernel
theorem dX5_moveCarrier_19 : decode cX5_moveCarrier 19 = .ok (.new 62, 3) := by decide +kernel
theorem dX5_moveCarrier_22 : decode cX5_moveCarrier 22 = .ok (.dup, 1) := by decide +kernel
theorem dX5_moveCarrier_23 : decode cX5_moveCarrier 23 = .ok (.ldc 88, 2) := by decide +kernel
theorem dX5_moveCarrier_25 : decode cX5_moveCarrier 25 = .ok (.invokespecial 66, 3) := by decide +kernel
theorem dX5_moveCarrier_28 : decode cX5_moveCarrier 28 = .ok (.athrow, 1) := by decide +kernel
theorem dX5_moveCarrier_29 : decode cX5_moveCarrier 29 = .ok (.aload_n 0, 1) := by decide +kernel
theorem dX5_moveCarrier_30 : decode cX5_moveCarrier 30 = .ok (.getfield 10, 3) := by decide +kernel
theorem dX5_moveCarrier_33 : decode cX5_moveCarrier 33 = .ok (.iload_n 2, 1) := by decide +kernel
theorem dX5_moveCarrier_34 : decode cX5_moveCarrier 34 = .ok (.invokevirtual 58, 3) := by decide +kernel
theorem dX5_moveCarrier_37 : decode cX5_moveCarrier 37 = .ok (.istore 4, 2) := by decide +kernel
theorem dX5_moveCarrier_39 : decode cX5_moveCarrier 39 = .ok (.iload 4, 2) := by decide +kernel
theorem dX5_moveCarrier_41 : decode cX5_moveCarrier 41 = .ok (.iconst (-1), 1) := by decide +kernel
theorem dX5_moveCarrier_42 : decode cX5_moveCarrier 42 = .ok (.if_icmp .eq 19, 3) := by decide +kernel
theorem dX5_moveCarrier_45 : decode cX5_moveCarrier 45 = .ok (.iload 4, 2) := by decide +kernel
theorem dX5_moveCarrier_47 : decode cX5_moveCarrier 47 = .ok (.iload_n 1, 1) := by decide +kernel
theorem dX5_moveCarrier_48 : decode cX5_moveCarrier 48 = .ok (.if_icmp .eq 13, 3) := by decide +kernel
theorem dX5_moveCarrier_51 : decode cX5_moveCarrier 51 = .ok (.new 62, 3) := by decide +kernel
theorem dX5_moveCarrier_54 : decode cX5_moveCarrier 54 = .ok (.dup, 1) := by decide +kernel
theorem dX5_moveCarrier_55 : decode cX5_moveCarrier 55 = .ok (.ldc 90, 2) := by decide +kernel
theorem dX5_moveCarrier_57 : decode cX5_moveCarrier 57 = .ok (.invokespecial 66, 3) := by decide +kernel
theorem dX5_moveCarrier_60 : decode cX5_moveCarrier 60 = .ok (.athrow, 1) := by decide +kernel
theorem dX5_moveCarrier_61 : decode cX5_moveCarrier 61 = .ok (.aload_n 0, 1) := by decide +kernel
theorem dX5_moveCarrier_62 : decode cX5_moveCarrier 62 = .ok (.getfield 22, 3) := by decide +kernel
theorem dX5_moveCarrier_65 : decode cX5_moveCarrier 65 = .ok (.aload_n 0, 1) := by decide +kernel
theorem dX5_moveCarrier_66 : decode cX5_moveCarrier 66 = .ok (.getfield 10, 3) := by decide +kernel
theorem dX5_moveCarrier_69 : decode cX5_moveCarrier 69 = .ok (.invokevirtual 72, 3) := by decide +kernel
theorem dX5_moveCarrier_72 : decode cX5_moveCarrier 72 = .ok (.aload_n 0, 1) := by decide +kernel
theorem dX5_moveCarrier_73 : decode cX5_moveCarrier 73 = .ok (.getfield 10, 3) := by decide +kernel
theorem dX5_moveCarrier_76 : decode cX5_moveCarrier 76 = .ok (.iload_n 1, 1) := by decide +kernel
theorem dX5_moveCarrier_77 : decode cX5_moveCarrier 77 = .ok (.invokevirtual 92, 3) := by decide +kernel
theorem dX5_moveCarrier_80 : decode cX5_moveCarrier 80 = .ok (.istore 5, 2) := by decide +kernel
theorem dX5_moveCarrier_82 : decode cX5_moveCarrier 82 = .ok (.aload_n 0, 1) := by decide +kernel
theorem dX5_moveCarrier_83 : decode cX5_moveCarrier 83 = .ok (.getfield 10, 3) := by decide +kernel
theorem dX5_moveCarrier_86 : decode cX5_moveCarrier 86 = .ok (.iload_n 1, 1) := by decide +kernel
theorem dX5_moveCarrier_87 : decode cX5_moveCarrier 87 = .ok (.iload_n 2, 1) := by decide +kernel
theorem dX5_moveCarrier_88 : decode cX5_moveCarrier 88 = .ok (.iload_n 3, 1) := by decide +kernel
theorem dX5_moveCarrier_89 : decode cX5_moveCarrier 89 = .ok (.invokevirtual 95, 3) := by decide +kernel
theorem dX5_moveCarrier_92 : decode cX5_moveCarrier 92 = .ok (.iload 5, 2) := by decide +kernel
theorem dX5_moveCarrier_94 : decode cX5_moveCarrier 94 = .ok (.ireturn, 1) := by decide +kernel
theorem dX5_removeCarrier_0 : decode cX5_removeCarrier 0 = .ok (.aload_n 0, 1) := by decide +kernel
theorem dX5_removeCarrier_1 : decode cX5_removeCarrier 1 = .ok (.iload_n 1, 1) := by decide +kernel
theorem dX5_removeCarrier_2 : decode cX5_removeCarrier 2 = .ok (.invokevirtual 84, 3) := by decide +kernel
theorem dX5_removeCarrier_5 : decode cX5_removeCarrier 5 = .ok (.aload_n 0, 1) := by decide +kernel
theorem dX5_removeCarrier_6 : decode cX5_removeCarrier 6 = .ok (.getfield 22, 3) := by decide +kernel
theorem dX5_removeCarrier_9 : decode cX5_removeCarrier 9 = .ok (.aload_n 0, 1) := by decide +kernel
theorem dX5_removeCarrier_10 : decode cX5_removeCarrier 10 = .ok (.getfield 10, 3) := by decide +kernel
theorem dX5_removeCarrier_13 : decode cX5_removeCarrier 13 = .ok (.invokevirtual 72, 3) := by decide +kernel
theorem dX5_removeCarrier_16 : decode cX5_removeCarrier 16 = .ok (.aload_n 0, 1) := by decide +kernel
theorem dX5_removeCarrier_17 : decode cX5_removeCarrier 17 = .ok (.getfield 10, 3) := by decide +kernel
theorem dX5_removeCarrier_20 : decode cX5_removeCarrier 20 = .ok (.iload_n 1, 1) := by decide +kernel
theorem dX5_removeCarrier_21 : decode cX5_removeCarrier 21 = .ok (.invokevirtual 99, 3) := by decide +kernel
theorem dX5_removeCarrier_24 : decode cX5_removeCarrier 24 = .ok (.aload_n 0, 1) := by decide +kernel
theorem dX5_removeCarrier_25 : decode cX5_removeCarrier 25 = .ok (.getfield 10, 3) := by decide +kernel
theorem dX5_removeCarrier_28 : decode cX5_removeCarrier 28 = .ok (.getfield 80, 3) := by decide +kernel
theorem dX5_removeCarrier_31 : decode cX5_removeCarrier 31 = .ok (.ireturn, 1) := by decide +kernel
theorem dX5_shift_0 : decode cX5_shift 0 = .ok (.iload_n 1, 1) := by decide +kernel
theorem dX5_shift_1 : decode cX5_shift 1 = .ok (.bipush (-64), 2) := by decide +kernel
theorem dX5_shift_3 : decode cX5_shift 3 = .ok (.if_icmp .le 9, 3) := by decide +kernel
theorem dX5_shift_6 : decode cX5_shift 6 = .ok (.iload_n 1, 1) := by decide +kernel
theorem dX5_shift_7 : decode cX5_shift 7 = .ok (.bipush 64, 2) := by decide +kernel
theorem dX5_shift_9 : decode cX5_shift 9 = .ok (.if_icmp .lt 13, 3) := by decide +kernel
theorem dX5_shift_12 : decode cX5_shift 12 = .ok (.new 62, 3) := by decide +kernel
theorem dX5_shift_15 : decode cX5_shift 15 = .ok (.dup, 1) := by decide +kernel
theorem dX5_shift_16 : decode cX5_shift 16 = .ok (.ldc 102, 2) := by decide +kernel
theorem dX5_shift_18 : decode cX5_shift 18 = .ok (.invokespecial 66, 3) := by decide +kernel
theorem dX5_shift_21 : decode cX5_shift 21 = .ok (.athrow, 1) := by decide +kernel
theorem dX5_shift_22 : decode cX5_shift 22 = .ok (.iconst 0, 1) := by decide +kernel
theorem dX5_shift_23 : decode cX5_shift 23 = .ok (.istore_n 2, 1) := by decide +kernel
theorem dX5_shift_24 : decode cX5_shift 24 = .ok (.iload_n 2, 1) := by decide +kernel
theorem dX5_shift_25 : decode cX5_shift 25 = .ok (.aload_n 0, 1) := by decide +kernel
theorem dX5_shift_26 : decode cX5_shift 26 = .ok (.getfield 10, 3) := by decide +kernel
theorem dX5_shift_29 : decode cX5_shift 29 = .ok (.getfield 80, 3) := by decide +kernel
theorem dX5_shift_32 : decode cX5_shift 32 = .ok (.if_icmp .ge 35, 3) := by decide +kernel
theorem dX5_shift_35 : decode cX5_shift 35 = .ok (.aload_n 0, 1) := by decide +kernel
theorem dX5_shift_36 : decode cX5_shift 36 = .ok (.getfield 10, 3) := by decide +kernel
theorem dX5_shift_39 : decode cX5_shift 39 = .ok (.iload_n 2, 1) := by decide +kernel
theorem dX5_shift_40 : decode cX5_shift 40 = .ok (.invokevirtual 92, 3) := by decide +kernel
theorem dX5_shift_43 : decode cX5_shift 43 = .ok (.iload_n 1, 1) := by decide +kernel
theorem dX5_shift_44 : decode cX5_shift 44 = .ok (.iadd, 1) := by decide +kernel
theorem dX5_shift_45 : decode cX5_shift 45 = .ok (.invokestatic 51, 3) := by decide +kernel
theorem dX5_shift_48 : decode cX5_shift 48 = .ok (.ifCond .ne 13, 3) := by decide +kernel
theorem dX5_shift_51 : decode cX5_shift 51 = .ok (.new 104, 3) := by decide +kernel
theorem dX5_shift_54 : decode cX5_shift 54 = .ok (.dup, 1) := by decide +kernel
theorem dX5_shift_55 : decode cX5_shift 55 = .ok (.ldc 106, 2) := by decide +kernel
theorem dX5_shift_57 : decode cX5_shift 57 = .ok (.invokespecial 108, 3) := by decide +kernel
theorem dX5_shift_60 : decode cX5_shift 60 = .ok (.athrow, 1) := by decide +kernel
theorem dX5_shift_61 : decode cX5_shift 61 = .ok (.iinc 2 1, 3) := by decide +kernel
theorem dX5_shift_64 : decode cX5_shift 64 = .ok (.goto (-40), 3) := by decide +kernel
theorem dX5_shift_67 : decode cX5_shift 67 = .ok (.aload_n 0, 1) := by decide +kernel
theorem dX5_shift_68 : decode cX5_shift 68 = .ok (.getfield 22, 3) := by decide +kernel
theorem dX5_shift_71 : decode cX5_shift 71 = .ok (.aload_n 0, 1) := by decide +kernel
theorem dX5_shift_72 : decode cX5_shift 72 = .ok (.getfield 10, 3) := by decide +kernel
theorem dX5_shift_75 : decode cX5_shift 75 = .ok (.invokevirtual 72, 3) := by decide +kernel
theorem dX5_shift_78 : decode cX5_shift 78 = .ok (.aload_n 0, 1) := by decide +kernel
theorem dX5_shift_79 : decode cX5_shift 79 = .ok (.getfield 10, 3) := by decide +kernel
theorem dX5_shift_82 : decode cX5_shift 82 = .ok (.iload_n 1, 1) := by decide +kernel
theorem dX5_shift_83 : decode cX5_shift 83 = .ok (.invokevirtual 109, 3) := by decide +kernel
theorem dX5_shift_86 : decode cX5_shift 86 = .ok (.aload_n 0, 1) := by decide +kernel
theorem dX5_shift_87 : decode cX5_shift 87 = .ok (.getfield 10, 3) := by decide +kernel
theorem dX5_shift_90 : decode cX5_shift 90 = .ok (.getfield 80, 3) := by decide +kernel
theorem dX5_shift_93 : decode cX5_shift 93 = .ok (.ireturn, 1) := by decide +kernel
theorem dX5_setProducts_0 : decode cX5_setProducts 0 = .ok (.iload_n 1, 1) := by decide +kernel
theorem dX5_setProducts_1 : decode cX5_setProducts 1 = .ok (.iconst 0, 1) := by decide +kernel
theorem dX5_setProducts_2 : decode cX5_setProducts 2 = .ok (.bipush 7, 2) := by decide +kernel
theorem dX5_setProducts_4 : decode cX5_setProducts 4 = .ok (.invokestatic 112, 3) := by decide +kernel
theorem dX5_setProducts_7 : decode cX5_setProducts 7 = .ok (.ifCond .eq 25, 3) := by decide +kernel
theorem dX5_setProducts_10 : decode cX5_setProducts 10 = .ok (.iload_n 2, 1) := by decide +kernel
theorem dX5_setProducts_11 : decode cX5_setProducts 11 = .ok (.iconst 0, 1) := by decide +kernel
theorem dX5_setProducts_12 : decode cX5_setProducts 12 = .ok (.sipush 300, 3) := by decide +kernel
theorem dX5_setProducts_15 : decode cX5_setProducts 15 = .ok (.invokestatic 112, 3) := by decide +kernel
theorem dX5_setProducts_18 : decode cX5_setProducts 18 = .ok (.ifCond .eq 14, 3) := by decide +kernel
theorem dX5_setProducts_21 : decode cX5_setProducts 21 = .ok (.iload_n 3, 1) := by decide +kernel
theorem dX5_setProducts_22 : decode cX5_setProducts 22 = .ok (.iconst 0, 1) := by decide +kernel
theorem dX5_setProducts_23 : decode cX5_setProducts 23 = .ok (.sipush 300, 3) := by decide +kernel
theorem dX5_setProducts_26 : decode cX5_setProducts 26 = .ok (.invokestatic 112, 3) := by decide +kernel
theorem dX5_setProducts_29 : decode cX5_setProducts 29 = .ok (.ifCond .ne 13, 3) := by decide +kernel
theorem dX5_setProducts_32 : decode cX5_setProducts 32 = .ok (.new 62, 3) := by decide +kernel
theorem dX5_setProducts_35 : decode cX5_setProducts 35 = .ok (.dup, 1) := by decide +kernel
theorem dX5_setProducts_36 : decode cX5_setProducts 36 = .ok (.ldc 116, 2) := by decide +kernel
theorem dX5_setProducts_38 : decode cX5_setProducts 38 = .ok (.invokespecial 66, 3) := by decide +kernel
theorem dX5_setProducts_41 : decode cX5_setProducts 41 = .ok (.athrow, 1) := by decide +kernel
theorem dX5_setProducts_42 : decode cX5_setProducts 42 = .ok (.aload_n 0, 1) := by decide +kernel
theorem dX5_setProducts_43 : decode cX5_setProducts 43 = .ok (.getfield 22, 3) := by decide +kernel
theorem dX5_setProducts_46 : decode cX5_setProducts 46 = .ok (.aload_n 0, 1) := by decide +kernel
theorem dX5_setProducts_47 : decode cX5_setProducts 47 = .ok (.getfield 10, 3) := by decide +kernel
theorem dX5_setProducts_50 : decode cX5_setProducts 50 = .ok (.invokevirtual 72, 3) := by decide +kernel
theorem dX5_setProducts_53 : decode cX5_setProducts 53 = .ok (.aload_n 0, 1) := by decide +kernel
theorem dX5_setProducts_54 : decode cX5_setProducts 54 = .ok (.getfield 10, 3) := by decide +kernel
theorem dX5_setProducts_57 : decode cX5_setProducts 57 = .ok (.getfield 118, 3) := by decide +kernel
theorem dX5_setProducts_60 : decode cX5_setProducts 60 = .ok (.istore 4, 2) := by decide +kernel
theorem dX5_setProducts_62 : decode cX5_setProducts 62 = .ok (.aload_n 0, 1) := by decide +kernel
theorem dX5_setProducts_63 : decode cX5_setProducts 63 = .ok (.getfield 10, 3) := by decide +kernel
theorem dX5_setProducts_66 : decode cX5_setProducts 66 = .ok (.iload_n 1, 1) := by decide +kernel
theorem dX5_setProducts_67 : decode cX5_setProducts 67 = .ok (.putfield 118, 3) := by decide +kernel
theorem dX5_setProducts_70 : decode cX5_setProducts 70 = .ok (.aload_n 0, 1) := by decide +kernel
theorem dX5_setProducts_71 : decode cX5_setProducts 71 = .ok (.getfield 10, 3) := by decide +kernel
theorem dX5_setProducts_74 : decode cX5_setProducts 74 = .ok (.iload_n 2, 1) := by decide +kernel
theorem dX5_setProducts_75 : decode cX5_setProducts 75 = .ok (.putfield 121, 3) := by decide +kernel
theorem dX5_setProducts_78 : decode cX5_setProducts 78 = .ok (.aload_n 0, 1) := by decide +kernel
theorem dX5_setProducts_79 : decode cX5_setProducts 79 = .ok (.getfield 10, 3) := by decide +kernel
theorem dX5_setProducts_82 : decode cX5_setProducts 82 = .ok (.iload_n 3, 1) := by decide +kernel
theorem dX5_setProducts_83 : decode cX5_setProducts 83 = .ok (.putfield 124, 3) := by decide +kernel
theorem dX5_setProducts_86 : decode cX5_setProducts 86 = .ok (.aload_n 0, 1) := by decide +kernel
theorem dX5_setProducts_87 : decode cX5_setProducts 87 = .ok (.getfield 10, 3) := by decide +kernel
theorem dX5_setProducts_90 : decode cX5_setProducts 90 = .ok (.iconst 0, 1) := by decide +kernel
theorem dX5_setProducts_91 : decode cX5_setProducts 91 = .ok (.putfield 127, 3) := by decide +kernel
theorem dX5_setProducts_94 : decode cX5_setProducts 94 = .ok (.iload 4, 2) := by decide +kernel
theorem dX5_setProducts_96 : decode cX5_setProducts 96 = .ok (.ireturn, 1) := by decide +kernel
theorem dX5_setSpacing_0 : decode cX5_setSpacing 0 = .ok (.iload_n 1, 1) := by decide +kernel
theorem dX5_setSpacing_1 : decode cX5_setSpacing 1 = .ok (.iconst 0, 1) := by decide +kernel
theorem dX5_setSpacing_2 : decode cX5_setSpacing 2 = .ok (.iconst 5, 1) := by decide +kernel
theorem dX5_setSpacing_3 : decode cX5_setSpacing 3 = .ok (.invokestatic 112, 3) := by decide +kernel
theorem dX5_setSpacing_6 : decode cX5_setSpacing 6 = .ok (.ifCond .eq 13, 3) := by decide +kernel
theorem dX5_setSpacing_9 : decode cX5_setSpacing 9 = .ok (.iload_n 2, 1) := by decide +kernel
theorem dX5_setSpacing_10 : decode cX5_setSpacing 10 = .ok (.iconst 1, 1) := by decide +kernel
theorem dX5_setSpacing_11 : decode cX5_setSpacing 11 = .ok (.bipush 10, 2) := by decide +kernel
theorem dX5_setSpacing_13 : decode cX5_setSpacing 13 = .ok (.invokestatic 112, 3) := by decide +kernel
theorem dX5_setSpacing_16 : decode cX5_setSpacing 16 = .ok (.ifCond .ne 13, 3) := by decide +kernel
theorem dX5_setSpacing_19 : decode cX5_setSpacing 19 = .ok (.new 62, 3) := by decide +kernel
theorem dX5_setSpacing_22 : decode cX5_setSpacing 22 = .ok (.dup, 1) := by decide +kernel
theorem dX5_setSpacing_23 : decode cX5_setSpacing 23 = .ok (.ldc 130, 2) := by decide +kernel
theorem dX5_setSpacing_25 : decode cX5_setSpacing 25 = .ok (.invokespecial 66, 3) := by decide +kernel
theorem dX5_setSpacing_28 : decode cX5_setSpacing 28 = .ok (.athrow, 1) := by decide +kernel
theorem dX5_setSpacing_29 : decode cX5_setSpacing 29 = .ok (.aload_n 0, 1) := by decide +kernel
theorem dX5_setSpacing_30 : decode cX5_setSpacing 30 = .ok (.getfield 22, 3) := by decide +kernel
theorem dX5_setSpacing_33 : decode cX5_setSpacing 33 = .ok (.aload_n 0, 1) := by decide +kernel
theorem dX5_setSpacing_34 : decode cX5_setSpacing 34 = .ok (.getfield 10, 3) := by decide +kernel
theorem dX5_setSpacing_37 : decode cX5_setSpacing 37 = .ok (.invokevirtual 72, 3) := by decide +kernel
theorem dX5_setSpacing_40 : decode cX5_setSpacing 40 = .ok (.aload_n 0, 1) := by decide +kernel
theorem dX5_setSpacing_41 : decode cX5_setSpacing 41 = .ok (.getfield 10, 3) := by decide +kernel
theorem dX5_setSpacing_44 : decode cX5_setSpacing 44 = .ok (.getfield 132, 3) := by decide +kernel
theorem dX5_setSpacing_47 : decode cX5_setSpacing 47 = .ok (.istore_n 3, 1) := by decide +kernel
theorem dX5_setSpacing_48 : decode cX5_setSpacing 48 = .ok (.aload_n 0, 1) := by decide +kernel
theorem dX5_setSpacing_49 : decode cX5_setSpacing 49 = .ok (.getfield 10, 3) := by decide +kernel
theorem dX5_setSpacing_52 : decode cX5_setSpacing 52 = .ok (.iload_n 1, 1) := by decide +kernel
theorem dX5_setSpacing_53 : decode cX5_setSpacing 53 = .ok (.putfield 132, 3) := by decide +kernel
theorem dX5_setSpacing_56 : decode cX5_setSpacing 56 = .ok (.aload_n 0, 1) := by decide +kernel
theorem dX5_setSpacing_57 : decode cX5_setSpacing 57 = .ok (.getfield 10, 3) := by decide +kernel
theorem dX5_setSpacing_60 : decode cX5_setSpacing 60 = .ok (.iload_n 2, 1) := by decide +kernel
theorem dX5_setSpacing_61 : decode cX5_setSpacing 61 = .ok (.putfield 135, 3) := by decide +kernel
theorem dX5_setSpacing_64 : decode cX5_setSpacing 64 = .ok (.aload_n 0, 1) := by decide +kernel
theorem dX5_setSpacing_65 : decode cX5_setSpacing 65 = .ok (.getfield 10, 3) := by decide +kernel
theorem dX5_setSpacing_68 : decode cX5_setSpacing 68 = .ok (.iconst 0, 1) := by decide +kernel
theorem dX5_setSpacing_69 : decode cX5_setSpacing 69 = .ok (.putfield 127, 3) := by decide +kernel
theorem dX5_setSpacing_72 : decode cX5_setSpacing 72 = .ok (.iload_n 3, 1) := by decide +kernel
theorem dX5_setSpacing_73 : decode cX5_setSpacing 73 = .ok (.ireturn, 1) := by decide +kernel
theorem dX5_size_0 : decode cX5_size 0 = .ok (.iload_n 1, 1) := by decide +kernel
theorem dX5_size_1 : decode cX5_size 1 = .ok (.tableswitch 51 0 2 #[27, 35, 43], 27) := by decide +kernel
theorem dX5_size_28 : decode cX5_size 28 = .ok (.aload_n 0, 1) := by decide +kernel
theorem dX5_size_29 : decode cX5_size 29 = .ok (.getfield 10, 3) := by decide +kernel
theorem dX5_size_32 : decode cX5_size 32 = .ok (.getfield 80, 3) := by decide +kernel
theorem dX5_size_35 : decode cX5_size 35 = .ok (.ireturn, 1) := by decide +kernel
theorem dX5_size_36 : decode cX5_size 36 = .ok (.aload_n 0, 1) := by decide +kernel
theorem dX5_size_37 : decode cX5_size 37 = .ok (.getfield 10, 3) := by decide +kernel
theorem dX5_size_40 : decode cX5_size 40 = .ok (.getfield 138, 3) := by decide +kernel
theorem dX5_size_43 : decode cX5_size 43 = .ok (.ireturn, 1) := by decide +kernel
theorem dX5_size_44 : decode cX5_size 44 = .ok (.aload_n 0, 1) := by decide +kernel
theorem dX5_size_45 : decode cX5_size 45 = .ok (.getfield 10, 3) := by decide +kernel
theorem dX5_size_48 : decode cX5_size 48 = .ok (.getfield 127, 3) := by decide +kernel
theorem dX5_size_51 : decode cX5_size 51 = .ok (.ireturn, 1) := by decide +kernel
theorem dX5_size_52 : decode cX5_size 52 = .ok (.new 62, 3) := by decide +kernel
theorem dX5_size_55 : decode cX5_size 55 = .ok (.dup, 1) := by decide +kernel
theorem dX5_size_56 : decode cX5_size 56 = .ok (.ldc 141, 2) := by decide +kernel
theorem dX5_size_58 : decode cX5_size 58 = .ok (.invokespecial 66, 3) := by decide +kernel
theorem dX5_size_61 : decode cX5_size 61 = .ok (.athrow, 1) := by decide +kernel
theorem dX5_carrier_0 : decode cX5_carrier 0 = .ok (.aload_n 0, 1) := by decide +kernel
theorem dX5_carrier_1 : decode cX5_carrier 1 = .ok (.iload_n 1, 1) := by decide +kernel
theorem dX5_carrier_2 : decode cX5_carrier 2 = .ok (.invokevirtual 84, 3) := by decide +kernel
theorem dX5_carrier_5 : decode cX5_carrier 5 = .ok (.iload_n 2, 1) := by decide +kernel
theorem dX5_carrier_6 : decode cX5_carrier 6 = .ok (.ifCond .eq 14, 3) := by decide +kernel
theorem dX5_carrier_9 : decode cX5_carrier 9 = .ok (.aload_n 0, 1) := by decide +kernel
theorem dX5_carrier_10 : decode cX5_carrier 10 = .ok (.getfield 10, 3) := by decide +kernel
theorem dX5_carrier_13 : decode cX5_carrier 13 = .ok (.iload_n 1, 1) := by decide +kernel
theorem dX5_carrier_14 : decode cX5_carrier 14 = .ok (.invokevirtual 143, 3) := by decide +kernel
theorem dX5_carrier_17 : decode cX5_carrier 17 = .ok (.goto 11, 3) := by decide +kernel
theorem dX5_carrier_20 : decode cX5_carrier 20 = .ok (.aload_n 0, 1) := by decide +kernel
theorem dX5_carrier_21 : decode cX5_carrier 21 = .ok (.getfield 10, 3) := by decide +kernel
theorem dX5_carrier_24 : decode cX5_carrier 24 = .ok (.iload_n 1, 1) := by decide +kernel
theorem dX5_carrier_25 : decode cX5_carrier 25 = .ok (.invokevirtual 92, 3) := by decide +kernel
theorem dX5_carrier_28 : decode cX5_carrier 28 = .ok (.ireturn, 1) := by decide +kernel
theorem dX5_channels_0 : decode cX5_channels 0 = .ok (.lconst 0, 1) := by decide +kernel
theorem dX5_channels_1 : decode cX5_channels 1 = .ok (.lstore_n 1, 1) := by decide +kernel
theorem dX5_channels_2 : decode cX5_channels 2 = .ok (.iconst 0, 1) := by decide +kernel
theorem dX5_channels_3 : decode cX5_channels 3 = .ok (.istore_n 3, 1) := by decide +kernel
theorem dX5_channels_4 : decode cX5_channels 4 = .ok (.iload_n 3, 1) := by decide +kernel
theorem dX5_channels_5 : decode cX5_channels 5 = .ok (.aload_n 0, 1) := by decide +kernel
theorem dX5_channels_6 : decode cX5_channels 6 = .ok (.getfield 10, 3) := by decide +kernel
theorem dX5_channels_9 : decode cX5_channels 9 = .ok (.getfield 80, 3) := by decide +kernel
theorem dX5_channels_12 : decode cX5_channels 12 = .ok (.if_icmp .ge 22, 3) := by decide +kernel
theorem dX5_channels_15 : decode cX5_channels 15 = .ok (.lload_n 1, 1) := by decide +kernel
theorem dX5_channels_16 : decode cX5_channels 16 = .ok (.lconst 1, 1) := by decide +kernel
theorem dX5_channels_17 : decode cX5_channels 17 = .ok (.aload_n 0, 1) := by decide +kernel
theorem dX5_channels_18 : decode cX5_channels 18 = .ok (.getfield 10, 3) := by decide +kernel
theorem dX5_channels_21 : decode cX5_channels 21 = .ok (.iload_n 3, 1) := by decide +kernel
theorem dX5_channels_22 : decode cX5_channels 22 = .ok (.invokevirtual 92, 3) := by decide +kernel
theorem dX5_channels_25 : decode cX5_channels 25 = .ok (.lshl, 1) := by decide +kernel
theorem dX5_channels_26 : decode cX5_channels 26 = .ok (.lor, 1) := by decide +kernel
theorem dX5_channels_27 : decode cX5_channels 27 = .ok (.lstore_n 1, 1) := by decide +kernel
theorem dX5_channels_28 : decode cX5_channels 28 = .ok (.iinc 3 1, 3) := by decide +kernel
theorem dX5_channels_31 : decode cX5_channels 31 = .ok (.goto (-27), 3) := by decide +kernel
theorem dX5_channels_34 : decode cX5_channels 34 = .ok (.lload_n 1, 1) := by decide +kernel
theorem dX5_channels_35 : decode cX5_channels 35 = .ok (.lreturn, 1) := by decide +kernel
theorem dX5_products_0 : decode cX5_products 0 = .ok (.aload_n 0, 1) := by decide +kernel
theorem dX5_products_1 : decode cX5_products 1 = .ok (.getfield 29, 3) := by decide +kernel
theorem dX5_products_4 : decode cX5_products 4 = .ok (.aload_n 0, 1) := by decide +kernel
theorem dX5_products_5 : decode cX5_products 5 = .ok (.getfield 10, 3) := by decide +kernel
theorem dX5_products_8 : decode cX5_products 8 = .ok (.aload_n 0, 1) := by decide +kernel
theorem dX5_products_9 : decode cX5_products 9 = .ok (.getfield 10, 3) := by decide +kernel
theorem dX5_products_12 : decode cX5_products 12 = .ok (.invokevirtual 146, 3) := by decide +kernel
theorem dX5_products_15 : decode cX5_products 15 = .ok (.invokevirtual 150, 3) := by decide +kernel
theorem dX5_products_18 : decode cX5_products 18 = .ok (.aload_n 0, 1) := by decide +kernel
theorem dX5_products_19 : decode cX5_products 19 = .ok (.getfield 29, 3) := by decide +kernel
theorem dX5_products_22 : decode cX5_products 22 = .ok (.getfield 154, 3) := by decide +kernel
theorem dX5_products_25 : decode cX5_products 25 = .ok (.ireturn, 1) := by decide +kernel
theorem dX5_product_0 : decode cX5_product 0 = .ok (.aload_n 0, 1) := by decide +kernel
theorem dX5_product_1 : decode cX5_product 1 = .ok (.getfield 29, 3) := by decide +kernel
theorem dX5_product_4 : decode cX5_product 4 = .ok (.aload_n 0, 1) := by decide +kernel
theorem dX5_product_5 : decode cX5_product 5 = .ok (.getfield 10, 3) := by decide +kernel
theorem dX5_product_8 : decode cX5_product 8 = .ok (.aload_n 0, 1) := by decide +kernel
theorem dX5_product_9 : decode cX5_product 9 = .ok (.getfield 10, 3) := by decide +kernel
theorem dX5_product_12 : decode cX5_product 12 = .ok (.invokevirtual 146, 3) := by decide +kernel
theorem dX5_product_15 : decode cX5_product 15 = .ok (.invokevirtual 150, 3) := by decide +kernel
theorem dX5_product_18 : decode cX5_product 18 = .ok (.iload_n 1, 1) := by decide +kernel
theorem dX5_product_19 : decode cX5_product 19 = .ok (.ifCond .lt 14, 3) := by decide +kernel
theorem dX5_product_22 : decode cX5_product 22 = .ok (.iload_n 1, 1) := by decide +kernel
theorem dX5_product_23 : decode cX5_product 23 = .ok (.aload_n 0, 1) := by decide +kernel
theorem dX5_product_24 : decode cX5_product 24 = .ok (.getfield 29, 3) := by decide +kernel
theorem dX5_product_27 : decode cX5_product 27 = .ok (.getfield 154, 3) := by decide +kernel
theorem dX5_product_30 : decode cX5_product 30 = .ok (.if_icmp .lt 13, 3) := by decide +kernel
theorem dX5_product_33 : decode cX5_product 33 = .ok (.new 157, 3) := by decide +kernel
theorem dX5_product_36 : decode cX5_product 36 = .ok (.dup, 1) := by decide +kernel
theorem dX5_product_37 : decode cX5_product 37 = .ok (.ldc 159, 2) := by decide +kernel
theorem dX5_product_39 : decode cX5_product 39 = .ok (.invokespecial 161, 3) := by decide +kernel
theorem dX5_product_42 : decode cX5_product 42 = .ok (.athrow, 1) := by decide +kernel
theorem dX5_product_43 : decode cX5_product 43 = .ok (.iload_n 2, 1) := by decide +kernel
theorem dX5_product_44 : decode cX5_product 44 = .ok (.iconst 0, 1) := by decide +kernel
theorem dX5_product_45 : decode cX5_product 45 = .ok (.iconst 5, 1) := by decide +kernel
theorem dX5_product_46 : decode cX5_product 46 = .ok (.invokestatic 112, 3) := by decide +kernel
theorem dX5_product_49 : decode cX5_product 49 = .ok (.ifCond .ne 13, 3) := by decide +kernel
theorem dX5_product_52 : decode cX5_product 52 = .ok (.new 62, 3) := by decide +kernel
theorem dX5_product_55 : decode cX5_product 55 = .ok (.dup, 1) := by decide +kernel
theorem dX5_product_56 : decode cX5_product 56 = .ok (.ldc 141, 2) := by decide +kernel
theorem dX5_product_58 : decode cX5_product 58 = .ok (.invokespecial 66, 3) := by decide +kernel
theorem dX5_product_61 : decode cX5_product 61 = .ok (.athrow, 1) := by decide +kernel
theorem dX5_product_62 : decode cX5_product 62 = .ok (.aload_n 0, 1) := by decide +kernel
theorem dX5_product_63 : decode cX5_product 63 = .ok (.getfield 29, 3) := by decide +kernel
theorem dX5_product_66 : decode cX5_product 66 = .ok (.iload_n 1, 1) := by decide +kernel
theorem dX5_product_67 : decode cX5_product 67 = .ok (.iload_n 2, 1) := by decide +kernel
theorem dX5_product_68 : decode cX5_product 68 = .ok (.invokevirtual 162, 3) := by decide +kernel
theorem dX5_product_71 : decode cX5_product 71 = .ok (.ireturn, 1) := by decide +kernel
theorem dX5_fallout_0 : decode cX5_fallout 0 = .ok (.aload_n 0, 1) := by decide +kernel
theorem dX5_fallout_1 : decode cX5_fallout 1 = .ok (.iload_n 1, 1) := by decide +kernel
theorem dX5_fallout_2 : decode cX5_fallout 2 = .ok (.invokevirtual 166, 3) := by decide +kernel
theorem dX5_fallout_5 : decode cX5_fallout 5 = .ok (.aload_n 0, 1) := by decide +kernel
theorem dX5_fallout_6 : decode cX5_fallout 6 = .ok (.iload_n 1, 1) := by decide +kernel
theorem dX5_fallout_7 : decode cX5_fallout 7 = .ok (.invokevirtual 169, 3) := by decide +kernel
theorem dX5_fallout_10 : decode cX5_fallout 10 = .ok (.lreturn, 1) := by decide +kernel
theorem dX5_hits_0 : decode cX5_hits 0 = .ok (.aload_n 0, 1) := by decide +kernel
theorem dX5_hits_1 : decode cX5_hits 1 = .ok (.getfield 29, 3) := by decide +kernel
theorem dX5_hits_4 : decode cX5_hits 4 = .ok (.aload_n 0, 1) := by decide +kernel
theorem dX5_hits_5 : decode cX5_hits 5 = .ok (.getfield 10, 3) := by decide +kernel
theorem dX5_hits_8 : decode cX5_hits 8 = .ok (.aload_n 0, 1) := by decide +kernel
theorem dX5_hits_9 : decode cX5_hits 9 = .ok (.getfield 10, 3) := by decide +kernel
theorem dX5_hits_12 : decode cX5_hits 12 = .ok (.invokevirtual 146, 3) := by decide +kernel
theorem dX5_hits_15 : decode cX5_hits 15 = .ok (.invokevirtual 150, 3) := by decide +kernel
theorem dX5_hits_18 : decode cX5_hits 18 = .ok (.iconst 0, 1) := by decide +kernel
theorem dX5_hits_19 : decode cX5_hits 19 = .ok (.istore_n 1, 1) := by decide +kernel
theorem dX5_hits_20 : decode cX5_hits 20 = .ok (.iconst 0, 1) := by decide +kernel
theorem dX5_hits_21 : decode cX5_hits 21 = .ok (.istore_n 2, 1) := by decide +kernel
theorem dX5_hits_22 : decode cX5_hits 22 = .ok (.iload_n 2, 1) := by decide +kernel
theorem dX5_hits_23 : decode cX5_hits 23 = .ok (.aload_n 0, 1) := by decide +kernel
theorem dX5_hits_24 : decode cX5_hits 24 = .ok (.getfield 10, 3) := by decide +kernel
theorem dX5_hits_27 : decode cX5_hits 27 = .ok (.getfield 80, 3) := by decide +kernel
theorem dX5_hits_30 : decode cX5_hits 30 = .ok (.if_icmp .ge 34, 3) := by decide +kernel
theorem dX5_hits_33 : decode cX5_hits 33 = .ok (.iload_n 1, 1) := by decide +kernel
theorem dX5_hits_34 : decode cX5_hits 34 = .ok (.aload_n 0, 1) := by decide +kernel
theorem dX5_hits_35 : decode cX5_hits 35 = .ok (.getfield 29, 3) := by decide +kernel
theorem dX5_hits_38 : decode cX5_hits 38 = .ok (.aload_n 0, 1) := by decide +kernel
theorem dX5_hits_39 : decode cX5_hits 39 = .ok (.getfield 10, 3) := by decide +kernel
theorem dX5_hits_42 : decode cX5_hits 42 = .ok (.iload_n 2, 1) := by decide +kernel
theorem dX5_hits_43 : decode cX5_hits 43 = .ok (.invokevirtual 92, 3) := by decide +kernel
theorem dX5_hits_46 : decode cX5_hits 46 = .ok (.aload_n 0, 1) := by decide +kernel
theorem dX5_hits_47 : decode cX5_hits 47 = .ok (.getfield 10, 3) := by decide +kernel
theorem dX5_hits_50 : decode cX5_hits 50 = .ok (.getfield 132, 3) := by decide +kernel
theorem dX5_hits_53 : decode cX5_hits 53 = .ok (.invokevirtual 173, 3) := by decide +kernel
theorem dX5_hits_56 : decode cX5_hits 56 = .ok (.iadd, 1) := by decide +kernel
theorem dX5_hits_57 : decode cX5_hits 57 = .ok (.istore_n 1, 1) := by decide +kernel
theorem dX5_hits_58 : decode cX5_hits 58 = .ok (.iinc 2 1, 3) := by decide +kernel
theorem dX5_hits_61 : decode cX5_hits 61 = .ok (.goto (-39), 3) := by decide +kernel
theorem dX5_hits_64 : decode cX5_hits 64 = .ok (.iload_n 1, 1) := by decide +kernel
theorem dX5_hits_65 : decode cX5_hits 65 = .ok (.ireturn, 1) := by decide +kernel
theorem dX5_hitsOn_0 : decode cX5_hitsOn 0 = .ok (.aload_n 0, 1) := by decide +kernel
theorem dX5_hitsOn_1 : decode cX5_hitsOn 1 = .ok (.iload_n 1, 1) := by decide +kernel
theorem dX5_hitsOn_2 : decode cX5_hitsOn 2 = .ok (.invokevirtual 84, 3) := by decide +kernel
theorem dX5_hitsOn_5 : decode cX5_hitsOn 5 = .ok (.aload_n 0, 1) := by decide +kernel
theorem dX5_hitsOn_6 : decode cX5_hitsOn 6 = .ok (.getfield 29, 3) := by decide +kernel
theorem dX5_hitsOn_9 : decode cX5_hitsOn 9 = .ok (.aload_n 0, 1) := by decide +kernel
theorem dX5_hitsOn_10 : decode cX5_hitsOn 10 = .ok (.getfield 10, 3) := by decide +kernel
theorem dX5_hitsOn_13 : decode cX5_hitsOn 13 = .ok (.aload_n 0, 1) := by decide +kernel
theorem dX5_hitsOn_14 : decode cX5_hitsOn 14 = .ok (.getfield 10, 3) := by decide +kernel
theorem dX5_hitsOn_17 : decode cX5_hitsOn 17 = .ok (.invokevirtual 146, 3) := by decide +kernel
theorem dX5_hitsOn_20 : decode cX5_hitsOn 20 = .ok (.invokevirtual 150, 3) := by decide +kernel
theorem dX5_hitsOn_23 : decode cX5_hitsOn 23 = .ok (.aload_n 0, 1) := by decide +kernel
theorem dX5_hitsOn_24 : decode cX5_hitsOn 24 = .ok (.getfield 29, 3) := by decide +kernel
theorem dX5_hitsOn_27 : decode cX5_hitsOn 27 = .ok (.aload_n 0, 1) := by decide +kernel
theorem dX5_hitsOn_28 : decode cX5_hitsOn 28 = .ok (.getfield 10, 3) := by decide +kernel
theorem dX5_hitsOn_31 : decode cX5_hitsOn 31 = .ok (.iload_n 1, 1) := by decide +kernel
theorem dX5_hitsOn_32 : decode cX5_hitsOn 32 = .ok (.invokevirtual 92, 3) := by decide +kernel
theorem dX5_hitsOn_35 : decode cX5_hitsOn 35 = .ok (.aload_n 0, 1) := by decide +kernel
theorem dX5_hitsOn_36 : decode cX5_hitsOn 36 = .ok (.getfield 10, 3) := by decide +kernel
theorem dX5_hitsOn_39 : decode cX5_hitsOn 39 = .ok (.getfield 132, 3) := by decide +kernel
theorem dX5_hitsOn_42 : decode cX5_hitsOn 42 = .ok (.invokevirtual 173, 3) := by decide +kernel
theorem dX5_hitsOn_45 : decode cX5_hitsOn 45 = .ok (.ireturn, 1) := by decide +kernel
theorem dX5_isClean_0 : decode cX5_isClean 0 = .ok (.aload_n 0, 1) := by decide +kernel
theorem dX5_isClean_1 : decode cX5_isClean 1 = .ok (.aload_n 0, 1) := by decide +kernel
theorem dX5_isClean_2 : decode cX5_isClean 2 = .ok (.getfield 10, 3) := by decide +kernel
theorem dX5_isClean_5 : decode cX5_isClean 5 = .ok (.invokevirtual 146, 3) := by decide +kernel
theorem dX5_isClean_8 : decode cX5_isClean 8 = .ok (.invokevirtual 176, 3) := by decide +kernel
theorem dX5_isClean_11 : decode cX5_isClean 11 = .ok (.ireturn, 1) := by decide +kernel
theorem dX5_closest_0 : decode cX5_closest 0 = .ok (.iconst (-1), 1) := by decide +kernel
theorem dX5_closest_1 : decode cX5_closest 1 = .ok (.istore_n 1, 1) := by decide +kernel
theorem dX5_closest_2 : decode cX5_closest 2 = .ok (.iconst 0, 1) := by decide +kernel
theorem dX5_closest_3 : decode cX5_closest 3 = .ok (.istore_n 2, 1) := by decide +kernel
theorem dX5_closest_4 : decode cX5_closest 4 = .ok (.iload_n 2, 1) := by decide +kernel
theorem dX5_closest_5 : decode cX5_closest 5 = .ok (.aload_n 0, 1) := by decide +kernel
theorem dX5_closest_6 : decode cX5_closest 6 = .ok (.getfield 10, 3) := by decide +kernel
theorem dX5_closest_9 : decode cX5_closest 9 = .ok (.getfield 80, 3) := by decide +kernel
theorem dX5_closest_12 : decode cX5_closest 12 = .ok (.if_icmp .ge 66, 3) := by decide +kernel
theorem dX5_closest_15 : decode cX5_closest 15 = .ok (.iload_n 2, 1) := by decide +kernel
theorem dX5_closest_16 : decode cX5_closest 16 = .ok (.iconst 1, 1) := by decide +kernel
theorem dX5_closest_17 : decode cX5_closest 17 = .ok (.iadd, 1) := by decide +kernel
theorem dX5_closest_18 : decode cX5_closest 18 = .ok (.istore_n 3, 1) := by decide +kernel
theorem dX5_closest_19 : decode cX5_closest 19 = .ok (.iload_n 3, 1) := by decide +kernel
theorem dX5_closest_20 : decode cX5_closest 20 = .ok (.aload_n 0, 1) := by decide +kernel
theorem dX5_closest_21 : decode cX5_closest 21 = .ok (.getfield 10, 3) := by decide +kernel
theorem dX5_closest_24 : decode cX5_closest 24 = .ok (.getfield 80, 3) := by decide +kernel
theorem dX5_closest_27 : decode cX5_closest 27 = .ok (.if_icmp .ge 45, 3) := by decide +kernel
theorem dX5_closest_30 : decode cX5_closest 30 = .ok (.aload_n 0, 1) := by decide +kernel
theorem dX5_closest_31 : decode cX5_closest 31 = .ok (.getfield 10, 3) := by decide +kernel
theorem dX5_closest_34 : decode cX5_closest 34 = .ok (.iload_n 2, 1) := by decide +kernel
theorem dX5_closest_35 : decode cX5_closest 35 = .ok (.invokevirtual 92, 3) := by decide +kernel
theorem dX5_closest_38 : decode cX5_closest 38 = .ok (.aload_n 0, 1) := by decide +kernel
theorem dX5_closest_39 : decode cX5_closest 39 = .ok (.getfield 10, 3) := by decide +kernel
theorem dX5_closest_42 : decode cX5_closest 42 = .ok (.iload_n 3, 1) := by decide +kernel
theorem dX5_closest_43 : decode cX5_closest 43 = .ok (.invokevirtual 92, 3) := by decide +kernel
theorem dX5_closest_46 : decode cX5_closest 46 = .ok (.isub, 1) := by decide +kernel
theorem dX5_closest_47 : decode cX5_closest 47 = .ok (.invokestatic 179, 3) := by decide +kernel
theorem dX5_closest_50 : decode cX5_closest 50 = .ok (.istore 4, 2) := by decide +kernel
theorem dX5_closest_52 : decode cX5_closest 52 = .ok (.iload_n 1, 1) := by decide +kernel
theorem dX5_closest_53 : decode cX5_closest 53 = .ok (.iconst (-1), 1) := by decide +kernel
theorem dX5_closest_54 : decode cX5_closest 54 = .ok (.if_icmp .eq 9, 3) := by decide +kernel
theorem dX5_closest_57 : decode cX5_closest 57 = .ok (.iload 4, 2) := by decide +kernel
theorem dX5_closest_59 : decode cX5_closest 59 = .ok (.iload_n 1, 1) := by decide +kernel
theorem dX5_closest_60 : decode cX5_closest 60 = .ok (.if_icmp .ge 6, 3) := by decide +kernel
theorem dX5_closest_63 : decode cX5_closest 63 = .ok (.iload 4, 2) := by decide +kernel
theorem dX5_closest_65 : decode cX5_closest 65 = .ok (.istore_n 1, 1) := by decide +kernel
theorem dX5_closest_66 : decode cX5_closest 66 = .ok (.iinc 3 1, 3) := by decide +kernel
theorem dX5_closest_69 : decode cX5_closest 69 = .ok (.goto (-50), 3) := by decide +kernel
theorem dX5_closest_72 : decode cX5_closest 72 = .ok (.iinc 2 1, 3) := by decide +kernel
theorem dX5_closest_75 : decode cX5_closest 75 = .ok (.goto (-71), 3) := by decide +kernel
theorem dX5_closest_78 : decode cX5_closest 78 = .ok (.iload_n 1, 1) := by decide +kernel
theorem dX5_closest_79 : decode cX5_closest 79 = .ok (.ireturn, 1) := by decide +kernel
theorem dX5_removal_0 : decode cX5_removal 0 = .ok (.aload_n 0, 1) := by decide +kernel
theorem dX5_removal_1 : decode cX5_removal 1 = .ok (.getfield 10, 3) := by decide +kernel
theorem dX5_removal_4 : decode cX5_removal 4 = .ok (.invokevirtual 146, 3) := by decide +kernel
theorem dX5_removal_7 : decode cX5_removal 7 = .ok (.istore_n 1, 1) := by decide +kernel
theorem dX5_removal_8 : decode cX5_removal 8 = .ok (.iload_n 1, 1) := by decide +kernel
theorem dX5_removal_9 : decode cX5_removal 9 = .ok (.istore_n 2, 1) := by decide +kernel
theorem dX5_removal_10 : decode cX5_removal 10 = .ok (.iconst 0, 1) := by decide +kernel
theorem dX5_removal_11 : decode cX5_removal 11 = .ok (.istore_n 3, 1) := by decide +kernel
theorem dX5_removal_12 : decode cX5_removal 12 = .ok (.iload_n 3, 1) := by decide +kernel
theorem dX5_removal_13 : decode cX5_removal 13 = .ok (.iload_n 1, 1) := by decide +kernel
theorem dX5_removal_14 : decode cX5_removal 14 = .ok (.if_icmp .ge 34, 3) := by decide +kernel
theorem dX5_removal_17 : decode cX5_removal 17 = .ok (.iload_n 3, 1) := by decide +kernel
theorem dX5_removal_18 : decode cX5_removal 18 = .ok (.invokestatic 184, 3) := by decide +kernel
theorem dX5_removal_21 : decode cX5_removal 21 = .ok (.iload_n 2, 1) := by decide +kernel
theorem dX5_removal_22 : decode cX5_removal 22 = .ok (.invokestatic 184, 3) := by decide +kernel
theorem dX5_removal_25 : decode cX5_removal 25 = .ok (.if_icmp .ge 17, 3) := by decide +kernel
theorem dX5_removal_28 : decode cX5_removal 28 = .ok (.aload_n 0, 1) := by decide +kernel
theorem dX5_removal_29 : decode cX5_removal 29 = .ok (.iload_n 1, 1) := by decide +kernel
theorem dX5_removal_30 : decode cX5_removal 30 = .ok (.iload_n 3, 1) := by decide +kernel
theorem dX5_removal_31 : decode cX5_removal 31 = .ok (.iconst (-1), 1) := by decide +kernel
theorem dX5_removal_32 : decode cX5_removal 32 = .ok (.ixor, 1) := by decide +kernel
theorem dX5_removal_33 : decode cX5_removal 33 = .ok (.iand, 1) := by decide +kernel
theorem dX5_removal_34 : decode cX5_removal 34 = .ok (.invokevirtual 176, 3) := by decide +kernel
theorem dX5_removal_37 : decode cX5_removal 37 = .ok (.ifCond .eq 5, 3) := by decide +kernel
theorem dX5_removal_40 : decode cX5_removal 40 = .ok (.iload_n 3, 1) := by decide +kernel
theorem dX5_removal_41 : decode cX5_removal 41 = .ok (.istore_n 2, 1) := by decide +kernel
theorem dX5_removal_42 : decode cX5_removal 42 = .ok (.iinc 3 1, 3) := by decide +kernel
theorem dX5_removal_45 : decode cX5_removal 45 = .ok (.goto (-33), 3) := by decide +kernel
theorem dX5_removal_48 : decode cX5_removal 48 = .ok (.iload_n 2, 1) := by decide +kernel
theorem dX5_removal_49 : decode cX5_removal 49 = .ok (.ireturn, 1) := by decide +kernel
theorem dX5_leastSpan_0 : decode cX5_leastSpan 0 = .ok (.iload_n 1, 1) := by decide +kernel
theorem dX5_leastSpan_1 : decode cX5_leastSpan 1 = .ok (.bipush 6, 2) := by decide +kernel
theorem dX5_leastSpan_3 : decode cX5_leastSpan 3 = .ok (.invokestatic 189, 3) := by decide +kernel
theorem dX5_leastSpan_6 : decode cX5_leastSpan 6 = .ok (.aload_n 0, 1) := by decide +kernel
theorem dX5_leastSpan_7 : decode cX5_leastSpan 7 = .ok (.iload_n 1, 1) := by decide +kernel
theorem dX5_leastSpan_8 : decode cX5_leastSpan 8 = .ok (.invokevirtual 192, 3) := by decide +kernel
theorem dX5_leastSpan_11 : decode cX5_leastSpan 11 = .ok (.ireturn, 1) := by decide +kernel
theorem dX5_bestRuler_0 : decode cX5_bestRuler 0 = .ok (.iload_n 1, 1) := by decide +kernel
theorem dX5_bestRuler_1 : decode cX5_bestRuler 1 = .ok (.bipush 6, 2) := by decide +kernel
theorem dX5_bestRuler_3 : decode cX5_bestRuler 3 = .ok (.invokestatic 189, 3) := by decide +kernel
theorem dX5_bestRuler_6 : decode cX5_bestRuler 6 = .ok (.aload_n 0, 1) := by decide +kernel
theorem dX5_bestRuler_7 : decode cX5_bestRuler 7 = .ok (.iload_n 1, 1) := by decide +kernel
theorem dX5_bestRuler_8 : decode cX5_bestRuler 8 = .ok (.invokevirtual 192, 3) := by decide +kernel
theorem dX5_bestRuler_11 : decode cX5_bestRuler 11 = .ok (.iconst (-1), 1) := by decide +kernel
theorem dX5_bestRuler_12 : decode cX5_bestRuler 12 = .ok (.if_icmp .ne 7, 3) := by decide +kernel
theorem dX5_bestRuler_15 : decode cX5_bestRuler 15 = .ok (.lconst 0, 1) := by decide +kernel
theorem dX5_bestRuler_16 : decode cX5_bestRuler 16 = .ok (.goto 10, 3) := by decide +kernel
theorem dX5_bestRuler_19 : decode cX5_bestRuler 19 = .ok (.aload_n 0, 1) := by decide +kernel
theorem dX5_bestRuler_20 : decode cX5_bestRuler 20 = .ok (.getfield 36, 3) := by decide +kernel
theorem dX5_bestRuler_23 : decode cX5_bestRuler 23 = .ok (.invokevirtual 195, 3) := by decide +kernel
theorem dX5_bestRuler_26 : decode cX5_bestRuler 26 = .ok (.lreturn, 1) := by decide +kernel
theorem dX5_rulers_0 : decode cX5_rulers 0 = .ok (.iload_n 1, 1) := by decide +kernel
theorem dX5_rulers_1 : decode cX5_rulers 1 = .ok (.iconst 5, 1) := by decide +kernel
theorem dX5_rulers_2 : decode cX5_rulers 2 = .ok (.invokestatic 189, 3) := by decide +kernel
theorem dX5_rulers_5 : decode cX5_rulers 5 = .ok (.iload_n 2, 1) := by decide +kernel
theorem dX5_rulers_6 : decode cX5_rulers 6 = .ok (.iconst 0, 1) := by decide +kernel
theorem dX5_rulers_7 : decode cX5_rulers 7 = .ok (.bipush 40, 2) := by decide +kernel
theorem dX5_rulers_9 : decode cX5_rulers 9 = .ok (.invokestatic 112, 3) := by decide +kernel
theorem dX5_rulers_12 : decode cX5_rulers 12 = .ok (.ifCond .ne 13, 3) := by decide +kernel
theorem dX5_rulers_15 : decode cX5_rulers 15 = .ok (.new 62, 3) := by decide +kernel
theorem dX5_rulers_18 : decode cX5_rulers 18 = .ok (.dup, 1) := by decide +kernel
theorem dX5_rulers_19 : decode cX5_rulers 19 = .ok (.ldc 199, 2) := by decide +kernel
theorem dX5_rulers_21 : decode cX5_rulers 21 = .ok (.invokespecial 66, 3) := by decide +kernel
theorem dX5_rulers_24 : decode cX5_rulers 24 = .ok (.athrow, 1) := by decide +kernel
theorem dX5_rulers_25 : decode cX5_rulers 25 = .ok (.aload_n 0, 1) := by decide +kernel
theorem dX5_rulers_26 : decode cX5_rulers 26 = .ok (.iload_n 1, 1) := by decide +kernel
theorem dX5_rulers_27 : decode cX5_rulers 27 = .ok (.iload_n 2, 1) := by decide +kernel
theorem dX5_rulers_28 : decode cX5_rulers 28 = .ok (.sipush 10000, 3) := by decide +kernel
theorem dX5_rulers_31 : decode cX5_rulers 31 = .ok (.invokevirtual 201, 3) := by decide +kernel
theorem dX5_rulers_34 : decode cX5_rulers 34 = .ok (.ireturn, 1) := by decide +kernel
theorem dX5_openings_0 : decode cX5_openings 0 = .ok (.iload_n 1, 1) := by decide +kernel
theorem dX5_openings_1 : decode cX5_openings 1 = .ok (.invokestatic 205, 3) := by decide +kernel
theorem dX5_openings_4 : decode cX5_openings 4 = .ok (.aload_n 0, 1) := by decide +kernel
theorem dX5_openings_5 : decode cX5_openings 5 = .ok (.iload_n 1, 1) := by decide +kernel
theorem dX5_openings_6 : decode cX5_openings 6 = .ok (.invokevirtual 208, 3) := by decide +kernel
theorem dX5_openings_9 : decode cX5_openings 9 = .ok (.lreturn, 1) := by decide +kernel
theorem dX5_putIn_0 : decode cX5_putIn 0 = .ok (.iload_n 1, 1) := by decide +kernel
theorem dX5_putIn_1 : decode cX5_putIn 1 = .ok (.invokestatic 205, 3) := by decide +kernel
theorem dX5_putIn_4 : decode cX5_putIn 4 = .ok (.aload_n 0, 1) := by decide +kernel
theorem dX5_putIn_5 : decode cX5_putIn 5 = .ok (.invokevirtual 69, 3) := by decide +kernel
theorem dX5_putIn_8 : decode cX5_putIn 8 = .ok (.aload_n 0, 1) := by decide +kernel
theorem dX5_putIn_9 : decode cX5_putIn 9 = .ok (.iload_n 1, 1) := by decide +kernel
theorem dX5_putIn_10 : decode cX5_putIn 10 = .ok (.invokevirtual 208, 3) := by decide +kernel
theorem dX5_putIn_13 : decode cX5_putIn 13 = .ok (.invokestatic 211, 3) := by decide +kernel
theorem dX5_putIn_16 : decode cX5_putIn 16 = .ok (.istore_n 2, 1) := by decide +kernel
theorem dX5_putIn_17 : decode cX5_putIn 17 = .ok (.iload_n 2, 1) := by decide +kernel
theorem dX5_putIn_18 : decode cX5_putIn 18 = .ok (.iconst (-1), 1) := by decide +kernel
theorem dX5_putIn_19 : decode cX5_putIn 19 = .ok (.if_icmp .eq 23, 3) := by decide +kernel
theorem dX5_putIn_22 : decode cX5_putIn 22 = .ok (.aload_n 0, 1) := by decide +kernel
theorem dX5_putIn_23 : decode cX5_putIn 23 = .ok (.getfield 22, 3) := by decide +kernel
theorem dX5_putIn_26 : decode cX5_putIn 26 = .ok (.aload_n 0, 1) := by decide +kernel
theorem dX5_putIn_27 : decode cX5_putIn 27 = .ok (.getfield 10, 3) := by decide +kernel
theorem dX5_putIn_30 : decode cX5_putIn 30 = .ok (.invokevirtual 72, 3) := by decide +kernel
theorem dX5_putIn_33 : decode cX5_putIn 33 = .ok (.aload_n 0, 1) := by decide +kernel
theorem dX5_putIn_34 : decode cX5_putIn 34 = .ok (.getfield 10, 3) := by decide +kernel
theorem dX5_putIn_37 : decode cX5_putIn 37 = .ok (.iload_n 2, 1) := by decide +kernel
theorem dX5_putIn_38 : decode cX5_putIn 38 = .ok (.iload_n 1, 1) := by decide +kernel
theorem dX5_putIn_39 : decode cX5_putIn 39 = .ok (.invokevirtual 76, 3) := by decide +kernel
theorem dX5_putIn_42 : decode cX5_putIn 42 = .ok (.iload_n 2, 1) := by decide +kernel
theorem dX5_putIn_43 : decode cX5_putIn 43 = .ok (.ireturn, 1) := by decide +kernel
theorem dX5_addMixer_0 : decode cX5_addMixer 0 = .ok (.aload_n 0, 1) := by decide +kernel
theorem dX5_addMixer_1 : decode cX5_addMixer 1 = .ok (.iload_n 1, 1) := by decide +kernel
theorem dX5_addMixer_2 : decode cX5_addMixer 2 = .ok (.invokevirtual 166, 3) := by decide +kernel
theorem dX5_addMixer_5 : decode cX5_addMixer 5 = .ok (.aload_n 0, 1) := by decide +kernel
theorem dX5_addMixer_6 : decode cX5_addMixer 6 = .ok (.getfield 10, 3) := by decide +kernel
theorem dX5_addMixer_9 : decode cX5_addMixer 9 = .ok (.getfield 138, 3) := by decide +kernel
theorem dX5_addMixer_12 : decode cX5_addMixer 12 = .ok (.iconst 5, 1) := by decide +kernel
theorem dX5_addMixer_13 : decode cX5_addMixer 13 = .ok (.if_icmp .lt 13, 3) := by decide +kernel
theorem dX5_addMixer_16 : decode cX5_addMixer 16 = .ok (.new 104, 3) := by decide +kernel
theorem dX5_addMixer_19 : decode cX5_addMixer 19 = .ok (.dup, 1) := by decide +kernel
theorem dX5_addMixer_20 : decode cX5_addMixer 20 = .ok (.ldc 215, 2) := by decide +kernel
theorem dX5_addMixer_22 : decode cX5_addMixer 22 = .ok (.invokespecial 108, 3) := by decide +kernel
theorem dX5_addMixer_25 : decode cX5_addMixer 25 = .ok (.athrow, 1) := by decide +kernel
theorem dX5_addMixer_26 : decode cX5_addMixer 26 = .ok (.aload_n 0, 1) := by decide +kernel
theorem dX5_addMixer_27 : decode cX5_addMixer 27 = .ok (.getfield 22, 3) := by decide +kernel
theorem dX5_addMixer_30 : decode cX5_addMixer 30 = .ok (.aload_n 0, 1) := by decide +kernel
theorem dX5_addMixer_31 : decode cX5_addMixer 31 = .ok (.getfield 10, 3) := by decide +kernel
theorem dX5_addMixer_34 : decode cX5_addMixer 34 = .ok (.invokevirtual 72, 3) := by decide +kernel
theorem dX5_addMixer_37 : decode cX5_addMixer 37 = .ok (.aload_n 0, 1) := by decide +kernel
theorem dX5_addMixer_38 : decode cX5_addMixer 38 = .ok (.getfield 10, 3) := by decide +kernel
theorem dX5_addMixer_41 : decode cX5_addMixer 41 = .ok (.iload_n 1, 1) := by decide +kernel
theorem dX5_addMixer_42 : decode cX5_addMixer 42 = .ok (.invokevirtual 217, 3) := by decide +kernel
theorem dX5_addMixer_45 : decode cX5_addMixer 45 = .ok (.aload_n 0, 1) := by decide +kernel
theorem dX5_addMixer_46 : decode cX5_addMixer 46 = .ok (.getfield 10, 3) := by decide +kernel
theorem dX5_addMixer_49 : decode cX5_addMixer 49 = .ok (.getfield 138, 3) := by decide +kernel
theorem dX5_addMixer_52 : decode cX5_addMixer 52 = .ok (.iconst 1, 1) := by decide +kernel
theorem dX5_addMixer_53 : decode cX5_addMixer 53 = .ok (.isub, 1) := by decide +kernel
theorem dX5_addMixer_54 : decode cX5_addMixer 54 = .ok (.ireturn, 1) := by decide +kernel
theorem dX5_setMember_0 : decode cX5_setMember 0 = .ok (.aload_n 0, 1) := by decide +kernel
theorem dX5_setMember_1 : decode cX5_setMember 1 = .ok (.iload_n 1, 1) := by decide +kernel
theorem dX5_setMember_2 : decode cX5_setMember 2 = .ok (.invokevirtual 220, 3) := by decide +kernel
theorem dX5_setMember_5 : decode cX5_setMember 5 = .ok (.aload_n 0, 1) := by decide +kernel
theorem dX5_setMember_6 : decode cX5_setMember 6 = .ok (.iload_n 2, 1) := by decide +kernel
theorem dX5_setMember_7 : decode cX5_setMember 7 = .ok (.invokevirtual 84, 3) := by decide +kernel
theorem dX5_setMember_10 : decode cX5_setMember 10 = .ok (.aload_n 0, 1) := by decide +kernel
theorem dX5_setMember_11 : decode cX5_setMember 11 = .ok (.getfield 22, 3) := by decide +kernel
theorem dX5_setMember_14 : decode cX5_setMember 14 = .ok (.aload_n 0, 1) := by decide +kernel
theorem dX5_setMember_15 : decode cX5_setMember 15 = .ok (.getfield 10, 3) := by decide +kernel
theorem dX5_setMember_18 : decode cX5_setMember 18 = .ok (.invokevirtual 72, 3) := by decide +kernel
theorem dX5_setMember_21 : decode cX5_setMember 21 = .ok (.iconst 1, 1) := by decide +kernel
theorem dX5_setMember_22 : decode cX5_setMember 22 = .ok (.iload_n 2, 1) := by decide +kernel
theorem dX5_setMember_23 : decode cX5_setMember 23 = .ok (.ishl, 1) := by decide +kernel
theorem dX5_setMember_24 : decode cX5_setMember 24 = .ok (.istore 4, 2) := by decide +kernel
theorem dX5_setMember_26 : decode cX5_setMember 26 = .ok (.aload_n 0, 1) := by decide +kernel
theorem dX5_setMember_27 : decode cX5_setMember 27 = .ok (.getfield 10, 3) := by decide +kernel
theorem dX5_setMember_30 : decode cX5_setMember 30 = .ok (.iload_n 1, 1) := by decide +kernel
theorem dX5_setMember_31 : decode cX5_setMember 31 = .ok (.invokevirtual 223, 3) := by decide +kernel
theorem dX5_setMember_34 : decode cX5_setMember 34 = .ok (.istore 5, 2) := by decide +kernel
theorem dX5_setMember_36 : decode cX5_setMember 36 = .ok (.aload_n 0, 1) := by decide +kernel
theorem dX5_setMember_37 : decode cX5_setMember 37 = .ok (.getfield 10, 3) := by decide +kernel
