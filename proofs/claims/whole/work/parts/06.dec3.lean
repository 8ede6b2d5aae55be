theorem dX6_level_1 : decode cX6_level 1 = .ok (.iconst 2, 1) := by decide +kernel
theorem dX6_level_2 : decode cX6_level 2 = .ok (.if_icmp .ne 28, 3) := by decide +kernel
theorem dX6_level_5 : decode cX6_level 5 = .ok (.iconst 3, 1) := by decide +kernel
theorem dX6_level_6 : decode cX6_level 6 = .ok (.aload_n 0, 1) := by decide +kernel
theorem dX6_level_7 : decode cX6_level 7 = .ok (.getfield 22, 3) := by decide +kernel
theorem dX6_level_10 : decode cX6_level 10 = .ok (.iload_n 2, 1) := by decide +kernel
theorem dX6_level_11 : decode cX6_level 11 = .ok (.iaload, 1) := by decide +kernel
theorem dX6_level_12 : decode cX6_level 12 = .ok (.imul, 1) := by decide +kernel
theorem dX6_level_13 : decode cX6_level 13 = .ok (.iconst 2, 1) := by decide +kernel
theorem dX6_level_14 : decode cX6_level 14 = .ok (.aload_n 0, 1) := by decide +kernel
theorem dX6_level_15 : decode cX6_level 15 = .ok (.getfield 22, 3) := by decide +kernel
theorem dX6_level_18 : decode cX6_level 18 = .ok (.iload_n 3, 1) := by decide +kernel
theorem dX6_level_19 : decode cX6_level 19 = .ok (.iaload, 1) := by decide +kernel
theorem dX6_level_20 : decode cX6_level 20 = .ok (.imul, 1) := by decide +kernel
theorem dX6_level_21 : decode cX6_level 21 = .ok (.iadd, 1) := by decide +kernel
theorem dX6_level_22 : decode cX6_level 22 = .ok (.aload_n 0, 1) := by decide +kernel
theorem dX6_level_23 : decode cX6_level 23 = .ok (.getfield 7, 3) := by decide +kernel
theorem dX6_level_26 : decode cX6_level 26 = .ok (.iconst 2, 1) := by decide +kernel
theorem dX6_level_27 : decode cX6_level 27 = .ok (.iaload, 1) := by decide +kernel
theorem dX6_level_28 : decode cX6_level 28 = .ok (.isub, 1) := by decide +kernel
theorem dX6_level_29 : decode cX6_level 29 = .ok (.ireturn, 1) := by decide +kernel
theorem dX6_level_30 : decode cX6_level 30 = .ok (.aload_n 0, 1) := by decide +kernel
theorem dX6_level_31 : decode cX6_level 31 = .ok (.getfield 22, 3) := by decide +kernel
theorem dX6_level_34 : decode cX6_level 34 = .ok (.iload_n 2, 1) := by decide +kernel
theorem dX6_level_35 : decode cX6_level 35 = .ok (.iaload, 1) := by decide +kernel
theorem dX6_level_36 : decode cX6_level 36 = .ok (.aload_n 0, 1) := by decide +kernel
theorem dX6_level_37 : decode cX6_level 37 = .ok (.getfield 22, 3) := by decide +kernel
theorem dX6_level_40 : decode cX6_level 40 = .ok (.iload_n 3, 1) := by decide +kernel
theorem dX6_level_41 : decode cX6_level 41 = .ok (.iaload, 1) := by decide +kernel
theorem dX6_level_42 : decode cX6_level 42 = .ok (.iadd, 1) := by decide +kernel
theorem dX6_level_43 : decode cX6_level 43 = .ok (.aload_n 0, 1) := by decide +kernel
theorem dX6_level_44 : decode cX6_level 44 = .ok (.getfield 22, 3) := by decide +kernel
theorem dX6_level_47 : decode cX6_level 47 = .ok (.iload_n 1, 1) := by decide +kernel
theorem dX6_level_48 : decode cX6_level 48 = .ok (.ifCond .ne 7, 3) := by decide +kernel
theorem dX6_level_51 : decode cX6_level 51 = .ok (.iload_n 2, 1) := by decide +kernel
theorem dX6_level_52 : decode cX6_level 52 = .ok (.goto 5, 3) := by decide +kernel
theorem dX6_level_55 : decode cX6_level 55 = .ok (.iload 4, 2) := by decide +kernel
theorem dX6_level_57 : decode cX6_level 57 = .ok (.iaload, 1) := by decide +kernel
theorem dX6_level_58 : decode cX6_level 58 = .ok (.iadd, 1) := by decide +kernel
theorem dX6_level_59 : decode cX6_level 59 = .ok (.aload_n 0, 1) := by decide +kernel
theorem dX6_level_60 : decode cX6_level 60 = .ok (.getfield 7, 3) := by decide +kernel
theorem dX6_level_63 : decode cX6_level 63 = .ok (.iconst 1, 1) := by decide +kernel
theorem dX6_level_64 : decode cX6_level 64 = .ok (.iaload, 1) := by decide +kernel
theorem dX6_level_65 : decode cX6_level 65 = .ok (.isub, 1) := by decide +kernel
theorem dX6_level_66 : decode cX6_level 66 = .ok (.ireturn, 1) := by decide +kernel
theorem dX6_lists_0 : decode cX6_lists 0 = .ok (.aload_n 0, 1) := by decide +kernel
theorem dX6_lists_1 : decode cX6_lists 1 = .ok (.iload_n 1, 1) := by decide +kernel
theorem dX6_lists_2 : decode cX6_lists 2 = .ok (.iload_n 2, 1) := by decide +kernel
theorem dX6_lists_3 : decode cX6_lists 3 = .ok (.iload_n 3, 1) := by decide +kernel
theorem dX6_lists_4 : decode cX6_lists 4 = .ok (.iload 4, 2) := by decide +kernel
theorem dX6_lists_6 : decode cX6_lists 6 = .ok (.invokevirtual 92, 3) := by decide +kernel
theorem dX6_lists_9 : decode cX6_lists 9 = .ok (.istore 5, 2) := by decide +kernel
theorem dX6_lists_11 : decode cX6_lists 11 = .ok (.iload 5, 2) := by decide +kernel
theorem dX6_lists_13 : decode cX6_lists 13 = .ok (.iconst (-1), 1) := by decide +kernel
theorem dX6_lists_14 : decode cX6_lists 14 = .ok (.if_icmp .eq 99, 3) := by decide +kernel
theorem dX6_lists_17 : decode cX6_lists 17 = .ok (.bipush 6, 2) := by decide +kernel
theorem dX6_lists_19 : decode cX6_lists 19 = .ok (.aload_n 0, 1) := by decide +kernel
theorem dX6_lists_20 : decode cX6_lists 20 = .ok (.getfield 95, 3) := by decide +kernel
theorem dX6_lists_23 : decode cX6_lists 23 = .ok (.imul, 1) := by decide +kernel
theorem dX6_lists_24 : decode cX6_lists 24 = .ok (.istore 6, 2) := by decide +kernel
theorem dX6_lists_26 : decode cX6_lists 26 = .ok (.aload_n 0, 1) := by decide +kernel
theorem dX6_lists_27 : decode cX6_lists 27 = .ok (.getfield 25, 3) := by decide +kernel
theorem dX6_lists_30 : decode cX6_lists 30 = .ok (.iload 6, 2) := by decide +kernel
theorem dX6_lists_32 : decode cX6_lists 32 = .ok (.iload_n 1, 1) := by decide +kernel
theorem dX6_lists_33 : decode cX6_lists 33 = .ok (.iastore, 1) := by decide +kernel
theorem dX6_lists_34 : decode cX6_lists 34 = .ok (.aload_n 0, 1) := by decide +kernel
theorem dX6_lists_35 : decode cX6_lists 35 = .ok (.getfield 25, 3) := by decide +kernel
theorem dX6_lists_38 : decode cX6_lists 38 = .ok (.iload 6, 2) := by decide +kernel
theorem dX6_lists_40 : decode cX6_lists 40 = .ok (.iconst 1, 1) := by decide +kernel
theorem dX6_lists_41 : decode cX6_lists 41 = .ok (.iadd, 1) := by decide +kernel
theorem dX6_lists_42 : decode cX6_lists 42 = .ok (.iload_n 2, 1) := by decide +kernel
theorem dX6_lists_43 : decode cX6_lists 43 = .ok (.iastore, 1) := by decide +kernel
theorem dX6_lists_44 : decode cX6_lists 44 = .ok (.aload_n 0, 1) := by decide +kernel
theorem dX6_lists_45 : decode cX6_lists 45 = .ok (.getfield 25, 3) := by decide +kernel
theorem dX6_lists_48 : decode cX6_lists 48 = .ok (.iload 6, 2) := by decide +kernel
theorem dX6_lists_50 : decode cX6_lists 50 = .ok (.iconst 2, 1) := by decide +kernel
theorem dX6_lists_51 : decode cX6_lists 51 = .ok (.iadd, 1) := by decide +kernel
theorem dX6_lists_52 : decode cX6_lists 52 = .ok (.iload_n 3, 1) := by decide +kernel
theorem dX6_lists_53 : decode cX6_lists 53 = .ok (.iastore, 1) := by decide +kernel
theorem dX6_lists_54 : decode cX6_lists 54 = .ok (.aload_n 0, 1) := by decide +kernel
theorem dX6_lists_55 : decode cX6_lists 55 = .ok (.getfield 25, 3) := by decide +kernel
theorem dX6_lists_58 : decode cX6_lists 58 = .ok (.iload 6, 2) := by decide +kernel
theorem dX6_lists_60 : decode cX6_lists 60 = .ok (.iconst 3, 1) := by decide +kernel
theorem dX6_lists_61 : decode cX6_lists 61 = .ok (.iadd, 1) := by decide +kernel
theorem dX6_lists_62 : decode cX6_lists 62 = .ok (.iload_n 1, 1) := by decide +kernel
theorem dX6_lists_63 : decode cX6_lists 63 = .ok (.iconst 1, 1) := by decide +kernel
theorem dX6_lists_64 : decode cX6_lists 64 = .ok (.if_icmp .ne 8, 3) := by decide +kernel
theorem dX6_lists_67 : decode cX6_lists 67 = .ok (.iload 4, 2) := by decide +kernel
theorem dX6_lists_69 : decode cX6_lists 69 = .ok (.goto 4, 3) := by decide +kernel
theorem dX6_lists_72 : decode cX6_lists 72 = .ok (.iconst (-1), 1) := by decide +kernel
theorem dX6_lists_73 : decode cX6_lists 73 = .ok (.iastore, 1) := by decide +kernel
theorem dX6_lists_74 : decode cX6_lists 74 = .ok (.aload_n 0, 1) := by decide +kernel
theorem dX6_lists_75 : decode cX6_lists 75 = .ok (.getfield 25, 3) := by decide +kernel
theorem dX6_lists_78 : decode cX6_lists 78 = .ok (.iload 6, 2) := by decide +kernel
theorem dX6_lists_80 : decode cX6_lists 80 = .ok (.iconst 4, 1) := by decide +kernel
theorem dX6_lists_81 : decode cX6_lists 81 = .ok (.iadd, 1) := by decide +kernel
theorem dX6_lists_82 : decode cX6_lists 82 = .ok (.iload 5, 2) := by decide +kernel
theorem dX6_lists_84 : decode cX6_lists 84 = .ok (.iastore, 1) := by decide +kernel
theorem dX6_lists_85 : decode cX6_lists 85 = .ok (.aload_n 0, 1) := by decide +kernel
theorem dX6_lists_86 : decode cX6_lists 86 = .ok (.getfield 25, 3) := by decide +kernel
theorem dX6_lists_89 : decode cX6_lists 89 = .ok (.iload 6, 2) := by decide +kernel
theorem dX6_lists_91 : decode cX6_lists 91 = .ok (.iconst 5, 1) := by decide +kernel
theorem dX6_lists_92 : decode cX6_lists 92 = .ok (.iadd, 1) := by decide +kernel
theorem dX6_lists_93 : decode cX6_lists 93 = .ok (.aload_n 0, 1) := by decide +kernel
theorem dX6_lists_94 : decode cX6_lists 94 = .ok (.iload_n 1, 1) := by decide +kernel
theorem dX6_lists_95 : decode cX6_lists 95 = .ok (.iload_n 2, 1) := by decide +kernel
theorem dX6_lists_96 : decode cX6_lists 96 = .ok (.iload_n 3, 1) := by decide +kernel
theorem dX6_lists_97 : decode cX6_lists 97 = .ok (.iload 4, 2) := by decide +kernel
theorem dX6_lists_99 : decode cX6_lists 99 = .ok (.invokevirtual 88, 3) := by decide +kernel
theorem dX6_lists_102 : decode cX6_lists 102 = .ok (.iastore, 1) := by decide +kernel
theorem dX6_lists_103 : decode cX6_lists 103 = .ok (.aload_n 0, 1) := by decide +kernel
theorem dX6_lists_104 : decode cX6_lists 104 = .ok (.dup, 1) := by decide +kernel
theorem dX6_lists_105 : decode cX6_lists 105 = .ok (.getfield 95, 3) := by decide +kernel
theorem dX6_lists_108 : decode cX6_lists 108 = .ok (.iconst 1, 1) := by decide +kernel
theorem dX6_lists_109 : decode cX6_lists 109 = .ok (.iadd, 1) := by decide +kernel
theorem dX6_lists_110 : decode cX6_lists 110 = .ok (.putfield 95, 3) := by decide +kernel
theorem dX6_lists_113 : decode cX6_lists 113 = .ok (.return_, 1) := by decide +kernel
theorem dX6_rowsOfAll_0 : decode cX6_rowsOfAll 0 = .ok (.iconst 0, 1) := by decide +kernel
theorem dX6_rowsOfAll_1 : decode cX6_rowsOfAll 1 = .ok (.istore_n 1, 1) := by decide +kernel
theorem dX6_rowsOfAll_2 : decode cX6_rowsOfAll 2 = .ok (.iload_n 1, 1) := by decide +kernel
theorem dX6_rowsOfAll_3 : decode cX6_rowsOfAll 3 = .ok (.aload_n 0, 1) := by decide +kernel
theorem dX6_rowsOfAll_4 : decode cX6_rowsOfAll 4 = .ok (.getfield 7, 3) := by decide +kernel
theorem dX6_rowsOfAll_7 : decode cX6_rowsOfAll 7 = .ok (.iconst 5, 1) := by decide +kernel
theorem dX6_rowsOfAll_8 : decode cX6_rowsOfAll 8 = .ok (.iaload, 1) := by decide +kernel
theorem dX6_rowsOfAll_9 : decode cX6_rowsOfAll 9 = .ok (.if_icmp .ge 31, 3) := by decide +kernel
theorem dX6_rowsOfAll_12 : decode cX6_rowsOfAll 12 = .ok (.aload_n 0, 1) := by decide +kernel
theorem dX6_rowsOfAll_13 : decode cX6_rowsOfAll 13 = .ok (.getfield 19, 3) := by decide +kernel
theorem dX6_rowsOfAll_16 : decode cX6_rowsOfAll 16 = .ok (.iload_n 1, 1) := by decide +kernel
theorem dX6_rowsOfAll_17 : decode cX6_rowsOfAll 17 = .ok (.aload_n 0, 1) := by decide +kernel
theorem dX6_rowsOfAll_18 : decode cX6_rowsOfAll 18 = .ok (.iload_n 1, 1) := by decide +kernel
theorem dX6_rowsOfAll_19 : decode cX6_rowsOfAll 19 = .ok (.invokevirtual 57, 3) := by decide +kernel
theorem dX6_rowsOfAll_22 : decode cX6_rowsOfAll 22 = .ok (.iastore, 1) := by decide +kernel
theorem dX6_rowsOfAll_23 : decode cX6_rowsOfAll 23 = .ok (.aload_n 0, 1) := by decide +kernel
theorem dX6_rowsOfAll_24 : decode cX6_rowsOfAll 24 = .ok (.getfield 22, 3) := by decide +kernel
theorem dX6_rowsOfAll_27 : decode cX6_rowsOfAll 27 = .ok (.iload_n 1, 1) := by decide +kernel
theorem dX6_rowsOfAll_28 : decode cX6_rowsOfAll 28 = .ok (.aload_n 0, 1) := by decide +kernel
theorem dX6_rowsOfAll_29 : decode cX6_rowsOfAll 29 = .ok (.iload_n 1, 1) := by decide +kernel
theorem dX6_rowsOfAll_30 : decode cX6_rowsOfAll 30 = .ok (.invokevirtual 82, 3) := by decide +kernel
theorem dX6_rowsOfAll_33 : decode cX6_rowsOfAll 33 = .ok (.iastore, 1) := by decide +kernel
theorem dX6_rowsOfAll_34 : decode cX6_rowsOfAll 34 = .ok (.iinc 1 1, 3) := by decide +kernel
theorem dX6_rowsOfAll_37 : decode cX6_rowsOfAll 37 = .ok (.goto (-35), 3) := by decide +kernel
theorem dX6_rowsOfAll_40 : decode cX6_rowsOfAll 40 = .ok (.return_, 1) := by decide +kernel
theorem dX6_listAll_0 : decode cX6_listAll 0 = .ok (.aload_n 0, 1) := by decide +kernel
theorem dX6_listAll_1 : decode cX6_listAll 1 = .ok (.invokevirtual 98, 3) := by decide +kernel
theorem dX6_listAll_4 : decode cX6_listAll 4 = .ok (.aload_n 0, 1) := by decide +kernel
theorem dX6_listAll_5 : decode cX6_listAll 5 = .ok (.iconst 0, 1) := by decide +kernel
theorem dX6_listAll_6 : decode cX6_listAll 6 = .ok (.putfield 95, 3) := by decide +kernel
theorem dX6_listAll_9 : decode cX6_listAll 9 = .ok (.aload_n 0, 1) := by decide +kernel
theorem dX6_listAll_10 : decode cX6_listAll 10 = .ok (.getfield 7, 3) := by decide +kernel
theorem dX6_listAll_13 : decode cX6_listAll 13 = .ok (.iconst 5, 1) := by decide +kernel
theorem dX6_listAll_14 : decode cX6_listAll 14 = .ok (.iaload, 1) := by decide +kernel
theorem dX6_listAll_15 : decode cX6_listAll 15 = .ok (.istore_n 2, 1) := by decide +kernel
theorem dX6_listAll_16 : decode cX6_listAll 16 = .ok (.iconst 0, 1) := by decide +kernel
theorem dX6_listAll_17 : decode cX6_listAll 17 = .ok (.istore_n 3, 1) := by decide +kernel
theorem dX6_listAll_18 : decode cX6_listAll 18 = .ok (.iload_n 3, 1) := by decide +kernel
theorem dX6_listAll_19 : decode cX6_listAll 19 = .ok (.iconst 3, 1) := by decide +kernel
theorem dX6_listAll_20 : decode cX6_listAll 20 = .ok (.if_icmp .ge 151, 3) := by decide +kernel
theorem dX6_listAll_23 : decode cX6_listAll 23 = .ok (.iconst 0, 1) := by decide +kernel
theorem dX6_listAll_24 : decode cX6_listAll 24 = .ok (.istore 4, 2) := by decide +kernel
theorem dX6_listAll_26 : decode cX6_listAll 26 = .ok (.iload 4, 2) := by decide +kernel
theorem dX6_listAll_28 : decode cX6_listAll 28 = .ok (.iload_n 2, 1) := by decide +kernel
theorem dX6_listAll_29 : decode cX6_listAll 29 = .ok (.if_icmp .ge 136, 3) := by decide +kernel
theorem dX6_listAll_32 : decode cX6_listAll 32 = .ok (.iload_n 3, 1) := by decide +kernel
theorem dX6_listAll_33 : decode cX6_listAll 33 = .ok (.iconst 1, 1) := by decide +kernel
theorem dX6_listAll_34 : decode cX6_listAll 34 = .ok (.if_icmp .ne 10, 3) := by decide +kernel
theorem dX6_listAll_37 : decode cX6_listAll 37 = .ok (.iload 4, 2) := by decide +kernel
theorem dX6_listAll_39 : decode cX6_listAll 39 = .ok (.iconst 1, 1) := by decide +kernel
theorem dX6_listAll_40 : decode cX6_listAll 40 = .ok (.iadd, 1) := by decide +kernel
theorem dX6_listAll_41 : decode cX6_listAll 41 = .ok (.goto 4, 3) := by decide +kernel
theorem dX6_listAll_44 : decode cX6_listAll 44 = .ok (.iconst 0, 1) := by decide +kernel
theorem dX6_listAll_45 : decode cX6_listAll 45 = .ok (.istore 5, 2) := by decide +kernel
theorem dX6_listAll_47 : decode cX6_listAll 47 = .ok (.iload 5, 2) := by decide +kernel
theorem dX6_listAll_49 : decode cX6_listAll 49 = .ok (.iload_n 2, 1) := by decide +kernel
theorem dX6_listAll_50 : decode cX6_listAll 50 = .ok (.if_icmp .ge 109, 3) := by decide +kernel
theorem dX6_listAll_53 : decode cX6_listAll 53 = .ok (.iload 4, 2) := by decide +kernel
theorem dX6_listAll_55 : decode cX6_listAll 55 = .ok (.iload 5, 2) := by decide +kernel
theorem dX6_listAll_57 : decode cX6_listAll 57 = .ok (.if_icmp .eq 25, 3) := by decide +kernel
theorem dX6_listAll_60 : decode cX6_listAll 60 = .ok (.iload_n 1, 1) := by decide +kernel
theorem dX6_listAll_61 : decode cX6_listAll 61 = .ok (.iload 4, 2) := by decide +kernel
theorem dX6_listAll_63 : decode cX6_listAll 63 = .ok (.invokestatic 85, 3) := by decide +kernel
theorem dX6_listAll_66 : decode cX6_listAll 66 = .ok (.ifCond .eq 16, 3) := by decide +kernel
theorem dX6_listAll_69 : decode cX6_listAll 69 = .ok (.iload_n 1, 1) := by decide +kernel
theorem dX6_listAll_70 : decode cX6_listAll 70 = .ok (.iload 5, 2) := by decide +kernel
theorem dX6_listAll_72 : decode cX6_listAll 72 = .ok (.invokestatic 85, 3) := by decide +kernel
theorem dX6_listAll_75 : decode cX6_listAll 75 = .ok (.ifCond .eq 7, 3) := by decide +kernel
theorem dX6_listAll_78 : decode cX6_listAll 78 = .ok (.iconst 1, 1) := by decide +kernel
theorem dX6_listAll_79 : decode cX6_listAll 79 = .ok (.goto 4, 3) := by decide +kernel
theorem dX6_listAll_82 : decode cX6_listAll 82 = .ok (.iconst 0, 1) := by decide +kernel
theorem dX6_listAll_83 : decode cX6_listAll 83 = .ok (.istore 6, 2) := by decide +kernel
theorem dX6_listAll_85 : decode cX6_listAll 85 = .ok (.iconst 0, 1) := by decide +kernel
theorem dX6_listAll_86 : decode cX6_listAll 86 = .ok (.istore 7, 2) := by decide +kernel
theorem dX6_listAll_88 : decode cX6_listAll 88 = .ok (.iload 7, 2) := by decide +kernel
theorem dX6_listAll_90 : decode cX6_listAll 90 = .ok (.iload_n 3, 1) := by decide +kernel
theorem dX6_listAll_91 : decode cX6_listAll 91 = .ok (.iconst 1, 1) := by decide +kernel
theorem dX6_listAll_92 : decode cX6_listAll 92 = .ok (.if_icmp .ne 7, 3) := by decide +kernel
theorem dX6_listAll_95 : decode cX6_listAll 95 = .ok (.iload_n 2, 1) := by decide +kernel
theorem dX6_listAll_96 : decode cX6_listAll 96 = .ok (.goto 4, 3) := by decide +kernel
theorem dX6_listAll_99 : decode cX6_listAll 99 = .ok (.iconst 1, 1) := by decide +kernel
theorem dX6_listAll_100 : decode cX6_listAll 100 = .ok (.if_icmp .ge 53, 3) := by decide +kernel
theorem dX6_listAll_103 : decode cX6_listAll 103 = .ok (.iload 6, 2) := by decide +kernel
theorem dX6_listAll_105 : decode cX6_listAll 105 = .ok (.ifCond .eq 48, 3) := by decide +kernel
theorem dX6_listAll_108 : decode cX6_listAll 108 = .ok (.iload_n 3, 1) := by decide +kernel
theorem dX6_listAll_109 : decode cX6_listAll 109 = .ok (.iconst 1, 1) := by decide +kernel
theorem dX6_listAll_110 : decode cX6_listAll 110 = .ok (.if_icmp .ne 26, 3) := by decide +kernel
theorem dX6_listAll_113 : decode cX6_listAll 113 = .ok (.iload 7, 2) := by decide +kernel
theorem dX6_listAll_115 : decode cX6_listAll 115 = .ok (.iload 4, 2) := by decide +kernel
theorem dX6_listAll_117 : decode cX6_listAll 117 = .ok (.if_icmp .eq 30, 3) := by decide +kernel
theorem dX6_listAll_120 : decode cX6_listAll 120 = .ok (.iload 7, 2) := by decide +kernel
theorem dX6_listAll_122 : decode cX6_listAll 122 = .ok (.iload 5, 2) := by decide +kernel
theorem dX6_listAll_124 : decode cX6_listAll 124 = .ok (.if_icmp .eq 23, 3) := by decide +kernel
theorem dX6_listAll_127 : decode cX6_listAll 127 = .ok (.iload_n 1, 1) := by decide +kernel
theorem dX6_listAll_128 : decode cX6_listAll 128 = .ok (.iload 7, 2) := by decide +kernel
theorem dX6_listAll_130 : decode cX6_listAll 130 = .ok (.invokestatic 85, 3) := by decide +kernel
theorem dX6_listAll_133 : decode cX6_listAll 133 = .ok (.ifCond .eq 14, 3) := by decide +kernel
theorem dX6_listAll_136 : decode cX6_listAll 136 = .ok (.aload_n 0, 1) := by decide +kernel
theorem dX6_listAll_137 : decode cX6_listAll 137 = .ok (.iload_n 3, 1) := by decide +kernel
theorem dX6_listAll_138 : decode cX6_listAll 138 = .ok (.iload 4, 2) := by decide +kernel
theorem dX6_listAll_140 : decode cX6_listAll 140 = .ok (.iload 5, 2) := by decide +kernel
theorem dX6_listAll_142 : decode cX6_listAll 142 = .ok (.iload 7, 2) := by decide +kernel
theorem dX6_listAll_144 : decode cX6_listAll 144 = .ok (.invokevirtual 101, 3) := by decide +kernel
theorem dX6_listAll_147 : decode cX6_listAll 147 = .ok (.iinc 7 1, 3) := by decide +kernel
theorem dX6_listAll_150 : decode cX6_listAll 150 = .ok (.goto (-62), 3) := by decide +kernel
theorem dX6_listAll_153 : decode cX6_listAll 153 = .ok (.iinc 5 1, 3) := by decide +kernel
theorem dX6_listAll_156 : decode cX6_listAll 156 = .ok (.goto (-109), 3) := by decide +kernel
theorem dX6_listAll_159 : decode cX6_listAll 159 = .ok (.iinc 4 1, 3) := by decide +kernel
theorem dX6_listAll_162 : decode cX6_listAll 162 = .ok (.goto (-136), 3) := by decide +kernel
theorem dX6_listAll_165 : decode cX6_listAll 165 = .ok (.iinc 3 1, 3) := by decide +kernel
theorem dX6_listAll_168 : decode cX6_listAll 168 = .ok (.goto (-150), 3) := by decide +kernel
theorem dX6_listAll_171 : decode cX6_listAll 171 = .ok (.return_, 1) := by decide +kernel
theorem dX6_all_0 : decode cX6_all 0 = .ok (.iconst 1, 1) := by decide +kernel
theorem dX6_all_1 : decode cX6_all 1 = .ok (.aload_n 0, 1) := by decide +kernel
theorem dX6_all_2 : decode cX6_all 2 = .ok (.getfield 7, 3) := by decide +kernel
theorem dX6_all_5 : decode cX6_all 5 = .ok (.iconst 5, 1) := by decide +kernel
theorem dX6_all_6 : decode cX6_all 6 = .ok (.iaload, 1) := by decide +kernel
theorem dX6_all_7 : decode cX6_all 7 = .ok (.ishl, 1) := by decide +kernel
theorem dX6_all_8 : decode cX6_all 8 = .ok (.iconst 1, 1) := by decide +kernel
theorem dX6_all_9 : decode cX6_all 9 = .ok (.isub, 1) := by decide +kernel
theorem dX6_all_10 : decode cX6_all 10 = .ok (.ireturn, 1) := by decide +kernel
theorem dX6_products_0 : decode cX6_products 0 = .ok (.aload_n 0, 1) := by decide +kernel
theorem dX6_products_1 : decode cX6_products 1 = .ok (.iconst 0, 1) := by decide +kernel
theorem dX6_products_2 : decode cX6_products 2 = .ok (.putfield 43, 3) := by decide +kernel
theorem dX6_products_5 : decode cX6_products 5 = .ok (.aload_n 0, 1) := by decide +kernel
theorem dX6_products_6 : decode cX6_products 6 = .ok (.aload_n 0, 1) := by decide +kernel
theorem dX6_products_7 : decode cX6_products 7 = .ok (.invokevirtual 105, 3) := by decide +kernel
theorem dX6_products_10 : decode cX6_products 10 = .ok (.invokevirtual 109, 3) := by decide +kernel
theorem dX6_products_13 : decode cX6_products 13 = .ok (.aload_n 0, 1) := by decide +kernel
theorem dX6_products_14 : decode cX6_products 14 = .ok (.getfield 95, 3) := by decide +kernel
theorem dX6_products_17 : decode cX6_products 17 = .ok (.ireturn, 1) := by decide +kernel
theorem dX6_product_0 : decode cX6_product 0 = .ok (.aload_n 0, 1) := by decide +kernel
theorem dX6_product_1 : decode cX6_product 1 = .ok (.aload_n 0, 1) := by decide +kernel
theorem dX6_product_2 : decode cX6_product 2 = .ok (.invokevirtual 105, 3) := by decide +kernel
theorem dX6_product_5 : decode cX6_product 5 = .ok (.invokevirtual 109, 3) := by decide +kernel
theorem dX6_product_8 : decode cX6_product 8 = .ok (.aload_n 0, 1) := by decide +kernel
theorem dX6_product_9 : decode cX6_product 9 = .ok (.iload_n 1, 1) := by decide +kernel
theorem dX6_product_10 : decode cX6_product 10 = .ok (.iconst 0, 1) := by decide +kernel
theorem dX6_product_11 : decode cX6_product 11 = .ok (.aload_n 0, 1) := by decide +kernel
theorem dX6_product_12 : decode cX6_product 12 = .ok (.getfield 95, 3) := by decide +kernel
theorem dX6_product_15 : decode cX6_product 15 = .ok (.iconst 1, 1) := by decide +kernel
theorem dX6_product_16 : decode cX6_product 16 = .ok (.isub, 1) := by decide +kernel
theorem dX6_product_17 : decode cX6_product 17 = .ok (.invokestatic 53, 3) := by decide +kernel
theorem dX6_product_20 : decode cX6_product 20 = .ok (.ifCond .ne 7, 3) := by decide +kernel
theorem dX6_product_23 : decode cX6_product 23 = .ok (.iconst 1, 1) := by decide +kernel
theorem dX6_product_24 : decode cX6_product 24 = .ok (.goto 17, 3) := by decide +kernel
theorem dX6_product_27 : decode cX6_product 27 = .ok (.iload_n 2, 1) := by decide +kernel
theorem dX6_product_28 : decode cX6_product 28 = .ok (.iconst 0, 1) := by decide +kernel
theorem dX6_product_29 : decode cX6_product 29 = .ok (.iconst 5, 1) := by decide +kernel
theorem dX6_product_30 : decode cX6_product 30 = .ok (.invokestatic 53, 3) := by decide +kernel
theorem dX6_product_33 : decode cX6_product 33 = .ok (.ifCond .ne 7, 3) := by decide +kernel
theorem dX6_product_36 : decode cX6_product 36 = .ok (.iconst 2, 1) := by decide +kernel
theorem dX6_product_37 : decode cX6_product 37 = .ok (.goto 4, 3) := by decide +kernel
theorem dX6_product_40 : decode cX6_product 40 = .ok (.iconst 0, 1) := by decide +kernel
theorem dX6_product_41 : decode cX6_product 41 = .ok (.putfield 43, 3) := by decide +kernel
theorem dX6_product_44 : decode cX6_product 44 = .ok (.aload_n 0, 1) := by decide +kernel
theorem dX6_product_45 : decode cX6_product 45 = .ok (.getfield 43, 3) := by decide +kernel
theorem dX6_product_48 : decode cX6_product 48 = .ok (.ifCond .eq 7, 3) := by decide +kernel
theorem dX6_product_51 : decode cX6_product 51 = .ok (.iconst 0, 1) := by decide +kernel
theorem dX6_product_52 : decode cX6_product 52 = .ok (.goto 14, 3) := by decide +kernel
theorem dX6_product_55 : decode cX6_product 55 = .ok (.aload_n 0, 1) := by decide +kernel
theorem dX6_product_56 : decode cX6_product 56 = .ok (.getfield 25, 3) := by decide +kernel
theorem dX6_product_59 : decode cX6_product 59 = .ok (.bipush 6, 2) := by decide +kernel
theorem dX6_product_61 : decode cX6_product 61 = .ok (.iload_n 1, 1) := by decide +kernel
theorem dX6_product_62 : decode cX6_product 62 = .ok (.imul, 1) := by decide +kernel
theorem dX6_product_63 : decode cX6_product 63 = .ok (.iload_n 2, 1) := by decide +kernel
theorem dX6_product_64 : decode cX6_product 64 = .ok (.iadd, 1) := by decide +kernel
theorem dX6_product_65 : decode cX6_product 65 = .ok (.iaload, 1) := by decide +kernel
theorem dX6_product_66 : decode cX6_product 66 = .ok (.ireturn, 1) := by decide +kernel
theorem dX6_falloutOf_0 : decode cX6_falloutOf 0 = .ok (.aload_n 0, 1) := by decide +kernel
theorem dX6_falloutOf_1 : decode cX6_falloutOf 1 = .ok (.iload_n 1, 1) := by decide +kernel
theorem dX6_falloutOf_2 : decode cX6_falloutOf 2 = .ok (.invokevirtual 109, 3) := by decide +kernel
theorem dX6_falloutOf_5 : decode cX6_falloutOf 5 = .ok (.lconst 0, 1) := by decide +kernel
theorem dX6_falloutOf_6 : decode cX6_falloutOf 6 = .ok (.lstore_n 2, 1) := by decide +kernel
theorem dX6_falloutOf_7 : decode cX6_falloutOf 7 = .ok (.iconst 0, 1) := by decide +kernel
theorem dX6_falloutOf_8 : decode cX6_falloutOf 8 = .ok (.istore 4, 2) := by decide +kernel
theorem dX6_falloutOf_10 : decode cX6_falloutOf 10 = .ok (.iload 4, 2) := by decide +kernel
theorem dX6_falloutOf_12 : decode cX6_falloutOf 12 = .ok (.aload_n 0, 1) := by decide +kernel
theorem dX6_falloutOf_13 : decode cX6_falloutOf 13 = .ok (.getfield 95, 3) := by decide +kernel
theorem dX6_falloutOf_16 : decode cX6_falloutOf 16 = .ok (.if_icmp .ge 26, 3) := by decide +kernel
theorem dX6_falloutOf_19 : decode cX6_falloutOf 19 = .ok (.lload_n 2, 1) := by decide +kernel
theorem dX6_falloutOf_20 : decode cX6_falloutOf 20 = .ok (.lconst 1, 1) := by decide +kernel
theorem dX6_falloutOf_21 : decode cX6_falloutOf 21 = .ok (.aload_n 0, 1) := by decide +kernel
theorem dX6_falloutOf_22 : decode cX6_falloutOf 22 = .ok (.getfield 25, 3) := by decide +kernel
theorem dX6_falloutOf_25 : decode cX6_falloutOf 25 = .ok (.bipush 6, 2) := by decide +kernel
theorem dX6_falloutOf_27 : decode cX6_falloutOf 27 = .ok (.iload 4, 2) := by decide +kernel
theorem dX6_falloutOf_29 : decode cX6_falloutOf 29 = .ok (.imul, 1) := by decide +kernel
theorem dX6_falloutOf_30 : decode cX6_falloutOf 30 = .ok (.iconst 4, 1) := by decide +kernel
theorem dX6_falloutOf_31 : decode cX6_falloutOf 31 = .ok (.iadd, 1) := by decide +kernel
theorem dX6_falloutOf_32 : decode cX6_falloutOf 32 = .ok (.iaload, 1) := by decide +kernel
theorem dX6_falloutOf_33 : decode cX6_falloutOf 33 = .ok (.lshl, 1) := by decide +kernel
theorem dX6_falloutOf_34 : decode cX6_falloutOf 34 = .ok (.lor, 1) := by decide +kernel
theorem dX6_falloutOf_35 : decode cX6_falloutOf 35 = .ok (.lstore_n 2, 1) := by decide +kernel
theorem dX6_falloutOf_36 : decode cX6_falloutOf 36 = .ok (.iinc 4 1, 3) := by decide +kernel
theorem dX6_falloutOf_39 : decode cX6_falloutOf 39 = .ok (.goto (-29), 3) := by decide +kernel
theorem dX6_falloutOf_42 : decode cX6_falloutOf 42 = .ok (.lload_n 2, 1) := by decide +kernel
theorem dX6_falloutOf_43 : decode cX6_falloutOf 43 = .ok (.lreturn, 1) := by decide +kernel
theorem dX6_fallout_0 : decode cX6_fallout 0 = .ok (.aload_n 0, 1) := by decide +kernel
theorem dX6_fallout_1 : decode cX6_fallout 1 = .ok (.aload_n 0, 1) := by decide +kernel
theorem dX6_fallout_2 : decode cX6_fallout 2 = .ok (.iload_n 1, 1) := by decide +kernel
theorem dX6_fallout_3 : decode cX6_fallout 3 = .ok (.invokevirtual 113, 3) := by decide +kernel
theorem dX6_fallout_6 : decode cX6_fallout 6 = .ok (.ifCond .eq 7, 3) := by decide +kernel
theorem dX6_fallout_9 : decode cX6_fallout 9 = .ok (.iconst 0, 1) := by decide +kernel
theorem dX6_fallout_10 : decode cX6_fallout 10 = .ok (.goto 4, 3) := by decide +kernel
theorem dX6_fallout_13 : decode cX6_fallout 13 = .ok (.iconst 1, 1) := by decide +kernel
theorem dX6_fallout_14 : decode cX6_fallout 14 = .ok (.putfield 43, 3) := by decide +kernel
theorem dX6_fallout_17 : decode cX6_fallout 17 = .ok (.aload_n 0, 1) := by decide +kernel
theorem dX6_fallout_18 : decode cX6_fallout 18 = .ok (.getfield 43, 3) := by decide +kernel
theorem dX6_fallout_21 : decode cX6_fallout 21 = .ok (.ifCond .eq 7, 3) := by decide +kernel
theorem dX6_fallout_24 : decode cX6_fallout 24 = .ok (.lconst 0, 1) := by decide +kernel
theorem dX6_fallout_25 : decode cX6_fallout 25 = .ok (.goto 8, 3) := by decide +kernel
theorem dX6_fallout_28 : decode cX6_fallout 28 = .ok (.aload_n 0, 1) := by decide +kernel
theorem dX6_fallout_29 : decode cX6_fallout 29 = .ok (.iload_n 1, 1) := by decide +kernel
theorem dX6_fallout_30 : decode cX6_fallout 30 = .ok (.invokevirtual 116, 3) := by decide +kernel
theorem dX6_fallout_33 : decode cX6_fallout 33 = .ok (.lreturn, 1) := by decide +kernel
theorem dX6_isNear_0 : decode cX6_isNear 0 = .ok (.iload_n 1, 1) := by decide +kernel
theorem dX6_isNear_1 : decode cX6_isNear 1 = .ok (.iload_n 2, 1) := by decide +kernel
theorem dX6_isNear_2 : decode cX6_isNear 2 = .ok (.isub, 1) := by decide +kernel
theorem dX6_isNear_3 : decode cX6_isNear 3 = .ok (.aload_n 0, 1) := by decide +kernel
theorem dX6_isNear_4 : decode cX6_isNear 4 = .ok (.getfield 7, 3) := by decide +kernel
theorem dX6_isNear_7 : decode cX6_isNear 7 = .ok (.iconst 3, 1) := by decide +kernel
theorem dX6_isNear_8 : decode cX6_isNear 8 = .ok (.iaload, 1) := by decide +kernel
theorem dX6_isNear_9 : decode cX6_isNear 9 = .ok (.ineg, 1) := by decide +kernel
theorem dX6_isNear_10 : decode cX6_isNear 10 = .ok (.aload_n 0, 1) := by decide +kernel
theorem dX6_isNear_11 : decode cX6_isNear 11 = .ok (.getfield 7, 3) := by decide +kernel
theorem dX6_isNear_14 : decode cX6_isNear 14 = .ok (.iconst 3, 1) := by decide +kernel
theorem dX6_isNear_15 : decode cX6_isNear 15 = .ok (.iaload, 1) := by decide +kernel
theorem dX6_isNear_16 : decode cX6_isNear 16 = .ok (.invokestatic 53, 3) := by decide +kernel
theorem dX6_isNear_19 : decode cX6_isNear 19 = .ok (.ireturn, 1) := by decide +kernel
theorem dX6_hitsAt_0 : decode cX6_hitsAt 0 = .ok (.iconst 0, 1) := by decide +kernel
theorem dX6_hitsAt_1 : decode cX6_hitsAt 1 = .ok (.istore_n 2, 1) := by decide +kernel
theorem dX6_hitsAt_2 : decode cX6_hitsAt 2 = .ok (.iconst 0, 1) := by decide +kernel
theorem dX6_hitsAt_3 : decode cX6_hitsAt 3 = .ok (.istore_n 3, 1) := by decide +kernel
theorem dX6_hitsAt_4 : decode cX6_hitsAt 4 = .ok (.iload_n 3, 1) := by decide +kernel
theorem dX6_hitsAt_5 : decode cX6_hitsAt 5 = .ok (.aload_n 0, 1) := by decide +kernel
theorem dX6_hitsAt_6 : decode cX6_hitsAt 6 = .ok (.getfield 95, 3) := by decide +kernel
theorem dX6_hitsAt_9 : decode cX6_hitsAt 9 = .ok (.if_icmp .ge 36, 3) := by decide +kernel
theorem dX6_hitsAt_12 : decode cX6_hitsAt 12 = .ok (.iload_n 2, 1) := by decide +kernel
theorem dX6_hitsAt_13 : decode cX6_hitsAt 13 = .ok (.aload_n 0, 1) := by decide +kernel
theorem dX6_hitsAt_14 : decode cX6_hitsAt 14 = .ok (.aload_n 0, 1) := by decide +kernel
theorem dX6_hitsAt_15 : decode cX6_hitsAt 15 = .ok (.getfield 25, 3) := by decide +kernel
theorem dX6_hitsAt_18 : decode cX6_hitsAt 18 = .ok (.bipush 6, 2) := by decide +kernel
theorem dX6_hitsAt_20 : decode cX6_hitsAt 20 = .ok (.iload_n 3, 1) := by decide +kernel
theorem dX6_hitsAt_21 : decode cX6_hitsAt 21 = .ok (.imul, 1) := by decide +kernel
theorem dX6_hitsAt_22 : decode cX6_hitsAt 22 = .ok (.iconst 4, 1) := by decide +kernel
theorem dX6_hitsAt_23 : decode cX6_hitsAt 23 = .ok (.iadd, 1) := by decide +kernel
theorem dX6_hitsAt_24 : decode cX6_hitsAt 24 = .ok (.iaload, 1) := by decide +kernel
theorem dX6_hitsAt_25 : decode cX6_hitsAt 25 = .ok (.iload_n 1, 1) := by decide +kernel
theorem dX6_hitsAt_26 : decode cX6_hitsAt 26 = .ok (.invokevirtual 120, 3) := by decide +kernel
theorem dX6_hitsAt_29 : decode cX6_hitsAt 29 = .ok (.ifCond .eq 7, 3) := by decide +kernel
theorem dX6_hitsAt_32 : decode cX6_hitsAt 32 = .ok (.iconst 1, 1) := by decide +kernel
theorem dX6_hitsAt_33 : decode cX6_hitsAt 33 = .ok (.goto 4, 3) := by decide +kernel
theorem dX6_hitsAt_36 : decode cX6_hitsAt 36 = .ok (.iconst 0, 1) := by decide +kernel
theorem dX6_hitsAt_37 : decode cX6_hitsAt 37 = .ok (.iadd, 1) := by decide +kernel
theorem dX6_hitsAt_38 : decode cX6_hitsAt 38 = .ok (.istore_n 2, 1) := by decide +kernel
theorem dX6_hitsAt_39 : decode cX6_hitsAt 39 = .ok (.iinc 3 1, 3) := by decide +kernel
theorem dX6_hitsAt_42 : decode cX6_hitsAt 42 = .ok (.goto (-38), 3) := by decide +kernel
theorem dX6_hitsAt_45 : decode cX6_hitsAt 45 = .ok (.iload_n 2, 1) := by decide +kernel
theorem dX6_hitsAt_46 : decode cX6_hitsAt 46 = .ok (.ireturn, 1) := by decide +kernel
theorem dX6_hitsAll_0 : decode cX6_hitsAll 0 = .ok (.aload_n 0, 1) := by decide +kernel
theorem dX6_hitsAll_1 : decode cX6_hitsAll 1 = .ok (.aload_n 0, 1) := by decide +kernel
theorem dX6_hitsAll_2 : decode cX6_hitsAll 2 = .ok (.invokevirtual 105, 3) := by decide +kernel
theorem dX6_hitsAll_5 : decode cX6_hitsAll 5 = .ok (.invokevirtual 109, 3) := by decide +kernel
theorem dX6_hitsAll_8 : decode cX6_hitsAll 8 = .ok (.iconst 0, 1) := by decide +kernel
theorem dX6_hitsAll_9 : decode cX6_hitsAll 9 = .ok (.istore_n 1, 1) := by decide +kernel
theorem dX6_hitsAll_10 : decode cX6_hitsAll 10 = .ok (.iconst 0, 1) := by decide +kernel
theorem dX6_hitsAll_11 : decode cX6_hitsAll 11 = .ok (.istore_n 2, 1) := by decide +kernel
theorem dX6_hitsAll_12 : decode cX6_hitsAll 12 = .ok (.iload_n 2, 1) := by decide +kernel
theorem dX6_hitsAll_13 : decode cX6_hitsAll 13 = .ok (.aload_n 0, 1) := by decide +kernel
theorem dX6_hitsAll_14 : decode cX6_hitsAll 14 = .ok (.getfield 7, 3) := by decide +kernel
theorem dX6_hitsAll_17 : decode cX6_hitsAll 17 = .ok (.iconst 5, 1) := by decide +kernel
theorem dX6_hitsAll_18 : decode cX6_hitsAll 18 = .ok (.iaload, 1) := by decide +kernel
theorem dX6_hitsAll_19 : decode cX6_hitsAll 19 = .ok (.if_icmp .ge 21, 3) := by decide +kernel
theorem dX6_hitsAll_22 : decode cX6_hitsAll 22 = .ok (.iload_n 1, 1) := by decide +kernel
theorem dX6_hitsAll_23 : decode cX6_hitsAll 23 = .ok (.aload_n 0, 1) := by decide +kernel
theorem dX6_hitsAll_24 : decode cX6_hitsAll 24 = .ok (.aload_n 0, 1) := by decide +kernel
theorem dX6_hitsAll_25 : decode cX6_hitsAll 25 = .ok (.iload_n 2, 1) := by decide +kernel
theorem dX6_hitsAll_26 : decode cX6_hitsAll 26 = .ok (.invokevirtual 57, 3) := by decide +kernel
theorem dX6_hitsAll_29 : decode cX6_hitsAll 29 = .ok (.invokevirtual 123, 3) := by decide +kernel
theorem dX6_hitsAll_32 : decode cX6_hitsAll 32 = .ok (.iadd, 1) := by decide +kernel
theorem dX6_hitsAll_33 : decode cX6_hitsAll 33 = .ok (.istore_n 1, 1) := by decide +kernel
theorem dX6_hitsAll_34 : decode cX6_hitsAll 34 = .ok (.iinc 2 1, 3) := by decide +kernel
theorem dX6_hitsAll_37 : decode cX6_hitsAll 37 = .ok (.goto (-25), 3) := by decide +kernel
theorem dX6_hitsAll_40 : decode cX6_hitsAll 40 = .ok (.iload_n 1, 1) := by decide +kernel
theorem dX6_hitsAll_41 : decode cX6_hitsAll 41 = .ok (.ireturn, 1) := by decide +kernel
theorem dX6_hits_0 : decode cX6_hits 0 = .ok (.aload_n 0, 1) := by decide +kernel
theorem dX6_hits_1 : decode cX6_hits 1 = .ok (.iconst 0, 1) := by decide +kernel
theorem dX6_hits_2 : decode cX6_hits 2 = .ok (.putfield 43, 3) := by decide +kernel
theorem dX6_hits_5 : decode cX6_hits 5 = .ok (.aload_n 0, 1) := by decide +kernel
theorem dX6_hits_6 : decode cX6_hits 6 = .ok (.invokevirtual 126, 3) := by decide +kernel
theorem dX6_hits_9 : decode cX6_hits 9 = .ok (.ireturn, 1) := by decide +kernel
theorem dX6_hitsOn_0 : decode cX6_hitsOn 0 = .ok (.aload_n 0, 1) := by decide +kernel
theorem dX6_hitsOn_1 : decode cX6_hitsOn 1 = .ok (.aload_n 0, 1) := by decide +kernel
theorem dX6_hitsOn_2 : decode cX6_hitsOn 2 = .ok (.iload_n 1, 1) := by decide +kernel
theorem dX6_hitsOn_3 : decode cX6_hitsOn 3 = .ok (.invokevirtual 79, 3) := by decide +kernel
theorem dX6_hitsOn_6 : decode cX6_hitsOn 6 = .ok (.ifCond .eq 7, 3) := by decide +kernel
theorem dX6_hitsOn_9 : decode cX6_hitsOn 9 = .ok (.iconst 0, 1) := by decide +kernel
theorem dX6_hitsOn_10 : decode cX6_hitsOn 10 = .ok (.goto 4, 3) := by decide +kernel
theorem dX6_hitsOn_13 : decode cX6_hitsOn 13 = .ok (.iconst 1, 1) := by decide +kernel
theorem dX6_hitsOn_14 : decode cX6_hitsOn 14 = .ok (.putfield 43, 3) := by decide +kernel
theorem dX6_hitsOn_17 : decode cX6_hitsOn 17 = .ok (.aload_n 0, 1) := by decide +kernel
theorem dX6_hitsOn_18 : decode cX6_hitsOn 18 = .ok (.getfield 43, 3) := by decide +kernel
theorem dX6_hitsOn_21 : decode cX6_hitsOn 21 = .ok (.ifCond .eq 5, 3) := by decide +kernel
theorem dX6_hitsOn_24 : decode cX6_hitsOn 24 = .ok (.iconst 0, 1) := by decide +kernel
theorem dX6_hitsOn_25 : decode cX6_hitsOn 25 = .ok (.ireturn, 1) := by decide +kernel
theorem dX6_hitsOn_26 : decode cX6_hitsOn 26 = .ok (.aload_n 0, 1) := by decide +kernel
theorem dX6_hitsOn_27 : decode cX6_hitsOn 27 = .ok (.aload_n 0, 1) := by decide +kernel
theorem dX6_hitsOn_28 : decode cX6_hitsOn 28 = .ok (.invokevirtual 105, 3) := by decide +kernel
theorem dX6_hitsOn_31 : decode cX6_hitsOn 31 = .ok (.invokevirtual 109, 3) := by decide +kernel
theorem dX6_hitsOn_34 : decode cX6_hitsOn 34 = .ok (.aload_n 0, 1) := by decide +kernel
theorem dX6_hitsOn_35 : decode cX6_hitsOn 35 = .ok (.aload_n 0, 1) := by decide +kernel
theorem dX6_hitsOn_36 : decode cX6_hitsOn 36 = .ok (.iload_n 1, 1) := by decide +kernel
theorem dX6_hitsOn_37 : decode cX6_hitsOn 37 = .ok (.invokevirtual 57, 3) := by decide +kernel
theorem dX6_hitsOn_40 : decode cX6_hitsOn 40 = .ok (.invokevirtual 123, 3) := by decide +kernel
theorem dX6_hitsOn_43 : decode cX6_hitsOn 43 = .ok (.ireturn, 1) := by decide +kernel
theorem dX6_hitsRow_0 : decode cX6_hitsRow 0 = .ok (.iconst 0, 1) := by decide +kernel
theorem dX6_hitsRow_1 : decode cX6_hitsRow 1 = .ok (.istore_n 3, 1) := by decide +kernel
theorem dX6_hitsRow_2 : decode cX6_hitsRow 2 = .ok (.iconst 0, 1) := by decide +kernel
theorem dX6_hitsRow_3 : decode cX6_hitsRow 3 = .ok (.istore 4, 2) := by decide +kernel
theorem dX6_hitsRow_5 : decode cX6_hitsRow 5 = .ok (.iload 4, 2) := by decide +kernel
theorem dX6_hitsRow_7 : decode cX6_hitsRow 7 = .ok (.iload_n 2, 1) := by decide +kernel
theorem dX6_hitsRow_8 : decode cX6_hitsRow 8 = .ok (.if_icmp .ge 39, 3) := by decide +kernel
theorem dX6_hitsRow_11 : decode cX6_hitsRow 11 = .ok (.iload_n 3, 1) := by decide +kernel
theorem dX6_hitsRow_12 : decode cX6_hitsRow 12 = .ok (.ifCond .ne 23, 3) := by decide +kernel
theorem dX6_hitsRow_15 : decode cX6_hitsRow 15 = .ok (.iload_n 1, 1) := by decide +kernel
theorem dX6_hitsRow_16 : decode cX6_hitsRow 16 = .ok (.iconst (-1), 1) := by decide +kernel
theorem dX6_hitsRow_17 : decode cX6_hitsRow 17 = .ok (.if_icmp .eq 22, 3) := by decide +kernel
theorem dX6_hitsRow_20 : decode cX6_hitsRow 20 = .ok (.aload_n 0, 1) := by decide +kernel
theorem dX6_hitsRow_21 : decode cX6_hitsRow 21 = .ok (.iload_n 1, 1) := by decide +kernel
theorem dX6_hitsRow_22 : decode cX6_hitsRow 22 = .ok (.aload_n 0, 1) := by decide +kernel
theorem dX6_hitsRow_23 : decode cX6_hitsRow 23 = .ok (.getfield 19, 3) := by decide +kernel
theorem dX6_hitsRow_26 : decode cX6_hitsRow 26 = .ok (.iload 4, 2) := by decide +kernel
theorem dX6_hitsRow_28 : decode cX6_hitsRow 28 = .ok (.iaload, 1) := by decide +kernel
theorem dX6_hitsRow_29 : decode cX6_hitsRow 29 = .ok (.invokevirtual 120, 3) := by decide +kernel
theorem dX6_hitsRow_32 : decode cX6_hitsRow 32 = .ok (.ifCond .eq 7, 3) := by decide +kernel
theorem dX6_hitsRow_35 : decode cX6_hitsRow 35 = .ok (.iconst 1, 1) := by decide +kernel
theorem dX6_hitsRow_36 : decode cX6_hitsRow 36 = .ok (.goto 4, 3) := by decide +kernel
theorem dX6_hitsRow_39 : decode cX6_hitsRow 39 = .ok (.iconst 0, 1) := by decide +kernel
theorem dX6_hitsRow_40 : decode cX6_hitsRow 40 = .ok (.istore_n 3, 1) := by decide +kernel
theorem dX6_hitsRow_41 : decode cX6_hitsRow 41 = .ok (.iinc 4 1, 3) := by decide +kernel
theorem dX6_hitsRow_44 : decode cX6_hitsRow 44 = .ok (.goto (-39), 3) := by decide +kernel
theorem dX6_hitsRow_47 : decode cX6_hitsRow 47 = .ok (.iload_n 3, 1) := by decide +kernel
theorem dX6_hitsRow_48 : decode cX6_hitsRow 48 = .ok (.ireturn, 1) := by decide +kernel
theorem dX6_isRowClean_0 : decode cX6_isRowClean 0 = .ok (.iconst 0, 1) := by decide +kernel
theorem dX6_isRowClean_1 : decode cX6_isRowClean 1 = .ok (.istore_n 2, 1) := by decide +kernel
theorem dX6_isRowClean_2 : decode cX6_isRowClean 2 = .ok (.iload_n 2, 1) := by decide +kernel
theorem dX6_isRowClean_3 : decode cX6_isRowClean 3 = .ok (.iload_n 1, 1) := by decide +kernel
theorem dX6_isRowClean_4 : decode cX6_isRowClean 4 = .ok (.if_icmp .ge 158, 3) := by decide +kernel
theorem dX6_isRowClean_7 : decode cX6_isRowClean 7 = .ok (.iconst 0, 1) := by decide +kernel
theorem dX6_isRowClean_8 : decode cX6_isRowClean 8 = .ok (.istore_n 3, 1) := by decide +kernel
theorem dX6_isRowClean_9 : decode cX6_isRowClean 9 = .ok (.iload_n 3, 1) := by decide +kernel
theorem dX6_isRowClean_10 : decode cX6_isRowClean 10 = .ok (.iload_n 1, 1) := by decide +kernel
theorem dX6_isRowClean_11 : decode cX6_isRowClean 11 = .ok (.if_icmp .ge 145, 3) := by decide +kernel
theorem dX6_isRowClean_14 : decode cX6_isRowClean 14 = .ok (.aload_n 0, 1) := by decide +kernel
theorem dX6_isRowClean_15 : decode cX6_isRowClean 15 = .ok (.getfield 19, 3) := by decide +kernel
theorem dX6_isRowClean_18 : decode cX6_isRowClean 18 = .ok (.iload_n 2, 1) := by decide +kernel
theorem dX6_isRowClean_19 : decode cX6_isRowClean 19 = .ok (.iaload, 1) := by decide +kernel
theorem dX6_isRowClean_20 : decode cX6_isRowClean 20 = .ok (.aload_n 0, 1) := by decide +kernel
theorem dX6_isRowClean_21 : decode cX6_isRowClean 21 = .ok (.getfield 19, 3) := by decide +kernel
theorem dX6_isRowClean_24 : decode cX6_isRowClean 24 = .ok (.iload_n 3, 1) := by decide +kernel
theorem dX6_isRowClean_25 : decode cX6_isRowClean 25 = .ok (.iaload, 1) := by decide +kernel
theorem dX6_isRowClean_26 : decode cX6_isRowClean 26 = .ok (.isub, 1) := by decide +kernel
theorem dX6_isRowClean_27 : decode cX6_isRowClean 27 = .ok (.istore 4, 2) := by decide +kernel
theorem dX6_isRowClean_29 : decode cX6_isRowClean 29 = .ok (.iload_n 2, 1) := by decide +kernel
theorem dX6_isRowClean_30 : decode cX6_isRowClean 30 = .ok (.iload_n 3, 1) := by decide +kernel
theorem dX6_isRowClean_31 : decode cX6_isRowClean 31 = .ok (.if_icmp .eq 29, 3) := by decide +kernel
theorem dX6_isRowClean_34 : decode cX6_isRowClean 34 = .ok (.iload 4, 2) := by decide +kernel
theorem dX6_isRowClean_36 : decode cX6_isRowClean 36 = .ok (.iconst 1, 1) := by decide +kernel
theorem dX6_isRowClean_37 : decode cX6_isRowClean 37 = .ok (.aload_n 0, 1) := by decide +kernel
theorem dX6_isRowClean_38 : decode cX6_isRowClean 38 = .ok (.getfield 7, 3) := by decide +kernel
theorem dX6_isRowClean_41 : decode cX6_isRowClean 41 = .ok (.iconst 4, 1) := by decide +kernel
theorem dX6_isRowClean_42 : decode cX6_isRowClean 42 = .ok (.iaload, 1) := by decide +kernel
theorem dX6_isRowClean_43 : decode cX6_isRowClean 43 = .ok (.isub, 1) := by decide +kernel
theorem dX6_isRowClean_44 : decode cX6_isRowClean 44 = .ok (.aload_n 0, 1) := by decide +kernel
theorem dX6_isRowClean_45 : decode cX6_isRowClean 45 = .ok (.getfield 7, 3) := by decide +kernel
theorem dX6_isRowClean_48 : decode cX6_isRowClean 48 = .ok (.iconst 4, 1) := by decide +kernel
theorem dX6_isRowClean_49 : decode cX6_isRowClean 49 = .ok (.iaload, 1) := by decide +kernel
theorem dX6_isRowClean_50 : decode cX6_isRowClean 50 = .ok (.iconst 1, 1) := by decide +kernel
theorem dX6_isRowClean_51 : decode cX6_isRowClean 51 = .ok (.isub, 1) := by decide +kernel
theorem dX6_isRowClean_52 : decode cX6_isRowClean 52 = .ok (.invokestatic 53, 3) := by decide +kernel
theorem dX6_isRowClean_55 : decode cX6_isRowClean 55 = .ok (.ifCond .eq 5, 3) := by decide +kernel
theorem dX6_isRowClean_58 : decode cX6_isRowClean 58 = .ok (.iconst 0, 1) := by decide +kernel
theorem dX6_isRowClean_59 : decode cX6_isRowClean 59 = .ok (.ireturn, 1) := by decide +kernel
theorem dX6_isRowClean_60 : decode cX6_isRowClean 60 = .ok (.iload_n 2, 1) := by decide +kernel
theorem dX6_isRowClean_61 : decode cX6_isRowClean 61 = .ok (.iload_n 3, 1) := by decide +kernel
theorem dX6_isRowClean_62 : decode cX6_isRowClean 62 = .ok (.if_icmp .eq 37, 3) := by decide +kernel
theorem dX6_isRowClean_65 : decode cX6_isRowClean 65 = .ok (.aload_n 0, 1) := by decide +kernel
theorem dX6_isRowClean_66 : decode cX6_isRowClean 66 = .ok (.aload_n 0, 1) := by decide +kernel
theorem dX6_isRowClean_67 : decode cX6_isRowClean 67 = .ok (.iconst 0, 1) := by decide +kernel
theorem dX6_isRowClean_68 : decode cX6_isRowClean 68 = .ok (.iload_n 2, 1) := by decide +kernel
theorem dX6_isRowClean_69 : decode cX6_isRowClean 69 = .ok (.iload_n 3, 1) := by decide +kernel
theorem dX6_isRowClean_70 : decode cX6_isRowClean 70 = .ok (.iconst 0, 1) := by decide +kernel
theorem dX6_isRowClean_71 : decode cX6_isRowClean 71 = .ok (.invokevirtual 92, 3) := by decide +kernel
theorem dX6_isRowClean_74 : decode cX6_isRowClean 74 = .ok (.iload_n 1, 1) := by decide +kernel
theorem dX6_isRowClean_75 : decode cX6_isRowClean 75 = .ok (.invokevirtual 129, 3) := by decide +kernel
theorem dX6_isRowClean_78 : decode cX6_isRowClean 78 = .ok (.ifCond .ne 19, 3) := by decide +kernel
theorem dX6_isRowClean_81 : decode cX6_isRowClean 81 = .ok (.aload_n 0, 1) := by decide +kernel
theorem dX6_isRowClean_82 : decode cX6_isRowClean 82 = .ok (.aload_n 0, 1) := by decide +kernel
theorem dX6_isRowClean_83 : decode cX6_isRowClean 83 = .ok (.iconst 2, 1) := by decide +kernel
theorem dX6_isRowClean_84 : decode cX6_isRowClean 84 = .ok (.iload_n 2, 1) := by decide +kernel
theorem dX6_isRowClean_85 : decode cX6_isRowClean 85 = .ok (.iload_n 3, 1) := by decide +kernel
theorem dX6_isRowClean_86 : decode cX6_isRowClean 86 = .ok (.iconst 0, 1) := by decide +kernel
theorem dX6_isRowClean_87 : decode cX6_isRowClean 87 = .ok (.invokevirtual 92, 3) := by decide +kernel
theorem dX6_isRowClean_90 : decode cX6_isRowClean 90 = .ok (.iload_n 1, 1) := by decide +kernel
theorem dX6_isRowClean_91 : decode cX6_isRowClean 91 = .ok (.invokevirtual 129, 3) := by decide +kernel
theorem dX6_isRowClean_94 : decode cX6_isRowClean 94 = .ok (.ifCond .eq 5, 3) := by decide +kernel
theorem dX6_isRowClean_97 : decode cX6_isRowClean 97 = .ok (.iconst 0, 1) := by decide +kernel
theorem dX6_isRowClean_98 : decode cX6_isRowClean 98 = .ok (.ireturn, 1) := by decide +kernel
theorem dX6_isRowClean_99 : decode cX6_isRowClean 99 = .ok (.iconst 0, 1) := by decide +kernel
theorem dX6_isRowClean_100 : decode cX6_isRowClean 100 = .ok (.istore 5, 2) := by decide +kernel
theorem dX6_isRowClean_102 : decode cX6_isRowClean 102 = .ok (.iload 5, 2) := by decide +kernel
theorem dX6_isRowClean_104 : decode cX6_isRowClean 104 = .ok (.iload_n 1, 1) := by decide +kernel
theorem dX6_isRowClean_105 : decode cX6_isRowClean 105 = .ok (.if_icmp .ge 45, 3) := by decide +kernel
theorem dX6_isRowClean_108 : decode cX6_isRowClean 108 = .ok (.iload_n 2, 1) := by decide +kernel
theorem dX6_isRowClean_109 : decode cX6_isRowClean 109 = .ok (.iload_n 3, 1) := by decide +kernel
theorem dX6_isRowClean_110 : decode cX6_isRowClean 110 = .ok (.if_icmp .ge 40, 3) := by decide +kernel
theorem dX6_isRowClean_113 : decode cX6_isRowClean 113 = .ok (.iload 5, 2) := by decide +kernel
theorem dX6_isRowClean_115 : decode cX6_isRowClean 115 = .ok (.iload_n 2, 1) := by decide +kernel
theorem dX6_isRowClean_116 : decode cX6_isRowClean 116 = .ok (.if_icmp .eq 28, 3) := by decide +kernel
theorem dX6_isRowClean_119 : decode cX6_isRowClean 119 = .ok (.iload 5, 2) := by decide +kernel
theorem dX6_isRowClean_121 : decode cX6_isRowClean 121 = .ok (.iload_n 3, 1) := by decide +kernel
theorem dX6_isRowClean_122 : decode cX6_isRowClean 122 = .ok (.if_icmp .eq 22, 3) := by decide +kernel
theorem dX6_isRowClean_125 : decode cX6_isRowClean 125 = .ok (.aload_n 0, 1) := by decide +kernel
theorem dX6_isRowClean_126 : decode cX6_isRowClean 126 = .ok (.aload_n 0, 1) := by decide +kernel
theorem dX6_isRowClean_127 : decode cX6_isRowClean 127 = .ok (.iconst 1, 1) := by decide +kernel
theorem dX6_isRowClean_128 : decode cX6_isRowClean 128 = .ok (.iload_n 2, 1) := by decide +kernel
theorem dX6_isRowClean_129 : decode cX6_isRowClean 129 = .ok (.iload_n 3, 1) := by decide +kernel
theorem dX6_isRowClean_130 : decode cX6_isRowClean 130 = .ok (.iload 5, 2) := by decide +kernel
theorem dX6_isRowClean_132 : decode cX6_isRowClean 132 = .ok (.invokevirtual 92, 3) := by decide +kernel
theorem dX6_isRowClean_135 : decode cX6_isRowClean 135 = .ok (.iload_n 1, 1) := by decide +kernel
theorem dX6_isRowClean_136 : decode cX6_isRowClean 136 = .ok (.invokevirtual 129, 3) := by decide +kernel
theorem dX6_isRowClean_139 : decode cX6_isRowClean 139 = .ok (.ifCond .eq 5, 3) := by decide +kernel
theorem dX6_isRowClean_142 : decode cX6_isRowClean 142 = .ok (.iconst 0, 1) := by decide +kernel
theorem dX6_isRowClean_143 : decode cX6_isRowClean 143 = .ok (.ireturn, 1) := by decide +kernel
theorem dX6_isRowClean_144 : decode cX6_isRowClean 144 = .ok (.iinc 5 1, 3) := by decide +kernel
theorem dX6_isRowClean_147 : decode cX6_isRowClean 147 = .ok (.goto (-45), 3) := by decide +kernel
theorem dX6_isRowClean_150 : decode cX6_isRowClean 150 = .ok (.iinc 3 1, 3) := by decide +kernel
theorem dX6_isRowClean_153 : decode cX6_isRowClean 153 = .ok (.goto (-144), 3) := by decide +kernel
theorem dX6_isRowClean_156 : decode cX6_isRowClean 156 = .ok (.iinc 2 1, 3) := by decide +kernel
theorem dX6_isRowClean_159 : decode cX6_isRowClean 159 = .ok (.goto (-157), 3) := by decide +kernel
theorem dX6_isRowClean_162 : decode cX6_isRowClean 162 = .ok (.iconst 1, 1) := by decide +kernel
theorem dX6_isRowClean_163 : decode cX6_isRowClean 163 = .ok (.ireturn, 1) := by decide +kernel
theorem dX6_isClean_0 : decode cX6_isClean 0 = .ok (.aload_n 0, 1) := by decide +kernel
theorem dX6_isClean_1 : decode cX6_isClean 1 = .ok (.iconst 0, 1) := by decide +kernel
theorem dX6_isClean_2 : decode cX6_isClean 2 = .ok (.putfield 43, 3) := by decide +kernel
theorem dX6_isClean_5 : decode cX6_isClean 5 = .ok (.aload_n 0, 1) := by decide +kernel
theorem dX6_isClean_6 : decode cX6_isClean 6 = .ok (.invokevirtual 98, 3) := by decide +kernel
theorem dX6_isClean_9 : decode cX6_isClean 9 = .ok (.aload_n 0, 1) := by decide +kernel
theorem dX6_isClean_10 : decode cX6_isClean 10 = .ok (.aload_n 0, 1) := by decide +kernel
theorem dX6_isClean_11 : decode cX6_isClean 11 = .ok (.getfield 7, 3) := by decide +kernel
theorem dX6_isClean_14 : decode cX6_isClean 14 = .ok (.iconst 5, 1) := by decide +kernel
theorem dX6_isClean_15 : decode cX6_isClean 15 = .ok (.iaload, 1) := by decide +kernel
theorem dX6_isClean_16 : decode cX6_isClean 16 = .ok (.invokevirtual 132, 3) := by decide +kernel
theorem dX6_isClean_19 : decode cX6_isClean 19 = .ok (.ireturn, 1) := by decide +kernel
theorem dX6_closest_0 : decode cX6_closest 0 = .ok (.aload_n 0, 1) := by decide +kernel
theorem dX6_closest_1 : decode cX6_closest 1 = .ok (.iconst 0, 1) := by decide +kernel
theorem dX6_closest_2 : decode cX6_closest 2 = .ok (.putfield 43, 3) := by decide +kernel
theorem dX6_closest_5 : decode cX6_closest 5 = .ok (.iconst (-1), 1) := by decide +kernel
theorem dX6_closest_6 : decode cX6_closest 6 = .ok (.istore_n 1, 1) := by decide +kernel
theorem dX6_closest_7 : decode cX6_closest 7 = .ok (.iconst 0, 1) := by decide +kernel
theorem dX6_closest_8 : decode cX6_closest 8 = .ok (.istore_n 2, 1) := by decide +kernel
theorem dX6_closest_9 : decode cX6_closest 9 = .ok (.iload_n 2, 1) := by decide +kernel
theorem dX6_closest_10 : decode cX6_closest 10 = .ok (.aload_n 0, 1) := by decide +kernel
theorem dX6_closest_11 : decode cX6_closest 11 = .ok (.getfield 7, 3) := by decide +kernel
theorem dX6_closest_14 : decode cX6_closest 14 = .ok (.iconst 5, 1) := by decide +kernel
theorem dX6_closest_15 : decode cX6_closest 15 = .ok (.iaload, 1) := by decide +kernel
theorem dX6_closest_16 : decode cX6_closest 16 = .ok (.if_icmp .ge 63, 3) := by decide +kernel
theorem dX6_closest_19 : decode cX6_closest 19 = .ok (.iconst 0, 1) := by decide +kernel
theorem dX6_closest_20 : decode cX6_closest 20 = .ok (.istore_n 3, 1) := by decide +kernel
theorem dX6_closest_21 : decode cX6_closest 21 = .ok (.iload_n 3, 1) := by decide +kernel
theorem dX6_closest_22 : decode cX6_closest 22 = .ok (.aload_n 0, 1) := by decide +kernel
theorem dX6_closest_23 : decode cX6_closest 23 = .ok (.getfield 7, 3) := by decide +kernel
theorem dX6_closest_26 : decode cX6_closest 26 = .ok (.iconst 5, 1) := by decide +kernel
theorem dX6_closest_27 : decode cX6_closest 27 = .ok (.iaload, 1) := by decide +kernel
theorem dX6_closest_28 : decode cX6_closest 28 = .ok (.if_icmp .ge 45, 3) := by decide +kernel
theorem dX6_closest_31 : decode cX6_closest 31 = .ok (.aload_n 0, 1) := by decide +kernel
theorem dX6_closest_32 : decode cX6_closest 32 = .ok (.iload_n 2, 1) := by decide +kernel
theorem dX6_closest_33 : decode cX6_closest 33 = .ok (.invokevirtual 57, 3) := by decide +kernel
theorem dX6_closest_36 : decode cX6_closest 36 = .ok (.aload_n 0, 1) := by decide +kernel
theorem dX6_closest_37 : decode cX6_closest 37 = .ok (.iload_n 3, 1) := by decide +kernel
theorem dX6_closest_38 : decode cX6_closest 38 = .ok (.invokevirtual 57, 3) := by decide +kernel
theorem dX6_closest_41 : decode cX6_closest 41 = .ok (.isub, 1) := by decide +kernel
theorem dX6_closest_42 : decode cX6_closest 42 = .ok (.istore 4, 2) := by decide +kernel
theorem dX6_closest_44 : decode cX6_closest 44 = .ok (.iload 4, 2) := by decide +kernel
theorem dX6_closest_46 : decode cX6_closest 46 = .ok (.ifCond .le 19, 3) := by decide +kernel
theorem dX6_closest_49 : decode cX6_closest 49 = .ok (.iload_n 1, 1) := by decide +kernel
theorem dX6_closest_50 : decode cX6_closest 50 = .ok (.iconst (-1), 1) := by decide +kernel
theorem dX6_closest_51 : decode cX6_closest 51 = .ok (.if_icmp .eq 9, 3) := by decide +kernel
theorem dX6_closest_54 : decode cX6_closest 54 = .ok (.iload 4, 2) := by decide +kernel
theorem dX6_closest_56 : decode cX6_closest 56 = .ok (.iload_n 1, 1) := by decide +kernel
theorem dX6_closest_57 : decode cX6_closest 57 = .ok (.if_icmp .ge 8, 3) := by decide +kernel
theorem dX6_closest_60 : decode cX6_closest 60 = .ok (.iload 4, 2) := by decide +kernel
theorem dX6_closest_62 : decode cX6_closest 62 = .ok (.goto 4, 3) := by decide +kernel
theorem dX6_closest_65 : decode cX6_closest 65 = .ok (.iload_n 1, 1) := by decide +kernel
theorem dX6_closest_66 : decode cX6_closest 66 = .ok (.istore_n 1, 1) := by decide +kernel
theorem dX6_closest_67 : decode cX6_closest 67 = .ok (.iinc 3 1, 3) := by decide +kernel
theorem dX6_closest_70 : decode cX6_closest 70 = .ok (.goto (-49), 3) := by decide +kernel
theorem dX6_closest_73 : decode cX6_closest 73 = .ok (.iinc 2 1, 3) := by decide +kernel
theorem dX6_closest_76 : decode cX6_closest 76 = .ok (.goto (-67), 3) := by decide +kernel
theorem dX6_closest_79 : decode cX6_closest 79 = .ok (.iload_n 1, 1) := by decide +kernel
theorem dX6_closest_80 : decode cX6_closest 80 = .ok (.ireturn, 1) := by decide +kernel
theorem dX6_isCleanWithout_0 : decode cX6_isCleanWithout 0 = .ok (.iconst 0, 1) := by decide +kernel
theorem dX6_isCleanWithout_1 : decode cX6_isCleanWithout 1 = .ok (.istore_n 2, 1) := by decide +kernel
theorem dX6_isCleanWithout_2 : decode cX6_isCleanWithout 2 = .ok (.iconst 0, 1) := by decide +kernel
theorem dX6_isCleanWithout_3 : decode cX6_isCleanWithout 3 = .ok (.istore_n 3, 1) := by decide +kernel
theorem dX6_isCleanWithout_4 : decode cX6_isCleanWithout 4 = .ok (.iload_n 3, 1) := by decide +kernel
theorem dX6_isCleanWithout_5 : decode cX6_isCleanWithout 5 = .ok (.aload_n 0, 1) := by decide +kernel
theorem dX6_isCleanWithout_6 : decode cX6_isCleanWithout 6 = .ok (.getfield 7, 3) := by decide +kernel
theorem dX6_isCleanWithout_9 : decode cX6_isCleanWithout 9 = .ok (.iconst 5, 1) := by decide +kernel
theorem dX6_isCleanWithout_10 : decode cX6_isCleanWithout 10 = .ok (.iaload, 1) := by decide +kernel
theorem dX6_isCleanWithout_11 : decode cX6_isCleanWithout 11 = .ok (.if_icmp .ge 42, 3) := by decide +kernel
theorem dX6_isCleanWithout_14 : decode cX6_isCleanWithout 14 = .ok (.iload_n 1, 1) := by decide +kernel
theorem dX6_isCleanWithout_15 : decode cX6_isCleanWithout 15 = .ok (.iload_n 3, 1) := by decide +kernel
theorem dX6_isCleanWithout_16 : decode cX6_isCleanWithout 16 = .ok (.invokestatic 85, 3) := by decide +kernel
theorem dX6_isCleanWithout_19 : decode cX6_isCleanWithout 19 = .ok (.ifCond .ne 28, 3) := by decide +kernel
theorem dX6_isCleanWithout_22 : decode cX6_isCleanWithout 22 = .ok (.aload_n 0, 1) := by decide +kernel
theorem dX6_isCleanWithout_23 : decode cX6_isCleanWithout 23 = .ok (.getfield 19, 3) := by decide +kernel
theorem dX6_isCleanWithout_26 : decode cX6_isCleanWithout 26 = .ok (.iload_n 2, 1) := by decide +kernel
theorem dX6_isCleanWithout_27 : decode cX6_isCleanWithout 27 = .ok (.aload_n 0, 1) := by decide +kernel
theorem dX6_isCleanWithout_28 : decode cX6_isCleanWithout 28 = .ok (.iload_n 3, 1) := by decide +kernel
theorem dX6_isCleanWithout_29 : decode cX6_isCleanWithout 29 = .ok (.invokevirtual 57, 3) := by decide +kernel
theorem dX6_isCleanWithout_32 : decode cX6_isCleanWithout 32 = .ok (.iastore, 1) := by decide +kernel
theorem dX6_isCleanWithout_33 : decode cX6_isCleanWithout 33 = .ok (.aload_n 0, 1) := by decide +kernel
theorem dX6_isCleanWithout_34 : decode cX6_isCleanWithout 34 = .ok (.getfield 22, 3) := by decide +kernel
theorem dX6_isCleanWithout_37 : decode cX6_isCleanWithout 37 = .ok (.iload_n 2, 1) := by decide +kernel
theorem dX6_isCleanWithout_38 : decode cX6_isCleanWithout 38 = .ok (.aload_n 0, 1) := by decide +kernel
theorem dX6_isCleanWithout_39 : decode cX6_isCleanWithout 39 = .ok (.iload_n 3, 1) := by decide +kernel
theorem dX6_isCleanWithout_40 : decode cX6_isCleanWithout 40 = .ok (.invokevirtual 82, 3) := by decide +kernel
theorem dX6_isCleanWithout_43 : decode cX6_isCleanWithout 43 = .ok (.iastore, 1) := by decide +kernel
theorem dX6_isCleanWithout_44 : decode cX6_isCleanWithout 44 = .ok (.iinc 2 1, 3) := by decide +kernel
theorem dX6_isCleanWithout_47 : decode cX6_isCleanWithout 47 = .ok (.iinc 3 1, 3) := by decide +kernel
theorem dX6_isCleanWithout_50 : decode cX6_isCleanWithout 50 = .ok (.goto (-46), 3) := by decide +kernel
theorem dX6_isCleanWithout_53 : decode cX6_isCleanWithout 53 = .ok (.aload_n 0, 1) := by decide +kernel
theorem dX6_isCleanWithout_54 : decode cX6_isCleanWithout 54 = .ok (.iload_n 2, 1) := by decide +kernel
theorem dX6_isCleanWithout_55 : decode cX6_isCleanWithout 55 = .ok (.invokevirtual 132, 3) := by decide +kernel
theorem dX6_isCleanWithout_58 : decode cX6_isCleanWithout 58 = .ok (.ireturn, 1) := by decide +kernel
theorem dX6_removal_0 : decode cX6_removal 0 = .ok (.aload_n 0, 1) := by decide +kernel
theorem dX6_removal_1 : decode cX6_removal 1 = .ok (.iconst 0, 1) := by decide +kernel
theorem dX6_removal_2 : decode cX6_removal 2 = .ok (.putfield 43, 3) := by decide +kernel
theorem dX6_removal_5 : decode cX6_removal 5 = .ok (.aload_n 0, 1) := by decide +kernel
theorem dX6_removal_6 : decode cX6_removal 6 = .ok (.invokevirtual 105, 3) := by decide +kernel
theorem dX6_removal_9 : decode cX6_removal 9 = .ok (.istore_n 1, 1) := by decide +kernel
theorem dX6_removal_10 : decode cX6_removal 10 = .ok (.aload_n 0, 1) := by decide +kernel
theorem dX6_removal_11 : decode cX6_removal 11 = .ok (.invokevirtual 105, 3) := by decide +kernel
theorem dX6_removal_14 : decode cX6_removal 14 = .ok (.istore_n 2, 1) := by decide +kernel
theorem dX6_removal_15 : decode cX6_removal 15 = .ok (.iload_n 2, 1) := by decide +kernel
theorem dX6_removal_16 : decode cX6_removal 16 = .ok (.ifCond .lt 34, 3) := by decide +kernel
theorem dX6_removal_19 : decode cX6_removal 19 = .ok (.iload_n 2, 1) := by decide +kernel
theorem dX6_removal_20 : decode cX6_removal 20 = .ok (.invokestatic 135, 3) := by decide +kernel
theorem dX6_removal_23 : decode cX6_removal 23 = .ok (.iload_n 1, 1) := by decide +kernel
theorem dX6_removal_24 : decode cX6_removal 24 = .ok (.invokestatic 135, 3) := by decide +kernel
theorem dX6_removal_27 : decode cX6_removal 27 = .ok (.if_icmp .gt 15, 3) := by decide +kernel
theorem dX6_removal_30 : decode cX6_removal 30 = .ok (.aload_n 0, 1) := by decide +kernel
theorem dX6_removal_31 : decode cX6_removal 31 = .ok (.iload_n 2, 1) := by decide +kernel
theorem dX6_removal_32 : decode cX6_removal 32 = .ok (.invokevirtual 138, 3) := by decide +kernel
theorem dX6_removal_35 : decode cX6_removal 35 = .ok (.ifCond .eq 7, 3) := by decide +kernel
theorem dX6_removal_38 : decode cX6_removal 38 = .ok (.iload_n 2, 1) := by decide +kernel
theorem dX6_removal_39 : decode cX6_removal 39 = .ok (.goto 4, 3) := by decide +kernel
theorem dX6_removal_42 : decode cX6_removal 42 = .ok (.iload_n 1, 1) := by decide +kernel
theorem dX6_removal_43 : decode cX6_removal 43 = .ok (.istore_n 1, 1) := by decide +kernel
theorem dX6_removal_44 : decode cX6_removal 44 = .ok (.iinc 2 (-1), 3) := by decide +kernel
theorem dX6_removal_47 : decode cX6_removal 47 = .ok (.goto (-32), 3) := by decide +kernel
theorem dX6_removal_50 : decode cX6_removal 50 = .ok (.iload_n 1, 1) := by decide +kernel
theorem dX6_removal_51 : decode cX6_removal 51 = .ok (.ireturn, 1) := by decide +kernel
theorem dX6_seek_0 : decode cX6_seek 0 = .ok (.iload_n 1, 1) := by decide +kernel
theorem dX6_seek_1 : decode cX6_seek 1 = .ok (.iconst 1, 1) := by decide +kernel
theorem dX6_seek_2 : decode cX6_seek 2 = .ok (.if_icmp .eq 7, 3) := by decide +kernel
theorem dX6_seek_5 : decode cX6_seek 5 = .ok (.iload_n 2, 1) := by decide +kernel
theorem dX6_seek_6 : decode cX6_seek 6 = .ok (.ifCond .ne 23, 3) := by decide +kernel
theorem dX6_seek_9 : decode cX6_seek 9 = .ok (.aload_n 0, 1) := by decide +kernel
theorem dX6_seek_10 : decode cX6_seek 10 = .ok (.lconst 1, 1) := by decide +kernel
theorem dX6_seek_11 : decode cX6_seek 11 = .ok (.putfield 141, 3) := by decide +kernel
theorem dX6_seek_14 : decode cX6_seek 14 = .ok (.iload_n 1, 1) := by decide +kernel
theorem dX6_seek_15 : decode cX6_seek 15 = .ok (.iconst 1, 1) := by decide +kernel
theorem dX6_seek_16 : decode cX6_seek 16 = .ok (.if_icmp .ne 11, 3) := by decide +kernel
theorem dX6_seek_19 : decode cX6_seek 19 = .ok (.iload_n 2, 1) := by decide +kernel
theorem dX6_seek_20 : decode cX6_seek 20 = .ok (.ifCond .ne 7, 3) := by decide +kernel
theorem dX6_seek_23 : decode cX6_seek 23 = .ok (.iconst 1, 1) := by decide +kernel
theorem dX6_seek_24 : decode cX6_seek 24 = .ok (.goto 4, 3) := by decide +kernel
theorem dX6_seek_27 : decode cX6_seek 27 = .ok (.iconst 0, 1) := by decide +kernel
theorem dX6_seek_28 : decode cX6_seek 28 = .ok (.ireturn, 1) := by decide +kernel
theorem dX6_seek_29 : decode cX6_seek 29 = .ok (.iconst 0, 1) := by decide +kernel
theorem dX6_seek_30 : decode cX6_seek 30 = .ok (.istore 4, 2) := by decide +kernel
theorem dX6_seek_32 : decode cX6_seek 32 = .ok (.iload 4, 2) := by decide +kernel
theorem dX6_seek_34 : decode cX6_seek 34 = .ok (.iload_n 1, 1) := by decide +kernel
theorem dX6_seek_35 : decode cX6_seek 35 = .ok (.if_icmp .ge 18, 3) := by decide +kernel
theorem dX6_seek_38 : decode cX6_seek 38 = .ok (.aload_n 0, 1) := by decide +kernel
theorem dX6_seek_39 : decode cX6_seek 39 = .ok (.getfield 22, 3) := by decide +kernel
theorem dX6_seek_42 : decode cX6_seek 42 = .ok (.iload 4, 2) := by decide +kernel
theorem dX6_seek_44 : decode cX6_seek 44 = .ok (.bipush 60, 2) := by decide +kernel
theorem dX6_seek_46 : decode cX6_seek 46 = .ok (.iastore, 1) := by decide +kernel
theorem dX6_seek_47 : decode cX6_seek 47 = .ok (.iinc 4 1, 3) := by decide +kernel
theorem dX6_seek_50 : decode cX6_seek 50 = .ok (.goto (-18), 3) := by decide +kernel
theorem dX6_seek_53 : decode cX6_seek 53 = .ok (.aload_n 0, 1) := by decide +kernel
theorem dX6_seek_54 : decode cX6_seek 54 = .ok (.getfield 19, 3) := by decide +kernel
theorem dX6_seek_57 : decode cX6_seek 57 = .ok (.iconst 0, 1) := by decide +kernel
theorem dX6_seek_58 : decode cX6_seek 58 = .ok (.iconst 0, 1) := by decide +kernel
theorem dX6_seek_59 : decode cX6_seek 59 = .ok (.iastore, 1) := by decide +kernel
theorem dX6_seek_60 : decode cX6_seek 60 = .ok (.aload_n 0, 1) := by decide +kernel
theorem dX6_seek_61 : decode cX6_seek 61 = .ok (.getfield 19, 3) := by decide +kernel
theorem dX6_seek_64 : decode cX6_seek 64 = .ok (.iconst 1, 1) := by decide +kernel
theorem dX6_seek_65 : decode cX6_seek 65 = .ok (.iload_n 2, 1) := by decide +kernel
theorem dX6_seek_66 : decode cX6_seek 66 = .ok (.iastore, 1) := by decide +kernel
theorem dX6_seek_67 : decode cX6_seek 67 = .ok (.aload_n 0, 1) := by decide +kernel
theorem dX6_seek_68 : decode cX6_seek 68 = .ok (.iconst 2, 1) := by decide +kernel
theorem dX6_seek_69 : decode cX6_seek 69 = .ok (.invokevirtual 132, 3) := by decide +kernel
theorem dX6_seek_72 : decode cX6_seek 72 = .ok (.ifCond .ne 5, 3) := by decide +kernel
theorem dX6_seek_75 : decode cX6_seek 75 = .ok (.iconst 0, 1) := by decide +kernel
theorem dX6_seek_76 : decode cX6_seek 76 = .ok (.ireturn, 1) := by decide +kernel
theorem dX6_seek_77 : decode cX6_seek 77 = .ok (.aload_n 0, 1) := by decide +kernel
theorem dX6_seek_78 : decode cX6_seek 78 = .ok (.lconst 1, 1) := by decide +kernel
theorem dX6_seek_79 : decode cX6_seek 79 = .ok (.lconst 1, 1) := by decide +kernel
theorem dX6_seek_80 : decode cX6_seek 80 = .ok (.iload_n 2, 1) := by decide +kernel
theorem dX6_seek_81 : decode cX6_seek 81 = .ok (.lshl, 1) := by decide +kernel
theorem dX6_seek_82 : decode cX6_seek 82 = .ok (.lor, 1) := by decide +kernel
theorem dX6_seek_83 : decode cX6_seek 83 = .ok (.putfield 141, 3) := by decide +kernel
theorem dX6_seek_86 : decode cX6_seek 86 = .ok (.iload_n 1, 1) := by decide +kernel
theorem dX6_seek_87 : decode cX6_seek 87 = .ok (.iconst 2, 1) := by decide +kernel
theorem dX6_seek_88 : decode cX6_seek 88 = .ok (.if_icmp .ne 5, 3) := by decide +kernel
theorem dX6_seek_91 : decode cX6_seek 91 = .ok (.iconst 1, 1) := by decide +kernel
theorem dX6_seek_92 : decode cX6_seek 92 = .ok (.ireturn, 1) := by decide +kernel
theorem dX6_seek_93 : decode cX6_seek 93 = .ok (.iconst 0, 1) := by decide +kernel
theorem dX6_seek_94 : decode cX6_seek 94 = .ok (.istore 4, 2) := by decide +kernel
theorem dX6_seek_96 : decode cX6_seek 96 = .ok (.iconst 2, 1) := by decide +kernel
theorem dX6_seek_97 : decode cX6_seek 97 = .ok (.istore 5, 2) := by decide +kernel
theorem dX6_seek_99 : decode cX6_seek 99 = .ok (.aload_n 0, 1) := by decide +kernel
theorem dX6_seek_100 : decode cX6_seek 100 = .ok (.getfield 28, 3) := by decide +kernel
theorem dX6_seek_103 : decode cX6_seek 103 = .ok (.iconst 2, 1) := by decide +kernel
theorem dX6_seek_104 : decode cX6_seek 104 = .ok (.iconst 1, 1) := by decide +kernel
theorem dX6_seek_105 : decode cX6_seek 105 = .ok (.iastore, 1) := by decide +kernel
theorem dX6_seek_106 : decode cX6_seek 106 = .ok (.iload 5, 2) := by decide +kernel
theorem dX6_seek_108 : decode cX6_seek 108 = .ok (.iconst 1, 1) := by decide +kernel
theorem dX6_seek_109 : decode cX6_seek 109 = .ok (.if_icmp .le 102, 3) := by decide +kernel
theorem dX6_seek_112 : decode cX6_seek 112 = .ok (.aload_n 0, 1) := by decide +kernel
theorem dX6_seek_113 : decode cX6_seek 113 = .ok (.getfield 28, 3) := by decide +kernel
theorem dX6_seek_116 : decode cX6_seek 116 = .ok (.iload 5, 2) := by decide +kernel
theorem dX6_seek_118 : decode cX6_seek 118 = .ok (.iaload, 1) := by decide +kernel
theorem dX6_seek_119 : decode cX6_seek 119 = .ok (.iload_n 2, 1) := by decide +kernel
theorem dX6_seek_120 : decode cX6_seek 120 = .ok (.if_icmp .lt 9, 3) := by decide +kernel
theorem dX6_seek_123 : decode cX6_seek 123 = .ok (.iinc 5 (-1), 3) := by decide +kernel
theorem dX6_seek_126 : decode cX6_seek 126 = .ok (.goto (-20), 3) := by decide +kernel
theorem dX6_seek_129 : decode cX6_seek 129 = .ok (.aload_n 0, 1) := by decide +kernel
theorem dX6_seek_130 : decode cX6_seek 130 = .ok (.getfield 19, 3) := by decide +kernel
theorem dX6_seek_133 : decode cX6_seek 133 = .ok (.iload 5, 2) := by decide +kernel
theorem dX6_seek_135 : decode cX6_seek 135 = .ok (.aload_n 0, 1) := by decide +kernel
theorem dX6_seek_136 : decode cX6_seek 136 = .ok (.getfield 28, 3) := by decide +kernel
theorem dX6_seek_139 : decode cX6_seek 139 = .ok (.iload 5, 2) := by decide +kernel
theorem dX6_seek_141 : decode cX6_seek 141 = .ok (.iaload, 1) := by decide +kernel
theorem dX6_seek_142 : decode cX6_seek 142 = .ok (.iastore, 1) := by decide +kernel
theorem dX6_seek_143 : decode cX6_seek 143 = .ok (.aload_n 0, 1) := by decide +kernel
theorem dX6_seek_144 : decode cX6_seek 144 = .ok (.getfield 28, 3) := by decide +kernel
theorem dX6_seek_147 : decode cX6_seek 147 = .ok (.iload 5, 2) := by decide +kernel
theorem dX6_seek_149 : decode cX6_seek 149 = .ok (.dup2, 1) := by decide +kernel
theorem dX6_seek_150 : decode cX6_seek 150 = .ok (.iaload, 1) := by decide +kernel
theorem dX6_seek_151 : decode cX6_seek 151 = .ok (.iconst 1, 1) := by decide +kernel
theorem dX6_seek_152 : decode cX6_seek 152 = .ok (.iadd, 1) := by decide +kernel
theorem dX6_seek_153 : decode cX6_seek 153 = .ok (.iastore, 1) := by decide +kernel
theorem dX6_seek_154 : decode cX6_seek 154 = .ok (.aload_n 0, 1) := by decide +kernel
theorem dX6_seek_155 : decode cX6_seek 155 = .ok (.iload 5, 2) := by decide +kernel
theorem dX6_seek_157 : decode cX6_seek 157 = .ok (.iconst 1, 1) := by decide +kernel
theorem dX6_seek_158 : decode cX6_seek 158 = .ok (.iadd, 1) := by decide +kernel
theorem dX6_seek_159 : decode cX6_seek 159 = .ok (.invokevirtual 132, 3) := by decide +kernel
theorem dX6_seek_162 : decode cX6_seek 162 = .ok (.ifCond .eq (-56), 3) := by decide +kernel
theorem dX6_seek_165 : decode cX6_seek 165 = .ok (.iload 5, 2) := by decide +kernel
theorem dX6_seek_167 : decode cX6_seek 167 = .ok (.iconst 1, 1) := by decide +kernel
theorem dX6_seek_168 : decode cX6_seek 168 = .ok (.iadd, 1) := by decide +kernel
theorem dX6_seek_169 : decode cX6_seek 169 = .ok (.iload_n 1, 1) := by decide +kernel
theorem dX6_seek_170 : decode cX6_seek 170 = .ok (.if_icmp .ge 27, 3) := by decide +kernel
theorem dX6_seek_173 : decode cX6_seek 173 = .ok (.iinc 5 1, 3) := by decide +kernel
theorem dX6_seek_176 : decode cX6_seek 176 = .ok (.aload_n 0, 1) := by decide +kernel
theorem dX6_seek_177 : decode cX6_seek 177 = .ok (.getfield 28, 3) := by decide +kernel
theorem dX6_seek_180 : decode cX6_seek 180 = .ok (.iload 5, 2) := by decide +kernel
theorem dX6_seek_182 : decode cX6_seek 182 = .ok (.aload_n 0, 1) := by decide +kernel
theorem dX6_seek_183 : decode cX6_seek 183 = .ok (.getfield 19, 3) := by decide +kernel
theorem dX6_seek_186 : decode cX6_seek 186 = .ok (.iload 5, 2) := by decide +kernel
theorem dX6_seek_188 : decode cX6_seek 188 = .ok (.iconst 1, 1) := by decide +kernel
theorem dX6_seek_189 : decode cX6_seek 189 = .ok (.isub, 1) := by decide +kernel
theorem dX6_seek_190 : decode cX6_seek 190 = .ok (.iaload, 1) := by decide +kernel
theorem dX6_seek_191 : decode cX6_seek 191 = .ok (.iconst 1, 1) := by decide +kernel
theorem dX6_seek_192 : decode cX6_seek 192 = .ok (.iadd, 1) := by decide +kernel
theorem dX6_seek_193 : decode cX6_seek 193 = .ok (.iastore, 1) := by decide +kernel
theorem dX6_seek_194 : decode cX6_seek 194 = .ok (.goto (-88), 3) := by decide +kernel
theorem dX6_seek_197 : decode cX6_seek 197 = .ok (.iinc 4 1, 3) := by decide +kernel
theorem dX6_seek_200 : decode cX6_seek 200 = .ok (.iload_n 3, 1) := by decide +kernel
theorem dX6_seek_201 : decode cX6_seek 201 = .ok (.ifCond .eq (-95), 3) := by decide +kernel
theorem dX6_seek_204 : decode cX6_seek 204 = .ok (.aload_n 0, 1) := by decide +kernel
theorem dX6_seek_205 : decode cX6_seek 205 = .ok (.iload_n 1, 1) := by decide +kernel
theorem dX6_seek_206 : decode cX6_seek 206 = .ok (.invokevirtual 145, 3) := by decide +kernel
theorem dX6_seek_209 : decode cX6_seek 209 = .ok (.iconst 1, 1) := by decide +kernel
theorem dX6_seek_210 : decode cX6_seek 210 = .ok (.ireturn, 1) := by decide +kernel
theorem dX6_seek_211 : decode cX6_seek 211 = .ok (.iload 4, 2) := by decide +kernel
theorem dX6_seek_213 : decode cX6_seek 213 = .ok (.ireturn, 1) := by decide +kernel
theorem dX6_laysFirst_0 : decode cX6_laysFirst 0 = .ok (.aload_n 0, 1) := by decide +kernel
theorem dX6_laysFirst_1 : decode cX6_laysFirst 1 = .ok (.lconst 0, 1) := by decide +kernel
theorem dX6_laysFirst_2 : decode cX6_laysFirst 2 = .ok (.putfield 141, 3) := by decide +kernel
theorem dX6_laysFirst_5 : decode cX6_laysFirst 5 = .ok (.iconst 0, 1) := by decide +kernel
theorem dX6_laysFirst_6 : decode cX6_laysFirst 6 = .ok (.istore_n 2, 1) := by decide +kernel
theorem dX6_laysFirst_7 : decode cX6_laysFirst 7 = .ok (.iload_n 2, 1) := by decide +kernel
theorem dX6_laysFirst_8 : decode cX6_laysFirst 8 = .ok (.iload_n 1, 1) := by decide +kernel
theorem dX6_laysFirst_9 : decode cX6_laysFirst 9 = .ok (.if_icmp .ge 26, 3) := by decide +kernel
theorem dX6_laysFirst_12 : decode cX6_laysFirst 12 = .ok (.aload_n 0, 1) := by decide +kernel
theorem dX6_laysFirst_13 : decode cX6_laysFirst 13 = .ok (.dup, 1) := by decide +kernel
theorem dX6_laysFirst_14 : decode cX6_laysFirst 14 = .ok (.getfield 141, 3) := by decide +kernel
theorem dX6_laysFirst_17 : decode cX6_laysFirst 17 = .ok (.lconst 1, 1) := by decide +kernel
theorem dX6_laysFirst_18 : decode cX6_laysFirst 18 = .ok (.aload_n 0, 1) := by decide +kernel
theorem dX6_laysFirst_19 : decode cX6_laysFirst 19 = .ok (.getfield 19, 3) := by decide +kernel
theorem dX6_laysFirst_22 : decode cX6_laysFirst 22 = .ok (.iload_n 2, 1) := by decide +kernel
theorem dX6_laysFirst_23 : decode cX6_laysFirst 23 = .ok (.iaload, 1) := by decide +kernel
theorem dX6_laysFirst_24 : decode cX6_laysFirst 24 = .ok (.lshl, 1) := by decide +kernel
theorem dX6_laysFirst_25 : decode cX6_laysFirst 25 = .ok (.lor, 1) := by decide +kernel
theorem dX6_laysFirst_26 : decode cX6_laysFirst 26 = .ok (.putfield 141, 3) := by decide +kernel
theorem dX6_laysFirst_29 : decode cX6_laysFirst 29 = .ok (.iinc 2 1, 3) := by decide +kernel
theorem dX6_laysFirst_32 : decode cX6_laysFirst 32 = .ok (.goto (-25), 3) := by decide +kernel
theorem dX6_laysFirst_35 : decode cX6_laysFirst 35 = .ok (.return_, 1) := by decide +kernel
theorem dX6_least_0 : decode cX6_least 0 = .ok (.iconst 0, 1) := by decide +kernel
theorem dX6_least_1 : decode cX6_least 1 = .ok (.istore_n 2, 1) := by decide +kernel
theorem dX6_least_2 : decode cX6_least 2 = .ok (.iload_n 2, 1) := by decide +kernel
theorem dX6_least_3 : decode cX6_least 3 = .ok (.bipush 40, 2) := by decide +kernel
theorem dX6_least_5 : decode cX6_least 5 = .ok (.if_icmp .gt 21, 3) := by decide +kernel
theorem dX6_least_8 : decode cX6_least 8 = .ok (.aload_n 0, 1) := by decide +kernel
theorem dX6_least_9 : decode cX6_least 9 = .ok (.iload_n 1, 1) := by decide +kernel
theorem dX6_least_10 : decode cX6_least 10 = .ok (.iload_n 2, 1) := by decide +kernel
theorem dX6_least_11 : decode cX6_least 11 = .ok (.iconst 1, 1) := by decide +kernel
theorem dX6_least_12 : decode cX6_least 12 = .ok (.invokevirtual 148, 3) := by decide +kernel
theorem dX6_least_15 : decode cX6_least 15 = .ok (.ifCond .le 5, 3) := by decide +kernel
theorem dX6_least_18 : decode cX6_least 18 = .ok (.iload_n 2, 1) := by decide +kernel
theorem dX6_least_19 : decode cX6_least 19 = .ok (.ireturn, 1) := by decide +kernel
theorem dX6_least_20 : decode cX6_least 20 = .ok (.iinc 2 1, 3) := by decide +kernel
theorem dX6_least_23 : decode cX6_least 23 = .ok (.goto (-21), 3) := by decide +kernel
theorem dX6_least_26 : decode cX6_least 26 = .ok (.iconst (-1), 1) := by decide +kernel
theorem dX6_least_27 : decode cX6_least 27 = .ok (.ireturn, 1) := by decide +kernel
theorem dX6_leastSpan_0 : decode cX6_leastSpan 0 = .ok (.aload_n 0, 1) := by decide +kernel
theorem dX6_leastSpan_1 : decode cX6_leastSpan 1 = .ok (.iload_n 1, 1) := by decide +kernel
theorem dX6_leastSpan_2 : decode cX6_leastSpan 2 = .ok (.iconst 1, 1) := by decide +kernel
theorem dX6_leastSpan_3 : decode cX6_leastSpan 3 = .ok (.bipush 6, 2) := by decide +kernel
theorem dX6_leastSpan_5 : decode cX6_leastSpan 5 = .ok (.invokestatic 53, 3) := by decide +kernel
theorem dX6_leastSpan_8 : decode cX6_leastSpan 8 = .ok (.ifCond .eq 7, 3) := by decide +kernel
theorem dX6_leastSpan_11 : decode cX6_leastSpan 11 = .ok (.iconst 0, 1) := by decide +kernel
theorem dX6_leastSpan_12 : decode cX6_leastSpan 12 = .ok (.goto 4, 3) := by decide +kernel
theorem dX6_leastSpan_15 : decode cX6_leastSpan 15 = .ok (.iconst 1, 1) := by decide +kernel
theorem dX6_leastSpan_16 : decode cX6_leastSpan 16 = .ok (.putfield 43, 3) := by decide +kernel
theorem dX6_leastSpan_19 : decode cX6_leastSpan 19 = .ok (.aload_n 0, 1) := by decide +kernel
theorem dX6_leastSpan_20 : decode cX6_leastSpan 20 = .ok (.getfield 43, 3) := by decide +kernel
theorem dX6_leastSpan_23 : decode cX6_leastSpan 23 = .ok (.ifCond .eq 7, 3) := by decide +kernel
theorem dX6_leastSpan_26 : decode cX6_leastSpan 26 = .ok (.iconst 0, 1) := by decide +kernel
theorem dX6_leastSpan_27 : decode cX6_leastSpan 27 = .ok (.goto 8, 3) := by decide +kernel
theorem dX6_leastSpan_30 : decode cX6_leastSpan 30 = .ok (.aload_n 0, 1) := by decide +kernel
theorem dX6_leastSpan_31 : decode cX6_leastSpan 31 = .ok (.iload_n 1, 1) := by decide +kernel
theorem dX6_leastSpan_32 : decode cX6_leastSpan 32 = .ok (.invokevirtual 152, 3) := by decide +kernel
theorem dX6_leastSpan_35 : decode cX6_leastSpan 35 = .ok (.ireturn, 1) := by decide +kernel
theorem dX6_bestRuler_0 : decode cX6_bestRuler 0 = .ok (.aload_n 0, 1) := by decide +kernel
theorem dX6_bestRuler_1 : decode cX6_bestRuler 1 = .ok (.iload_n 1, 1) := by decide +kernel
theorem dX6_bestRuler_2 : decode cX6_bestRuler 2 = .ok (.iconst 1, 1) := by decide +kernel
theorem dX6_bestRuler_3 : decode cX6_bestRuler 3 = .ok (.bipush 6, 2) := by decide +kernel
theorem dX6_bestRuler_5 : decode cX6_bestRuler 5 = .ok (.invokestatic 53, 3) := by decide +kernel
theorem dX6_bestRuler_8 : decode cX6_bestRuler 8 = .ok (.ifCond .eq 7, 3) := by decide +kernel
theorem dX6_bestRuler_11 : decode cX6_bestRuler 11 = .ok (.iconst 0, 1) := by decide +kernel
theorem dX6_bestRuler_12 : decode cX6_bestRuler 12 = .ok (.goto 4, 3) := by decide +kernel
theorem dX6_bestRuler_15 : decode cX6_bestRuler 15 = .ok (.iconst 1, 1) := by decide +kernel
theorem dX6_bestRuler_16 : decode cX6_bestRuler 16 = .ok (.putfield 43, 3) := by decide +kernel
theorem dX6_bestRuler_19 : decode cX6_bestRuler 19 = .ok (.aload_n 0, 1) := by decide +kernel
theorem dX6_bestRuler_20 : decode cX6_bestRuler 20 = .ok (.getfield 43, 3) := by decide +kernel
theorem dX6_bestRuler_23 : decode cX6_bestRuler 23 = .ok (.ifCond .eq 5, 3) := by decide +kernel
theorem dX6_bestRuler_26 : decode cX6_bestRuler 26 = .ok (.lconst 0, 1) := by decide +kernel
theorem dX6_bestRuler_27 : decode cX6_bestRuler 27 = .ok (.lreturn, 1) := by decide +kernel
theorem dX6_bestRuler_28 : decode cX6_bestRuler 28 = .ok (.aload_n 0, 1) := by decide +kernel
theorem dX6_bestRuler_29 : decode cX6_bestRuler 29 = .ok (.iload_n 1, 1) := by decide +kernel
theorem dX6_bestRuler_30 : decode cX6_bestRuler 30 = .ok (.invokevirtual 152, 3) := by decide +kernel
theorem dX6_bestRuler_33 : decode cX6_bestRuler 33 = .ok (.iconst (-1), 1) := by decide +kernel
theorem dX6_bestRuler_34 : decode cX6_bestRuler 34 = .ok (.if_icmp .ne 7, 3) := by decide +kernel
theorem dX6_bestRuler_37 : decode cX6_bestRuler 37 = .ok (.lconst 0, 1) := by decide +kernel
theorem dX6_bestRuler_38 : decode cX6_bestRuler 38 = .ok (.goto 7, 3) := by decide +kernel
theorem dX6_bestRuler_41 : decode cX6_bestRuler 41 = .ok (.aload_n 0, 1) := by decide +kernel
theorem dX6_bestRuler_42 : decode cX6_bestRuler 42 = .ok (.getfield 141, 3) := by decide +kernel
theorem dX6_bestRuler_45 : decode cX6_bestRuler 45 = .ok (.lreturn, 1) := by decide +kernel
theorem dX6_rulers_0 : decode cX6_rulers 0 = .ok (.aload_n 0, 1) := by decide +kernel
theorem dX6_rulers_1 : decode cX6_rulers 1 = .ok (.iload_n 1, 1) := by decide +kernel
theorem dX6_rulers_2 : decode cX6_rulers 2 = .ok (.iconst 1, 1) := by decide +kernel
theorem dX6_rulers_3 : decode cX6_rulers 3 = .ok (.iconst 5, 1) := by decide +kernel
theorem dX6_rulers_4 : decode cX6_rulers 4 = .ok (.invokestatic 53, 3) := by decide +kernel
theorem dX6_rulers_7 : decode cX6_rulers 7 = .ok (.ifCond .eq 17, 3) := by decide +kernel
theorem dX6_rulers_10 : decode cX6_rulers 10 = .ok (.iload_n 2, 1) := by decide +kernel
theorem dX6_rulers_11 : decode cX6_rulers 11 = .ok (.iconst 0, 1) := by decide +kernel
theorem dX6_rulers_12 : decode cX6_rulers 12 = .ok (.bipush 40, 2) := by decide +kernel
theorem dX6_rulers_14 : decode cX6_rulers 14 = .ok (.invokestatic 53, 3) := by decide +kernel
theorem dX6_rulers_17 : decode cX6_rulers 17 = .ok (.ifCond .eq 7, 3) := by decide +kernel
theorem dX6_rulers_20 : decode cX6_rulers 20 = .ok (.iconst 0, 1) := by decide +kernel
theorem dX6_rulers_21 : decode cX6_rulers 21 = .ok (.goto 4, 3) := by decide +kernel
theorem dX6_rulers_24 : decode cX6_rulers 24 = .ok (.iconst 1, 1) := by decide +kernel
theorem dX6_rulers_25 : decode cX6_rulers 25 = .ok (.putfield 43, 3) := by decide +kernel
theorem dX6_rulers_28 : decode cX6_rulers 28 = .ok (.aload_n 0, 1) := by decide +kernel
theorem dX6_rulers_29 : decode cX6_rulers 29 = .ok (.getfield 43, 3) := by decide +kernel
theorem dX6_rulers_32 : decode cX6_rulers 32 = .ok (.ifCond .eq 7, 3) := by decide +kernel
theorem dX6_rulers_35 : decode cX6_rulers 35 = .ok (.iconst 0, 1) := by decide +kernel
theorem dX6_rulers_36 : decode cX6_rulers 36 = .ok (.goto 10, 3) := by decide +kernel
theorem dX6_rulers_39 : decode cX6_rulers 39 = .ok (.aload_n 0, 1) := by decide +kernel
theorem dX6_rulers_40 : decode cX6_rulers 40 = .ok (.iload_n 1, 1) := by decide +kernel
theorem dX6_rulers_41 : decode cX6_rulers 41 = .ok (.iload_n 2, 1) := by decide +kernel
theorem dX6_rulers_42 : decode cX6_rulers 42 = .ok (.iconst 0, 1) := by decide +kernel
theorem dX6_rulers_43 : decode cX6_rulers 43 = .ok (.invokevirtual 148, 3) := by decide +kernel
theorem dX6_rulers_46 : decode cX6_rulers 46 = .ok (.ireturn, 1) := by decide +kernel
theorem dX6_openingsFor_0 : decode cX6_openingsFor 0 = .ok (.lconst 0, 1) := by decide +kernel
theorem dX6_openingsFor_1 : decode cX6_openingsFor 1 = .ok (.lstore_n 2, 1) := by decide +kernel
theorem dX6_openingsFor_2 : decode cX6_openingsFor 2 = .ok (.iconst 0, 1) := by decide +kernel
theorem dX6_openingsFor_3 : decode cX6_openingsFor 3 = .ok (.istore 4, 2) := by decide +kernel
theorem dX6_openingsFor_5 : decode cX6_openingsFor 5 = .ok (.iload 4, 2) := by decide +kernel
theorem dX6_openingsFor_7 : decode cX6_openingsFor 7 = .ok (.bipush 64, 2) := by decide +kernel
theorem dX6_openingsFor_9 : decode cX6_openingsFor 9 = .ok (.if_icmp .ge 74, 3) := by decide +kernel
theorem dX6_openingsFor_12 : decode cX6_openingsFor 12 = .ok (.aload_n 0, 1) := by decide +kernel
theorem dX6_openingsFor_13 : decode cX6_openingsFor 13 = .ok (.invokevirtual 98, 3) := by decide +kernel
theorem dX6_openingsFor_16 : decode cX6_openingsFor 16 = .ok (.aload_n 0, 1) := by decide +kernel
theorem dX6_openingsFor_17 : decode cX6_openingsFor 17 = .ok (.getfield 19, 3) := by decide +kernel
theorem dX6_openingsFor_20 : decode cX6_openingsFor 20 = .ok (.aload_n 0, 1) := by decide +kernel
theorem dX6_openingsFor_21 : decode cX6_openingsFor 21 = .ok (.getfield 7, 3) := by decide +kernel
theorem dX6_openingsFor_24 : decode cX6_openingsFor 24 = .ok (.iconst 5, 1) := by decide +kernel
theorem dX6_openingsFor_25 : decode cX6_openingsFor 25 = .ok (.iaload, 1) := by decide +kernel
theorem dX6_openingsFor_26 : decode cX6_openingsFor 26 = .ok (.iload 4, 2) := by decide +kernel
theorem dX6_openingsFor_28 : decode cX6_openingsFor 28 = .ok (.iastore, 1) := by decide +kernel
theorem dX6_openingsFor_29 : decode cX6_openingsFor 29 = .ok (.aload_n 0, 1) := by decide +kernel
theorem dX6_openingsFor_30 : decode cX6_openingsFor 30 = .ok (.getfield 22, 3) := by decide +kernel
theorem dX6_openingsFor_33 : decode cX6_openingsFor 33 = .ok (.aload_n 0, 1) := by decide +kernel
theorem dX6_openingsFor_34 : decode cX6_openingsFor 34 = .ok (.getfield 7, 3) := by decide +kernel
theorem dX6_openingsFor_37 : decode cX6_openingsFor 37 = .ok (.iconst 5, 1) := by decide +kernel
theorem dX6_openingsFor_38 : decode cX6_openingsFor 38 = .ok (.iaload, 1) := by decide +kernel
theorem dX6_openingsFor_39 : decode cX6_openingsFor 39 = .ok (.iload_n 1, 1) := by decide +kernel
theorem dX6_openingsFor_40 : decode cX6_openingsFor 40 = .ok (.iastore, 1) := by decide +kernel
theorem dX6_openingsFor_41 : decode cX6_openingsFor 41 = .ok (.lload_n 2, 1) := by decide +kernel
theorem dX6_openingsFor_42 : decode cX6_openingsFor 42 = .ok (.aload_n 0, 1) := by decide +kernel
theorem dX6_openingsFor_43 : decode cX6_openingsFor 43 = .ok (.iload 4, 2) := by decide +kernel
theorem dX6_openingsFor_45 : decode cX6_openingsFor 45 = .ok (.iconst (-1), 1) := by decide +kernel
theorem dX6_openingsFor_46 : decode cX6_openingsFor 46 = .ok (.invokevirtual 65, 3) := by decide +kernel
theorem dX6_openingsFor_49 : decode cX6_openingsFor 49 = .ok (.ifCond .ne 25, 3) := by decide +kernel
theorem dX6_openingsFor_52 : decode cX6_openingsFor 52 = .ok (.aload_n 0, 1) := by decide +kernel
theorem dX6_openingsFor_53 : decode cX6_openingsFor 53 = .ok (.aload_n 0, 1) := by decide +kernel
theorem dX6_openingsFor_54 : decode cX6_openingsFor 54 = .ok (.getfield 7, 3) := by decide +kernel
theorem dX6_openingsFor_57 : decode cX6_openingsFor 57 = .ok (.iconst 5, 1) := by decide +kernel
theorem dX6_openingsFor_58 : decode cX6_openingsFor 58 = .ok (.iaload, 1) := by decide +kernel
theorem dX6_openingsFor_59 : decode cX6_openingsFor 59 = .ok (.iconst 1, 1) := by decide +kernel
theorem dX6_openingsFor_60 : decode cX6_openingsFor 60 = .ok (.iadd, 1) := by decide +kernel
theorem dX6_openingsFor_61 : decode cX6_openingsFor 61 = .ok (.invokevirtual 132, 3) := by decide +kernel
theorem dX6_openingsFor_64 : decode cX6_openingsFor 64 = .ok (.ifCond .eq 10, 3) := by decide +kernel
theorem dX6_openingsFor_67 : decode cX6_openingsFor 67 = .ok (.lconst 1, 1) := by decide +kernel
theorem dX6_openingsFor_68 : decode cX6_openingsFor 68 = .ok (.iload 4, 2) := by decide +kernel
theorem dX6_openingsFor_70 : decode cX6_openingsFor 70 = .ok (.lshl, 1) := by decide +kernel
theorem dX6_openingsFor_71 : decode cX6_openingsFor 71 = .ok (.goto 4, 3) := by decide +kernel
theorem dX6_openingsFor_74 : decode cX6_openingsFor 74 = .ok (.lconst 0, 1) := by decide +kernel
theorem dX6_openingsFor_75 : decode cX6_openingsFor 75 = .ok (.lor, 1) := by decide +kernel
theorem dX6_openingsFor_76 : decode cX6_openingsFor 76 = .ok (.lstore_n 2, 1) := by decide +kernel
theorem dX6_openingsFor_77 : decode cX6_openingsFor 77 = .ok (.iinc 4 1, 3) := by decide +kernel
theorem dX6_openingsFor_80 : decode cX6_openingsFor 80 = .ok (.goto (-75), 3) := by decide +kernel
theorem dX6_openingsFor_83 : decode cX6_openingsFor 83 = .ok (.lload_n 2, 1) := by decide +kernel
theorem dX6_openingsFor_84 : decode cX6_openingsFor 84 = .ok (.lreturn, 1) := by decide +kernel
theorem dX6_openings_0 : decode cX6_openings 0 = .ok (.aload_n 0, 1) := by decide +kernel
theorem dX6_openings_1 : decode cX6_openings 1 = .ok (.iload_n 1, 1) := by decide +kernel
theorem dX6_openings_2 : decode cX6_openings 2 = .ok (.iconst 0, 1) := by decide +kernel
theorem dX6_openings_3 : decode cX6_openings 3 = .ok (.bipush 60, 2) := by decide +kernel
theorem dX6_openings_5 : decode cX6_openings 5 = .ok (.invokestatic 53, 3) := by decide +kernel
theorem dX6_openings_8 : decode cX6_openings 8 = .ok (.ifCond .eq 7, 3) := by decide +kernel
theorem dX6_openings_11 : decode cX6_openings 11 = .ok (.iconst 0, 1) := by decide +kernel
theorem dX6_openings_12 : decode cX6_openings 12 = .ok (.goto 4, 3) := by decide +kernel
theorem dX6_openings_15 : decode cX6_openings 15 = .ok (.iconst 1, 1) := by decide +kernel
theorem dX6_openings_16 : decode cX6_openings 16 = .ok (.putfield 43, 3) := by decide +kernel
theorem dX6_openings_19 : decode cX6_openings 19 = .ok (.aload_n 0, 1) := by decide +kernel
theorem dX6_openings_20 : decode cX6_openings 20 = .ok (.getfield 43, 3) := by decide +kernel
theorem dX6_openings_23 : decode cX6_openings 23 = .ok (.ifCond .eq 7, 3) := by decide +kernel
theorem dX6_openings_26 : decode cX6_openings 26 = .ok (.lconst 0, 1) := by decide +kernel
theorem dX6_openings_27 : decode cX6_openings 27 = .ok (.goto 8, 3) := by decide +kernel
theorem dX6_openings_30 : decode cX6_openings 30 = .ok (.aload_n 0, 1) := by decide +kernel
theorem dX6_openings_31 : decode cX6_openings 31 = .ok (.iload_n 1, 1) := by decide +kernel
theorem dX6_openings_32 : decode cX6_openings 32 = .ok (.invokevirtual 155, 3) := by decide +kernel
theorem dX6_openings_35 : decode cX6_openings 35 = .ok (.lreturn, 1) := by decide +kernel
theorem dX6_putIn_0 : decode cX6_putIn 0 = .ok (.aload_n 0, 1) := by decide +kernel
theorem dX6_putIn_1 : decode cX6_putIn 1 = .ok (.iload_n 1, 1) := by decide +kernel
theorem dX6_putIn_2 : decode cX6_putIn 2 = .ok (.iconst 0, 1) := by decide +kernel
theorem dX6_putIn_3 : decode cX6_putIn 3 = .ok (.bipush 60, 2) := by decide +kernel
theorem dX6_putIn_5 : decode cX6_putIn 5 = .ok (.invokestatic 53, 3) := by decide +kernel
theorem dX6_putIn_8 : decode cX6_putIn 8 = .ok (.ifCond .ne 7, 3) := by decide +kernel
theorem dX6_putIn_11 : decode cX6_putIn 11 = .ok (.iconst 1, 1) := by decide +kernel
theorem dX6_putIn_12 : decode cX6_putIn 12 = .ok (.goto 19, 3) := by decide +kernel
theorem dX6_putIn_15 : decode cX6_putIn 15 = .ok (.aload_n 0, 1) := by decide +kernel
theorem dX6_putIn_16 : decode cX6_putIn 16 = .ok (.getfield 7, 3) := by decide +kernel
theorem dX6_putIn_19 : decode cX6_putIn 19 = .ok (.iconst 5, 1) := by decide +kernel
theorem dX6_putIn_20 : decode cX6_putIn 20 = .ok (.iaload, 1) := by decide +kernel
theorem dX6_putIn_21 : decode cX6_putIn 21 = .ok (.bipush 10, 2) := by decide +kernel
theorem dX6_putIn_23 : decode cX6_putIn 23 = .ok (.if_icmp .ne 7, 3) := by decide +kernel
theorem dX6_putIn_26 : decode cX6_putIn 26 = .ok (.iconst 2, 1) := by decide +kernel
theorem dX6_putIn_27 : decode cX6_putIn 27 = .ok (.goto 4, 3) := by decide +kernel
theorem dX6_putIn_30 : decode cX6_putIn 30 = .ok (.iconst 0, 1) := by decide +kernel
theorem dX6_putIn_31 : decode cX6_putIn 31 = .ok (.putfield 43, 3) := by decide +kernel
theorem dX6_putIn_34 : decode cX6_putIn 34 = .ok (.aload_n 0, 1) := by decide +kernel
theorem dX6_putIn_35 : decode cX6_putIn 35 = .ok (.getfield 43, 3) := by decide +kernel
theorem dX6_putIn_38 : decode cX6_putIn 38 = .ok (.ifCond .eq 5, 3) := by decide +kernel
theorem dX6_putIn_41 : decode cX6_putIn 41 = .ok (.iconst 0, 1) := by decide +kernel
theorem dX6_putIn_42 : decode cX6_putIn 42 = .ok (.ireturn, 1) := by decide +kernel
theorem dX6_putIn_43 : decode cX6_putIn 43 = .ok (.aload_n 0, 1) := by decide +kernel
theorem dX6_putIn_44 : decode cX6_putIn 44 = .ok (.iload_n 1, 1) := by decide +kernel
theorem dX6_putIn_45 : decode cX6_putIn 45 = .ok (.invokevirtual 155, 3) := by decide +kernel
theorem dX6_putIn_48 : decode cX6_putIn 48 = .ok (.lstore_n 2, 1) := by decide +kernel
theorem dX6_putIn_49 : decode cX6_putIn 49 = .ok (.lload_n 2, 1) := by decide +kernel
theorem dX6_putIn_50 : decode cX6_putIn 50 = .ok (.lconst 0, 1) := by decide +kernel
theorem dX6_putIn_51 : decode cX6_putIn 51 = .ok (.lcmp, 1) := by decide +kernel
theorem dX6_putIn_52 : decode cX6_putIn 52 = .ok (.ifCond .ne 5, 3) := by decide +kernel
theorem dX6_putIn_55 : decode cX6_putIn 55 = .ok (.iconst (-1), 1) := by decide +kernel
theorem dX6_putIn_56 : decode cX6_putIn 56 = .ok (.ireturn, 1) := by decide +kernel
theorem dX6_putIn_57 : decode cX6_putIn 57 = .ok (.iconst 0, 1) := by decide +kernel
theorem dX6_putIn_58 : decode cX6_putIn 58 = .ok (.istore 4, 2) := by decide +kernel
theorem dX6_putIn_60 : decode cX6_putIn 60 = .ok (.lload_n 2, 1) := by decide +kernel
theorem dX6_putIn_61 : decode cX6_putIn 61 = .ok (.iload 4, 2) := by decide +kernel
theorem dX6_putIn_63 : decode cX6_putIn 63 = .ok (.lshr, 1) := by decide +kernel
theorem dX6_putIn_64 : decode cX6_putIn 64 = .ok (.lconst 1, 1) := by decide +kernel
theorem dX6_putIn_65 : decode cX6_putIn 65 = .ok (.land, 1) := by decide +kernel
theorem dX6_putIn_66 : decode cX6_putIn 66 = .ok (.lconst 0, 1) := by decide +kernel
theorem dX6_putIn_67 : decode cX6_putIn 67 = .ok (.lcmp, 1) := by decide +kernel
theorem dX6_putIn_68 : decode cX6_putIn 68 = .ok (.ifCond .ne 9, 3) := by decide +kernel
theorem dX6_putIn_71 : decode cX6_putIn 71 = .ok (.iinc 4 1, 3) := by decide +kernel
theorem dX6_putIn_74 : decode cX6_putIn 74 = .ok (.goto (-14), 3) := by decide +kernel
theorem dX6_putIn_77 : decode cX6_putIn 77 = .ok (.aload_n 0, 1) := by decide +kernel
theorem dX6_putIn_78 : decode cX6_putIn 78 = .ok (.invokevirtual 72, 3) := by decide +kernel
theorem dX6_putIn_81 : decode cX6_putIn 81 = .ok (.aload_n 0, 1) := by decide +kernel
theorem dX6_putIn_82 : decode cX6_putIn 82 = .ok (.aload_n 0, 1) := by decide +kernel
theorem dX6_putIn_83 : decode cX6_putIn 83 = .ok (.getfield 7, 3) := by decide +kernel
theorem dX6_putIn_86 : decode cX6_putIn 86 = .ok (.iconst 5, 1) := by decide +kernel
theorem dX6_putIn_87 : decode cX6_putIn 87 = .ok (.iaload, 1) := by decide +kernel
theorem dX6_putIn_88 : decode cX6_putIn 88 = .ok (.iload 4, 2) := by decide +kernel
theorem dX6_putIn_90 : decode cX6_putIn 90 = .ok (.iload_n 1, 1) := by decide +kernel
theorem dX6_putIn_91 : decode cX6_putIn 91 = .ok (.invokevirtual 75, 3) := by decide +kernel
theorem dX6_putIn_94 : decode cX6_putIn 94 = .ok (.aload_n 0, 1) := by decide +kernel
theorem dX6_putIn_95 : decode cX6_putIn 95 = .ok (.getfield 7, 3) := by decide +kernel
theorem dX6_putIn_98 : decode cX6_putIn 98 = .ok (.iconst 5, 1) := by decide +kernel
theorem dX6_putIn_99 : decode cX6_putIn 99 = .ok (.dup2, 1) := by decide +kernel
theorem dX6_putIn_100 : decode cX6_putIn 100 = .ok (.iaload, 1) := by decide +kernel
theorem dX6_putIn_101 : decode cX6_putIn 101 = .ok (.iconst 1, 1) := by decide +kernel
theorem dX6_putIn_102 : decode cX6_putIn 102 = .ok (.iadd, 1) := by decide +kernel
theorem dX6_putIn_103 : decode cX6_putIn 103 = .ok (.iastore, 1) := by decide +kernel
theorem dX6_putIn_104 : decode cX6_putIn 104 = .ok (.iload 4, 2) := by decide +kernel
theorem dX6_putIn_106 : decode cX6_putIn 106 = .ok (.ireturn, 1) := by decide +kernel
theorem dX6_isMixer_0 : decode cX6_isMixer 0 = .ok (.iload_n 1, 1) := by decide +kernel
theorem dX6_isMixer_1 : decode cX6_isMixer 1 = .ok (.iconst 0, 1) := by decide +kernel
theorem dX6_isMixer_2 : decode cX6_isMixer 2 = .ok (.aload_n 0, 1) := by decide +kernel
theorem dX6_isMixer_3 : decode cX6_isMixer 3 = .ok (.getfield 7, 3) := by decide +kernel
theorem dX6_isMixer_6 : decode cX6_isMixer 6 = .ok (.bipush 26, 2) := by decide +kernel
theorem dX6_isMixer_8 : decode cX6_isMixer 8 = .ok (.iaload, 1) := by decide +kernel
theorem dX6_isMixer_9 : decode cX6_isMixer 9 = .ok (.iconst 1, 1) := by decide +kernel
theorem dX6_isMixer_10 : decode cX6_isMixer 10 = .ok (.isub, 1) := by decide +kernel
theorem dX6_isMixer_11 : decode cX6_isMixer 11 = .ok (.invokestatic 53, 3) := by decide +kernel
theorem dX6_isMixer_14 : decode cX6_isMixer 14 = .ok (.ireturn, 1) := by decide +kernel
theorem dX6_addMixer_0 : decode cX6_addMixer 0 = .ok (.aload_n 0, 1) := by decide +kernel
theorem dX6_addMixer_1 : decode cX6_addMixer 1 = .ok (.aload_n 0, 1) := by decide +kernel
theorem dX6_addMixer_2 : decode cX6_addMixer 2 = .ok (.iload_n 1, 1) := by decide +kernel
theorem dX6_addMixer_3 : decode cX6_addMixer 3 = .ok (.invokevirtual 113, 3) := by decide +kernel
theorem dX6_addMixer_6 : decode cX6_addMixer 6 = .ok (.ifCond .ne 7, 3) := by decide +kernel
theorem dX6_addMixer_9 : decode cX6_addMixer 9 = .ok (.iconst 1, 1) := by decide +kernel
theorem dX6_addMixer_10 : decode cX6_addMixer 10 = .ok (.goto 19, 3) := by decide +kernel
theorem dX6_addMixer_13 : decode cX6_addMixer 13 = .ok (.aload_n 0, 1) := by decide +kernel
theorem dX6_addMixer_14 : decode cX6_addMixer 14 = .ok (.getfield 7, 3) := by decide +kernel
theorem dX6_addMixer_17 : decode cX6_addMixer 17 = .ok (.bipush 26, 2) := by decide +kernel
theorem dX6_addMixer_19 : decode cX6_addMixer 19 = .ok (.iaload, 1) := by decide +kernel
theorem dX6_addMixer_20 : decode cX6_addMixer 20 = .ok (.iconst 5, 1) := by decide +kernel
theorem dX6_addMixer_21 : decode cX6_addMixer 21 = .ok (.if_icmp .ne 7, 3) := by decide +kernel
theorem dX6_addMixer_24 : decode cX6_addMixer 24 = .ok (.iconst 2, 1) := by decide +kernel
theorem dX6_addMixer_25 : decode cX6_addMixer 25 = .ok (.goto 4, 3) := by decide +kernel
theorem dX6_addMixer_28 : decode cX6_addMixer 28 = .ok (.iconst 0, 1) := by decide +kernel
theorem dX6_addMixer_29 : decode cX6_addMixer 29 = .ok (.putfield 43, 3) := by decide +kernel
theorem dX6_addMixer_32 : decode cX6_addMixer 32 = .ok (.aload_n 0, 1) := by decide +kernel
theorem dX6_addMixer_33 : decode cX6_addMixer 33 = .ok (.getfield 43, 3) := by decide +kernel
theorem dX6_addMixer_36 : decode cX6_addMixer 36 = .ok (.ifCond .eq 5, 3) := by decide +kernel
theorem dX6_addMixer_39 : decode cX6_addMixer 39 = .ok (.iconst 0, 1) := by decide +kernel
theorem dX6_addMixer_40 : decode cX6_addMixer 40 = .ok (.ireturn, 1) := by decide +kernel
theorem dX6_addMixer_41 : decode cX6_addMixer 41 = .ok (.aload_n 0, 1) := by decide +kernel
theorem dX6_addMixer_42 : decode cX6_addMixer 42 = .ok (.invokevirtual 72, 3) := by decide +kernel
theorem dX6_addMixer_45 : decode cX6_addMixer 45 = .ok (.aload_n 0, 1) := by decide +kernel
theorem dX6_addMixer_46 : decode cX6_addMixer 46 = .ok (.getfield 7, 3) := by decide +kernel
theorem dX6_addMixer_49 : decode cX6_addMixer 49 = .ok (.bipush 27, 2) := by decide +kernel
theorem dX6_addMixer_51 : decode cX6_addMixer 51 = .ok (.aload_n 0, 1) := by decide +kernel
theorem dX6_addMixer_52 : decode cX6_addMixer 52 = .ok (.getfield 7, 3) := by decide +kernel
theorem dX6_addMixer_55 : decode cX6_addMixer 55 = .ok (.bipush 26, 2) := by decide +kernel
theorem dX6_addMixer_57 : decode cX6_addMixer 57 = .ok (.iaload, 1) := by decide +kernel
theorem dX6_addMixer_58 : decode cX6_addMixer 58 = .ok (.iadd, 1) := by decide +kernel
theorem dX6_addMixer_59 : decode cX6_addMixer 59 = .ok (.iload_n 1, 1) := by decide +kernel
theorem dX6_addMixer_60 : decode cX6_addMixer 60 = .ok (.iastore, 1) := by decide +kernel
theorem dX6_addMixer_61 : decode cX6_addMixer 61 = .ok (.aload_n 0, 1) := by decide +kernel
theorem dX6_addMixer_62 : decode cX6_addMixer 62 = .ok (.getfield 7, 3) := by decide +kernel
theorem dX6_addMixer_65 : decode cX6_addMixer 65 = .ok (.bipush 26, 2) := by decide +kernel
theorem dX6_addMixer_67 : decode cX6_addMixer 67 = .ok (.dup2, 1) := by decide +kernel
theorem dX6_addMixer_68 : decode cX6_addMixer 68 = .ok (.iaload, 1) := by decide +kernel
theorem dX6_addMixer_69 : decode cX6_addMixer 69 = .ok (.iconst 1, 1) := by decide +kernel
theorem dX6_addMixer_70 : decode cX6_addMixer 70 = .ok (.iadd, 1) := by decide +kernel
theorem dX6_addMixer_71 : decode cX6_addMixer 71 = .ok (.iastore, 1) := by decide +kernel
theorem dX6_addMixer_72 : decode cX6_addMixer 72 = .ok (.aload_n 0, 1) := by decide +kernel
theorem dX6_addMixer_73 : decode cX6_addMixer 73 = .ok (.getfield 7, 3) := by decide +kernel
theorem dX6_addMixer_76 : decode cX6_addMixer 76 = .ok (.bipush 26, 2) := by decide +kernel
theorem dX6_addMixer_78 : decode cX6_addMixer 78 = .ok (.iaload, 1) := by decide +kernel
theorem dX6_addMixer_79 : decode cX6_addMixer 79 = .ok (.iconst 1, 1) := by decide +kernel
theorem dX6_addMixer_80 : decode cX6_addMixer 80 = .ok (.isub, 1) := by decide +kernel
theorem dX6_addMixer_81 : decode cX6_addMixer 81 = .ok (.ireturn, 1) := by decide +kernel
theorem dX6_setMember_0 : decode cX6_setMember 0 = .ok (.aload_n 0, 1) := by decide +kernel
theorem dX6_setMember_1 : decode cX6_setMember 1 = .ok (.aload_n 0, 1) := by decide +kernel
theorem dX6_setMember_2 : decode cX6_setMember 2 = .ok (.iload_n 1, 1) := by decide +kernel
theorem dX6_setMember_3 : decode cX6_setMember 3 = .ok (.invokevirtual 158, 3) := by decide +kernel
theorem dX6_setMember_6 : decode cX6_setMember 6 = .ok (.ifCond .eq 15, 3) := by decide +kernel
theorem dX6_setMember_9 : decode cX6_setMember 9 = .ok (.aload_n 0, 1) := by decide +kernel
theorem dX6_setMember_10 : decode cX6_setMember 10 = .ok (.iload_n 2, 1) := by decide +kernel
theorem dX6_setMember_11 : decode cX6_setMember 11 = .ok (.invokevirtual 79, 3) := by decide +kernel
theorem dX6_setMember_14 : decode cX6_setMember 14 = .ok (.ifCond .eq 7, 3) := by decide +kernel
theorem dX6_setMember_17 : decode cX6_setMember 17 = .ok (.iconst 0, 1) := by decide +kernel
theorem dX6_setMember_18 : decode cX6_setMember 18 = .ok (.goto 4, 3) := by decide +kernel
theorem dX6_setMember_21 : decode cX6_setMember 21 = .ok (.iconst 1, 1) := by decide +kernel
theorem dX6_setMember_22 : decode cX6_setMember 22 = .ok (.putfield 43, 3) := by decide +kernel
theorem dX6_setMember_25 : decode cX6_setMember 25 = .ok (.aload_n 0, 1) := by decide +kernel
theorem dX6_setMember_26 : decode cX6_setMember 26 = .ok (.getfield 43, 3) := by decide +kernel
theorem dX6_setMember_29 : decode cX6_setMember 29 = .ok (.ifCond .eq 5, 3) := by decide +kernel
theorem dX6_setMember_32 : decode cX6_setMember 32 = .ok (.iconst 0, 1) := by decide +kernel
theorem dX6_setMember_33 : decode cX6_setMember 33 = .ok (.ireturn, 1) := by decide +kernel
theorem dX6_setMember_34 : decode cX6_setMember 34 = .ok (.aload_n 0, 1) := by decide +kernel
theorem dX6_setMember_35 : decode cX6_setMember 35 = .ok (.invokevirtual 72, 3) := by decide +kernel
theorem dX6_setMember_38 : decode cX6_setMember 38 = .ok (.aload_n 0, 1) := by decide +kernel
theorem dX6_setMember_39 : decode cX6_setMember 39 = .ok (.getfield 7, 3) := by decide +kernel
theorem dX6_setMember_42 : decode cX6_setMember 42 = .ok (.bipush 27, 2) := by decide +kernel
theorem dX6_setMember_44 : decode cX6_setMember 44 = .ok (.iload_n 1, 1) := by decide +kernel
theorem dX6_setMember_45 : decode cX6_setMember 45 = .ok (.iadd, 1) := by decide +kernel
theorem dX6_setMember_46 : decode cX6_setMember 46 = .ok (.iaload, 1) := by decide +kernel
theorem dX6_setMember_47 : decode cX6_setMember 47 = .ok (.iconst 1, 1) := by decide +kernel
theorem dX6_setMember_48 : decode cX6_setMember 48 = .ok (.iload_n 2, 1) := by decide +kernel
theorem dX6_setMember_49 : decode cX6_setMember 49 = .ok (.ishl, 1) := by decide +kernel
theorem dX6_setMember_50 : decode cX6_setMember 50 = .ok (.iconst (-1), 1) := by decide +kernel
theorem dX6_setMember_51 : decode cX6_setMember 51 = .ok (.ixor, 1) := by decide +kernel
theorem dX6_setMember_52 : decode cX6_setMember 52 = .ok (.iand, 1) := by decide +kernel
theorem dX6_setMember_53 : decode cX6_setMember 53 = .ok (.istore 4, 2) := by decide +kernel
theorem dX6_setMember_55 : decode cX6_setMember 55 = .ok (.aload_n 0, 1) := by decide +kernel
theorem dX6_setMember_56 : decode cX6_setMember 56 = .ok (.getfield 7, 3) := by decide +kernel
theorem dX6_setMember_59 : decode cX6_setMember 59 = .ok (.bipush 27, 2) := by decide +kernel
theorem dX6_setMember_61 : decode cX6_setMember 61 = .ok (.iload_n 1, 1) := by decide +kernel
theorem dX6_setMember_62 : decode cX6_setMember 62 = .ok (.iadd, 1) := by decide +kernel
theorem dX6_setMember_63 : decode cX6_setMember 63 = .ok (.iload_n 3, 1) := by decide +kernel
theorem dX6_setMember_64 : decode cX6_setMember 64 = .ok (.ifCond .eq 12, 3) := by decide +kernel
theorem dX6_setMember_67 : decode cX6_setMember 67 = .ok (.iload 4, 2) := by decide +kernel
theorem dX6_setMember_69 : decode cX6_setMember 69 = .ok (.iconst 1, 1) := by decide +kernel
theorem dX6_setMember_70 : decode cX6_setMember 70 = .ok (.iload_n 2, 1) := by decide +kernel
theorem dX6_setMember_71 : decode cX6_setMember 71 = .ok (.ishl, 1) := by decide +kernel
theorem dX6_setMember_72 : decode cX6_setMember 72 = .ok (.ior, 1) := by decide +kernel
theorem dX6_setMember_73 : decode cX6_setMember 73 = .ok (.goto 5, 3) := by decide +kernel
theorem dX6_setMember_76 : decode cX6_setMember 76 = .ok (.iload 4, 2) := by decide +kernel
theorem dX6_setMember_78 : decode cX6_setMember 78 = .ok (.iastore, 1) := by decide +kernel
theorem dX6_setMember_79 : decode cX6_setMember 79 = .ok (.aload_n 0, 1) := by decide +kernel
theorem dX6_setMember_80 : decode cX6_setMember 80 = .ok (.getfield 7, 3) := by decide +kernel
theorem dX6_setMember_83 : decode cX6_setMember 83 = .ok (.bipush 27, 2) := by decide +kernel
theorem dX6_setMember_85 : decode cX6_setMember 85 = .ok (.iload_n 1, 1) := by decide +kernel
theorem dX6_setMember_86 : decode cX6_setMember 86 = .ok (.iadd, 1) := by decide +kernel
theorem dX6_setMember_87 : decode cX6_setMember 87 = .ok (.iaload, 1) := by decide +kernel
theorem dX6_setMember_88 : decode cX6_setMember 88 = .ok (.ireturn, 1) := by decide +kernel
theorem dX6_mixer_0 : decode cX6_mixer 0 = .ok (.aload_n 0, 1) := by decide +kernel
theorem dX6_mixer_1 : decode cX6_mixer 1 = .ok (.aload_n 0, 1) := by decide +kernel
theorem dX6_mixer_2 : decode cX6_mixer 2 = .ok (.iload_n 1, 1) := by decide +kernel
theorem dX6_mixer_3 : decode cX6_mixer 3 = .ok (.invokevirtual 158, 3) := by decide +kernel
theorem dX6_mixer_6 : decode cX6_mixer 6 = .ok (.ifCond .eq 7, 3) := by decide +kernel
theorem dX6_mixer_9 : decode cX6_mixer 9 = .ok (.iconst 0, 1) := by decide +kernel
theorem dX6_mixer_10 : decode cX6_mixer 10 = .ok (.goto 4, 3) := by decide +kernel
theorem dX6_mixer_13 : decode cX6_mixer 13 = .ok (.iconst 1, 1) := by decide +kernel
theorem dX6_mixer_14 : decode cX6_mixer 14 = .ok (.putfield 43, 3) := by decide +kernel
theorem dX6_mixer_17 : decode cX6_mixer 17 = .ok (.aload_n 0, 1) := by decide +kernel
theorem dX6_mixer_18 : decode cX6_mixer 18 = .ok (.getfield 43, 3) := by decide +kernel
theorem dX6_mixer_21 : decode cX6_mixer 21 = .ok (.ifCond .eq 7, 3) := by decide +kernel
theorem dX6_mixer_24 : decode cX6_mixer 24 = .ok (.iconst 0, 1) := by decide +kernel
theorem dX6_mixer_25 : decode cX6_mixer 25 = .ok (.goto 12, 3) := by decide +kernel
theorem dX6_mixer_28 : decode cX6_mixer 28 = .ok (.aload_n 0, 1) := by decide +kernel
theorem dX6_mixer_29 : decode cX6_mixer 29 = .ok (.getfield 7, 3) := by decide +kernel
theorem dX6_mixer_32 : decode cX6_mixer 32 = .ok (.bipush 27, 2) := by decide +kernel
theorem dX6_mixer_34 : decode cX6_mixer 34 = .ok (.iload_n 1, 1) := by decide +kernel
theorem dX6_mixer_35 : decode cX6_mixer 35 = .ok (.iadd, 1) := by decide +kernel
theorem dX6_mixer_36 : decode cX6_mixer 36 = .ok (.iaload, 1) := by decide +kernel
theorem dX6_mixer_37 : decode cX6_mixer 37 = .ok (.ireturn, 1) := by decide +kernel
theorem dX6_heardBy_0 : decode cX6_heardBy 0 = .ok (.iconst 0, 1) := by decide +kernel
theorem dX6_heardBy_1 : decode cX6_heardBy 1 = .ok (.istore_n 3, 1) := by decide +kernel
theorem dX6_heardBy_2 : decode cX6_heardBy 2 = .ok (.iconst 0, 1) := by decide +kernel
theorem dX6_heardBy_3 : decode cX6_heardBy 3 = .ok (.istore 4, 2) := by decide +kernel
theorem dX6_heardBy_5 : decode cX6_heardBy 5 = .ok (.iload 4, 2) := by decide +kernel
theorem dX6_heardBy_7 : decode cX6_heardBy 7 = .ok (.aload_n 0, 1) := by decide +kernel
theorem dX6_heardBy_8 : decode cX6_heardBy 8 = .ok (.getfield 7, 3) := by decide +kernel
theorem dX6_heardBy_11 : decode cX6_heardBy 11 = .ok (.bipush 26, 2) := by decide +kernel
theorem dX6_heardBy_13 : decode cX6_heardBy 13 = .ok (.iaload, 1) := by decide +kernel
theorem dX6_heardBy_14 : decode cX6_heardBy 14 = .ok (.if_icmp .ge 45, 3) := by decide +kernel
theorem dX6_heardBy_17 : decode cX6_heardBy 17 = .ok (.iload_n 3, 1) := by decide +kernel
theorem dX6_heardBy_18 : decode cX6_heardBy 18 = .ok (.aload_n 0, 1) := by decide +kernel
theorem dX6_heardBy_19 : decode cX6_heardBy 19 = .ok (.aload_n 0, 1) := by decide +kernel
theorem dX6_heardBy_20 : decode cX6_heardBy 20 = .ok (.getfield 7, 3) := by decide +kernel
theorem dX6_heardBy_23 : decode cX6_heardBy 23 = .ok (.bipush 27, 2) := by decide +kernel
theorem dX6_heardBy_25 : decode cX6_heardBy 25 = .ok (.iload 4, 2) := by decide +kernel
theorem dX6_heardBy_27 : decode cX6_heardBy 27 = .ok (.iadd, 1) := by decide +kernel
theorem dX6_heardBy_28 : decode cX6_heardBy 28 = .ok (.iaload, 1) := by decide +kernel
theorem dX6_heardBy_29 : decode cX6_heardBy 29 = .ok (.iload_n 1, 1) := by decide +kernel
theorem dX6_heardBy_30 : decode cX6_heardBy 30 = .ok (.iand, 1) := by decide +kernel
theorem dX6_heardBy_31 : decode cX6_heardBy 31 = .ok (.invokevirtual 116, 3) := by decide +kernel
theorem dX6_heardBy_34 : decode cX6_heardBy 34 = .ok (.iload_n 2, 1) := by decide +kernel
theorem dX6_heardBy_35 : decode cX6_heardBy 35 = .ok (.lshr, 1) := by decide +kernel
theorem dX6_heardBy_36 : decode cX6_heardBy 36 = .ok (.lconst 1, 1) := by decide +kernel
theorem dX6_heardBy_37 : decode cX6_heardBy 37 = .ok (.land, 1) := by decide +kernel
theorem dX6_heardBy_38 : decode cX6_heardBy 38 = .ok (.lconst 1, 1) := by decide +kernel
theorem dX6_heardBy_39 : decode cX6_heardBy 39 = .ok (.lcmp, 1) := by decide +kernel
theorem dX6_heardBy_40 : decode cX6_heardBy 40 = .ok (.ifCond .ne 10, 3) := by decide +kernel
theorem dX6_heardBy_43 : decode cX6_heardBy 43 = .ok (.iconst 1, 1) := by decide +kernel
theorem dX6_heardBy_44 : decode cX6_heardBy 44 = .ok (.iload 4, 2) := by decide +kernel
theorem dX6_heardBy_46 : decode cX6_heardBy 46 = .ok (.ishl, 1) := by decide +kernel
theorem dX6_heardBy_47 : decode cX6_heardBy 47 = .ok (.goto 4, 3) := by decide +kernel
theorem dX6_heardBy_50 : decode cX6_heardBy 50 = .ok (.iconst 0, 1) := by decide +kernel
theorem dX6_heardBy_51 : decode cX6_heardBy 51 = .ok (.ior, 1) := by decide +kernel
theorem dX6_heardBy_52 : decode cX6_heardBy 52 = .ok (.istore_n 3, 1) := by decide +kernel
theorem dX6_heardBy_53 : decode cX6_heardBy 53 = .ok (.iinc 4 1, 3) := by decide +kernel
theorem dX6_heardBy_56 : decode cX6_heardBy 56 = .ok (.goto (-51), 3) := by decide +kernel
theorem dX6_heardBy_59 : decode cX6_heardBy 59 = .ok (.iload_n 3, 1) := by decide +kernel
theorem dX6_heardBy_60 : decode cX6_heardBy 60 = .ok (.ireturn, 1) := by decide +kernel
theorem dX6_diagnose_0 : decode cX6_diagnose 0 = .ok (.iconst 0, 1) := by decide +kernel
theorem dX6_diagnose_1 : decode cX6_diagnose 1 = .ok (.istore_n 1, 1) := by decide +kernel
theorem dX6_diagnose_2 : decode cX6_diagnose 2 = .ok (.iload_n 1, 1) := by decide +kernel
theorem dX6_diagnose_3 : decode cX6_diagnose 3 = .ok (.aload_n 0, 1) := by decide +kernel
theorem dX6_diagnose_4 : decode cX6_diagnose 4 = .ok (.getfield 7, 3) := by decide +kernel
theorem dX6_diagnose_7 : decode cX6_diagnose 7 = .ok (.bipush 32, 2) := by decide +kernel
theorem dX6_diagnose_9 : decode cX6_diagnose 9 = .ok (.iaload, 1) := by decide +kernel
theorem dX6_diagnose_10 : decode cX6_diagnose 10 = .ok (.if_icmp .ge 43, 3) := by decide +kernel
theorem dX6_diagnose_13 : decode cX6_diagnose 13 = .ok (.aload_n 0, 1) := by decide +kernel
theorem dX6_diagnose_14 : decode cX6_diagnose 14 = .ok (.getfield 31, 3) := by decide +kernel
theorem dX6_diagnose_17 : decode cX6_diagnose 17 = .ok (.iload_n 1, 1) := by decide +kernel
theorem dX6_diagnose_18 : decode cX6_diagnose 18 = .ok (.aload_n 0, 1) := by decide +kernel
theorem dX6_diagnose_19 : decode cX6_diagnose 19 = .ok (.aload_n 0, 1) := by decide +kernel
theorem dX6_diagnose_20 : decode cX6_diagnose 20 = .ok (.getfield 7, 3) := by decide +kernel
theorem dX6_diagnose_23 : decode cX6_diagnose 23 = .ok (.bipush 33, 2) := by decide +kernel
theorem dX6_diagnose_25 : decode cX6_diagnose 25 = .ok (.iconst 3, 1) := by decide +kernel
theorem dX6_diagnose_26 : decode cX6_diagnose 26 = .ok (.iload_n 1, 1) := by decide +kernel
theorem dX6_diagnose_27 : decode cX6_diagnose 27 = .ok (.imul, 1) := by decide +kernel
theorem dX6_diagnose_28 : decode cX6_diagnose 28 = .ok (.iadd, 1) := by decide +kernel
theorem dX6_diagnose_29 : decode cX6_diagnose 29 = .ok (.iaload, 1) := by decide +kernel
theorem dX6_diagnose_30 : decode cX6_diagnose 30 = .ok (.aload_n 0, 1) := by decide +kernel
theorem dX6_diagnose_31 : decode cX6_diagnose 31 = .ok (.getfield 7, 3) := by decide +kernel
theorem dX6_diagnose_34 : decode cX6_diagnose 34 = .ok (.bipush 33, 2) := by decide +kernel
theorem dX6_diagnose_36 : decode cX6_diagnose 36 = .ok (.iconst 3, 1) := by decide +kernel
theorem dX6_diagnose_37 : decode cX6_diagnose 37 = .ok (.iload_n 1, 1) := by decide +kernel
theorem dX6_diagnose_38 : decode cX6_diagnose 38 = .ok (.imul, 1) := by decide +kernel
theorem dX6_diagnose_39 : decode cX6_diagnose 39 = .ok (.iadd, 1) := by decide +kernel
theorem dX6_diagnose_40 : decode cX6_diagnose 40 = .ok (.iconst 1, 1) := by decide +kernel
theorem dX6_diagnose_41 : decode cX6_diagnose 41 = .ok (.iadd, 1) := by decide +kernel
theorem dX6_diagnose_42 : decode cX6_diagnose 42 = .ok (.iaload, 1) := by decide +kernel
theorem dX6_diagnose_43 : decode cX6_diagnose 43 = .ok (.invokevirtual 161, 3) := by decide +kernel
theorem dX6_diagnose_46 : decode cX6_diagnose 46 = .ok (.iastore, 1) := by decide +kernel
theorem dX6_diagnose_47 : decode cX6_diagnose 47 = .ok (.iinc 1 1, 3) := by decide +kernel
theorem dX6_diagnose_50 : decode cX6_diagnose 50 = .ok (.goto (-48), 3) := by decide +kernel
theorem dX6_diagnose_53 : decode cX6_diagnose 53 = .ok (.aload_n 0, 1) := by decide +kernel
theorem dX6_diagnose_54 : decode cX6_diagnose 54 = .ok (.iconst 0, 1) := by decide +kernel
theorem dX6_diagnose_55 : decode cX6_diagnose 55 = .ok (.putfield 165, 3) := by decide +kernel
theorem dX6_diagnose_58 : decode cX6_diagnose 58 = .ok (.iconst 0, 1) := by decide +kernel
theorem dX6_diagnose_59 : decode cX6_diagnose 59 = .ok (.istore_n 1, 1) := by decide +kernel
theorem dX6_diagnose_60 : decode cX6_diagnose 60 = .ok (.iload_n 1, 1) := by decide +kernel
theorem dX6_diagnose_61 : decode cX6_diagnose 61 = .ok (.iconst 1, 1) := by decide +kernel
theorem dX6_diagnose_62 : decode cX6_diagnose 62 = .ok (.aload_n 0, 1) := by decide +kernel
theorem dX6_diagnose_63 : decode cX6_diagnose 63 = .ok (.getfield 7, 3) := by decide +kernel
theorem dX6_diagnose_66 : decode cX6_diagnose 66 = .ok (.bipush 26, 2) := by decide +kernel
theorem dX6_diagnose_68 : decode cX6_diagnose 68 = .ok (.iaload, 1) := by decide +kernel
theorem dX6_diagnose_69 : decode cX6_diagnose 69 = .ok (.ishl, 1) := by decide +kernel
theorem dX6_diagnose_70 : decode cX6_diagnose 70 = .ok (.if_icmp .ge 105, 3) := by decide +kernel
theorem dX6_diagnose_73 : decode cX6_diagnose 73 = .ok (.iconst 1, 1) := by decide +kernel
theorem dX6_diagnose_74 : decode cX6_diagnose 74 = .ok (.istore_n 2, 1) := by decide +kernel
theorem dX6_diagnose_75 : decode cX6_diagnose 75 = .ok (.iconst 0, 1) := by decide +kernel
theorem dX6_diagnose_76 : decode cX6_diagnose 76 = .ok (.istore_n 3, 1) := by decide +kernel
theorem dX6_diagnose_77 : decode cX6_diagnose 77 = .ok (.iload_n 3, 1) := by decide +kernel
theorem dX6_diagnose_78 : decode cX6_diagnose 78 = .ok (.aload_n 0, 1) := by decide +kernel
theorem dX6_diagnose_79 : decode cX6_diagnose 79 = .ok (.getfield 7, 3) := by decide +kernel
theorem dX6_diagnose_82 : decode cX6_diagnose 82 = .ok (.bipush 32, 2) := by decide +kernel
theorem dX6_diagnose_84 : decode cX6_diagnose 84 = .ok (.iaload, 1) := by decide +kernel
theorem dX6_diagnose_85 : decode cX6_diagnose 85 = .ok (.if_icmp .ge 60, 3) := by decide +kernel
theorem dX6_diagnose_88 : decode cX6_diagnose 88 = .ok (.iload_n 2, 1) := by decide +kernel
theorem dX6_diagnose_89 : decode cX6_diagnose 89 = .ok (.ifCond .eq 48, 3) := by decide +kernel
theorem dX6_diagnose_92 : decode cX6_diagnose 92 = .ok (.aload_n 0, 1) := by decide +kernel
theorem dX6_diagnose_93 : decode cX6_diagnose 93 = .ok (.getfield 31, 3) := by decide +kernel
theorem dX6_diagnose_96 : decode cX6_diagnose 96 = .ok (.iload_n 3, 1) := by decide +kernel
theorem dX6_diagnose_97 : decode cX6_diagnose 97 = .ok (.iaload, 1) := by decide +kernel
theorem dX6_diagnose_98 : decode cX6_diagnose 98 = .ok (.iload_n 1, 1) := by decide +kernel
theorem dX6_diagnose_99 : decode cX6_diagnose 99 = .ok (.iand, 1) := by decide +kernel
theorem dX6_diagnose_100 : decode cX6_diagnose 100 = .ok (.ifCond .eq 7, 3) := by decide +kernel
theorem dX6_diagnose_103 : decode cX6_diagnose 103 = .ok (.iconst 1, 1) := by decide +kernel
theorem dX6_diagnose_104 : decode cX6_diagnose 104 = .ok (.goto 4, 3) := by decide +kernel
theorem dX6_diagnose_107 : decode cX6_diagnose 107 = .ok (.iconst 0, 1) := by decide +kernel
theorem dX6_diagnose_108 : decode cX6_diagnose 108 = .ok (.aload_n 0, 1) := by decide +kernel
theorem dX6_diagnose_109 : decode cX6_diagnose 109 = .ok (.getfield 7, 3) := by decide +kernel
theorem dX6_diagnose_112 : decode cX6_diagnose 112 = .ok (.bipush 33, 2) := by decide +kernel
theorem dX6_diagnose_114 : decode cX6_diagnose 114 = .ok (.iconst 3, 1) := by decide +kernel
theorem dX6_diagnose_115 : decode cX6_diagnose 115 = .ok (.iload_n 3, 1) := by decide +kernel
theorem dX6_diagnose_116 : decode cX6_diagnose 116 = .ok (.imul, 1) := by decide +kernel
theorem dX6_diagnose_117 : decode cX6_diagnose 117 = .ok (.iadd, 1) := by decide +kernel
theorem dX6_diagnose_118 : decode cX6_diagnose 118 = .ok (.iconst 2, 1) := by decide +kernel
theorem dX6_diagnose_119 : decode cX6_diagnose 119 = .ok (.iadd, 1) := by decide +kernel
theorem dX6_diagnose_120 : decode cX6_diagnose 120 = .ok (.iaload, 1) := by decide +kernel
theorem dX6_diagnose_121 : decode cX6_diagnose 121 = .ok (.iconst 1, 1) := by decide +kernel
theorem dX6_diagnose_122 : decode cX6_diagnose 122 = .ok (.if_icmp .ne 7, 3) := by decide +kernel
theorem dX6_diagnose_125 : decode cX6_diagnose 125 = .ok (.iconst 1, 1) := by decide +kernel
theorem dX6_diagnose_126 : decode cX6_diagnose 126 = .ok (.goto 4, 3) := by decide +kernel
theorem dX6_diagnose_129 : decode cX6_diagnose 129 = .ok (.iconst 0, 1) := by decide +kernel
theorem dX6_diagnose_130 : decode cX6_diagnose 130 = .ok (.if_icmp .ne 7, 3) := by decide +kernel
theorem dX6_diagnose_133 : decode cX6_diagnose 133 = .ok (.iconst 1, 1) := by decide +kernel
theorem dX6_diagnose_134 : decode cX6_diagnose 134 = .ok (.goto 4, 3) := by decide +kernel
theorem dX6_diagnose_137 : decode cX6_diagnose 137 = .ok (.iconst 0, 1) := by decide +kernel
theorem dX6_diagnose_138 : decode cX6_diagnose 138 = .ok (.istore_n 2, 1) := by decide +kernel
theorem dX6_diagnose_139 : decode cX6_diagnose 139 = .ok (.iinc 3 1, 3) := by decide +kernel
theorem dX6_diagnose_142 : decode cX6_diagnose 142 = .ok (.goto (-65), 3) := by decide +kernel
theorem dX6_diagnose_145 : decode cX6_diagnose 145 = .ok (.iload_n 2, 1) := by decide +kernel
theorem dX6_diagnose_146 : decode cX6_diagnose 146 = .ok (.ifCond .eq 23, 3) := by decide +kernel
theorem dX6_diagnose_149 : decode cX6_diagnose 149 = .ok (.aload_n 0, 1) := by decide +kernel
theorem dX6_diagnose_150 : decode cX6_diagnose 150 = .ok (.getfield 34, 3) := by decide +kernel
theorem dX6_diagnose_153 : decode cX6_diagnose 153 = .ok (.aload_n 0, 1) := by decide +kernel
theorem dX6_diagnose_154 : decode cX6_diagnose 154 = .ok (.getfield 165, 3) := by decide +kernel
theorem dX6_diagnose_157 : decode cX6_diagnose 157 = .ok (.iload_n 1, 1) := by decide +kernel
theorem dX6_diagnose_158 : decode cX6_diagnose 158 = .ok (.iastore, 1) := by decide +kernel
theorem dX6_diagnose_159 : decode cX6_diagnose 159 = .ok (.aload_n 0, 1) := by decide +kernel
theorem dX6_diagnose_160 : decode cX6_diagnose 160 = .ok (.dup, 1) := by decide +kernel
theorem dX6_diagnose_161 : decode cX6_diagnose 161 = .ok (.getfield 165, 3) := by decide +kernel
theorem dX6_diagnose_164 : decode cX6_diagnose 164 = .ok (.iconst 1, 1) := by decide +kernel
theorem dX6_diagnose_165 : decode cX6_diagnose 165 = .ok (.iadd, 1) := by decide +kernel
theorem dX6_diagnose_166 : decode cX6_diagnose 166 = .ok (.putfield 165, 3) := by decide +kernel
theorem dX6_diagnose_169 : decode cX6_diagnose 169 = .ok (.iinc 1 1, 3) := by decide +kernel
theorem dX6_diagnose_172 : decode cX6_diagnose 172 = .ok (.goto (-112), 3) := by decide +kernel
theorem dX6_diagnose_175 : decode cX6_diagnose 175 = .ok (.return_, 1) := by decide +kernel
theorem dX6_addTest_0 : decode cX6_addTest 0 = .ok (.aload_n 0, 1) := by decide +kernel
theorem dX6_addTest_1 : decode cX6_addTest 1 = .ok (.aload_n 0, 1) := by decide +kernel
theorem dX6_addTest_2 : decode cX6_addTest 2 = .ok (.iload_n 1, 1) := by decide +kernel
theorem dX6_addTest_3 : decode cX6_addTest 3 = .ok (.invokevirtual 113, 3) := by decide +kernel
theorem dX6_addTest_6 : decode cX6_addTest 6 = .ok (.ifCond .eq 10, 3) := by decide +kernel
theorem dX6_addTest_9 : decode cX6_addTest 9 = .ok (.iload_n 2, 1) := by decide +kernel
theorem dX6_addTest_10 : decode cX6_addTest 10 = .ok (.invokestatic 61, 3) := by decide +kernel
theorem dX6_addTest_13 : decode cX6_addTest 13 = .ok (.ifCond .ne 7, 3) := by decide +kernel
theorem dX6_addTest_16 : decode cX6_addTest 16 = .ok (.iconst 1, 1) := by decide +kernel
theorem dX6_addTest_17 : decode cX6_addTest 17 = .ok (.goto 20, 3) := by decide +kernel
theorem dX6_addTest_20 : decode cX6_addTest 20 = .ok (.aload_n 0, 1) := by decide +kernel
theorem dX6_addTest_21 : decode cX6_addTest 21 = .ok (.getfield 7, 3) := by decide +kernel
theorem dX6_addTest_24 : decode cX6_addTest 24 = .ok (.bipush 32, 2) := by decide +kernel
theorem dX6_addTest_26 : decode cX6_addTest 26 = .ok (.iaload, 1) := by decide +kernel
theorem dX6_addTest_27 : decode cX6_addTest 27 = .ok (.bipush 16, 2) := by decide +kernel
theorem dX6_addTest_29 : decode cX6_addTest 29 = .ok (.if_icmp .ne 7, 3) := by decide +kernel
theorem dX6_addTest_32 : decode cX6_addTest 32 = .ok (.iconst 2, 1) := by decide +kernel
theorem dX6_addTest_33 : decode cX6_addTest 33 = .ok (.goto 4, 3) := by decide +kernel
theorem dX6_addTest_36 : decode cX6_addTest 36 = .ok (.iconst 0, 1) := by decide +kernel
theorem dX6_addTest_37 : decode cX6_addTest 37 = .ok (.putfield 43, 3) := by decide +kernel
theorem dX6_addTest_40 : decode cX6_addTest 40 = .ok (.aload_n 0, 1) := by decide +kernel
theorem dX6_addTest_41 : decode cX6_addTest 41 = .ok (.getfield 43, 3) := by decide +kernel
theorem dX6_addTest_44 : decode cX6_addTest 44 = .ok (.ifCond .eq 5, 3) := by decide +kernel
theorem dX6_addTest_47 : decode cX6_addTest 47 = .ok (.iconst 0, 1) := by decide +kernel
theorem dX6_addTest_48 : decode cX6_addTest 48 = .ok (.ireturn, 1) := by decide +kernel
theorem dX6_addTest_49 : decode cX6_addTest 49 = .ok (.aload_n 0, 1) := by decide +kernel
theorem dX6_addTest_50 : decode cX6_addTest 50 = .ok (.invokevirtual 50, 3) := by decide +kernel
theorem dX6_addTest_53 : decode cX6_addTest 53 = .ok (.bipush 33, 2) := by decide +kernel
theorem dX6_addTest_55 : decode cX6_addTest 55 = .ok (.iconst 3, 1) := by decide +kernel
theorem dX6_addTest_56 : decode cX6_addTest 56 = .ok (.aload_n 0, 1) := by decide +kernel
theorem dX6_addTest_57 : decode cX6_addTest 57 = .ok (.getfield 7, 3) := by decide +kernel
theorem dX6_addTest_60 : decode cX6_addTest 60 = .ok (.bipush 32, 2) := by decide +kernel
theorem dX6_addTest_62 : decode cX6_addTest 62 = .ok (.iaload, 1) := by decide +kernel
theorem dX6_addTest_63 : decode cX6_addTest 63 = .ok (.imul, 1) := by decide +kernel
theorem dX6_addTest_64 : decode cX6_addTest 64 = .ok (.iadd, 1) := by decide +kernel
theorem dX6_addTest_65 : decode cX6_addTest 65 = .ok (.istore 4, 2) := by decide +kernel
theorem dX6_addTest_67 : decode cX6_addTest 67 = .ok (.aload_n 0, 1) := by decide +kernel
theorem dX6_addTest_68 : decode cX6_addTest 68 = .ok (.getfield 7, 3) := by decide +kernel
theorem dX6_addTest_71 : decode cX6_addTest 71 = .ok (.iload 4, 2) := by decide +kernel
theorem dX6_addTest_73 : decode cX6_addTest 73 = .ok (.iload_n 1, 1) := by decide +kernel
theorem dX6_addTest_74 : decode cX6_addTest 74 = .ok (.iastore, 1) := by decide +kernel
theorem dX6_addTest_75 : decode cX6_addTest 75 = .ok (.aload_n 0, 1) := by decide +kernel
theorem dX6_addTest_76 : decode cX6_addTest 76 = .ok (.getfield 7, 3) := by decide +kernel
theorem dX6_addTest_79 : decode cX6_addTest 79 = .ok (.iload 4, 2) := by decide +kernel
theorem dX6_addTest_81 : decode cX6_addTest 81 = .ok (.iconst 1, 1) := by decide +kernel
theorem dX6_addTest_82 : decode cX6_addTest 82 = .ok (.iadd, 1) := by decide +kernel
theorem dX6_addTest_83 : decode cX6_addTest 83 = .ok (.iload_n 2, 1) := by decide +kernel
theorem dX6_addTest_84 : decode cX6_addTest 84 = .ok (.iastore, 1) := by decide +kernel
theorem dX6_addTest_85 : decode cX6_addTest 85 = .ok (.aload_n 0, 1) := by decide +kernel
theorem dX6_addTest_86 : decode cX6_addTest 86 = .ok (.getfield 7, 3) := by decide +kernel
theorem dX6_addTest_89 : decode cX6_addTest 89 = .ok (.iload 4, 2) := by decide +kernel
theorem dX6_addTest_91 : decode cX6_addTest 91 = .ok (.iconst 2, 1) := by decide +kernel
theorem dX6_addTest_92 : decode cX6_addTest 92 = .ok (.iadd, 1) := by decide +kernel
theorem dX6_addTest_93 : decode cX6_addTest 93 = .ok (.iload_n 3, 1) := by decide +kernel
theorem dX6_addTest_94 : decode cX6_addTest 94 = .ok (.ifCond .eq 7, 3) := by decide +kernel
theorem dX6_addTest_97 : decode cX6_addTest 97 = .ok (.iconst 1, 1) := by decide +kernel
theorem dX6_addTest_98 : decode cX6_addTest 98 = .ok (.goto 4, 3) := by decide +kernel
theorem dX6_addTest_101 : decode cX6_addTest 101 = .ok (.iconst 0, 1) := by decide +kernel
theorem dX6_addTest_102 : decode cX6_addTest 102 = .ok (.iastore, 1) := by decide +kernel
theorem dX6_addTest_103 : decode cX6_addTest 103 = .ok (.aload_n 0, 1) := by decide +kernel
theorem dX6_addTest_104 : decode cX6_addTest 104 = .ok (.getfield 7, 3) := by decide +kernel
theorem dX6_addTest_107 : decode cX6_addTest 107 = .ok (.bipush 32, 2) := by decide +kernel
theorem dX6_addTest_109 : decode cX6_addTest 109 = .ok (.dup2, 1) := by decide +kernel
theorem dX6_addTest_110 : decode cX6_addTest 110 = .ok (.iaload, 1) := by decide +kernel
theorem dX6_addTest_111 : decode cX6_addTest 111 = .ok (.iconst 1, 1) := by decide +kernel
theorem dX6_addTest_112 : decode cX6_addTest 112 = .ok (.iadd, 1) := by decide +kernel
theorem dX6_addTest_113 : decode cX6_addTest 113 = .ok (.iastore, 1) := by decide +kernel
theorem dX6_addTest_114 : decode cX6_addTest 114 = .ok (.aload_n 0, 1) := by decide +kernel
theorem dX6_addTest_115 : decode cX6_addTest 115 = .ok (.invokevirtual 168, 3) := by decide +kernel
theorem dX6_addTest_118 : decode cX6_addTest 118 = .ok (.aload_n 0, 1) := by decide +kernel
theorem dX6_addTest_119 : decode cX6_addTest 119 = .ok (.getfield 165, 3) := by decide +kernel
theorem dX6_addTest_122 : decode cX6_addTest 122 = .ok (.ireturn, 1) := by decide +kernel
theorem dX6_test_0 : decode cX6_test 0 = .ok (.aload_n 0, 1) := by decide +kernel
theorem dX6_test_1 : decode cX6_test 1 = .ok (.iload_n 1, 1) := by decide +kernel
theorem dX6_test_2 : decode cX6_test 2 = .ok (.iconst 0, 1) := by decide +kernel
theorem dX6_test_3 : decode cX6_test 3 = .ok (.aload_n 0, 1) := by decide +kernel
theorem dX6_test_4 : decode cX6_test 4 = .ok (.getfield 7, 3) := by decide +kernel
theorem dX6_test_7 : decode cX6_test 7 = .ok (.bipush 32, 2) := by decide +kernel
theorem dX6_test_9 : decode cX6_test 9 = .ok (.iaload, 1) := by decide +kernel
theorem dX6_test_10 : decode cX6_test 10 = .ok (.iconst 1, 1) := by decide +kernel
theorem dX6_test_11 : decode cX6_test 11 = .ok (.isub, 1) := by decide +kernel
theorem dX6_test_12 : decode cX6_test 12 = .ok (.invokestatic 53, 3) := by decide +kernel
theorem dX6_test_15 : decode cX6_test 15 = .ok (.ifCond .ne 7, 3) := by decide +kernel
theorem dX6_test_18 : decode cX6_test 18 = .ok (.iconst 1, 1) := by decide +kernel
theorem dX6_test_19 : decode cX6_test 19 = .ok (.goto 17, 3) := by decide +kernel
theorem dX6_test_22 : decode cX6_test 22 = .ok (.iload_n 2, 1) := by decide +kernel
theorem dX6_test_23 : decode cX6_test 23 = .ok (.iconst 0, 1) := by decide +kernel
theorem dX6_test_24 : decode cX6_test 24 = .ok (.iconst 2, 1) := by decide +kernel
theorem dX6_test_25 : decode cX6_test 25 = .ok (.invokestatic 53, 3) := by decide +kernel
theorem dX6_test_28 : decode cX6_test 28 = .ok (.ifCond .ne 7, 3) := by decide +kernel
theorem dX6_test_31 : decode cX6_test 31 = .ok (.iconst 2, 1) := by decide +kernel
theorem dX6_test_32 : decode cX6_test 32 = .ok (.goto 4, 3) := by decide +kernel
theorem dX6_test_35 : decode cX6_test 35 = .ok (.iconst 0, 1) := by decide +kernel
theorem dX6_test_36 : decode cX6_test 36 = .ok (.putfield 43, 3) := by decide +kernel
theorem dX6_test_39 : decode cX6_test 39 = .ok (.aload_n 0, 1) := by decide +kernel
theorem dX6_test_40 : decode cX6_test 40 = .ok (.getfield 43, 3) := by decide +kernel
theorem dX6_test_43 : decode cX6_test 43 = .ok (.ifCond .eq 7, 3) := by decide +kernel
theorem dX6_test_46 : decode cX6_test 46 = .ok (.iconst 0, 1) := by decide +kernel
theorem dX6_test_47 : decode cX6_test 47 = .ok (.goto 16, 3) := by decide +kernel
theorem dX6_test_50 : decode cX6_test 50 = .ok (.aload_n 0, 1) := by decide +kernel
theorem dX6_test_51 : decode cX6_test 51 = .ok (.getfield 7, 3) := by decide +kernel
theorem dX6_test_54 : decode cX6_test 54 = .ok (.bipush 33, 2) := by decide +kernel
theorem dX6_test_56 : decode cX6_test 56 = .ok (.iconst 3, 1) := by decide +kernel
theorem dX6_test_57 : decode cX6_test 57 = .ok (.iload_n 1, 1) := by decide +kernel
theorem dX6_test_58 : decode cX6_test 58 = .ok (.imul, 1) := by decide +kernel
theorem dX6_test_59 : decode cX6_test 59 = .ok (.iadd, 1) := by decide +kernel
theorem dX6_test_60 : decode cX6_test 60 = .ok (.iload_n 2, 1) := by decide +kernel
theorem dX6_test_61 : decode cX6_test 61 = .ok (.iadd, 1) := by decide +kernel
theorem dX6_test_62 : decode cX6_test 62 = .ok (.iaload, 1) := by decide +kernel
theorem dX6_test_63 : decode cX6_test 63 = .ok (.ireturn, 1) := by decide +kernel
theorem dX6_heard_0 : decode cX6_heard 0 = .ok (.aload_n 0, 1) := by decide +kernel
theorem dX6_heard_1 : decode cX6_heard 1 = .ok (.aload_n 0, 1) := by decide +kernel
theorem dX6_heard_2 : decode cX6_heard 2 = .ok (.iload_n 1, 1) := by decide +kernel
theorem dX6_heard_3 : decode cX6_heard 3 = .ok (.invokevirtual 113, 3) := by decide +kernel
theorem dX6_heard_6 : decode cX6_heard 6 = .ok (.ifCond .eq 14, 3) := by decide +kernel
theorem dX6_heard_9 : decode cX6_heard 9 = .ok (.iload_n 2, 1) := by decide +kernel
theorem dX6_heard_10 : decode cX6_heard 10 = .ok (.invokestatic 61, 3) := by decide +kernel
theorem dX6_heard_13 : decode cX6_heard 13 = .ok (.ifCond .eq 7, 3) := by decide +kernel
theorem dX6_heard_16 : decode cX6_heard 16 = .ok (.iconst 0, 1) := by decide +kernel
theorem dX6_heard_17 : decode cX6_heard 17 = .ok (.goto 4, 3) := by decide +kernel
theorem dX6_heard_20 : decode cX6_heard 20 = .ok (.iconst 1, 1) := by decide +kernel
theorem dX6_heard_21 : decode cX6_heard 21 = .ok (.putfield 43, 3) := by decide +kernel
theorem dX6_heard_24 : decode cX6_heard 24 = .ok (.aload_n 0, 1) := by decide +kernel
theorem dX6_heard_25 : decode cX6_heard 25 = .ok (.getfield 43, 3) := by decide +kernel
theorem dX6_heard_28 : decode cX6_heard 28 = .ok (.ifCond .eq 7, 3) := by decide +kernel
theorem dX6_heard_31 : decode cX6_heard 31 = .ok (.iconst 0, 1) := by decide +kernel
theorem dX6_heard_32 : decode cX6_heard 32 = .ok (.goto 9, 3) := by decide +kernel
theorem dX6_heard_35 : decode cX6_heard 35 = .ok (.aload_n 0, 1) := by decide +kernel
theorem dX6_heard_36 : decode cX6_heard 36 = .ok (.iload_n 1, 1) := by decide +kernel
theorem dX6_heard_37 : decode cX6_heard 37 = .ok (.iload_n 2, 1) := by decide +kernel
theorem dX6_heard_38 : decode cX6_heard 38 = .ok (.invokevirtual 161, 3) := by decide +kernel
theorem dX6_heard_41 : decode cX6_heard 41 = .ok (.ireturn, 1) := by decide +kernel
theorem dX6_diagnoses_0 : decode cX6_diagnoses 0 = .ok (.aload_n 0, 1) := by decide +kernel
theorem dX6_diagnoses_1 : decode cX6_diagnoses 1 = .ok (.iconst 0, 1) := by decide +kernel
theorem dX6_diagnoses_2 : decode cX6_diagnoses 2 = .ok (.putfield 43, 3) := by decide +kernel
theorem dX6_diagnoses_5 : decode cX6_diagnoses 5 = .ok (.aload_n 0, 1) := by decide +kernel
theorem dX6_diagnoses_6 : decode cX6_diagnoses 6 = .ok (.invokevirtual 168, 3) := by decide +kernel
theorem dX6_diagnoses_9 : decode cX6_diagnoses 9 = .ok (.aload_n 0, 1) := by decide +kernel
theorem dX6_diagnoses_10 : decode cX6_diagnoses 10 = .ok (.getfield 165, 3) := by decide +kernel
theorem dX6_diagnoses_13 : decode cX6_diagnoses 13 = .ok (.ireturn, 1) := by decide +kernel
theorem dX6_best_0 : decode cX6_best 0 = .ok (.aload_n 0, 1) := by decide +kernel
theorem dX6_best_1 : decode cX6_best 1 = .ok (.invokevirtual 168, 3) := by decide +kernel
theorem dX6_best_4 : decode cX6_best 4 = .ok (.iconst (-1), 1) := by decide +kernel
theorem dX6_best_5 : decode cX6_best 5 = .ok (.istore_n 1, 1) := by decide +kernel
theorem dX6_best_6 : decode cX6_best 6 = .ok (.iconst 0, 1) := by decide +kernel
theorem dX6_best_7 : decode cX6_best 7 = .ok (.istore_n 2, 1) := by decide +kernel
theorem dX6_best_8 : decode cX6_best 8 = .ok (.iload_n 2, 1) := by decide +kernel
theorem dX6_best_9 : decode cX6_best 9 = .ok (.aload_n 0, 1) := by decide +kernel
theorem dX6_best_10 : decode cX6_best 10 = .ok (.getfield 165, 3) := by decide +kernel
theorem dX6_best_13 : decode cX6_best 13 = .ok (.if_icmp .ge 41, 3) := by decide +kernel
theorem dX6_best_16 : decode cX6_best 16 = .ok (.iload_n 1, 1) := by decide +kernel
theorem dX6_best_17 : decode cX6_best 17 = .ok (.iconst (-1), 1) := by decide +kernel
theorem dX6_best_18 : decode cX6_best 18 = .ok (.if_icmp .eq 19, 3) := by decide +kernel
theorem dX6_best_21 : decode cX6_best 21 = .ok (.aload_n 0, 1) := by decide +kernel
theorem dX6_best_22 : decode cX6_best 22 = .ok (.getfield 34, 3) := by decide +kernel
theorem dX6_best_25 : decode cX6_best 25 = .ok (.iload_n 2, 1) := by decide +kernel
theorem dX6_best_26 : decode cX6_best 26 = .ok (.iaload, 1) := by decide +kernel
theorem dX6_best_27 : decode cX6_best 27 = .ok (.invokestatic 135, 3) := by decide +kernel
theorem dX6_best_30 : decode cX6_best 30 = .ok (.iload_n 1, 1) := by decide +kernel
theorem dX6_best_31 : decode cX6_best 31 = .ok (.invokestatic 135, 3) := by decide +kernel
theorem dX6_best_34 : decode cX6_best 34 = .ok (.if_icmp .ge 12, 3) := by decide +kernel
theorem dX6_best_37 : decode cX6_best 37 = .ok (.aload_n 0, 1) := by decide +kernel
theorem dX6_best_38 : decode cX6_best 38 = .ok (.getfield 34, 3) := by decide +kernel
theorem dX6_best_41 : decode cX6_best 41 = .ok (.iload_n 2, 1) := by decide +kernel
theorem dX6_best_42 : decode cX6_best 42 = .ok (.iaload, 1) := by decide +kernel
theorem dX6_best_43 : decode cX6_best 43 = .ok (.goto 4, 3) := by decide +kernel
theorem dX6_best_46 : decode cX6_best 46 = .ok (.iload_n 1, 1) := by decide +kernel
theorem dX6_best_47 : decode cX6_best 47 = .ok (.istore_n 1, 1) := by decide +kernel
theorem dX6_best_48 : decode cX6_best 48 = .ok (.iinc 2 1, 3) := by decide +kernel
theorem dX6_best_51 : decode cX6_best 51 = .ok (.goto (-43), 3) := by decide +kernel
theorem dX6_best_54 : decode cX6_best 54 = .ok (.iload_n 1, 1) := by decide +kernel
theorem dX6_best_55 : decode cX6_best 55 = .ok (.ireturn, 1) := by decide +kernel
theorem dX6_diagnosis_0 : decode cX6_diagnosis 0 = .ok (.aload_n 0, 1) := by decide +kernel
theorem dX6_diagnosis_1 : decode cX6_diagnosis 1 = .ok (.iconst 0, 1) := by decide +kernel
theorem dX6_diagnosis_2 : decode cX6_diagnosis 2 = .ok (.putfield 43, 3) := by decide +kernel
theorem dX6_diagnosis_5 : decode cX6_diagnosis 5 = .ok (.aload_n 0, 1) := by decide +kernel
theorem dX6_diagnosis_6 : decode cX6_diagnosis 6 = .ok (.invokevirtual 171, 3) := by decide +kernel
theorem dX6_diagnosis_9 : decode cX6_diagnosis 9 = .ok (.ireturn, 1) := by decide +kernel
theorem dX6_certain_0 : decode cX6_certain 0 = .ok (.aload_n 0, 1) := by decide +kernel
theorem dX6_certain_1 : decode cX6_certain 1 = .ok (.iconst 0, 1) := by decide +kernel
theorem dX6_certain_2 : decode cX6_certain 2 = .ok (.putfield 43, 3) := by decide +kernel
theorem dX6_certain_5 : decode cX6_certain 5 = .ok (.aload_n 0, 1) := by decide +kernel
theorem dX6_certain_6 : decode cX6_certain 6 = .ok (.invokevirtual 168, 3) := by decide +kernel
theorem dX6_certain_9 : decode cX6_certain 9 = .ok (.iconst 1, 1) := by decide +kernel
theorem dX6_certain_10 : decode cX6_certain 10 = .ok (.aload_n 0, 1) := by decide +kernel
theorem dX6_certain_11 : decode cX6_certain 11 = .ok (.getfield 7, 3) := by decide +kernel
theorem dX6_certain_14 : decode cX6_certain 14 = .ok (.bipush 26, 2) := by decide +kernel
theorem dX6_certain_16 : decode cX6_certain 16 = .ok (.iaload, 1) := by decide +kernel
theorem dX6_certain_17 : decode cX6_certain 17 = .ok (.ishl, 1) := by decide +kernel
theorem dX6_certain_18 : decode cX6_certain 18 = .ok (.iconst 1, 1) := by decide +kernel
theorem dX6_certain_19 : decode cX6_certain 19 = .ok (.isub, 1) := by decide +kernel
theorem dX6_certain_20 : decode cX6_certain 20 = .ok (.istore_n 2, 1) := by decide +kernel
theorem dX6_certain_21 : decode cX6_certain 21 = .ok (.iconst 0, 1) := by decide +kernel
theorem dX6_certain_22 : decode cX6_certain 22 = .ok (.istore_n 3, 1) := by decide +kernel
theorem dX6_certain_23 : decode cX6_certain 23 = .ok (.iload_n 3, 1) := by decide +kernel
theorem dX6_certain_24 : decode cX6_certain 24 = .ok (.aload_n 0, 1) := by decide +kernel
theorem dX6_certain_25 : decode cX6_certain 25 = .ok (.getfield 165, 3) := by decide +kernel
theorem dX6_certain_28 : decode cX6_certain 28 = .ok (.if_icmp .ge 33, 3) := by decide +kernel
theorem dX6_certain_31 : decode cX6_certain 31 = .ok (.iload_n 2, 1) := by decide +kernel
theorem dX6_certain_32 : decode cX6_certain 32 = .ok (.iload_n 1, 1) := by decide +kernel
theorem dX6_certain_33 : decode cX6_certain 33 = .ok (.ifCond .eq 12, 3) := by decide +kernel
theorem dX6_certain_36 : decode cX6_certain 36 = .ok (.aload_n 0, 1) := by decide +kernel
theorem dX6_certain_37 : decode cX6_certain 37 = .ok (.getfield 34, 3) := by decide +kernel
theorem dX6_certain_40 : decode cX6_certain 40 = .ok (.iload_n 3, 1) := by decide +kernel
theorem dX6_certain_41 : decode cX6_certain 41 = .ok (.iaload, 1) := by decide +kernel
theorem dX6_certain_42 : decode cX6_certain 42 = .ok (.goto 11, 3) := by decide +kernel
theorem dX6_certain_45 : decode cX6_certain 45 = .ok (.aload_n 0, 1) := by decide +kernel
theorem dX6_certain_46 : decode cX6_certain 46 = .ok (.getfield 34, 3) := by decide +kernel
theorem dX6_certain_49 : decode cX6_certain 49 = .ok (.iload_n 3, 1) := by decide +kernel
theorem dX6_certain_50 : decode cX6_certain 50 = .ok (.iaload, 1) := by decide +kernel
theorem dX6_certain_51 : decode cX6_certain 51 = .ok (.iconst (-1), 1) := by decide +kernel
theorem dX6_certain_52 : decode cX6_certain 52 = .ok (.ixor, 1) := by decide +kernel
theorem dX6_certain_53 : decode cX6_certain 53 = .ok (.iand, 1) := by decide +kernel
theorem dX6_certain_54 : decode cX6_certain 54 = .ok (.istore_n 2, 1) := by decide +kernel
theorem dX6_certain_55 : decode cX6_certain 55 = .ok (.iinc 3 1, 3) := by decide +kernel
theorem dX6_certain_58 : decode cX6_certain 58 = .ok (.goto (-35), 3) := by decide +kernel
theorem dX6_certain_61 : decode cX6_certain 61 = .ok (.iload_n 2, 1) := by decide +kernel
theorem dX6_certain_62 : decode cX6_certain 62 = .ok (.ireturn, 1) := by decide +kernel
theorem dX6_bestTest_0 : decode cX6_bestTest 0 = .ok (.aload_n 0, 1) := by decide +kernel
theorem dX6_bestTest_1 : decode cX6_bestTest 1 = .ok (.aload_n 0, 1) := by decide +kernel
theorem dX6_bestTest_2 : decode cX6_bestTest 2 = .ok (.iload_n 1, 1) := by decide +kernel
theorem dX6_bestTest_3 : decode cX6_bestTest 3 = .ok (.invokevirtual 113, 3) := by decide +kernel
theorem dX6_bestTest_6 : decode cX6_bestTest 6 = .ok (.ifCond .eq 7, 3) := by decide +kernel
theorem dX6_bestTest_9 : decode cX6_bestTest 9 = .ok (.iconst 0, 1) := by decide +kernel
theorem dX6_bestTest_10 : decode cX6_bestTest 10 = .ok (.goto 4, 3) := by decide +kernel
theorem dX6_bestTest_13 : decode cX6_bestTest 13 = .ok (.iconst 1, 1) := by decide +kernel
theorem dX6_bestTest_14 : decode cX6_bestTest 14 = .ok (.putfield 43, 3) := by decide +kernel
theorem dX6_bestTest_17 : decode cX6_bestTest 17 = .ok (.aload_n 0, 1) := by decide +kernel
theorem dX6_bestTest_18 : decode cX6_bestTest 18 = .ok (.getfield 43, 3) := by decide +kernel
theorem dX6_bestTest_21 : decode cX6_bestTest 21 = .ok (.ifCond .eq 5, 3) := by decide +kernel
theorem dX6_bestTest_24 : decode cX6_bestTest 24 = .ok (.iconst 0, 1) := by decide +kernel
theorem dX6_bestTest_25 : decode cX6_bestTest 25 = .ok (.ireturn, 1) := by decide +kernel
theorem dX6_bestTest_26 : decode cX6_bestTest 26 = .ok (.aload_n 0, 1) := by decide +kernel
theorem dX6_bestTest_27 : decode cX6_bestTest 27 = .ok (.invokevirtual 168, 3) := by decide +kernel
theorem dX6_bestTest_30 : decode cX6_bestTest 30 = .ok (.iconst 0, 1) := by decide +kernel
theorem dX6_bestTest_31 : decode cX6_bestTest 31 = .ok (.istore_n 2, 1) := by decide +kernel
theorem dX6_bestTest_32 : decode cX6_bestTest 32 = .ok (.bipush 100, 2) := by decide +kernel
theorem dX6_bestTest_34 : decode cX6_bestTest 34 = .ok (.istore_n 3, 1) := by decide +kernel
theorem dX6_bestTest_35 : decode cX6_bestTest 35 = .ok (.iconst 0, 1) := by decide +kernel
theorem dX6_bestTest_36 : decode cX6_bestTest 36 = .ok (.istore 4, 2) := by decide +kernel
theorem dX6_bestTest_38 : decode cX6_bestTest 38 = .ok (.iload 4, 2) := by decide +kernel
theorem dX6_bestTest_40 : decode cX6_bestTest 40 = .ok (.bipush 64, 2) := by decide +kernel
theorem dX6_bestTest_42 : decode cX6_bestTest 42 = .ok (.if_icmp .ge 114, 3) := by decide +kernel
theorem dX6_bestTest_45 : decode cX6_bestTest 45 = .ok (.aload_n 0, 1) := by decide +kernel
theorem dX6_bestTest_46 : decode cX6_bestTest 46 = .ok (.iload_n 1, 1) := by decide +kernel
theorem dX6_bestTest_47 : decode cX6_bestTest 47 = .ok (.iload 4, 2) := by decide +kernel
theorem dX6_bestTest_49 : decode cX6_bestTest 49 = .ok (.invokevirtual 161, 3) := by decide +kernel
theorem dX6_bestTest_52 : decode cX6_bestTest 52 = .ok (.istore 5, 2) := by decide +kernel
theorem dX6_bestTest_54 : decode cX6_bestTest 54 = .ok (.iconst 0, 1) := by decide +kernel
theorem dX6_bestTest_55 : decode cX6_bestTest 55 = .ok (.istore 6, 2) := by decide +kernel
theorem dX6_bestTest_57 : decode cX6_bestTest 57 = .ok (.iconst 0, 1) := by decide +kernel
theorem dX6_bestTest_58 : decode cX6_bestTest 58 = .ok (.istore 7, 2) := by decide +kernel
theorem dX6_bestTest_60 : decode cX6_bestTest 60 = .ok (.iload 7, 2) := by decide +kernel
theorem dX6_bestTest_62 : decode cX6_bestTest 62 = .ok (.aload_n 0, 1) := by decide +kernel
theorem dX6_bestTest_63 : decode cX6_bestTest 63 = .ok (.getfield 165, 3) := by decide +kernel
theorem dX6_bestTest_66 : decode cX6_bestTest 66 = .ok (.if_icmp .ge 32, 3) := by decide +kernel
theorem dX6_bestTest_69 : decode cX6_bestTest 69 = .ok (.iload 6, 2) := by decide +kernel
theorem dX6_bestTest_71 : decode cX6_bestTest 71 = .ok (.aload_n 0, 1) := by decide +kernel
theorem dX6_bestTest_72 : decode cX6_bestTest 72 = .ok (.getfield 34, 3) := by decide +kernel
theorem dX6_bestTest_75 : decode cX6_bestTest 75 = .ok (.iload 7, 2) := by decide +kernel
theorem dX6_bestTest_77 : decode cX6_bestTest 77 = .ok (.iaload, 1) := by decide +kernel
theorem dX6_bestTest_78 : decode cX6_bestTest 78 = .ok (.iload 5, 2) := by decide +kernel
theorem dX6_bestTest_80 : decode cX6_bestTest 80 = .ok (.iand, 1) := by decide +kernel
theorem dX6_bestTest_81 : decode cX6_bestTest 81 = .ok (.ifCond .eq 7, 3) := by decide +kernel
theorem dX6_bestTest_84 : decode cX6_bestTest 84 = .ok (.iconst 1, 1) := by decide +kernel
theorem dX6_bestTest_85 : decode cX6_bestTest 85 = .ok (.goto 4, 3) := by decide +kernel
theorem dX6_bestTest_88 : decode cX6_bestTest 88 = .ok (.iconst 0, 1) := by decide +kernel
theorem dX6_bestTest_89 : decode cX6_bestTest 89 = .ok (.iadd, 1) := by decide +kernel
theorem dX6_bestTest_90 : decode cX6_bestTest 90 = .ok (.istore 6, 2) := by decide +kernel
theorem dX6_bestTest_92 : decode cX6_bestTest 92 = .ok (.iinc 7 1, 3) := by decide +kernel
theorem dX6_bestTest_95 : decode cX6_bestTest 95 = .ok (.goto (-35), 3) := by decide +kernel
theorem dX6_bestTest_98 : decode cX6_bestTest 98 = .ok (.iload 6, 2) := by decide +kernel
theorem dX6_bestTest_100 : decode cX6_bestTest 100 = .ok (.aload_n 0, 1) := by decide +kernel
theorem dX6_bestTest_101 : decode cX6_bestTest 101 = .ok (.getfield 165, 3) := by decide +kernel
theorem dX6_bestTest_104 : decode cX6_bestTest 104 = .ok (.iload 6, 2) := by decide +kernel
theorem dX6_bestTest_106 : decode cX6_bestTest 106 = .ok (.isub, 1) := by decide +kernel
theorem dX6_bestTest_107 : decode cX6_bestTest 107 = .ok (.if_icmp .le 8, 3) := by decide +kernel
theorem dX6_bestTest_110 : decode cX6_bestTest 110 = .ok (.iload 6, 2) := by decide +kernel
theorem dX6_bestTest_112 : decode cX6_bestTest 112 = .ok (.goto 10, 3) := by decide +kernel
theorem dX6_bestTest_115 : decode cX6_bestTest 115 = .ok (.aload_n 0, 1) := by decide +kernel
theorem dX6_bestTest_116 : decode cX6_bestTest 116 = .ok (.getfield 165, 3) := by decide +kernel
theorem dX6_bestTest_119 : decode cX6_bestTest 119 = .ok (.iload 6, 2) := by decide +kernel
theorem dX6_bestTest_121 : decode cX6_bestTest 121 = .ok (.isub, 1) := by decide +kernel
theorem dX6_bestTest_122 : decode cX6_bestTest 122 = .ok (.istore 7, 2) := by decide +kernel
theorem dX6_bestTest_124 : decode cX6_bestTest 124 = .ok (.iload 7, 2) := by decide +kernel
theorem dX6_bestTest_126 : decode cX6_bestTest 126 = .ok (.iload_n 3, 1) := by decide +kernel
theorem dX6_bestTest_127 : decode cX6_bestTest 127 = .ok (.if_icmp .ge 8, 3) := by decide +kernel
theorem dX6_bestTest_130 : decode cX6_bestTest 130 = .ok (.iload 4, 2) := by decide +kernel
theorem dX6_bestTest_132 : decode cX6_bestTest 132 = .ok (.goto 4, 3) := by decide +kernel
theorem dX6_bestTest_135 : decode cX6_bestTest 135 = .ok (.iload_n 2, 1) := by decide +kernel
theorem dX6_bestTest_136 : decode cX6_bestTest 136 = .ok (.istore_n 2, 1) := by decide +kernel
theorem dX6_bestTest_137 : decode cX6_bestTest 137 = .ok (.iload 7, 2) := by decide +kernel
theorem dX6_bestTest_139 : decode cX6_bestTest 139 = .ok (.iload_n 3, 1) := by decide +kernel
theorem dX6_bestTest_140 : decode cX6_bestTest 140 = .ok (.if_icmp .ge 8, 3) := by decide +kernel
theorem dX6_bestTest_143 : decode cX6_bestTest 143 = .ok (.iload 7, 2) := by decide +kernel
theorem dX6_bestTest_145 : decode cX6_bestTest 145 = .ok (.goto 4, 3) := by decide +kernel
theorem dX6_bestTest_148 : decode cX6_bestTest 148 = .ok (.iload_n 3, 1) := by decide +kernel
theorem dX6_bestTest_149 : decode cX6_bestTest 149 = .ok (.istore_n 3, 1) := by decide +kernel
theorem dX6_bestTest_150 : decode cX6_bestTest 150 = .ok (.iinc 4 1, 3) := by decide +kernel
theorem dX6_bestTest_153 : decode cX6_bestTest 153 = .ok (.goto (-115), 3) := by decide +kernel
theorem dX6_bestTest_156 : decode cX6_bestTest 156 = .ok (.iload_n 2, 1) := by decide +kernel
theorem dX6_bestTest_157 : decode cX6_bestTest 157 = .ok (.ireturn, 1) := by decide +kernel
theorem dX6_append_0 : decode cX6_append 0 = .ok (.aload_n 0, 1) := by decide +kernel
theorem dX6_append_1 : decode cX6_append 1 = .ok (.iload_n 1, 1) := by decide +kernel
theorem dX6_append_2 : decode cX6_append 2 = .ok (.iconst 0, 1) := by decide +kernel
theorem dX6_append_3 : decode cX6_append 3 = .ok (.bipush 127, 2) := by decide +kernel
theorem dX6_append_5 : decode cX6_append 5 = .ok (.invokestatic 53, 3) := by decide +kernel
theorem dX6_append_8 : decode cX6_append 8 = .ok (.ifCond .ne 7, 3) := by decide +kernel
theorem dX6_append_11 : decode cX6_append 11 = .ok (.iconst 1, 1) := by decide +kernel
theorem dX6_append_12 : decode cX6_append 12 = .ok (.goto 17, 3) := by decide +kernel
theorem dX6_append_15 : decode cX6_append 15 = .ok (.aload_n 0, 1) := by decide +kernel
theorem dX6_append_16 : decode cX6_append 16 = .ok (.getfield 174, 3) := by decide +kernel
theorem dX6_append_19 : decode cX6_append 19 = .ok (.bipush 120, 2) := by decide +kernel
theorem dX6_append_21 : decode cX6_append 21 = .ok (.if_icmp .ne 7, 3) := by decide +kernel
theorem dX6_append_24 : decode cX6_append 24 = .ok (.iconst 2, 1) := by decide +kernel
theorem dX6_append_25 : decode cX6_append 25 = .ok (.goto 4, 3) := by decide +kernel
theorem dX6_append_28 : decode cX6_append 28 = .ok (.iconst 0, 1) := by decide +kernel
theorem dX6_append_29 : decode cX6_append 29 = .ok (.putfield 43, 3) := by decide +kernel
theorem dX6_append_32 : decode cX6_append 32 = .ok (.aload_n 0, 1) := by decide +kernel
theorem dX6_append_33 : decode cX6_append 33 = .ok (.getfield 43, 3) := by decide +kernel
theorem dX6_append_36 : decode cX6_append 36 = .ok (.ifCond .eq 5, 3) := by decide +kernel
theorem dX6_append_39 : decode cX6_append 39 = .ok (.iconst 0, 1) := by decide +kernel
theorem dX6_append_40 : decode cX6_append 40 = .ok (.ireturn, 1) := by decide +kernel
theorem dX6_append_41 : decode cX6_append 41 = .ok (.aload_n 0, 1) := by decide +kernel
theorem dX6_append_42 : decode cX6_append 42 = .ok (.getfield 16, 3) := by decide +kernel
theorem dX6_append_45 : decode cX6_append 45 = .ok (.aload_n 0, 1) := by decide +kernel
theorem dX6_append_46 : decode cX6_append 46 = .ok (.getfield 174, 3) := by decide +kernel
theorem dX6_append_49 : decode cX6_append 49 = .ok (.iload_n 1, 1) := by decide +kernel
theorem dX6_append_50 : decode cX6_append 50 = .ok (.iastore, 1) := by decide +kernel
theorem dX6_append_51 : decode cX6_append 51 = .ok (.aload_n 0, 1) := by decide +kernel
theorem dX6_append_52 : decode cX6_append 52 = .ok (.dup, 1) := by decide +kernel
theorem dX6_append_53 : decode cX6_append 53 = .ok (.getfield 174, 3) := by decide +kernel
theorem dX6_append_56 : decode cX6_append 56 = .ok (.iconst 1, 1) := by decide +kernel
theorem dX6_append_57 : decode cX6_append 57 = .ok (.iadd, 1) := by decide +kernel
theorem dX6_append_58 : decode cX6_append 58 = .ok (.putfield 174, 3) := by decide +kernel
theorem dX6_append_61 : decode cX6_append 61 = .ok (.aload_n 0, 1) := by decide +kernel
theorem dX6_append_62 : decode cX6_append 62 = .ok (.getfield 174, 3) := by decide +kernel
theorem dX6_append_65 : decode cX6_append 65 = .ok (.ireturn, 1) := by decide +kernel
theorem dX6_clearText_0 : decode cX6_clearText 0 = .ok (.aload_n 0, 1) := by decide +kernel
theorem dX6_clearText_1 : decode cX6_clearText 1 = .ok (.iconst 0, 1) := by decide +kernel
theorem dX6_clearText_2 : decode cX6_clearText 2 = .ok (.putfield 43, 3) := by decide +kernel
theorem dX6_clearText_5 : decode cX6_clearText 5 = .ok (.aload_n 0, 1) := by decide +kernel
theorem dX6_clearText_6 : decode cX6_clearText 6 = .ok (.getfield 174, 3) := by decide +kernel
theorem dX6_clearText_9 : decode cX6_clearText 9 = .ok (.istore_n 1, 1) := by decide +kernel
theorem dX6_clearText_10 : decode cX6_clearText 10 = .ok (.aload_n 0, 1) := by decide +kernel
theorem dX6_clearText_11 : decode cX6_clearText 11 = .ok (.iconst 0, 1) := by decide +kernel
theorem dX6_clearText_12 : decode cX6_clearText 12 = .ok (.putfield 174, 3) := by decide +kernel
theorem dX6_clearText_15 : decode cX6_clearText 15 = .ok (.iload_n 1, 1) := by decide +kernel
theorem dX6_clearText_16 : decode cX6_clearText 16 = .ok (.ireturn, 1) := by decide +kernel
theorem dX6_here_0 : decode cX6_here 0 = .ok (.aload_n 0, 1) := by decide +kernel
theorem dX6_here_1 : decode cX6_here 1 = .ok (.getfield 177, 3) := by decide +kernel
theorem dX6_here_4 : decode cX6_here 4 = .ok (.aload_n 0, 1) := by decide +kernel
theorem dX6_here_5 : decode cX6_here 5 = .ok (.getfield 174, 3) := by decide +kernel
theorem dX6_here_8 : decode cX6_here 8 = .ok (.if_icmp .ge 15, 3) := by decide +kernel
theorem dX6_here_11 : decode cX6_here 11 = .ok (.aload_n 0, 1) := by decide +kernel
theorem dX6_here_12 : decode cX6_here 12 = .ok (.getfield 16, 3) := by decide +kernel
theorem dX6_here_15 : decode cX6_here 15 = .ok (.aload_n 0, 1) := by decide +kernel
theorem dX6_here_16 : decode cX6_here 16 = .ok (.getfield 177, 3) := by decide +kernel
theorem dX6_here_19 : decode cX6_here 19 = .ok (.iaload, 1) := by decide +kernel
theorem dX6_here_20 : decode cX6_here 20 = .ok (.goto 4, 3) := by decide +kernel
theorem dX6_here_23 : decode cX6_here 23 = .ok (.iconst (-1), 1) := by decide +kernel
theorem dX6_here_24 : decode cX6_here 24 = .ok (.ireturn, 1) := by decide +kernel
theorem dX6_takes_0 : decode cX6_takes 0 = .ok (.aload_n 0, 1) := by decide +kernel
theorem dX6_takes_1 : decode cX6_takes 1 = .ok (.invokevirtual 180, 3) := by decide +kernel
theorem dX6_takes_4 : decode cX6_takes 4 = .ok (.iload_n 1, 1) := by decide +kernel
theorem dX6_takes_5 : decode cX6_takes 5 = .ok (.if_icmp .ne 7, 3) := by decide +kernel
theorem dX6_takes_8 : decode cX6_takes 8 = .ok (.iconst 1, 1) := by decide +kernel
theorem dX6_takes_9 : decode cX6_takes 9 = .ok (.goto 4, 3) := by decide +kernel
theorem dX6_takes_12 : decode cX6_takes 12 = .ok (.iconst 0, 1) := by decide +kernel
theorem dX6_takes_13 : decode cX6_takes 13 = .ok (.istore_n 2, 1) := by decide +kernel
theorem dX6_takes_14 : decode cX6_takes 14 = .ok (.aload_n 0, 1) := by decide +kernel
theorem dX6_takes_15 : decode cX6_takes 15 = .ok (.dup, 1) := by decide +kernel
theorem dX6_takes_16 : decode cX6_takes 16 = .ok (.getfield 177, 3) := by decide +kernel
theorem dX6_takes_19 : decode cX6_takes 19 = .ok (.iload_n 2, 1) := by decide +kernel
theorem dX6_takes_20 : decode cX6_takes 20 = .ok (.ifCond .eq 7, 3) := by decide +kernel
theorem dX6_takes_23 : decode cX6_takes 23 = .ok (.iconst 1, 1) := by decide +kernel
theorem dX6_takes_24 : decode cX6_takes 24 = .ok (.goto 4, 3) := by decide +kernel
theorem dX6_takes_27 : decode cX6_takes 27 = .ok (.iconst 0, 1) := by decide +kernel
theorem dX6_takes_28 : decode cX6_takes 28 = .ok (.iadd, 1) := by decide +kernel
theorem dX6_takes_29 : decode cX6_takes 29 = .ok (.putfield 177, 3) := by decide +kernel
theorem dX6_takes_32 : decode cX6_takes 32 = .ok (.iload_n 2, 1) := by decide +kernel
theorem dX6_takes_33 : decode cX6_takes 33 = .ok (.ireturn, 1) := by decide +kernel
theorem dX6_readNumber_0 : decode cX6_readNumber 0 = .ok (.aload_n 0, 1) := by decide +kernel
theorem dX6_readNumber_1 : decode cX6_readNumber 1 = .ok (.aload_n 0, 1) := by decide +kernel
theorem dX6_readNumber_2 : decode cX6_readNumber 2 = .ok (.getfield 177, 3) := by decide +kernel
theorem dX6_readNumber_5 : decode cX6_readNumber 5 = .ok (.putfield 183, 3) := by decide +kernel
theorem dX6_readNumber_8 : decode cX6_readNumber 8 = .ok (.aload_n 0, 1) := by decide +kernel
theorem dX6_readNumber_9 : decode cX6_readNumber 9 = .ok (.iconst 0, 1) := by decide +kernel
theorem dX6_readNumber_10 : decode cX6_readNumber 10 = .ok (.putfield 186, 3) := by decide +kernel
theorem dX6_readNumber_13 : decode cX6_readNumber 13 = .ok (.aload_n 0, 1) := by decide +kernel
theorem dX6_readNumber_14 : decode cX6_readNumber 14 = .ok (.getfield 177, 3) := by decide +kernel
theorem dX6_readNumber_17 : decode cX6_readNumber 17 = .ok (.aload_n 0, 1) := by decide +kernel
theorem dX6_readNumber_18 : decode cX6_readNumber 18 = .ok (.getfield 183, 3) := by decide +kernel
theorem dX6_readNumber_21 : decode cX6_readNumber 21 = .ok (.iconst 2, 1) := by decide +kernel
theorem dX6_readNumber_22 : decode cX6_readNumber 22 = .ok (.iadd, 1) := by decide +kernel
theorem dX6_readNumber_23 : decode cX6_readNumber 23 = .ok (.if_icmp .ge 49, 3) := by decide +kernel
theorem dX6_readNumber_26 : decode cX6_readNumber 26 = .ok (.aload_n 0, 1) := by decide +kernel
theorem dX6_readNumber_27 : decode cX6_readNumber 27 = .ok (.invokevirtual 180, 3) := by decide +kernel
theorem dX6_readNumber_30 : decode cX6_readNumber 30 = .ok (.bipush 48, 2) := by decide +kernel
theorem dX6_readNumber_32 : decode cX6_readNumber 32 = .ok (.bipush 57, 2) := by decide +kernel
theorem dX6_readNumber_34 : decode cX6_readNumber 34 = .ok (.invokestatic 53, 3) := by decide +kernel
theorem dX6_readNumber_37 : decode cX6_readNumber 37 = .ok (.ifCond .eq 35, 3) := by decide +kernel
theorem dX6_readNumber_40 : decode cX6_readNumber 40 = .ok (.aload_n 0, 1) := by decide +kernel
theorem dX6_readNumber_41 : decode cX6_readNumber 41 = .ok (.bipush 10, 2) := by decide +kernel
theorem dX6_readNumber_43 : decode cX6_readNumber 43 = .ok (.aload_n 0, 1) := by decide +kernel
theorem dX6_readNumber_44 : decode cX6_readNumber 44 = .ok (.getfield 186, 3) := by decide +kernel
theorem dX6_readNumber_47 : decode cX6_readNumber 47 = .ok (.imul, 1) := by decide +kernel
theorem dX6_readNumber_48 : decode cX6_readNumber 48 = .ok (.aload_n 0, 1) := by decide +kernel
theorem dX6_readNumber_49 : decode cX6_readNumber 49 = .ok (.invokevirtual 180, 3) := by decide +kernel
theorem dX6_readNumber_52 : decode cX6_readNumber 52 = .ok (.iadd, 1) := by decide +kernel
theorem dX6_readNumber_53 : decode cX6_readNumber 53 = .ok (.bipush 48, 2) := by decide +kernel
theorem dX6_readNumber_55 : decode cX6_readNumber 55 = .ok (.isub, 1) := by decide +kernel
theorem dX6_readNumber_56 : decode cX6_readNumber 56 = .ok (.putfield 186, 3) := by decide +kernel
theorem dX6_readNumber_59 : decode cX6_readNumber 59 = .ok (.aload_n 0, 1) := by decide +kernel
theorem dX6_readNumber_60 : decode cX6_readNumber 60 = .ok (.dup, 1) := by decide +kernel
theorem dX6_readNumber_61 : decode cX6_readNumber 61 = .ok (.getfield 177, 3) := by decide +kernel
theorem dX6_readNumber_64 : decode cX6_readNumber 64 = .ok (.iconst 1, 1) := by decide +kernel
theorem dX6_readNumber_65 : decode cX6_readNumber 65 = .ok (.iadd, 1) := by decide +kernel
theorem dX6_readNumber_66 : decode cX6_readNumber 66 = .ok (.putfield 177, 3) := by decide +kernel
theorem dX6_readNumber_69 : decode cX6_readNumber 69 = .ok (.goto (-56), 3) := by decide +kernel
theorem dX6_readNumber_72 : decode cX6_readNumber 72 = .ok (.aload_n 0, 1) := by decide +kernel
theorem dX6_readNumber_73 : decode cX6_readNumber 73 = .ok (.getfield 177, 3) := by decide +kernel
theorem dX6_readNumber_76 : decode cX6_readNumber 76 = .ok (.aload_n 0, 1) := by decide +kernel
theorem dX6_readNumber_77 : decode cX6_readNumber 77 = .ok (.getfield 183, 3) := by decide +kernel
theorem dX6_readNumber_80 : decode cX6_readNumber 80 = .ok (.if_icmp .le 21, 3) := by decide +kernel
theorem dX6_readNumber_83 : decode cX6_readNumber 83 = .ok (.aload_n 0, 1) := by decide +kernel
theorem dX6_readNumber_84 : decode cX6_readNumber 84 = .ok (.invokevirtual 180, 3) := by decide +kernel
theorem dX6_readNumber_87 : decode cX6_readNumber 87 = .ok (.bipush 48, 2) := by decide +kernel
theorem dX6_readNumber_89 : decode cX6_readNumber 89 = .ok (.bipush 57, 2) := by decide +kernel
theorem dX6_readNumber_91 : decode cX6_readNumber 91 = .ok (.invokestatic 53, 3) := by decide +kernel
theorem dX6_readNumber_94 : decode cX6_readNumber 94 = .ok (.ifCond .ne 7, 3) := by decide +kernel
theorem dX6_readNumber_97 : decode cX6_readNumber 97 = .ok (.iconst 1, 1) := by decide +kernel
theorem dX6_readNumber_98 : decode cX6_readNumber 98 = .ok (.goto 4, 3) := by decide +kernel
theorem dX6_readNumber_101 : decode cX6_readNumber 101 = .ok (.iconst 0, 1) := by decide +kernel
theorem dX6_readNumber_102 : decode cX6_readNumber 102 = .ok (.ireturn, 1) := by decide +kernel
theorem dX6_refuse_0 : decode cX6_refuse 0 = .ok (.aload_n 0, 1) := by decide +kernel
theorem dX6_refuse_1 : decode cX6_refuse 1 = .ok (.iload_n 1, 1) := by decide +kernel
theorem dX6_refuse_2 : decode cX6_refuse 2 = .ok (.ifCond .eq 10, 3) := by decide +kernel
theorem dX6_refuse_5 : decode cX6_refuse 5 = .ok (.aload_n 0, 1) := by decide +kernel
theorem dX6_refuse_6 : decode cX6_refuse 6 = .ok (.getfield 183, 3) := by decide +kernel
theorem dX6_refuse_9 : decode cX6_refuse 9 = .ok (.goto 7, 3) := by decide +kernel
theorem dX6_refuse_12 : decode cX6_refuse 12 = .ok (.aload_n 0, 1) := by decide +kernel
theorem dX6_refuse_13 : decode cX6_refuse 13 = .ok (.getfield 177, 3) := by decide +kernel
theorem dX6_refuse_16 : decode cX6_refuse 16 = .ok (.putfield 177, 3) := by decide +kernel
theorem dX6_refuse_19 : decode cX6_refuse 19 = .ok (.iload_n 1, 1) := by decide +kernel
theorem dX6_refuse_20 : decode cX6_refuse 20 = .ok (.ireturn, 1) := by decide +kernel
theorem dX6_readCarrier_0 : decode cX6_readCarrier 0 = .ok (.aload_n 0, 1) := by decide +kernel
theorem dX6_readCarrier_1 : decode cX6_readCarrier 1 = .ok (.getfield 189, 3) := by decide +kernel
theorem dX6_readCarrier_4 : decode cX6_readCarrier 4 = .ok (.bipush 10, 2) := by decide +kernel
theorem dX6_readCarrier_6 : decode cX6_readCarrier 6 = .ok (.if_icmp .ne 5, 3) := by decide +kernel
theorem dX6_readCarrier_9 : decode cX6_readCarrier 9 = .ok (.iconst 0, 1) := by decide +kernel
theorem dX6_readCarrier_10 : decode cX6_readCarrier 10 = .ok (.ireturn, 1) := by decide +kernel
theorem dX6_readCarrier_11 : decode cX6_readCarrier 11 = .ok (.aload_n 0, 1) := by decide +kernel
theorem dX6_readCarrier_12 : decode cX6_readCarrier 12 = .ok (.dup, 1) := by decide +kernel
theorem dX6_readCarrier_13 : decode cX6_readCarrier 13 = .ok (.getfield 177, 3) := by decide +kernel
theorem dX6_readCarrier_16 : decode cX6_readCarrier 16 = .ok (.iconst 1, 1) := by decide +kernel
theorem dX6_readCarrier_17 : decode cX6_readCarrier 17 = .ok (.iadd, 1) := by decide +kernel
theorem dX6_readCarrier_18 : decode cX6_readCarrier 18 = .ok (.putfield 177, 3) := by decide +kernel
theorem dX6_readCarrier_21 : decode cX6_readCarrier 21 = .ok (.aload_n 0, 1) := by decide +kernel
theorem dX6_readCarrier_22 : decode cX6_readCarrier 22 = .ok (.invokevirtual 192, 3) := by decide +kernel
theorem dX6_readCarrier_25 : decode cX6_readCarrier 25 = .ok (.ifCond .ne 5, 3) := by decide +kernel
theorem dX6_readCarrier_28 : decode cX6_readCarrier 28 = .ok (.iconst 0, 1) := by decide +kernel
theorem dX6_readCarrier_29 : decode cX6_readCarrier 29 = .ok (.ireturn, 1) := by decide +kernel
theorem dX6_readCarrier_30 : decode cX6_readCarrier 30 = .ok (.aload_n 0, 1) := by decide +kernel
theorem dX6_readCarrier_31 : decode cX6_readCarrier 31 = .ok (.getfield 186, 3) := by decide +kernel
theorem dX6_readCarrier_34 : decode cX6_readCarrier 34 = .ok (.invokestatic 61, 3) := by decide +kernel
theorem dX6_readCarrier_37 : decode cX6_readCarrier 37 = .ok (.ifCond .ne 7, 3) := by decide +kernel
theorem dX6_readCarrier_40 : decode cX6_readCarrier 40 = .ok (.iconst 1, 1) := by decide +kernel
theorem dX6_readCarrier_41 : decode cX6_readCarrier 41 = .ok (.goto 4, 3) := by decide +kernel
theorem dX6_readCarrier_44 : decode cX6_readCarrier 44 = .ok (.iconst 0, 1) := by decide +kernel
theorem dX6_readCarrier_45 : decode cX6_readCarrier 45 = .ok (.istore_n 1, 1) := by decide +kernel
theorem dX6_readCarrier_46 : decode cX6_readCarrier 46 = .ok (.iconst 0, 1) := by decide +kernel
theorem dX6_readCarrier_47 : decode cX6_readCarrier 47 = .ok (.istore_n 2, 1) := by decide +kernel
theorem dX6_readCarrier_48 : decode cX6_readCarrier 48 = .ok (.iload_n 2, 1) := by decide +kernel
theorem dX6_readCarrier_49 : decode cX6_readCarrier 49 = .ok (.aload_n 0, 1) := by decide +kernel
theorem dX6_readCarrier_50 : decode cX6_readCarrier 50 = .ok (.getfield 189, 3) := by decide +kernel
theorem dX6_readCarrier_53 : decode cX6_readCarrier 53 = .ok (.if_icmp .ge 34, 3) := by decide +kernel
theorem dX6_readCarrier_56 : decode cX6_readCarrier 56 = .ok (.iload_n 1, 1) := by decide +kernel
theorem dX6_readCarrier_57 : decode cX6_readCarrier 57 = .ok (.ifCond .ne 18, 3) := by decide +kernel
theorem dX6_readCarrier_60 : decode cX6_readCarrier 60 = .ok (.aload_n 0, 1) := by decide +kernel
theorem dX6_readCarrier_61 : decode cX6_readCarrier 61 = .ok (.getfield 37, 3) := by decide +kernel
theorem dX6_readCarrier_64 : decode cX6_readCarrier 64 = .ok (.iconst 2, 1) := by decide +kernel
theorem dX6_readCarrier_65 : decode cX6_readCarrier 65 = .ok (.iload_n 2, 1) := by decide +kernel
theorem dX6_readCarrier_66 : decode cX6_readCarrier 66 = .ok (.imul, 1) := by decide +kernel
theorem dX6_readCarrier_67 : decode cX6_readCarrier 67 = .ok (.iaload, 1) := by decide +kernel
theorem dX6_readCarrier_68 : decode cX6_readCarrier 68 = .ok (.aload_n 0, 1) := by decide +kernel
theorem dX6_readCarrier_69 : decode cX6_readCarrier 69 = .ok (.getfield 186, 3) := by decide +kernel
theorem dX6_readCarrier_72 : decode cX6_readCarrier 72 = .ok (.if_icmp .ne 7, 3) := by decide +kernel
theorem dX6_readCarrier_75 : decode cX6_readCarrier 75 = .ok (.iconst 1, 1) := by decide +kernel
theorem dX6_readCarrier_76 : decode cX6_readCarrier 76 = .ok (.goto 4, 3) := by decide +kernel
theorem dX6_readCarrier_79 : decode cX6_readCarrier 79 = .ok (.iconst 0, 1) := by decide +kernel
theorem dX6_readCarrier_80 : decode cX6_readCarrier 80 = .ok (.istore_n 1, 1) := by decide +kernel
theorem dX6_readCarrier_81 : decode cX6_readCarrier 81 = .ok (.iinc 2 1, 3) := by decide +kernel
theorem dX6_readCarrier_84 : decode cX6_readCarrier 84 = .ok (.goto (-36), 3) := by decide +kernel
theorem dX6_readCarrier_87 : decode cX6_readCarrier 87 = .ok (.aload_n 0, 1) := by decide +kernel
theorem dX6_readCarrier_88 : decode cX6_readCarrier 88 = .ok (.iload_n 1, 1) := by decide +kernel
theorem dX6_readCarrier_89 : decode cX6_readCarrier 89 = .ok (.invokevirtual 196, 3) := by decide +kernel
theorem dX6_readCarrier_92 : decode cX6_readCarrier 92 = .ok (.ifCond .eq 5, 3) := by decide +kernel
theorem dX6_readCarrier_95 : decode cX6_readCarrier 95 = .ok (.iconst 0, 1) := by decide +kernel
theorem dX6_readCarrier_96 : decode cX6_readCarrier 96 = .ok (.ireturn, 1) := by decide +kernel
theorem dX6_readCarrier_97 : decode cX6_readCarrier 97 = .ok (.aload_n 0, 1) := by decide +kernel
theorem dX6_readCarrier_98 : decode cX6_readCarrier 98 = .ok (.getfield 37, 3) := by decide +kernel
theorem dX6_readCarrier_101 : decode cX6_readCarrier 101 = .ok (.iconst 2, 1) := by decide +kernel
theorem dX6_readCarrier_102 : decode cX6_readCarrier 102 = .ok (.aload_n 0, 1) := by decide +kernel
theorem dX6_readCarrier_103 : decode cX6_readCarrier 103 = .ok (.getfield 189, 3) := by decide +kernel
theorem dX6_readCarrier_106 : decode cX6_readCarrier 106 = .ok (.imul, 1) := by decide +kernel
theorem dX6_readCarrier_107 : decode cX6_readCarrier 107 = .ok (.aload_n 0, 1) := by decide +kernel
theorem dX6_readCarrier_108 : decode cX6_readCarrier 108 = .ok (.getfield 186, 3) := by decide +kernel
theorem dX6_readCarrier_111 : decode cX6_readCarrier 111 = .ok (.iastore, 1) := by decide +kernel
theorem dX6_readCarrier_112 : decode cX6_readCarrier 112 = .ok (.aload_n 0, 1) := by decide +kernel
theorem dX6_readCarrier_113 : decode cX6_readCarrier 113 = .ok (.bipush 44, 2) := by decide +kernel
theorem dX6_readCarrier_115 : decode cX6_readCarrier 115 = .ok (.invokevirtual 200, 3) := by decide +kernel
theorem dX6_readCarrier_118 : decode cX6_readCarrier 118 = .ok (.ifCond .eq 31, 3) := by decide +kernel
theorem dX6_readCarrier_121 : decode cX6_readCarrier 121 = .ok (.aload_n 0, 1) := by decide +kernel
theorem dX6_readCarrier_122 : decode cX6_readCarrier 122 = .ok (.invokevirtual 192, 3) := by decide +kernel
theorem dX6_readCarrier_125 : decode cX6_readCarrier 125 = .ok (.ifCond .eq 24, 3) := by decide +kernel
theorem dX6_readCarrier_128 : decode cX6_readCarrier 128 = .ok (.aload_n 0, 1) := by decide +kernel
theorem dX6_readCarrier_129 : decode cX6_readCarrier 129 = .ok (.aload_n 0, 1) := by decide +kernel
theorem dX6_readCarrier_130 : decode cX6_readCarrier 130 = .ok (.getfield 186, 3) := by decide +kernel
theorem dX6_readCarrier_133 : decode cX6_readCarrier 133 = .ok (.bipush 60, 2) := by decide +kernel
theorem dX6_readCarrier_135 : decode cX6_readCarrier 135 = .ok (.if_icmp .le 7, 3) := by decide +kernel
theorem dX6_readCarrier_138 : decode cX6_readCarrier 138 = .ok (.iconst 1, 1) := by decide +kernel
theorem dX6_readCarrier_139 : decode cX6_readCarrier 139 = .ok (.goto 4, 3) := by decide +kernel
theorem dX6_readCarrier_142 : decode cX6_readCarrier 142 = .ok (.iconst 0, 1) := by decide +kernel
theorem dX6_readCarrier_143 : decode cX6_readCarrier 143 = .ok (.invokevirtual 196, 3) := by decide +kernel
theorem dX6_readCarrier_146 : decode cX6_readCarrier 146 = .ok (.ifCond .eq 5, 3) := by decide +kernel
theorem dX6_readCarrier_149 : decode cX6_readCarrier 149 = .ok (.iconst 0, 1) := by decide +kernel
theorem dX6_readCarrier_150 : decode cX6_readCarrier 150 = .ok (.ireturn, 1) := by decide +kernel
theorem dX6_readCarrier_151 : decode cX6_readCarrier 151 = .ok (.aload_n 0, 1) := by decide +kernel
theorem dX6_readCarrier_152 : decode cX6_readCarrier 152 = .ok (.getfield 37, 3) := by decide +kernel
theorem dX6_readCarrier_155 : decode cX6_readCarrier 155 = .ok (.iconst 2, 1) := by decide +kernel
theorem dX6_readCarrier_156 : decode cX6_readCarrier 156 = .ok (.aload_n 0, 1) := by decide +kernel
theorem dX6_readCarrier_157 : decode cX6_readCarrier 157 = .ok (.getfield 189, 3) := by decide +kernel
theorem dX6_readCarrier_160 : decode cX6_readCarrier 160 = .ok (.imul, 1) := by decide +kernel
theorem dX6_readCarrier_161 : decode cX6_readCarrier 161 = .ok (.iconst 1, 1) := by decide +kernel
theorem dX6_readCarrier_162 : decode cX6_readCarrier 162 = .ok (.iadd, 1) := by decide +kernel
theorem dX6_readCarrier_163 : decode cX6_readCarrier 163 = .ok (.aload_n 0, 1) := by decide +kernel
theorem dX6_readCarrier_164 : decode cX6_readCarrier 164 = .ok (.getfield 186, 3) := by decide +kernel
theorem dX6_readCarrier_167 : decode cX6_readCarrier 167 = .ok (.iastore, 1) := by decide +kernel
theorem dX6_readCarrier_168 : decode cX6_readCarrier 168 = .ok (.aload_n 0, 1) := by decide +kernel
theorem dX6_readCarrier_169 : decode cX6_readCarrier 169 = .ok (.dup, 1) := by decide +kernel
theorem dX6_readCarrier_170 : decode cX6_readCarrier 170 = .ok (.getfield 189, 3) := by decide +kernel
theorem dX6_readCarrier_173 : decode cX6_readCarrier 173 = .ok (.iconst 1, 1) := by decide +kernel
theorem dX6_readCarrier_174 : decode cX6_readCarrier 174 = .ok (.iadd, 1) := by decide +kernel
theorem dX6_readCarrier_175 : decode cX6_readCarrier 175 = .ok (.putfield 189, 3) := by decide +kernel
theorem dX6_readCarrier_178 : decode cX6_readCarrier 178 = .ok (.iconst 1, 1) := by decide +kernel
theorem dX6_readCarrier_179 : decode cX6_readCarrier 179 = .ok (.ireturn, 1) := by decide +kernel
theorem dX6_readMixer_0 : decode cX6_readMixer 0 = .ok (.aload_n 0, 1) := by decide +kernel
theorem dX6_readMixer_1 : decode cX6_readMixer 1 = .ok (.getfield 203, 3) := by decide +kernel
theorem dX6_readMixer_4 : decode cX6_readMixer 4 = .ok (.iconst 5, 1) := by decide +kernel
theorem dX6_readMixer_5 : decode cX6_readMixer 5 = .ok (.if_icmp .ne 5, 3) := by decide +kernel
theorem dX6_readMixer_8 : decode cX6_readMixer 8 = .ok (.iconst 0, 1) := by decide +kernel
theorem dX6_readMixer_9 : decode cX6_readMixer 9 = .ok (.ireturn, 1) := by decide +kernel
theorem dX6_readMixer_10 : decode cX6_readMixer 10 = .ok (.iconst 0, 1) := by decide +kernel
theorem dX6_readMixer_11 : decode cX6_readMixer 11 = .ok (.istore_n 1, 1) := by decide +kernel
theorem dX6_readMixer_12 : decode cX6_readMixer 12 = .ok (.iconst 1, 1) := by decide +kernel
theorem dX6_readMixer_13 : decode cX6_readMixer 13 = .ok (.istore_n 2, 1) := by decide +kernel
theorem dX6_readMixer_14 : decode cX6_readMixer 14 = .ok (.iload_n 2, 1) := by decide +kernel
theorem dX6_readMixer_15 : decode cX6_readMixer 15 = .ok (.ifCond .eq 83, 3) := by decide +kernel
theorem dX6_readMixer_18 : decode cX6_readMixer 18 = .ok (.aload_n 0, 1) := by decide +kernel
theorem dX6_readMixer_19 : decode cX6_readMixer 19 = .ok (.dup, 1) := by decide +kernel
theorem dX6_readMixer_20 : decode cX6_readMixer 20 = .ok (.getfield 177, 3) := by decide +kernel
theorem dX6_readMixer_23 : decode cX6_readMixer 23 = .ok (.iconst 1, 1) := by decide +kernel
theorem dX6_readMixer_24 : decode cX6_readMixer 24 = .ok (.iadd, 1) := by decide +kernel
theorem dX6_readMixer_25 : decode cX6_readMixer 25 = .ok (.putfield 177, 3) := by decide +kernel
theorem dX6_readMixer_28 : decode cX6_readMixer 28 = .ok (.aload_n 0, 1) := by decide +kernel
theorem dX6_readMixer_29 : decode cX6_readMixer 29 = .ok (.invokevirtual 192, 3) := by decide +kernel
theorem dX6_readMixer_32 : decode cX6_readMixer 32 = .ok (.ifCond .eq 37, 3) := by decide +kernel
theorem dX6_readMixer_35 : decode cX6_readMixer 35 = .ok (.aload_n 0, 1) := by decide +kernel
theorem dX6_readMixer_36 : decode cX6_readMixer 36 = .ok (.aload_n 0, 1) := by decide +kernel
theorem dX6_readMixer_37 : decode cX6_readMixer 37 = .ok (.getfield 186, 3) := by decide +kernel
theorem dX6_readMixer_40 : decode cX6_readMixer 40 = .ok (.aload_n 0, 1) := by decide +kernel
theorem dX6_readMixer_41 : decode cX6_readMixer 41 = .ok (.getfield 189, 3) := by decide +kernel
theorem dX6_readMixer_44 : decode cX6_readMixer 44 = .ok (.if_icmp .ge 14, 3) := by decide +kernel
theorem dX6_readMixer_47 : decode cX6_readMixer 47 = .ok (.iload_n 1, 1) := by decide +kernel
theorem dX6_readMixer_48 : decode cX6_readMixer 48 = .ok (.aload_n 0, 1) := by decide +kernel
theorem dX6_readMixer_49 : decode cX6_readMixer 49 = .ok (.getfield 186, 3) := by decide +kernel
theorem dX6_readMixer_52 : decode cX6_readMixer 52 = .ok (.invokestatic 85, 3) := by decide +kernel
theorem dX6_readMixer_55 : decode cX6_readMixer 55 = .ok (.ifCond .eq 7, 3) := by decide +kernel
theorem dX6_readMixer_58 : decode cX6_readMixer 58 = .ok (.iconst 1, 1) := by decide +kernel
theorem dX6_readMixer_59 : decode cX6_readMixer 59 = .ok (.goto 4, 3) := by decide +kernel
theorem dX6_readMixer_62 : decode cX6_readMixer 62 = .ok (.iconst 0, 1) := by decide +kernel
theorem dX6_readMixer_63 : decode cX6_readMixer 63 = .ok (.invokevirtual 196, 3) := by decide +kernel
theorem dX6_readMixer_66 : decode cX6_readMixer 66 = .ok (.ifCond .eq 5, 3) := by decide +kernel
theorem dX6_readMixer_69 : decode cX6_readMixer 69 = .ok (.iconst 0, 1) := by decide +kernel
theorem dX6_readMixer_70 : decode cX6_readMixer 70 = .ok (.ireturn, 1) := by decide +kernel
theorem dX6_readMixer_71 : decode cX6_readMixer 71 = .ok (.iload_n 1, 1) := by decide +kernel
theorem dX6_readMixer_72 : decode cX6_readMixer 72 = .ok (.iconst 1, 1) := by decide +kernel
theorem dX6_readMixer_73 : decode cX6_readMixer 73 = .ok (.aload_n 0, 1) := by decide +kernel
theorem dX6_readMixer_74 : decode cX6_readMixer 74 = .ok (.getfield 186, 3) := by decide +kernel
theorem dX6_readMixer_77 : decode cX6_readMixer 77 = .ok (.ishl, 1) := by decide +kernel
theorem dX6_readMixer_78 : decode cX6_readMixer 78 = .ok (.ior, 1) := by decide +kernel
theorem dX6_readMixer_79 : decode cX6_readMixer 79 = .ok (.istore_n 1, 1) := by decide +kernel
theorem dX6_readMixer_80 : decode cX6_readMixer 80 = .ok (.aload_n 0, 1) := by decide +kernel
theorem dX6_readMixer_81 : decode cX6_readMixer 81 = .ok (.invokevirtual 180, 3) := by decide +kernel
theorem dX6_readMixer_84 : decode cX6_readMixer 84 = .ok (.bipush 44, 2) := by decide +kernel
theorem dX6_readMixer_86 : decode cX6_readMixer 86 = .ok (.if_icmp .ne 7, 3) := by decide +kernel
theorem dX6_readMixer_89 : decode cX6_readMixer 89 = .ok (.iconst 1, 1) := by decide +kernel
theorem dX6_readMixer_90 : decode cX6_readMixer 90 = .ok (.goto 4, 3) := by decide +kernel
theorem dX6_readMixer_93 : decode cX6_readMixer 93 = .ok (.iconst 0, 1) := by decide +kernel
theorem dX6_readMixer_94 : decode cX6_readMixer 94 = .ok (.istore_n 2, 1) := by decide +kernel
theorem dX6_readMixer_95 : decode cX6_readMixer 95 = .ok (.goto (-81), 3) := by decide +kernel
theorem dX6_readMixer_98 : decode cX6_readMixer 98 = .ok (.aload_n 0, 1) := by decide +kernel
theorem dX6_readMixer_99 : decode cX6_readMixer 99 = .ok (.getfield 40, 3) := by decide +kernel
theorem dX6_readMixer_102 : decode cX6_readMixer 102 = .ok (.aload_n 0, 1) := by decide +kernel
theorem dX6_readMixer_103 : decode cX6_readMixer 103 = .ok (.getfield 203, 3) := by decide +kernel
theorem dX6_readMixer_106 : decode cX6_readMixer 106 = .ok (.iload_n 1, 1) := by decide +kernel
theorem dX6_readMixer_107 : decode cX6_readMixer 107 = .ok (.iastore, 1) := by decide +kernel
theorem dX6_readMixer_108 : decode cX6_readMixer 108 = .ok (.aload_n 0, 1) := by decide +kernel
theorem dX6_readMixer_109 : decode cX6_readMixer 109 = .ok (.dup, 1) := by decide +kernel
theorem dX6_readMixer_110 : decode cX6_readMixer 110 = .ok (.getfield 203, 3) := by decide +kernel
theorem dX6_readMixer_113 : decode cX6_readMixer 113 = .ok (.iconst 1, 1) := by decide +kernel
theorem dX6_readMixer_114 : decode cX6_readMixer 114 = .ok (.iadd, 1) := by decide +kernel
theorem dX6_readMixer_115 : decode cX6_readMixer 115 = .ok (.putfield 203, 3) := by decide +kernel
theorem dX6_readMixer_118 : decode cX6_readMixer 118 = .ok (.iconst 1, 1) := by decide +kernel
theorem dX6_readMixer_119 : decode cX6_readMixer 119 = .ok (.ireturn, 1) := by decide +kernel
theorem dX6_readAll_0 : decode cX6_readAll 0 = .ok (.aload_n 0, 1) := by decide +kernel
theorem dX6_readAll_1 : decode cX6_readAll 1 = .ok (.iconst 0, 1) := by decide +kernel
theorem dX6_readAll_2 : decode cX6_readAll 2 = .ok (.putfield 177, 3) := by decide +kernel
theorem dX6_readAll_5 : decode cX6_readAll 5 = .ok (.aload_n 0, 1) := by decide +kernel
theorem dX6_readAll_6 : decode cX6_readAll 6 = .ok (.iconst 0, 1) := by decide +kernel
theorem dX6_readAll_7 : decode cX6_readAll 7 = .ok (.putfield 189, 3) := by decide +kernel
theorem dX6_readAll_10 : decode cX6_readAll 10 = .ok (.aload_n 0, 1) := by decide +kernel
theorem dX6_readAll_11 : decode cX6_readAll 11 = .ok (.iconst 0, 1) := by decide +kernel
theorem dX6_readAll_12 : decode cX6_readAll 12 = .ok (.putfield 203, 3) := by decide +kernel
theorem dX6_readAll_15 : decode cX6_readAll 15 = .ok (.iconst 0, 1) := by decide +kernel
theorem dX6_readAll_16 : decode cX6_readAll 16 = .ok (.istore_n 1, 1) := by decide +kernel
theorem dX6_readAll_17 : decode cX6_readAll 17 = .ok (.aload_n 0, 1) := by decide +kernel
theorem dX6_readAll_18 : decode cX6_readAll 18 = .ok (.getfield 177, 3) := by decide +kernel
theorem dX6_readAll_21 : decode cX6_readAll 21 = .ok (.aload_n 0, 1) := by decide +kernel
theorem dX6_readAll_22 : decode cX6_readAll 22 = .ok (.getfield 174, 3) := by decide +kernel
theorem dX6_readAll_25 : decode cX6_readAll 25 = .ok (.if_icmp .ge 62, 3) := by decide +kernel
theorem dX6_readAll_28 : decode cX6_readAll 28 = .ok (.aload_n 0, 1) := by decide +kernel
theorem dX6_readAll_29 : decode cX6_readAll 29 = .ok (.invokevirtual 180, 3) := by decide +kernel
theorem dX6_readAll_32 : decode cX6_readAll 32 = .ok (.bipush 99, 2) := by decide +kernel
theorem dX6_readAll_34 : decode cX6_readAll 34 = .ok (.if_icmp .ne 10, 3) := by decide +kernel
theorem dX6_readAll_37 : decode cX6_readAll 37 = .ok (.aload_n 0, 1) := by decide +kernel
theorem dX6_readAll_38 : decode cX6_readAll 38 = .ok (.invokevirtual 206, 3) := by decide +kernel
theorem dX6_readAll_41 : decode cX6_readAll 41 = .ok (.goto 24, 3) := by decide +kernel
theorem dX6_readAll_44 : decode cX6_readAll 44 = .ok (.aload_n 0, 1) := by decide +kernel
theorem dX6_readAll_45 : decode cX6_readAll 45 = .ok (.invokevirtual 180, 3) := by decide +kernel
theorem dX6_readAll_48 : decode cX6_readAll 48 = .ok (.bipush 109, 2) := by decide +kernel
theorem dX6_readAll_50 : decode cX6_readAll 50 = .ok (.if_icmp .ne 14, 3) := by decide +kernel
theorem dX6_readAll_53 : decode cX6_readAll 53 = .ok (.aload_n 0, 1) := by decide +kernel
theorem dX6_readAll_54 : decode cX6_readAll 54 = .ok (.invokevirtual 209, 3) := by decide +kernel
theorem dX6_readAll_57 : decode cX6_readAll 57 = .ok (.ifCond .eq 7, 3) := by decide +kernel
theorem dX6_readAll_60 : decode cX6_readAll 60 = .ok (.iconst 1, 1) := by decide +kernel
theorem dX6_readAll_61 : decode cX6_readAll 61 = .ok (.goto 4, 3) := by decide +kernel
theorem dX6_readAll_64 : decode cX6_readAll 64 = .ok (.iconst 0, 1) := by decide +kernel
theorem dX6_readAll_65 : decode cX6_readAll 65 = .ok (.istore_n 2, 1) := by decide +kernel
theorem dX6_readAll_66 : decode cX6_readAll 66 = .ok (.iload_n 2, 1) := by decide +kernel
theorem dX6_readAll_67 : decode cX6_readAll 67 = .ok (.ifCond .eq 12, 3) := by decide +kernel
theorem dX6_readAll_70 : decode cX6_readAll 70 = .ok (.aload_n 0, 1) := by decide +kernel
theorem dX6_readAll_71 : decode cX6_readAll 71 = .ok (.bipush 59, 2) := by decide +kernel
theorem dX6_readAll_73 : decode cX6_readAll 73 = .ok (.invokevirtual 200, 3) := by decide +kernel
theorem dX6_readAll_76 : decode cX6_readAll 76 = .ok (.ifCond .ne 5, 3) := by decide +kernel
theorem dX6_readAll_79 : decode cX6_readAll 79 = .ok (.iconst (-1), 1) := by decide +kernel
theorem dX6_readAll_80 : decode cX6_readAll 80 = .ok (.ireturn, 1) := by decide +kernel
theorem dX6_readAll_81 : decode cX6_readAll 81 = .ok (.iinc 1 1, 3) := by decide +kernel
theorem dX6_readAll_84 : decode cX6_readAll 84 = .ok (.goto (-67), 3) := by decide +kernel
theorem dX6_readAll_87 : decode cX6_readAll 87 = .ok (.iload_n 1, 1) := by decide +kernel
theorem dX6_readAll_88 : decode cX6_readAll 88 = .ok (.ireturn, 1) := by decide +kernel
theorem dX6_parse_0 : decode cX6_parse 0 = .ok (.aload_n 0, 1) := by decide +kernel
theorem dX6_parse_1 : decode cX6_parse 1 = .ok (.iconst 0, 1) := by decide +kernel
theorem dX6_parse_2 : decode cX6_parse 2 = .ok (.putfield 43, 3) := by decide +kernel
