theorem dX5_setMember_40 : decode cX5_setMember 40 = .ok (.iload_n 1, 1) := by decide +kernel
theorem dX5_setMember_41 : decode cX5_setMember 41 = .ok (.iload_n 3, 1) := by decide +kernel
theorem dX5_setMember_42 : decode cX5_setMember 42 = .ok (.ifCond .eq 11, 3) := by decide +kernel
theorem dX5_setMember_45 : decode cX5_setMember 45 = .ok (.iload 5, 2) := by decide +kernel
theorem dX5_setMember_47 : decode cX5_setMember 47 = .ok (.iload 4, 2) := by decide +kernel
theorem dX5_setMember_49 : decode cX5_setMember 49 = .ok (.ior, 1) := by decide +kernel
theorem dX5_setMember_50 : decode cX5_setMember 50 = .ok (.goto 10, 3) := by decide +kernel
theorem dX5_setMember_53 : decode cX5_setMember 53 = .ok (.iload 5, 2) := by decide +kernel
theorem dX5_setMember_55 : decode cX5_setMember 55 = .ok (.iload 4, 2) := by decide +kernel
theorem dX5_setMember_57 : decode cX5_setMember 57 = .ok (.iconst (-1), 1) := by decide +kernel
theorem dX5_setMember_58 : decode cX5_setMember 58 = .ok (.ixor, 1) := by decide +kernel
theorem dX5_setMember_59 : decode cX5_setMember 59 = .ok (.iand, 1) := by decide +kernel
theorem dX5_setMember_60 : decode cX5_setMember 60 = .ok (.invokevirtual 226, 3) := by decide +kernel
theorem dX5_setMember_63 : decode cX5_setMember 63 = .ok (.aload_n 0, 1) := by decide +kernel
theorem dX5_setMember_64 : decode cX5_setMember 64 = .ok (.getfield 10, 3) := by decide +kernel
theorem dX5_setMember_67 : decode cX5_setMember 67 = .ok (.iload_n 1, 1) := by decide +kernel
theorem dX5_setMember_68 : decode cX5_setMember 68 = .ok (.invokevirtual 223, 3) := by decide +kernel
theorem dX5_setMember_71 : decode cX5_setMember 71 = .ok (.ireturn, 1) := by decide +kernel
theorem dX5_mixer_0 : decode cX5_mixer 0 = .ok (.aload_n 0, 1) := by decide +kernel
theorem dX5_mixer_1 : decode cX5_mixer 1 = .ok (.iload_n 1, 1) := by decide +kernel
theorem dX5_mixer_2 : decode cX5_mixer 2 = .ok (.invokevirtual 220, 3) := by decide +kernel
theorem dX5_mixer_5 : decode cX5_mixer 5 = .ok (.aload_n 0, 1) := by decide +kernel
theorem dX5_mixer_6 : decode cX5_mixer 6 = .ok (.getfield 10, 3) := by decide +kernel
theorem dX5_mixer_9 : decode cX5_mixer 9 = .ok (.iload_n 1, 1) := by decide +kernel
theorem dX5_mixer_10 : decode cX5_mixer 10 = .ok (.invokevirtual 223, 3) := by decide +kernel
theorem dX5_mixer_13 : decode cX5_mixer 13 = .ok (.ireturn, 1) := by decide +kernel
theorem dX5_addTest_0 : decode cX5_addTest 0 = .ok (.aload_n 0, 1) := by decide +kernel
theorem dX5_addTest_1 : decode cX5_addTest 1 = .ok (.iload_n 1, 1) := by decide +kernel
theorem dX5_addTest_2 : decode cX5_addTest 2 = .ok (.invokevirtual 166, 3) := by decide +kernel
theorem dX5_addTest_5 : decode cX5_addTest 5 = .ok (.iload_n 2, 1) := by decide +kernel
theorem dX5_addTest_6 : decode cX5_addTest 6 = .ok (.invokestatic 229, 3) := by decide +kernel
theorem dX5_addTest_9 : decode cX5_addTest 9 = .ok (.aload_n 0, 1) := by decide +kernel
theorem dX5_addTest_10 : decode cX5_addTest 10 = .ok (.getfield 10, 3) := by decide +kernel
theorem dX5_addTest_13 : decode cX5_addTest 13 = .ok (.getfield 127, 3) := by decide +kernel
theorem dX5_addTest_16 : decode cX5_addTest 16 = .ok (.bipush 16, 2) := by decide +kernel
theorem dX5_addTest_18 : decode cX5_addTest 18 = .ok (.if_icmp .lt 13, 3) := by decide +kernel
theorem dX5_addTest_21 : decode cX5_addTest 21 = .ok (.new 104, 3) := by decide +kernel
theorem dX5_addTest_24 : decode cX5_addTest 24 = .ok (.dup, 1) := by decide +kernel
theorem dX5_addTest_25 : decode cX5_addTest 25 = .ok (.ldc 232, 2) := by decide +kernel
theorem dX5_addTest_27 : decode cX5_addTest 27 = .ok (.invokespecial 108, 3) := by decide +kernel
theorem dX5_addTest_30 : decode cX5_addTest 30 = .ok (.athrow, 1) := by decide +kernel
theorem dX5_addTest_31 : decode cX5_addTest 31 = .ok (.aload_n 0, 1) := by decide +kernel
theorem dX5_addTest_32 : decode cX5_addTest 32 = .ok (.getfield 22, 3) := by decide +kernel
theorem dX5_addTest_35 : decode cX5_addTest 35 = .ok (.aload_n 0, 1) := by decide +kernel
theorem dX5_addTest_36 : decode cX5_addTest 36 = .ok (.getfield 10, 3) := by decide +kernel
theorem dX5_addTest_39 : decode cX5_addTest 39 = .ok (.invokevirtual 72, 3) := by decide +kernel
theorem dX5_addTest_42 : decode cX5_addTest 42 = .ok (.aload_n 0, 1) := by decide +kernel
theorem dX5_addTest_43 : decode cX5_addTest 43 = .ok (.iload_n 1, 1) := by decide +kernel
theorem dX5_addTest_44 : decode cX5_addTest 44 = .ok (.invokevirtual 234, 3) := by decide +kernel
theorem dX5_addTest_47 : decode cX5_addTest 47 = .ok (.aload_n 0, 1) := by decide +kernel
theorem dX5_addTest_48 : decode cX5_addTest 48 = .ok (.getfield 10, 3) := by decide +kernel
theorem dX5_addTest_51 : decode cX5_addTest 51 = .ok (.iload_n 1, 1) := by decide +kernel
theorem dX5_addTest_52 : decode cX5_addTest 52 = .ok (.iload_n 2, 1) := by decide +kernel
theorem dX5_addTest_53 : decode cX5_addTest 53 = .ok (.iload_n 3, 1) := by decide +kernel
theorem dX5_addTest_54 : decode cX5_addTest 54 = .ok (.aload_n 0, 1) := by decide +kernel
theorem dX5_addTest_55 : decode cX5_addTest 55 = .ok (.iload_n 2, 1) := by decide +kernel
theorem dX5_addTest_56 : decode cX5_addTest 56 = .ok (.invokevirtual 237, 3) := by decide +kernel
theorem dX5_addTest_59 : decode cX5_addTest 59 = .ok (.invokevirtual 240, 3) := by decide +kernel
theorem dX5_addTest_62 : decode cX5_addTest 62 = .ok (.aload_n 0, 1) := by decide +kernel
theorem dX5_addTest_63 : decode cX5_addTest 63 = .ok (.invokevirtual 244, 3) := by decide +kernel
theorem dX5_addTest_66 : decode cX5_addTest 66 = .ok (.ireturn, 1) := by decide +kernel
theorem dX5_test_0 : decode cX5_test 0 = .ok (.iload_n 1, 1) := by decide +kernel
theorem dX5_test_1 : decode cX5_test 1 = .ok (.ifCond .lt 14, 3) := by decide +kernel
theorem dX5_test_4 : decode cX5_test 4 = .ok (.iload_n 1, 1) := by decide +kernel
theorem dX5_test_5 : decode cX5_test 5 = .ok (.aload_n 0, 1) := by decide +kernel
theorem dX5_test_6 : decode cX5_test 6 = .ok (.getfield 10, 3) := by decide +kernel
theorem dX5_test_9 : decode cX5_test 9 = .ok (.getfield 127, 3) := by decide +kernel
theorem dX5_test_12 : decode cX5_test 12 = .ok (.if_icmp .lt 13, 3) := by decide +kernel
theorem dX5_test_15 : decode cX5_test 15 = .ok (.new 157, 3) := by decide +kernel
theorem dX5_test_18 : decode cX5_test 18 = .ok (.dup, 1) := by decide +kernel
theorem dX5_test_19 : decode cX5_test 19 = .ok (.ldc 247, 2) := by decide +kernel
theorem dX5_test_21 : decode cX5_test 21 = .ok (.invokespecial 161, 3) := by decide +kernel
theorem dX5_test_24 : decode cX5_test 24 = .ok (.athrow, 1) := by decide +kernel
theorem dX5_test_25 : decode cX5_test 25 = .ok (.iload_n 2, 1) := by decide +kernel
theorem dX5_test_26 : decode cX5_test 26 = .ok (.iconst 0, 1) := by decide +kernel
theorem dX5_test_27 : decode cX5_test 27 = .ok (.iconst 2, 1) := by decide +kernel
theorem dX5_test_28 : decode cX5_test 28 = .ok (.invokestatic 112, 3) := by decide +kernel
theorem dX5_test_31 : decode cX5_test 31 = .ok (.ifCond .ne 13, 3) := by decide +kernel
theorem dX5_test_34 : decode cX5_test 34 = .ok (.new 62, 3) := by decide +kernel
theorem dX5_test_37 : decode cX5_test 37 = .ok (.dup, 1) := by decide +kernel
theorem dX5_test_38 : decode cX5_test 38 = .ok (.ldc 141, 2) := by decide +kernel
theorem dX5_test_40 : decode cX5_test 40 = .ok (.invokespecial 66, 3) := by decide +kernel
theorem dX5_test_43 : decode cX5_test 43 = .ok (.athrow, 1) := by decide +kernel
theorem dX5_test_44 : decode cX5_test 44 = .ok (.aload_n 0, 1) := by decide +kernel
theorem dX5_test_45 : decode cX5_test 45 = .ok (.getfield 10, 3) := by decide +kernel
theorem dX5_test_48 : decode cX5_test 48 = .ok (.iload_n 1, 1) := by decide +kernel
theorem dX5_test_49 : decode cX5_test 49 = .ok (.iload_n 2, 1) := by decide +kernel
theorem dX5_test_50 : decode cX5_test 50 = .ok (.invokevirtual 249, 3) := by decide +kernel
theorem dX5_test_53 : decode cX5_test 53 = .ok (.ireturn, 1) := by decide +kernel
theorem dX5_heard_0 : decode cX5_heard 0 = .ok (.aload_n 0, 1) := by decide +kernel
theorem dX5_heard_1 : decode cX5_heard 1 = .ok (.iload_n 1, 1) := by decide +kernel
theorem dX5_heard_2 : decode cX5_heard 2 = .ok (.invokevirtual 166, 3) := by decide +kernel
theorem dX5_heard_5 : decode cX5_heard 5 = .ok (.iload_n 2, 1) := by decide +kernel
theorem dX5_heard_6 : decode cX5_heard 6 = .ok (.invokestatic 229, 3) := by decide +kernel
theorem dX5_heard_9 : decode cX5_heard 9 = .ok (.aload_n 0, 1) := by decide +kernel
theorem dX5_heard_10 : decode cX5_heard 10 = .ok (.iload_n 1, 1) := by decide +kernel
theorem dX5_heard_11 : decode cX5_heard 11 = .ok (.invokevirtual 234, 3) := by decide +kernel
theorem dX5_heard_14 : decode cX5_heard 14 = .ok (.aload_n 0, 1) := by decide +kernel
theorem dX5_heard_15 : decode cX5_heard 15 = .ok (.iload_n 2, 1) := by decide +kernel
theorem dX5_heard_16 : decode cX5_heard 16 = .ok (.invokevirtual 237, 3) := by decide +kernel
theorem dX5_heard_19 : decode cX5_heard 19 = .ok (.ireturn, 1) := by decide +kernel
theorem dX5_diagnoses_0 : decode cX5_diagnoses 0 = .ok (.aload_n 0, 1) := by decide +kernel
theorem dX5_diagnoses_1 : decode cX5_diagnoses 1 = .ok (.invokevirtual 244, 3) := by decide +kernel
theorem dX5_diagnoses_4 : decode cX5_diagnoses 4 = .ok (.ireturn, 1) := by decide +kernel
theorem dX5_diagnosis_0 : decode cX5_diagnosis 0 = .ok (.iconst (-1), 1) := by decide +kernel
theorem dX5_diagnosis_1 : decode cX5_diagnosis 1 = .ok (.istore_n 1, 1) := by decide +kernel
theorem dX5_diagnosis_2 : decode cX5_diagnosis 2 = .ok (.iconst 0, 1) := by decide +kernel
theorem dX5_diagnosis_3 : decode cX5_diagnosis 3 = .ok (.istore_n 2, 1) := by decide +kernel
theorem dX5_diagnosis_4 : decode cX5_diagnosis 4 = .ok (.iload_n 2, 1) := by decide +kernel
theorem dX5_diagnosis_5 : decode cX5_diagnosis 5 = .ok (.aload_n 0, 1) := by decide +kernel
theorem dX5_diagnosis_6 : decode cX5_diagnosis 6 = .ok (.getfield 10, 3) := by decide +kernel
theorem dX5_diagnosis_9 : decode cX5_diagnosis 9 = .ok (.invokevirtual 252, 3) := by decide +kernel
theorem dX5_diagnosis_12 : decode cX5_diagnosis 12 = .ok (.if_icmp .gt 38, 3) := by decide +kernel
theorem dX5_diagnosis_15 : decode cX5_diagnosis 15 = .ok (.aload_n 0, 1) := by decide +kernel
theorem dX5_diagnosis_16 : decode cX5_diagnosis 16 = .ok (.getfield 10, 3) := by decide +kernel
theorem dX5_diagnosis_19 : decode cX5_diagnosis 19 = .ok (.iload_n 2, 1) := by decide +kernel
theorem dX5_diagnosis_20 : decode cX5_diagnosis 20 = .ok (.invokevirtual 255, 3) := by decide +kernel
theorem dX5_diagnosis_23 : decode cX5_diagnosis 23 = .ok (.ifCond .eq 21, 3) := by decide +kernel
theorem dX5_diagnosis_26 : decode cX5_diagnosis 26 = .ok (.iload_n 1, 1) := by decide +kernel
theorem dX5_diagnosis_27 : decode cX5_diagnosis 27 = .ok (.iconst (-1), 1) := by decide +kernel
theorem dX5_diagnosis_28 : decode cX5_diagnosis 28 = .ok (.if_icmp .eq 14, 3) := by decide +kernel
theorem dX5_diagnosis_31 : decode cX5_diagnosis 31 = .ok (.iload_n 2, 1) := by decide +kernel
theorem dX5_diagnosis_32 : decode cX5_diagnosis 32 = .ok (.invokestatic 184, 3) := by decide +kernel
theorem dX5_diagnosis_35 : decode cX5_diagnosis 35 = .ok (.iload_n 1, 1) := by decide +kernel
theorem dX5_diagnosis_36 : decode cX5_diagnosis 36 = .ok (.invokestatic 184, 3) := by decide +kernel
theorem dX5_diagnosis_39 : decode cX5_diagnosis 39 = .ok (.if_icmp .ge 5, 3) := by decide +kernel
theorem dX5_diagnosis_42 : decode cX5_diagnosis 42 = .ok (.iload_n 2, 1) := by decide +kernel
theorem dX5_diagnosis_43 : decode cX5_diagnosis 43 = .ok (.istore_n 1, 1) := by decide +kernel
theorem dX5_diagnosis_44 : decode cX5_diagnosis 44 = .ok (.iinc 2 1, 3) := by decide +kernel
theorem dX5_diagnosis_47 : decode cX5_diagnosis 47 = .ok (.goto (-43), 3) := by decide +kernel
theorem dX5_diagnosis_50 : decode cX5_diagnosis 50 = .ok (.iload_n 1, 1) := by decide +kernel
theorem dX5_diagnosis_51 : decode cX5_diagnosis 51 = .ok (.ireturn, 1) := by decide +kernel
theorem dX5_certain_0 : decode cX5_certain 0 = .ok (.aload_n 0, 1) := by decide +kernel
theorem dX5_certain_1 : decode cX5_certain 1 = .ok (.getfield 10, 3) := by decide +kernel
theorem dX5_certain_4 : decode cX5_certain 4 = .ok (.invokevirtual 252, 3) := by decide +kernel
theorem dX5_certain_7 : decode cX5_certain 7 = .ok (.istore_n 2, 1) := by decide +kernel
theorem dX5_certain_8 : decode cX5_certain 8 = .ok (.aload_n 0, 1) := by decide +kernel
theorem dX5_certain_9 : decode cX5_certain 9 = .ok (.getfield 10, 3) := by decide +kernel
theorem dX5_certain_12 : decode cX5_certain 12 = .ok (.invokevirtual 252, 3) := by decide +kernel
theorem dX5_certain_15 : decode cX5_certain 15 = .ok (.istore_n 3, 1) := by decide +kernel
theorem dX5_certain_16 : decode cX5_certain 16 = .ok (.iconst 0, 1) := by decide +kernel
theorem dX5_certain_17 : decode cX5_certain 17 = .ok (.istore 4, 2) := by decide +kernel
theorem dX5_certain_19 : decode cX5_certain 19 = .ok (.iload 4, 2) := by decide +kernel
theorem dX5_certain_21 : decode cX5_certain 21 = .ok (.aload_n 0, 1) := by decide +kernel
theorem dX5_certain_22 : decode cX5_certain 22 = .ok (.getfield 10, 3) := by decide +kernel
theorem dX5_certain_25 : decode cX5_certain 25 = .ok (.invokevirtual 252, 3) := by decide +kernel
theorem dX5_certain_28 : decode cX5_certain 28 = .ok (.if_icmp .gt 33, 3) := by decide +kernel
theorem dX5_certain_31 : decode cX5_certain 31 = .ok (.aload_n 0, 1) := by decide +kernel
theorem dX5_certain_32 : decode cX5_certain 32 = .ok (.getfield 10, 3) := by decide +kernel
theorem dX5_certain_35 : decode cX5_certain 35 = .ok (.iload 4, 2) := by decide +kernel
theorem dX5_certain_37 : decode cX5_certain 37 = .ok (.invokevirtual 255, 3) := by decide +kernel
theorem dX5_certain_40 : decode cX5_certain 40 = .ok (.ifCond .eq 15, 3) := by decide +kernel
theorem dX5_certain_43 : decode cX5_certain 43 = .ok (.iload_n 2, 1) := by decide +kernel
theorem dX5_certain_44 : decode cX5_certain 44 = .ok (.iload 4, 2) := by decide +kernel
theorem dX5_certain_46 : decode cX5_certain 46 = .ok (.iand, 1) := by decide +kernel
theorem dX5_certain_47 : decode cX5_certain 47 = .ok (.istore_n 2, 1) := by decide +kernel
theorem dX5_certain_48 : decode cX5_certain 48 = .ok (.iload_n 3, 1) := by decide +kernel
theorem dX5_certain_49 : decode cX5_certain 49 = .ok (.iload 4, 2) := by decide +kernel
theorem dX5_certain_51 : decode cX5_certain 51 = .ok (.iconst (-1), 1) := by decide +kernel
theorem dX5_certain_52 : decode cX5_certain 52 = .ok (.ixor, 1) := by decide +kernel
theorem dX5_certain_53 : decode cX5_certain 53 = .ok (.iand, 1) := by decide +kernel
theorem dX5_certain_54 : decode cX5_certain 54 = .ok (.istore_n 3, 1) := by decide +kernel
theorem dX5_certain_55 : decode cX5_certain 55 = .ok (.iinc 4 1, 3) := by decide +kernel
theorem dX5_certain_58 : decode cX5_certain 58 = .ok (.goto (-39), 3) := by decide +kernel
theorem dX5_certain_61 : decode cX5_certain 61 = .ok (.iload_n 1, 1) := by decide +kernel
theorem dX5_certain_62 : decode cX5_certain 62 = .ok (.ifCond .eq 7, 3) := by decide +kernel
theorem dX5_certain_65 : decode cX5_certain 65 = .ok (.iload_n 2, 1) := by decide +kernel
theorem dX5_certain_66 : decode cX5_certain 66 = .ok (.goto 4, 3) := by decide +kernel
theorem dX5_certain_69 : decode cX5_certain 69 = .ok (.iload_n 3, 1) := by decide +kernel
theorem dX5_certain_70 : decode cX5_certain 70 = .ok (.ireturn, 1) := by decide +kernel
theorem dX5_bestTest_0 : decode cX5_bestTest 0 = .ok (.aload_n 0, 1) := by decide +kernel
theorem dX5_bestTest_1 : decode cX5_bestTest 1 = .ok (.iload_n 1, 1) := by decide +kernel
theorem dX5_bestTest_2 : decode cX5_bestTest 2 = .ok (.invokevirtual 166, 3) := by decide +kernel
theorem dX5_bestTest_5 : decode cX5_bestTest 5 = .ok (.aload_n 0, 1) := by decide +kernel
theorem dX5_bestTest_6 : decode cX5_bestTest 6 = .ok (.iload_n 1, 1) := by decide +kernel
theorem dX5_bestTest_7 : decode cX5_bestTest 7 = .ok (.invokevirtual 234, 3) := by decide +kernel
theorem dX5_bestTest_10 : decode cX5_bestTest 10 = .ok (.aload_n 0, 1) := by decide +kernel
theorem dX5_bestTest_11 : decode cX5_bestTest 11 = .ok (.invokevirtual 244, 3) := by decide +kernel
theorem dX5_bestTest_14 : decode cX5_bestTest 14 = .ok (.istore_n 2, 1) := by decide +kernel
theorem dX5_bestTest_15 : decode cX5_bestTest 15 = .ok (.iconst 0, 1) := by decide +kernel
theorem dX5_bestTest_16 : decode cX5_bestTest 16 = .ok (.istore_n 3, 1) := by decide +kernel
theorem dX5_bestTest_17 : decode cX5_bestTest 17 = .ok (.iload_n 2, 1) := by decide +kernel
theorem dX5_bestTest_18 : decode cX5_bestTest 18 = .ok (.istore 4, 2) := by decide +kernel
theorem dX5_bestTest_20 : decode cX5_bestTest 20 = .ok (.iconst 0, 1) := by decide +kernel
theorem dX5_bestTest_21 : decode cX5_bestTest 21 = .ok (.istore 5, 2) := by decide +kernel
theorem dX5_bestTest_23 : decode cX5_bestTest 23 = .ok (.iload 5, 2) := by decide +kernel
theorem dX5_bestTest_25 : decode cX5_bestTest 25 = .ok (.bipush 64, 2) := by decide +kernel
theorem dX5_bestTest_27 : decode cX5_bestTest 27 = .ok (.if_icmp .ge 46, 3) := by decide +kernel
theorem dX5_bestTest_30 : decode cX5_bestTest 30 = .ok (.aload_n 0, 1) := by decide +kernel
theorem dX5_bestTest_31 : decode cX5_bestTest 31 = .ok (.aload_n 0, 1) := by decide +kernel
theorem dX5_bestTest_32 : decode cX5_bestTest 32 = .ok (.iload 5, 2) := by decide +kernel
theorem dX5_bestTest_34 : decode cX5_bestTest 34 = .ok (.invokevirtual 237, 3) := by decide +kernel
theorem dX5_bestTest_37 : decode cX5_bestTest 37 = .ok (.invokevirtual 258, 3) := by decide +kernel
theorem dX5_bestTest_40 : decode cX5_bestTest 40 = .ok (.istore 6, 2) := by decide +kernel
theorem dX5_bestTest_42 : decode cX5_bestTest 42 = .ok (.iload 6, 2) := by decide +kernel
theorem dX5_bestTest_44 : decode cX5_bestTest 44 = .ok (.iload_n 2, 1) := by decide +kernel
theorem dX5_bestTest_45 : decode cX5_bestTest 45 = .ok (.iload 6, 2) := by decide +kernel
theorem dX5_bestTest_47 : decode cX5_bestTest 47 = .ok (.isub, 1) := by decide +kernel
theorem dX5_bestTest_48 : decode cX5_bestTest 48 = .ok (.invokestatic 261, 3) := by decide +kernel
theorem dX5_bestTest_51 : decode cX5_bestTest 51 = .ok (.istore 7, 2) := by decide +kernel
theorem dX5_bestTest_53 : decode cX5_bestTest 53 = .ok (.iload 7, 2) := by decide +kernel
theorem dX5_bestTest_55 : decode cX5_bestTest 55 = .ok (.iload 4, 2) := by decide +kernel
theorem dX5_bestTest_57 : decode cX5_bestTest 57 = .ok (.if_icmp .ge 10, 3) := by decide +kernel
theorem dX5_bestTest_60 : decode cX5_bestTest 60 = .ok (.iload 5, 2) := by decide +kernel
theorem dX5_bestTest_62 : decode cX5_bestTest 62 = .ok (.istore_n 3, 1) := by decide +kernel
theorem dX5_bestTest_63 : decode cX5_bestTest 63 = .ok (.iload 7, 2) := by decide +kernel
theorem dX5_bestTest_65 : decode cX5_bestTest 65 = .ok (.istore 4, 2) := by decide +kernel
theorem dX5_bestTest_67 : decode cX5_bestTest 67 = .ok (.iinc 5 1, 3) := by decide +kernel
theorem dX5_bestTest_70 : decode cX5_bestTest 70 = .ok (.goto (-47), 3) := by decide +kernel
theorem dX5_bestTest_73 : decode cX5_bestTest 73 = .ok (.iload_n 3, 1) := by decide +kernel
theorem dX5_bestTest_74 : decode cX5_bestTest 74 = .ok (.ireturn, 1) := by decide +kernel
theorem dX5_append_0 : decode cX5_append 0 = .ok (.iload_n 1, 1) := by decide +kernel
theorem dX5_append_1 : decode cX5_append 1 = .ok (.iconst 0, 1) := by decide +kernel
theorem dX5_append_2 : decode cX5_append 2 = .ok (.bipush 127, 2) := by decide +kernel
theorem dX5_append_4 : decode cX5_append 4 = .ok (.invokestatic 112, 3) := by decide +kernel
theorem dX5_append_7 : decode cX5_append 7 = .ok (.ifCond .ne 14, 3) := by decide +kernel
theorem dX5_append_10 : decode cX5_append 10 = .ok (.new 62, 3) := by decide +kernel
theorem dX5_append_13 : decode cX5_append 13 = .ok (.dup, 1) := by decide +kernel
theorem dX5_append_14 : decode cX5_append 14 = .ok (.ldc_w 264, 3) := by decide +kernel
theorem dX5_append_17 : decode cX5_append 17 = .ok (.invokespecial 66, 3) := by decide +kernel
theorem dX5_append_20 : decode cX5_append 20 = .ok (.athrow, 1) := by decide +kernel
theorem dX5_append_21 : decode cX5_append 21 = .ok (.aload_n 0, 1) := by decide +kernel
theorem dX5_append_22 : decode cX5_append 22 = .ok (.getfield 43, 3) := by decide +kernel
theorem dX5_append_25 : decode cX5_append 25 = .ok (.getfield 266, 3) := by decide +kernel
theorem dX5_append_28 : decode cX5_append 28 = .ok (.bipush 120, 2) := by decide +kernel
theorem dX5_append_30 : decode cX5_append 30 = .ok (.if_icmp .lt 14, 3) := by decide +kernel
theorem dX5_append_33 : decode cX5_append 33 = .ok (.new 104, 3) := by decide +kernel
theorem dX5_append_36 : decode cX5_append 36 = .ok (.dup, 1) := by decide +kernel
theorem dX5_append_37 : decode cX5_append 37 = .ok (.ldc_w 269, 3) := by decide +kernel
theorem dX5_append_40 : decode cX5_append 40 = .ok (.invokespecial 108, 3) := by decide +kernel
theorem dX5_append_43 : decode cX5_append 43 = .ok (.athrow, 1) := by decide +kernel
theorem dX5_append_44 : decode cX5_append 44 = .ok (.aload_n 0, 1) := by decide +kernel
theorem dX5_append_45 : decode cX5_append 45 = .ok (.getfield 43, 3) := by decide +kernel
theorem dX5_append_48 : decode cX5_append 48 = .ok (.iload_n 1, 1) := by decide +kernel
theorem dX5_append_49 : decode cX5_append 49 = .ok (.invokevirtual 271, 3) := by decide +kernel
theorem dX5_append_52 : decode cX5_append 52 = .ok (.aload_n 0, 1) := by decide +kernel
theorem dX5_append_53 : decode cX5_append 53 = .ok (.getfield 43, 3) := by decide +kernel
theorem dX5_append_56 : decode cX5_append 56 = .ok (.getfield 266, 3) := by decide +kernel
theorem dX5_append_59 : decode cX5_append 59 = .ok (.ireturn, 1) := by decide +kernel
theorem dX5_undo_0 : decode cX5_undo 0 = .ok (.aload_n 0, 1) := by decide +kernel
theorem dX5_undo_1 : decode cX5_undo 1 = .ok (.getfield 22, 3) := by decide +kernel
theorem dX5_undo_4 : decode cX5_undo 4 = .ok (.getfield 284, 3) := by decide +kernel
theorem dX5_undo_7 : decode cX5_undo 7 = .ok (.ifCond .gt 14, 3) := by decide +kernel
theorem dX5_undo_10 : decode cX5_undo 10 = .ok (.new 104, 3) := by decide +kernel
theorem dX5_undo_13 : decode cX5_undo 13 = .ok (.dup, 1) := by decide +kernel
theorem dX5_undo_14 : decode cX5_undo 14 = .ok (.ldc_w 285, 3) := by decide +kernel
theorem dX5_undo_17 : decode cX5_undo 17 = .ok (.invokespecial 108, 3) := by decide +kernel
theorem dX5_undo_20 : decode cX5_undo 20 = .ok (.athrow, 1) := by decide +kernel
theorem dX5_undo_21 : decode cX5_undo 21 = .ok (.aload_n 0, 1) := by decide +kernel
theorem dX5_undo_22 : decode cX5_undo 22 = .ok (.getfield 22, 3) := by decide +kernel
theorem dX5_undo_25 : decode cX5_undo 25 = .ok (.aload_n 0, 1) := by decide +kernel
theorem dX5_undo_26 : decode cX5_undo 26 = .ok (.getfield 10, 3) := by decide +kernel
theorem dX5_undo_29 : decode cX5_undo 29 = .ok (.invokevirtual 287, 3) := by decide +kernel
theorem dX5_undo_32 : decode cX5_undo 32 = .ok (.aload_n 0, 1) := by decide +kernel
theorem dX5_undo_33 : decode cX5_undo 33 = .ok (.getfield 22, 3) := by decide +kernel
theorem dX5_undo_36 : decode cX5_undo 36 = .ok (.getfield 284, 3) := by decide +kernel
theorem dX5_undo_39 : decode cX5_undo 39 = .ok (.ireturn, 1) := by decide +kernel
theorem dX5_digest_0 : decode cX5_digest 0 = .ok (.ldc2_w 290, 3) := by decide +kernel
theorem dX5_digest_3 : decode cX5_digest 3 = .ok (.lstore_n 1, 1) := by decide +kernel
theorem dX5_digest_4 : decode cX5_digest 4 = .ok (.ldc2_w 292, 3) := by decide +kernel
theorem dX5_digest_7 : decode cX5_digest 7 = .ok (.lload_n 1, 1) := by decide +kernel
theorem dX5_digest_8 : decode cX5_digest 8 = .ok (.lmul, 1) := by decide +kernel
theorem dX5_digest_9 : decode cX5_digest 9 = .ok (.aload_n 0, 1) := by decide +kernel
theorem dX5_digest_10 : decode cX5_digest 10 = .ok (.getfield 43, 3) := by decide +kernel
theorem dX5_digest_13 : decode cX5_digest 13 = .ok (.getfield 266, 3) := by decide +kernel
theorem dX5_digest_16 : decode cX5_digest 16 = .ok (.i2l, 1) := by decide +kernel
theorem dX5_digest_17 : decode cX5_digest 17 = .ok (.ladd, 1) := by decide +kernel
theorem dX5_digest_18 : decode cX5_digest 18 = .ok (.lstore_n 1, 1) := by decide +kernel
theorem dX5_digest_19 : decode cX5_digest 19 = .ok (.ldc2_w 292, 3) := by decide +kernel
theorem dX5_digest_22 : decode cX5_digest 22 = .ok (.lload_n 1, 1) := by decide +kernel
theorem dX5_digest_23 : decode cX5_digest 23 = .ok (.lmul, 1) := by decide +kernel
theorem dX5_digest_24 : decode cX5_digest 24 = .ok (.aload_n 0, 1) := by decide +kernel
theorem dX5_digest_25 : decode cX5_digest 25 = .ok (.getfield 10, 3) := by decide +kernel
theorem dX5_digest_28 : decode cX5_digest 28 = .ok (.getfield 118, 3) := by decide +kernel
theorem dX5_digest_31 : decode cX5_digest 31 = .ok (.i2l, 1) := by decide +kernel
theorem dX5_digest_32 : decode cX5_digest 32 = .ok (.ladd, 1) := by decide +kernel
theorem dX5_digest_33 : decode cX5_digest 33 = .ok (.lstore_n 1, 1) := by decide +kernel
theorem dX5_digest_34 : decode cX5_digest 34 = .ok (.ldc2_w 292, 3) := by decide +kernel
theorem dX5_digest_37 : decode cX5_digest 37 = .ok (.lload_n 1, 1) := by decide +kernel
theorem dX5_digest_38 : decode cX5_digest 38 = .ok (.lmul, 1) := by decide +kernel
theorem dX5_digest_39 : decode cX5_digest 39 = .ok (.aload_n 0, 1) := by decide +kernel
theorem dX5_digest_40 : decode cX5_digest 40 = .ok (.getfield 10, 3) := by decide +kernel
theorem dX5_digest_43 : decode cX5_digest 43 = .ok (.getfield 121, 3) := by decide +kernel
theorem dX5_digest_46 : decode cX5_digest 46 = .ok (.i2l, 1) := by decide +kernel
theorem dX5_digest_47 : decode cX5_digest 47 = .ok (.ladd, 1) := by decide +kernel
theorem dX5_digest_48 : decode cX5_digest 48 = .ok (.lstore_n 1, 1) := by decide +kernel
theorem dX5_digest_49 : decode cX5_digest 49 = .ok (.ldc2_w 292, 3) := by decide +kernel
theorem dX5_digest_52 : decode cX5_digest 52 = .ok (.lload_n 1, 1) := by decide +kernel
theorem dX5_digest_53 : decode cX5_digest 53 = .ok (.lmul, 1) := by decide +kernel
theorem dX5_digest_54 : decode cX5_digest 54 = .ok (.aload_n 0, 1) := by decide +kernel
theorem dX5_digest_55 : decode cX5_digest 55 = .ok (.getfield 10, 3) := by decide +kernel
theorem dX5_digest_58 : decode cX5_digest 58 = .ok (.getfield 124, 3) := by decide +kernel
theorem dX5_digest_61 : decode cX5_digest 61 = .ok (.i2l, 1) := by decide +kernel
theorem dX5_digest_62 : decode cX5_digest 62 = .ok (.ladd, 1) := by decide +kernel
theorem dX5_digest_63 : decode cX5_digest 63 = .ok (.lstore_n 1, 1) := by decide +kernel
theorem dX5_digest_64 : decode cX5_digest 64 = .ok (.ldc2_w 292, 3) := by decide +kernel
theorem dX5_digest_67 : decode cX5_digest 67 = .ok (.lload_n 1, 1) := by decide +kernel
theorem dX5_digest_68 : decode cX5_digest 68 = .ok (.lmul, 1) := by decide +kernel
theorem dX5_digest_69 : decode cX5_digest 69 = .ok (.aload_n 0, 1) := by decide +kernel
theorem dX5_digest_70 : decode cX5_digest 70 = .ok (.getfield 10, 3) := by decide +kernel
theorem dX5_digest_73 : decode cX5_digest 73 = .ok (.getfield 132, 3) := by decide +kernel
theorem dX5_digest_76 : decode cX5_digest 76 = .ok (.i2l, 1) := by decide +kernel
theorem dX5_digest_77 : decode cX5_digest 77 = .ok (.ladd, 1) := by decide +kernel
theorem dX5_digest_78 : decode cX5_digest 78 = .ok (.lstore_n 1, 1) := by decide +kernel
theorem dX5_digest_79 : decode cX5_digest 79 = .ok (.ldc2_w 292, 3) := by decide +kernel
theorem dX5_digest_82 : decode cX5_digest 82 = .ok (.lload_n 1, 1) := by decide +kernel
theorem dX5_digest_83 : decode cX5_digest 83 = .ok (.lmul, 1) := by decide +kernel
theorem dX5_digest_84 : decode cX5_digest 84 = .ok (.aload_n 0, 1) := by decide +kernel
theorem dX5_digest_85 : decode cX5_digest 85 = .ok (.getfield 10, 3) := by decide +kernel
theorem dX5_digest_88 : decode cX5_digest 88 = .ok (.getfield 135, 3) := by decide +kernel
theorem dX5_digest_91 : decode cX5_digest 91 = .ok (.i2l, 1) := by decide +kernel
theorem dX5_digest_92 : decode cX5_digest 92 = .ok (.ladd, 1) := by decide +kernel
theorem dX5_digest_93 : decode cX5_digest 93 = .ok (.lstore_n 1, 1) := by decide +kernel
theorem dX5_digest_94 : decode cX5_digest 94 = .ok (.ldc2_w 292, 3) := by decide +kernel
theorem dX5_digest_97 : decode cX5_digest 97 = .ok (.lload_n 1, 1) := by decide +kernel
theorem dX5_digest_98 : decode cX5_digest 98 = .ok (.lmul, 1) := by decide +kernel
theorem dX5_digest_99 : decode cX5_digest 99 = .ok (.aload_n 0, 1) := by decide +kernel
theorem dX5_digest_100 : decode cX5_digest 100 = .ok (.getfield 10, 3) := by decide +kernel
theorem dX5_digest_103 : decode cX5_digest 103 = .ok (.getfield 80, 3) := by decide +kernel
theorem dX5_digest_106 : decode cX5_digest 106 = .ok (.i2l, 1) := by decide +kernel
theorem dX5_digest_107 : decode cX5_digest 107 = .ok (.ladd, 1) := by decide +kernel
theorem dX5_digest_108 : decode cX5_digest 108 = .ok (.lstore_n 1, 1) := by decide +kernel
theorem dX5_digest_109 : decode cX5_digest 109 = .ok (.iconst 0, 1) := by decide +kernel
theorem dX5_digest_110 : decode cX5_digest 110 = .ok (.istore_n 3, 1) := by decide +kernel
theorem dX5_digest_111 : decode cX5_digest 111 = .ok (.iload_n 3, 1) := by decide +kernel
theorem dX5_digest_112 : decode cX5_digest 112 = .ok (.aload_n 0, 1) := by decide +kernel
theorem dX5_digest_113 : decode cX5_digest 113 = .ok (.getfield 10, 3) := by decide +kernel
theorem dX5_digest_116 : decode cX5_digest 116 = .ok (.getfield 80, 3) := by decide +kernel
theorem dX5_digest_119 : decode cX5_digest 119 = .ok (.if_icmp .ge 41, 3) := by decide +kernel
theorem dX5_digest_122 : decode cX5_digest 122 = .ok (.ldc2_w 292, 3) := by decide +kernel
theorem dX5_digest_125 : decode cX5_digest 125 = .ok (.lload_n 1, 1) := by decide +kernel
theorem dX5_digest_126 : decode cX5_digest 126 = .ok (.lmul, 1) := by decide +kernel
theorem dX5_digest_127 : decode cX5_digest 127 = .ok (.aload_n 0, 1) := by decide +kernel
theorem dX5_digest_128 : decode cX5_digest 128 = .ok (.getfield 10, 3) := by decide +kernel
theorem dX5_digest_131 : decode cX5_digest 131 = .ok (.iload_n 3, 1) := by decide +kernel
theorem dX5_digest_132 : decode cX5_digest 132 = .ok (.invokevirtual 92, 3) := by decide +kernel
theorem dX5_digest_135 : decode cX5_digest 135 = .ok (.i2l, 1) := by decide +kernel
theorem dX5_digest_136 : decode cX5_digest 136 = .ok (.ladd, 1) := by decide +kernel
theorem dX5_digest_137 : decode cX5_digest 137 = .ok (.lstore_n 1, 1) := by decide +kernel
theorem dX5_digest_138 : decode cX5_digest 138 = .ok (.ldc2_w 292, 3) := by decide +kernel
theorem dX5_digest_141 : decode cX5_digest 141 = .ok (.lload_n 1, 1) := by decide +kernel
theorem dX5_digest_142 : decode cX5_digest 142 = .ok (.lmul, 1) := by decide +kernel
theorem dX5_digest_143 : decode cX5_digest 143 = .ok (.aload_n 0, 1) := by decide +kernel
theorem dX5_digest_144 : decode cX5_digest 144 = .ok (.getfield 10, 3) := by decide +kernel
theorem dX5_digest_147 : decode cX5_digest 147 = .ok (.iload_n 3, 1) := by decide +kernel
theorem dX5_digest_148 : decode cX5_digest 148 = .ok (.invokevirtual 143, 3) := by decide +kernel
theorem dX5_digest_151 : decode cX5_digest 151 = .ok (.i2l, 1) := by decide +kernel
theorem dX5_digest_152 : decode cX5_digest 152 = .ok (.ladd, 1) := by decide +kernel
theorem dX5_digest_153 : decode cX5_digest 153 = .ok (.lstore_n 1, 1) := by decide +kernel
theorem dX5_digest_154 : decode cX5_digest 154 = .ok (.iinc 3 1, 3) := by decide +kernel
theorem dX5_digest_157 : decode cX5_digest 157 = .ok (.goto (-46), 3) := by decide +kernel
theorem dX5_digest_160 : decode cX5_digest 160 = .ok (.ldc2_w 292, 3) := by decide +kernel
theorem dX5_digest_163 : decode cX5_digest 163 = .ok (.lload_n 1, 1) := by decide +kernel
theorem dX5_digest_164 : decode cX5_digest 164 = .ok (.lmul, 1) := by decide +kernel
theorem dX5_digest_165 : decode cX5_digest 165 = .ok (.aload_n 0, 1) := by decide +kernel
theorem dX5_digest_166 : decode cX5_digest 166 = .ok (.invokevirtual 294, 3) := by decide +kernel
theorem dX5_digest_169 : decode cX5_digest 169 = .ok (.i2l, 1) := by decide +kernel
theorem dX5_digest_170 : decode cX5_digest 170 = .ok (.ladd, 1) := by decide +kernel
theorem dX5_digest_171 : decode cX5_digest 171 = .ok (.lstore_n 1, 1) := by decide +kernel
theorem dX5_digest_172 : decode cX5_digest 172 = .ok (.ldc2_w 292, 3) := by decide +kernel
theorem dX5_digest_175 : decode cX5_digest 175 = .ok (.lload_n 1, 1) := by decide +kernel
theorem dX5_digest_176 : decode cX5_digest 176 = .ok (.lmul, 1) := by decide +kernel
theorem dX5_digest_177 : decode cX5_digest 177 = .ok (.aload_n 0, 1) := by decide +kernel
theorem dX5_digest_178 : decode cX5_digest 178 = .ok (.invokevirtual 297, 3) := by decide +kernel
theorem dX5_digest_181 : decode cX5_digest 181 = .ok (.i2l, 1) := by decide +kernel
theorem dX5_digest_182 : decode cX5_digest 182 = .ok (.ladd, 1) := by decide +kernel
theorem dX5_digest_183 : decode cX5_digest 183 = .ok (.lstore_n 1, 1) := by decide +kernel
theorem dX5_digest_184 : decode cX5_digest 184 = .ok (.ldc2_w 292, 3) := by decide +kernel
theorem dX5_digest_187 : decode cX5_digest 187 = .ok (.lload_n 1, 1) := by decide +kernel
theorem dX5_digest_188 : decode cX5_digest 188 = .ok (.lmul, 1) := by decide +kernel
theorem dX5_digest_189 : decode cX5_digest 189 = .ok (.aload_n 0, 1) := by decide +kernel
theorem dX5_digest_190 : decode cX5_digest 190 = .ok (.getfield 10, 3) := by decide +kernel
theorem dX5_digest_193 : decode cX5_digest 193 = .ok (.getfield 138, 3) := by decide +kernel
theorem dX5_digest_196 : decode cX5_digest 196 = .ok (.i2l, 1) := by decide +kernel
theorem dX5_digest_197 : decode cX5_digest 197 = .ok (.ladd, 1) := by decide +kernel
theorem dX5_digest_198 : decode cX5_digest 198 = .ok (.lstore_n 1, 1) := by decide +kernel
theorem dX5_digest_199 : decode cX5_digest 199 = .ok (.iconst 0, 1) := by decide +kernel
theorem dX5_digest_200 : decode cX5_digest 200 = .ok (.istore_n 3, 1) := by decide +kernel
theorem dX5_digest_201 : decode cX5_digest 201 = .ok (.iload_n 3, 1) := by decide +kernel
theorem dX5_digest_202 : decode cX5_digest 202 = .ok (.aload_n 0, 1) := by decide +kernel
theorem dX5_digest_203 : decode cX5_digest 203 = .ok (.getfield 10, 3) := by decide +kernel
theorem dX5_digest_206 : decode cX5_digest 206 = .ok (.getfield 138, 3) := by decide +kernel
theorem dX5_digest_209 : decode cX5_digest 209 = .ok (.if_icmp .ge 25, 3) := by decide +kernel
theorem dX5_digest_212 : decode cX5_digest 212 = .ok (.ldc2_w 292, 3) := by decide +kernel
theorem dX5_digest_215 : decode cX5_digest 215 = .ok (.lload_n 1, 1) := by decide +kernel
theorem dX5_digest_216 : decode cX5_digest 216 = .ok (.lmul, 1) := by decide +kernel
theorem dX5_digest_217 : decode cX5_digest 217 = .ok (.aload_n 0, 1) := by decide +kernel
theorem dX5_digest_218 : decode cX5_digest 218 = .ok (.getfield 10, 3) := by decide +kernel
theorem dX5_digest_221 : decode cX5_digest 221 = .ok (.iload_n 3, 1) := by decide +kernel
theorem dX5_digest_222 : decode cX5_digest 222 = .ok (.invokevirtual 223, 3) := by decide +kernel
theorem dX5_digest_225 : decode cX5_digest 225 = .ok (.i2l, 1) := by decide +kernel
theorem dX5_digest_226 : decode cX5_digest 226 = .ok (.ladd, 1) := by decide +kernel
theorem dX5_digest_227 : decode cX5_digest 227 = .ok (.lstore_n 1, 1) := by decide +kernel
theorem dX5_digest_228 : decode cX5_digest 228 = .ok (.iinc 3 1, 3) := by decide +kernel
theorem dX5_digest_231 : decode cX5_digest 231 = .ok (.goto (-30), 3) := by decide +kernel
theorem dX5_digest_234 : decode cX5_digest 234 = .ok (.ldc2_w 292, 3) := by decide +kernel
theorem dX5_digest_237 : decode cX5_digest 237 = .ok (.lload_n 1, 1) := by decide +kernel
theorem dX5_digest_238 : decode cX5_digest 238 = .ok (.lmul, 1) := by decide +kernel
theorem dX5_digest_239 : decode cX5_digest 239 = .ok (.aload_n 0, 1) := by decide +kernel
theorem dX5_digest_240 : decode cX5_digest 240 = .ok (.getfield 10, 3) := by decide +kernel
theorem dX5_digest_243 : decode cX5_digest 243 = .ok (.getfield 127, 3) := by decide +kernel
theorem dX5_digest_246 : decode cX5_digest 246 = .ok (.i2l, 1) := by decide +kernel
theorem dX5_digest_247 : decode cX5_digest 247 = .ok (.ladd, 1) := by decide +kernel
theorem dX5_digest_248 : decode cX5_digest 248 = .ok (.lstore_n 1, 1) := by decide +kernel
theorem dX5_digest_249 : decode cX5_digest 249 = .ok (.iconst 0, 1) := by decide +kernel
theorem dX5_digest_250 : decode cX5_digest 250 = .ok (.istore_n 3, 1) := by decide +kernel
theorem dX5_digest_251 : decode cX5_digest 251 = .ok (.iload_n 3, 1) := by decide +kernel
theorem dX5_digest_252 : decode cX5_digest 252 = .ok (.aload_n 0, 1) := by decide +kernel
theorem dX5_digest_253 : decode cX5_digest 253 = .ok (.getfield 10, 3) := by decide +kernel
theorem dX5_digest_256 : decode cX5_digest 256 = .ok (.getfield 127, 3) := by decide +kernel
theorem dX5_digest_259 : decode cX5_digest 259 = .ok (.if_icmp .ge 42, 3) := by decide +kernel
theorem dX5_digest_262 : decode cX5_digest 262 = .ok (.iconst 0, 1) := by decide +kernel
theorem dX5_digest_263 : decode cX5_digest 263 = .ok (.istore 4, 2) := by decide +kernel
theorem dX5_digest_265 : decode cX5_digest 265 = .ok (.iload 4, 2) := by decide +kernel
theorem dX5_digest_267 : decode cX5_digest 267 = .ok (.iconst 2, 1) := by decide +kernel
theorem dX5_digest_268 : decode cX5_digest 268 = .ok (.if_icmp .gt 27, 3) := by decide +kernel
theorem dX5_digest_271 : decode cX5_digest 271 = .ok (.ldc2_w 292, 3) := by decide +kernel
theorem dX5_digest_274 : decode cX5_digest 274 = .ok (.lload_n 1, 1) := by decide +kernel
theorem dX5_digest_275 : decode cX5_digest 275 = .ok (.lmul, 1) := by decide +kernel
theorem dX5_digest_276 : decode cX5_digest 276 = .ok (.aload_n 0, 1) := by decide +kernel
theorem dX5_digest_277 : decode cX5_digest 277 = .ok (.getfield 10, 3) := by decide +kernel
theorem dX5_digest_280 : decode cX5_digest 280 = .ok (.iload_n 3, 1) := by decide +kernel
theorem dX5_digest_281 : decode cX5_digest 281 = .ok (.iload 4, 2) := by decide +kernel
theorem dX5_digest_283 : decode cX5_digest 283 = .ok (.invokevirtual 249, 3) := by decide +kernel
theorem dX5_digest_286 : decode cX5_digest 286 = .ok (.i2l, 1) := by decide +kernel
theorem dX5_digest_287 : decode cX5_digest 287 = .ok (.ladd, 1) := by decide +kernel
theorem dX5_digest_288 : decode cX5_digest 288 = .ok (.lstore_n 1, 1) := by decide +kernel
theorem dX5_digest_289 : decode cX5_digest 289 = .ok (.iinc 4 1, 3) := by decide +kernel
theorem dX5_digest_292 : decode cX5_digest 292 = .ok (.goto (-27), 3) := by decide +kernel
theorem dX5_digest_295 : decode cX5_digest 295 = .ok (.iinc 3 1, 3) := by decide +kernel
theorem dX5_digest_298 : decode cX5_digest 298 = .ok (.goto (-47), 3) := by decide +kernel
theorem dX5_digest_301 : decode cX5_digest 301 = .ok (.ldc2_w 292, 3) := by decide +kernel
theorem dX5_digest_304 : decode cX5_digest 304 = .ok (.lload_n 1, 1) := by decide +kernel
theorem dX5_digest_305 : decode cX5_digest 305 = .ok (.lmul, 1) := by decide +kernel
theorem dX5_digest_306 : decode cX5_digest 306 = .ok (.aload_n 0, 1) := by decide +kernel
theorem dX5_digest_307 : decode cX5_digest 307 = .ok (.invokevirtual 300, 3) := by decide +kernel
theorem dX5_digest_310 : decode cX5_digest 310 = .ok (.i2l, 1) := by decide +kernel
theorem dX5_digest_311 : decode cX5_digest 311 = .ok (.ladd, 1) := by decide +kernel
theorem dX5_digest_312 : decode cX5_digest 312 = .ok (.lstore_n 1, 1) := by decide +kernel
theorem dX5_digest_313 : decode cX5_digest 313 = .ok (.ldc2_w 292, 3) := by decide +kernel
theorem dX5_digest_316 : decode cX5_digest 316 = .ok (.lload_n 1, 1) := by decide +kernel
theorem dX5_digest_317 : decode cX5_digest 317 = .ok (.lmul, 1) := by decide +kernel
theorem dX5_digest_318 : decode cX5_digest 318 = .ok (.aload_n 0, 1) := by decide +kernel
theorem dX5_digest_319 : decode cX5_digest 319 = .ok (.invokevirtual 303, 3) := by decide +kernel
theorem dX5_digest_322 : decode cX5_digest 322 = .ok (.i2l, 1) := by decide +kernel
theorem dX5_digest_323 : decode cX5_digest 323 = .ok (.ladd, 1) := by decide +kernel
theorem dX5_digest_324 : decode cX5_digest 324 = .ok (.lstore_n 1, 1) := by decide +kernel
theorem dX5_digest_325 : decode cX5_digest 325 = .ok (.ldc2_w 292, 3) := by decide +kernel
theorem dX5_digest_328 : decode cX5_digest 328 = .ok (.lload_n 1, 1) := by decide +kernel
theorem dX5_digest_329 : decode cX5_digest 329 = .ok (.lmul, 1) := by decide +kernel
theorem dX5_digest_330 : decode cX5_digest 330 = .ok (.aload_n 0, 1) := by decide +kernel
theorem dX5_digest_331 : decode cX5_digest 331 = .ok (.getfield 22, 3) := by decide +kernel
theorem dX5_digest_334 : decode cX5_digest 334 = .ok (.getfield 284, 3) := by decide +kernel
theorem dX5_digest_337 : decode cX5_digest 337 = .ok (.i2l, 1) := by decide +kernel
theorem dX5_digest_338 : decode cX5_digest 338 = .ok (.ladd, 1) := by decide +kernel
theorem dX5_digest_339 : decode cX5_digest 339 = .ok (.lstore_n 1, 1) := by decide +kernel
theorem dX5_digest_340 : decode cX5_digest 340 = .ok (.lload_n 1, 1) := by decide +kernel
theorem dX5_digest_341 : decode cX5_digest 341 = .ok (.lreturn, 1) := by decide +kernel
theorem dX5_isWithin_0 : decode cX5_isWithin 0 = .ok (.iload_n 0, 1) := by decide +kernel
theorem dX5_isWithin_1 : decode cX5_isWithin 1 = .ok (.iload_n 1, 1) := by decide +kernel
theorem dX5_isWithin_2 : decode cX5_isWithin 2 = .ok (.if_icmp .lt 12, 3) := by decide +kernel
theorem dX5_isWithin_5 : decode cX5_isWithin 5 = .ok (.iload_n 0, 1) := by decide +kernel
theorem dX5_isWithin_6 : decode cX5_isWithin 6 = .ok (.iload_n 2, 1) := by decide +kernel
theorem dX5_isWithin_7 : decode cX5_isWithin 7 = .ok (.if_icmp .gt 7, 3) := by decide +kernel
theorem dX5_isWithin_10 : decode cX5_isWithin 10 = .ok (.iconst 1, 1) := by decide +kernel
theorem dX5_isWithin_11 : decode cX5_isWithin 11 = .ok (.goto 4, 3) := by decide +kernel
theorem dX5_isWithin_14 : decode cX5_isWithin 14 = .ok (.iconst 0, 1) := by decide +kernel
theorem dX5_isWithin_15 : decode cX5_isWithin 15 = .ok (.ireturn, 1) := by decide +kernel
theorem dX5_isChannel_0 : decode cX5_isChannel 0 = .ok (.iload_n 0, 1) := by decide +kernel
theorem dX5_isChannel_1 : decode cX5_isChannel 1 = .ok (.ifCond .lt 13, 3) := by decide +kernel
theorem dX5_isChannel_4 : decode cX5_isChannel 4 = .ok (.iload_n 0, 1) := by decide +kernel
theorem dX5_isChannel_5 : decode cX5_isChannel 5 = .ok (.bipush 64, 2) := by decide +kernel
theorem dX5_isChannel_7 : decode cX5_isChannel 7 = .ok (.if_icmp .ge 7, 3) := by decide +kernel
theorem dX5_isChannel_10 : decode cX5_isChannel 10 = .ok (.iconst 1, 1) := by decide +kernel
theorem dX5_isChannel_11 : decode cX5_isChannel 11 = .ok (.goto 4, 3) := by decide +kernel
theorem dX5_isChannel_14 : decode cX5_isChannel 14 = .ok (.iconst 0, 1) := by decide +kernel
theorem dX5_isChannel_15 : decode cX5_isChannel 15 = .ok (.ireturn, 1) := by decide +kernel
theorem dX5_isLevel_0 : decode cX5_isLevel 0 = .ok (.iload_n 0, 1) := by decide +kernel
theorem dX5_isLevel_1 : decode cX5_isLevel 1 = .ok (.ifCond .lt 13, 3) := by decide +kernel
theorem dX5_isLevel_4 : decode cX5_isLevel 4 = .ok (.iload_n 0, 1) := by decide +kernel
theorem dX5_isLevel_5 : decode cX5_isLevel 5 = .ok (.bipush 60, 2) := by decide +kernel
theorem dX5_isLevel_7 : decode cX5_isLevel 7 = .ok (.if_icmp .gt 7, 3) := by decide +kernel
theorem dX5_isLevel_10 : decode cX5_isLevel 10 = .ok (.iconst 1, 1) := by decide +kernel
theorem dX5_isLevel_11 : decode cX5_isLevel 11 = .ok (.goto 4, 3) := by decide +kernel
theorem dX5_isLevel_14 : decode cX5_isLevel 14 = .ok (.iconst 0, 1) := by decide +kernel
theorem dX5_isLevel_15 : decode cX5_isLevel 15 = .ok (.ireturn, 1) := by decide +kernel
theorem dX5_isIn_0 : decode cX5_isIn 0 = .ok (.lload_n 1, 1) := by decide +kernel
theorem dX5_isIn_1 : decode cX5_isIn 1 = .ok (.iload_n 0, 1) := by decide +kernel
theorem dX5_isIn_2 : decode cX5_isIn 2 = .ok (.lushr, 1) := by decide +kernel
theorem dX5_isIn_3 : decode cX5_isIn 3 = .ok (.lconst 1, 1) := by decide +kernel
theorem dX5_isIn_4 : decode cX5_isIn 4 = .ok (.land, 1) := by decide +kernel
theorem dX5_isIn_5 : decode cX5_isIn 5 = .ok (.lconst 0, 1) := by decide +kernel
theorem dX5_isIn_6 : decode cX5_isIn 6 = .ok (.lcmp, 1) := by decide +kernel
theorem dX5_isIn_7 : decode cX5_isIn 7 = .ok (.ifCond .eq 7, 3) := by decide +kernel
theorem dX5_isIn_10 : decode cX5_isIn 10 = .ok (.iconst 1, 1) := by decide +kernel
theorem dX5_isIn_11 : decode cX5_isIn 11 = .ok (.goto 4, 3) := by decide +kernel
theorem dX5_isIn_14 : decode cX5_isIn 14 = .ok (.iconst 0, 1) := by decide +kernel
theorem dX5_isIn_15 : decode cX5_isIn 15 = .ok (.ireturn, 1) := by decide +kernel
theorem dX5_needChannel_0 : decode cX5_needChannel 0 = .ok (.iload_n 0, 1) := by decide +kernel
theorem dX5_needChannel_1 : decode cX5_needChannel 1 = .ok (.invokestatic 51, 3) := by decide +kernel
theorem dX5_needChannel_4 : decode cX5_needChannel 4 = .ok (.ifCond .ne 14, 3) := by decide +kernel
theorem dX5_needChannel_7 : decode cX5_needChannel 7 = .ok (.new 62, 3) := by decide +kernel
theorem dX5_needChannel_10 : decode cX5_needChannel 10 = .ok (.dup, 1) := by decide +kernel
theorem dX5_needChannel_11 : decode cX5_needChannel 11 = .ok (.ldc_w 306, 3) := by decide +kernel
theorem dX5_needChannel_14 : decode cX5_needChannel 14 = .ok (.invokespecial 66, 3) := by decide +kernel
theorem dX5_needChannel_17 : decode cX5_needChannel 17 = .ok (.athrow, 1) := by decide +kernel
theorem dX5_needChannel_18 : decode cX5_needChannel 18 = .ok (.return_, 1) := by decide +kernel
theorem dX5_needLevel_0 : decode cX5_needLevel 0 = .ok (.iload_n 0, 1) := by decide +kernel
theorem dX5_needLevel_1 : decode cX5_needLevel 1 = .ok (.invokestatic 55, 3) := by decide +kernel
theorem dX5_needLevel_4 : decode cX5_needLevel 4 = .ok (.ifCond .ne 14, 3) := by decide +kernel
theorem dX5_needLevel_7 : decode cX5_needLevel 7 = .ok (.new 62, 3) := by decide +kernel
theorem dX5_needLevel_10 : decode cX5_needLevel 10 = .ok (.dup, 1) := by decide +kernel
theorem dX5_needLevel_11 : decode cX5_needLevel 11 = .ok (.ldc_w 308, 3) := by decide +kernel
theorem dX5_needLevel_14 : decode cX5_needLevel 14 = .ok (.invokespecial 66, 3) := by decide +kernel
theorem dX5_needLevel_17 : decode cX5_needLevel 17 = .ok (.athrow, 1) := by decide +kernel
theorem dX5_needLevel_18 : decode cX5_needLevel 18 = .ok (.return_, 1) := by decide +kernel
theorem dX5_needMarks_0 : decode cX5_needMarks 0 = .ok (.iload_n 0, 1) := by decide +kernel
theorem dX5_needMarks_1 : decode cX5_needMarks 1 = .ok (.iconst 1, 1) := by decide +kernel
theorem dX5_needMarks_2 : decode cX5_needMarks 2 = .ok (.iload_n 1, 1) := by decide +kernel
theorem dX5_needMarks_3 : decode cX5_needMarks 3 = .ok (.invokestatic 112, 3) := by decide +kernel
theorem dX5_needMarks_6 : decode cX5_needMarks 6 = .ok (.ifCond .ne 14, 3) := by decide +kernel
theorem dX5_needMarks_9 : decode cX5_needMarks 9 = .ok (.new 62, 3) := by decide +kernel
theorem dX5_needMarks_12 : decode cX5_needMarks 12 = .ok (.dup, 1) := by decide +kernel
theorem dX5_needMarks_13 : decode cX5_needMarks 13 = .ok (.ldc_w 310, 3) := by decide +kernel
theorem dX5_needMarks_16 : decode cX5_needMarks 16 = .ok (.invokespecial 66, 3) := by decide +kernel
theorem dX5_needMarks_19 : decode cX5_needMarks 19 = .ok (.athrow, 1) := by decide +kernel
theorem dX5_needMarks_20 : decode cX5_needMarks 20 = .ok (.return_, 1) := by decide +kernel
theorem dX5_needRoomForCarrier_0 : decode cX5_needRoomForCarrier 0 = .ok (.aload_n 0, 1) := by decide +kernel
theorem dX5_needRoomForCarrier_1 : decode cX5_needRoomForCarrier 1 = .ok (.getfield 10, 3) := by decide +kernel
theorem dX5_needRoomForCarrier_4 : decode cX5_needRoomForCarrier 4 = .ok (.getfield 80, 3) := by decide +kernel
theorem dX5_needRoomForCarrier_7 : decode cX5_needRoomForCarrier 7 = .ok (.bipush 10, 2) := by decide +kernel
theorem dX5_needRoomForCarrier_9 : decode cX5_needRoomForCarrier 9 = .ok (.if_icmp .lt 14, 3) := by decide +kernel
theorem dX5_needRoomForCarrier_12 : decode cX5_needRoomForCarrier 12 = .ok (.new 104, 3) := by decide +kernel
theorem dX5_needRoomForCarrier_15 : decode cX5_needRoomForCarrier 15 = .ok (.dup, 1) := by decide +kernel
theorem dX5_needRoomForCarrier_16 : decode cX5_needRoomForCarrier 16 = .ok (.ldc_w 312, 3) := by decide +kernel
theorem dX5_needRoomForCarrier_19 : decode cX5_needRoomForCarrier 19 = .ok (.invokespecial 108, 3) := by decide +kernel
theorem dX5_needRoomForCarrier_22 : decode cX5_needRoomForCarrier 22 = .ok (.athrow, 1) := by decide +kernel
theorem dX5_needRoomForCarrier_23 : decode cX5_needRoomForCarrier 23 = .ok (.return_, 1) := by decide +kernel
theorem dX5_needCarrier_0 : decode cX5_needCarrier 0 = .ok (.aload_n 0, 1) := by decide +kernel
theorem dX5_needCarrier_1 : decode cX5_needCarrier 1 = .ok (.getfield 10, 3) := by decide +kernel
theorem dX5_needCarrier_4 : decode cX5_needCarrier 4 = .ok (.iload_n 1, 1) := by decide +kernel
theorem dX5_needCarrier_5 : decode cX5_needCarrier 5 = .ok (.invokevirtual 314, 3) := by decide +kernel
theorem dX5_needCarrier_8 : decode cX5_needCarrier 8 = .ok (.ifCond .ne 14, 3) := by decide +kernel
theorem dX5_needCarrier_11 : decode cX5_needCarrier 11 = .ok (.new 157, 3) := by decide +kernel
theorem dX5_needCarrier_14 : decode cX5_needCarrier 14 = .ok (.dup, 1) := by decide +kernel
theorem dX5_needCarrier_15 : decode cX5_needCarrier 15 = .ok (.ldc_w 317, 3) := by decide +kernel
theorem dX5_needCarrier_18 : decode cX5_needCarrier 18 = .ok (.invokespecial 161, 3) := by decide +kernel
theorem dX5_needCarrier_21 : decode cX5_needCarrier 21 = .ok (.athrow, 1) := by decide +kernel
theorem dX5_needCarrier_22 : decode cX5_needCarrier 22 = .ok (.return_, 1) := by decide +kernel
theorem dX5_needMixer_0 : decode cX5_needMixer 0 = .ok (.aload_n 0, 1) := by decide +kernel
theorem dX5_needMixer_1 : decode cX5_needMixer 1 = .ok (.getfield 10, 3) := by decide +kernel
theorem dX5_needMixer_4 : decode cX5_needMixer 4 = .ok (.iload_n 1, 1) := by decide +kernel
theorem dX5_needMixer_5 : decode cX5_needMixer 5 = .ok (.invokevirtual 319, 3) := by decide +kernel
theorem dX5_needMixer_8 : decode cX5_needMixer 8 = .ok (.ifCond .ne 14, 3) := by decide +kernel
theorem dX5_needMixer_11 : decode cX5_needMixer 11 = .ok (.new 157, 3) := by decide +kernel
theorem dX5_needMixer_14 : decode cX5_needMixer 14 = .ok (.dup, 1) := by decide +kernel
theorem dX5_needMixer_15 : decode cX5_needMixer 15 = .ok (.ldc_w 322, 3) := by decide +kernel
theorem dX5_needMixer_18 : decode cX5_needMixer 18 = .ok (.invokespecial 161, 3) := by decide +kernel
theorem dX5_needMixer_21 : decode cX5_needMixer 21 = .ok (.athrow, 1) := by decide +kernel
theorem dX5_needMixer_22 : decode cX5_needMixer 22 = .ok (.return_, 1) := by decide +kernel
theorem dX5_needSetOfCarriers_0 : decode cX5_needSetOfCarriers 0 = .ok (.iload_n 1, 1) := by decide +kernel
theorem dX5_needSetOfCarriers_1 : decode cX5_needSetOfCarriers 1 = .ok (.ifCond .lt 14, 3) := by decide +kernel
theorem dX5_needSetOfCarriers_4 : decode cX5_needSetOfCarriers 4 = .ok (.iload_n 1, 1) := by decide +kernel
theorem dX5_needSetOfCarriers_5 : decode cX5_needSetOfCarriers 5 = .ok (.aload_n 0, 1) := by decide +kernel
theorem dX5_needSetOfCarriers_6 : decode cX5_needSetOfCarriers 6 = .ok (.getfield 10, 3) := by decide +kernel
theorem dX5_needSetOfCarriers_9 : decode cX5_needSetOfCarriers 9 = .ok (.invokevirtual 146, 3) := by decide +kernel
theorem dX5_needSetOfCarriers_12 : decode cX5_needSetOfCarriers 12 = .ok (.if_icmp .le 14, 3) := by decide +kernel
theorem dX5_needSetOfCarriers_15 : decode cX5_needSetOfCarriers 15 = .ok (.new 62, 3) := by decide +kernel
theorem dX5_needSetOfCarriers_18 : decode cX5_needSetOfCarriers 18 = .ok (.dup, 1) := by decide +kernel
theorem dX5_needSetOfCarriers_19 : decode cX5_needSetOfCarriers 19 = .ok (.ldc_w 324, 3) := by decide +kernel
theorem dX5_needSetOfCarriers_22 : decode cX5_needSetOfCarriers 22 = .ok (.invokespecial 66, 3) := by decide +kernel
theorem dX5_needSetOfCarriers_25 : decode cX5_needSetOfCarriers 25 = .ok (.athrow, 1) := by decide +kernel
theorem dX5_needSetOfCarriers_26 : decode cX5_needSetOfCarriers 26 = .ok (.return_, 1) := by decide +kernel
theorem dX5_lowestOf_0 : decode cX5_lowestOf 0 = .ok (.iconst 0, 1) := by decide +kernel
theorem dX5_lowestOf_1 : decode cX5_lowestOf 1 = .ok (.istore_n 2, 1) := by decide +kernel
theorem dX5_lowestOf_2 : decode cX5_lowestOf 2 = .ok (.iload_n 2, 1) := by decide +kernel
theorem dX5_lowestOf_3 : decode cX5_lowestOf 3 = .ok (.bipush 64, 2) := by decide +kernel
theorem dX5_lowestOf_5 : decode cX5_lowestOf 5 = .ok (.if_icmp .ge 19, 3) := by decide +kernel
theorem dX5_lowestOf_8 : decode cX5_lowestOf 8 = .ok (.iload_n 2, 1) := by decide +kernel
theorem dX5_lowestOf_9 : decode cX5_lowestOf 9 = .ok (.lload_n 0, 1) := by decide +kernel
theorem dX5_lowestOf_10 : decode cX5_lowestOf 10 = .ok (.invokestatic 326, 3) := by decide +kernel
theorem dX5_lowestOf_13 : decode cX5_lowestOf 13 = .ok (.ifCond .eq 5, 3) := by decide +kernel
theorem dX5_lowestOf_16 : decode cX5_lowestOf 16 = .ok (.iload_n 2, 1) := by decide +kernel
theorem dX5_lowestOf_17 : decode cX5_lowestOf 17 = .ok (.ireturn, 1) := by decide +kernel
theorem dX5_lowestOf_18 : decode cX5_lowestOf 18 = .ok (.iinc 2 1, 3) := by decide +kernel
theorem dX5_lowestOf_21 : decode cX5_lowestOf 21 = .ok (.goto (-19), 3) := by decide +kernel
theorem dX5_lowestOf_24 : decode cX5_lowestOf 24 = .ok (.iconst (-1), 1) := by decide +kernel
theorem dX5_lowestOf_25 : decode cX5_lowestOf 25 = .ok (.ireturn, 1) := by decide +kernel
theorem dX5_falloutOf_0 : decode cX5_falloutOf 0 = .ok (.aload_n 0, 1) := by decide +kernel
theorem dX5_falloutOf_1 : decode cX5_falloutOf 1 = .ok (.getfield 29, 3) := by decide +kernel
theorem dX5_falloutOf_4 : decode cX5_falloutOf 4 = .ok (.aload_n 0, 1) := by decide +kernel
theorem dX5_falloutOf_5 : decode cX5_falloutOf 5 = .ok (.getfield 10, 3) := by decide +kernel
theorem dX5_falloutOf_8 : decode cX5_falloutOf 8 = .ok (.iload_n 1, 1) := by decide +kernel
theorem dX5_falloutOf_9 : decode cX5_falloutOf 9 = .ok (.invokevirtual 150, 3) := by decide +kernel
theorem dX5_falloutOf_12 : decode cX5_falloutOf 12 = .ok (.aload_n 0, 1) := by decide +kernel
theorem dX5_falloutOf_13 : decode cX5_falloutOf 13 = .ok (.getfield 29, 3) := by decide +kernel
theorem dX5_falloutOf_16 : decode cX5_falloutOf 16 = .ok (.invokevirtual 330, 3) := by decide +kernel
theorem dX5_falloutOf_19 : decode cX5_falloutOf 19 = .ok (.lreturn, 1) := by decide +kernel
theorem dX5_standsClean_0 : decode cX5_standsClean 0 = .ok (.aload_n 0, 1) := by decide +kernel
theorem dX5_standsClean_1 : decode cX5_standsClean 1 = .ok (.getfield 36, 3) := by decide +kernel
theorem dX5_standsClean_4 : decode cX5_standsClean 4 = .ok (.aload_n 0, 1) := by decide +kernel
theorem dX5_standsClean_5 : decode cX5_standsClean 5 = .ok (.getfield 10, 3) := by decide +kernel
theorem dX5_standsClean_8 : decode cX5_standsClean 8 = .ok (.invokevirtual 331, 3) := by decide +kernel
theorem dX5_standsClean_11 : decode cX5_standsClean 11 = .ok (.iconst 0, 1) := by decide +kernel
theorem dX5_standsClean_12 : decode cX5_standsClean 12 = .ok (.istore_n 2, 1) := by decide +kernel
theorem dX5_standsClean_13 : decode cX5_standsClean 13 = .ok (.iload_n 2, 1) := by decide +kernel
theorem dX5_standsClean_14 : decode cX5_standsClean 14 = .ok (.aload_n 0, 1) := by decide +kernel
theorem dX5_standsClean_15 : decode cX5_standsClean 15 = .ok (.getfield 10, 3) := by decide +kernel
theorem dX5_standsClean_18 : decode cX5_standsClean 18 = .ok (.getfield 80, 3) := by decide +kernel
theorem dX5_standsClean_21 : decode cX5_standsClean 21 = .ok (.if_icmp .ge 46, 3) := by decide +kernel
theorem dX5_standsClean_24 : decode cX5_standsClean 24 = .ok (.iload_n 2, 1) := by decide +kernel
theorem dX5_standsClean_25 : decode cX5_standsClean 25 = .ok (.iload_n 1, 1) := by decide +kernel
theorem dX5_standsClean_26 : decode cX5_standsClean 26 = .ok (.i2l, 1) := by decide +kernel
theorem dX5_standsClean_27 : decode cX5_standsClean 27 = .ok (.invokestatic 326, 3) := by decide +kernel
theorem dX5_standsClean_30 : decode cX5_standsClean 30 = .ok (.ifCond .eq 31, 3) := by decide +kernel
theorem dX5_standsClean_33 : decode cX5_standsClean 33 = .ok (.aload_n 0, 1) := by decide +kernel
theorem dX5_standsClean_34 : decode cX5_standsClean 34 = .ok (.getfield 36, 3) := by decide +kernel
theorem dX5_standsClean_37 : decode cX5_standsClean 37 = .ok (.aload_n 0, 1) := by decide +kernel
theorem dX5_standsClean_38 : decode cX5_standsClean 38 = .ok (.getfield 10, 3) := by decide +kernel
theorem dX5_standsClean_41 : decode cX5_standsClean 41 = .ok (.iload_n 2, 1) := by decide +kernel
theorem dX5_standsClean_42 : decode cX5_standsClean 42 = .ok (.invokevirtual 92, 3) := by decide +kernel
theorem dX5_standsClean_45 : decode cX5_standsClean 45 = .ok (.aload_n 0, 1) := by decide +kernel
theorem dX5_standsClean_46 : decode cX5_standsClean 46 = .ok (.getfield 10, 3) := by decide +kernel
theorem dX5_standsClean_49 : decode cX5_standsClean 49 = .ok (.iload_n 2, 1) := by decide +kernel
theorem dX5_standsClean_50 : decode cX5_standsClean 50 = .ok (.invokevirtual 143, 3) := by decide +kernel
theorem dX5_standsClean_53 : decode cX5_standsClean 53 = .ok (.invokevirtual 334, 3) := by decide +kernel
theorem dX5_standsClean_56 : decode cX5_standsClean 56 = .ok (.ifCond .ne 5, 3) := by decide +kernel
theorem dX5_standsClean_59 : decode cX5_standsClean 59 = .ok (.iconst 0, 1) := by decide +kernel
theorem dX5_standsClean_60 : decode cX5_standsClean 60 = .ok (.ireturn, 1) := by decide +kernel
theorem dX5_standsClean_61 : decode cX5_standsClean 61 = .ok (.iinc 2 1, 3) := by decide +kernel
theorem dX5_standsClean_64 : decode cX5_standsClean 64 = .ok (.goto (-51), 3) := by decide +kernel
theorem dX5_standsClean_67 : decode cX5_standsClean 67 = .ok (.iconst 1, 1) := by decide +kernel
theorem dX5_standsClean_68 : decode cX5_standsClean 68 = .ok (.ireturn, 1) := by decide +kernel
theorem dX5_openChannels_0 : decode cX5_openChannels 0 = .ok (.aload_n 0, 1) := by decide +kernel
theorem dX5_openChannels_1 : decode cX5_openChannels 1 = .ok (.aload_n 0, 1) := by decide +kernel
theorem dX5_openChannels_2 : decode cX5_openChannels 2 = .ok (.getfield 10, 3) := by decide +kernel
theorem dX5_openChannels_5 : decode cX5_openChannels 5 = .ok (.invokevirtual 146, 3) := by decide +kernel
theorem dX5_openChannels_8 : decode cX5_openChannels 8 = .ok (.invokevirtual 176, 3) := by decide +kernel
theorem dX5_openChannels_11 : decode cX5_openChannels 11 = .ok (.ifCond .ne 5, 3) := by decide +kernel
theorem dX5_openChannels_14 : decode cX5_openChannels 14 = .ok (.lconst 0, 1) := by decide +kernel
theorem dX5_openChannels_15 : decode cX5_openChannels 15 = .ok (.lreturn, 1) := by decide +kernel
theorem dX5_openChannels_16 : decode cX5_openChannels 16 = .ok (.lconst 0, 1) := by decide +kernel
theorem dX5_openChannels_17 : decode cX5_openChannels 17 = .ok (.lstore_n 2, 1) := by decide +kernel
theorem dX5_openChannels_18 : decode cX5_openChannels 18 = .ok (.iconst 0, 1) := by decide +kernel
theorem dX5_openChannels_19 : decode cX5_openChannels 19 = .ok (.istore 4, 2) := by decide +kernel
theorem dX5_openChannels_21 : decode cX5_openChannels 21 = .ok (.iload 4, 2) := by decide +kernel
theorem dX5_openChannels_23 : decode cX5_openChannels 23 = .ok (.bipush 64, 2) := by decide +kernel
theorem dX5_openChannels_25 : decode cX5_openChannels 25 = .ok (.if_icmp .ge 36, 3) := by decide +kernel
theorem dX5_openChannels_28 : decode cX5_openChannels 28 = .ok (.aload_n 0, 1) := by decide +kernel
theorem dX5_openChannels_29 : decode cX5_openChannels 29 = .ok (.getfield 36, 3) := by decide +kernel
theorem dX5_openChannels_32 : decode cX5_openChannels 32 = .ok (.iload 4, 2) := by decide +kernel
theorem dX5_openChannels_34 : decode cX5_openChannels 34 = .ok (.iload_n 1, 1) := by decide +kernel
theorem dX5_openChannels_35 : decode cX5_openChannels 35 = .ok (.invokevirtual 334, 3) := by decide +kernel
theorem dX5_openChannels_38 : decode cX5_openChannels 38 = .ok (.ifCond .eq 17, 3) := by decide +kernel
theorem dX5_openChannels_41 : decode cX5_openChannels 41 = .ok (.lload_n 2, 1) := by decide +kernel
theorem dX5_openChannels_42 : decode cX5_openChannels 42 = .ok (.lconst 1, 1) := by decide +kernel
theorem dX5_openChannels_43 : decode cX5_openChannels 43 = .ok (.iload 4, 2) := by decide +kernel
theorem dX5_openChannels_45 : decode cX5_openChannels 45 = .ok (.lshl, 1) := by decide +kernel
theorem dX5_openChannels_46 : decode cX5_openChannels 46 = .ok (.lor, 1) := by decide +kernel
theorem dX5_openChannels_47 : decode cX5_openChannels 47 = .ok (.lstore_n 2, 1) := by decide +kernel
theorem dX5_openChannels_48 : decode cX5_openChannels 48 = .ok (.aload_n 0, 1) := by decide +kernel
theorem dX5_openChannels_49 : decode cX5_openChannels 49 = .ok (.getfield 36, 3) := by decide +kernel
theorem dX5_openChannels_52 : decode cX5_openChannels 52 = .ok (.invokevirtual 338, 3) := by decide +kernel
theorem dX5_openChannels_55 : decode cX5_openChannels 55 = .ok (.iinc 4 1, 3) := by decide +kernel
theorem dX5_openChannels_58 : decode cX5_openChannels 58 = .ok (.goto (-37), 3) := by decide +kernel
theorem dX5_openChannels_61 : decode cX5_openChannels 61 = .ok (.lload_n 2, 1) := by decide +kernel
theorem dX5_openChannels_62 : decode cX5_openChannels 62 = .ok (.lreturn, 1) := by decide +kernel
theorem dX5_findBestRuler_0 : decode cX5_findBestRuler 0 = .ok (.iconst 0, 1) := by decide +kernel
theorem dX5_findBestRuler_1 : decode cX5_findBestRuler 1 = .ok (.istore_n 2, 1) := by decide +kernel
theorem dX5_findBestRuler_2 : decode cX5_findBestRuler 2 = .ok (.iload_n 2, 1) := by decide +kernel
theorem dX5_findBestRuler_3 : decode cX5_findBestRuler 3 = .ok (.bipush 40, 2) := by decide +kernel
theorem dX5_findBestRuler_5 : decode cX5_findBestRuler 5 = .ok (.if_icmp .gt 21, 3) := by decide +kernel
theorem dX5_findBestRuler_8 : decode cX5_findBestRuler 8 = .ok (.aload_n 0, 1) := by decide +kernel
theorem dX5_findBestRuler_9 : decode cX5_findBestRuler 9 = .ok (.iload_n 1, 1) := by decide +kernel
theorem dX5_findBestRuler_10 : decode cX5_findBestRuler 10 = .ok (.iload_n 2, 1) := by decide +kernel
theorem dX5_findBestRuler_11 : decode cX5_findBestRuler 11 = .ok (.iconst 1, 1) := by decide +kernel
theorem dX5_findBestRuler_12 : decode cX5_findBestRuler 12 = .ok (.invokevirtual 201, 3) := by decide +kernel
theorem dX5_findBestRuler_15 : decode cX5_findBestRuler 15 = .ok (.ifCond .le 5, 3) := by decide +kernel
theorem dX5_findBestRuler_18 : decode cX5_findBestRuler 18 = .ok (.iload_n 2, 1) := by decide +kernel
theorem dX5_findBestRuler_19 : decode cX5_findBestRuler 19 = .ok (.ireturn, 1) := by decide +kernel
theorem dX5_findBestRuler_20 : decode cX5_findBestRuler 20 = .ok (.iinc 2 1, 3) := by decide +kernel
theorem dX5_findBestRuler_23 : decode cX5_findBestRuler 23 = .ok (.goto (-21), 3) := by decide +kernel
theorem dX5_findBestRuler_26 : decode cX5_findBestRuler 26 = .ok (.iconst (-1), 1) := by decide +kernel
theorem dX5_findBestRuler_27 : decode cX5_findBestRuler 27 = .ok (.ireturn, 1) := by decide +kernel
theorem dX5_countRulers_0 : decode cX5_countRulers 0 = .ok (.aload_n 0, 1) := by decide +kernel
theorem dX5_countRulers_1 : decode cX5_countRulers 1 = .ok (.getfield 36, 3) := by decide +kernel
theorem dX5_countRulers_4 : decode cX5_countRulers 4 = .ok (.aload_n 0, 1) := by decide +kernel
theorem dX5_countRulers_5 : decode cX5_countRulers 5 = .ok (.getfield 10, 3) := by decide +kernel
theorem dX5_countRulers_8 : decode cX5_countRulers 8 = .ok (.invokevirtual 331, 3) := by decide +kernel
theorem dX5_countRulers_11 : decode cX5_countRulers 11 = .ok (.aload_n 0, 1) := by decide +kernel
theorem dX5_countRulers_12 : decode cX5_countRulers 12 = .ok (.getfield 36, 3) := by decide +kernel
theorem dX5_countRulers_15 : decode cX5_countRulers 15 = .ok (.iconst 0, 1) := by decide +kernel
theorem dX5_countRulers_16 : decode cX5_countRulers 16 = .ok (.bipush 60, 2) := by decide +kernel
theorem dX5_countRulers_18 : decode cX5_countRulers 18 = .ok (.invokevirtual 334, 3) := by decide +kernel
theorem dX5_countRulers_21 : decode cX5_countRulers 21 = .ok (.pop, 1) := by decide +kernel
theorem dX5_countRulers_22 : decode cX5_countRulers 22 = .ok (.iload_n 1, 1) := by decide +kernel
theorem dX5_countRulers_23 : decode cX5_countRulers 23 = .ok (.iconst 1, 1) := by decide +kernel
theorem dX5_countRulers_24 : decode cX5_countRulers 24 = .ok (.if_icmp .ne 13, 3) := by decide +kernel
theorem dX5_countRulers_27 : decode cX5_countRulers 27 = .ok (.iload_n 2, 1) := by decide +kernel
theorem dX5_countRulers_28 : decode cX5_countRulers 28 = .ok (.ifCond .ne 7, 3) := by decide +kernel
theorem dX5_countRulers_31 : decode cX5_countRulers 31 = .ok (.iconst 1, 1) := by decide +kernel
theorem dX5_countRulers_32 : decode cX5_countRulers 32 = .ok (.goto 4, 3) := by decide +kernel
theorem dX5_countRulers_35 : decode cX5_countRulers 35 = .ok (.iconst 0, 1) := by decide +kernel
theorem dX5_countRulers_36 : decode cX5_countRulers 36 = .ok (.ireturn, 1) := by decide +kernel
theorem dX5_countRulers_37 : decode cX5_countRulers 37 = .ok (.aload_n 0, 1) := by decide +kernel
theorem dX5_countRulers_38 : decode cX5_countRulers 38 = .ok (.getfield 36, 3) := by decide +kernel
theorem dX5_countRulers_41 : decode cX5_countRulers 41 = .ok (.iload_n 2, 1) := by decide +kernel
theorem dX5_countRulers_42 : decode cX5_countRulers 42 = .ok (.bipush 60, 2) := by decide +kernel
theorem dX5_countRulers_44 : decode cX5_countRulers 44 = .ok (.invokevirtual 334, 3) := by decide +kernel
theorem dX5_countRulers_47 : decode cX5_countRulers 47 = .ok (.ifCond .ne 5, 3) := by decide +kernel
theorem dX5_countRulers_50 : decode cX5_countRulers 50 = .ok (.iconst 0, 1) := by decide +kernel
theorem dX5_countRulers_51 : decode cX5_countRulers 51 = .ok (.ireturn, 1) := by decide +kernel
theorem dX5_countRulers_52 : decode cX5_countRulers 52 = .ok (.aload_n 0, 1) := by decide +kernel
theorem dX5_countRulers_53 : decode cX5_countRulers 53 = .ok (.getfield 36, 3) := by decide +kernel
theorem dX5_countRulers_56 : decode cX5_countRulers 56 = .ok (.iload_n 1, 1) := by decide +kernel
theorem dX5_countRulers_57 : decode cX5_countRulers 57 = .ok (.iconst 2, 1) := by decide +kernel
theorem dX5_countRulers_58 : decode cX5_countRulers 58 = .ok (.isub, 1) := by decide +kernel
theorem dX5_countRulers_59 : decode cX5_countRulers 59 = .ok (.aload_n 0, 1) := by decide +kernel
theorem dX5_countRulers_60 : decode cX5_countRulers 60 = .ok (.getfield 10, 3) := by decide +kernel
theorem dX5_countRulers_63 : decode cX5_countRulers 63 = .ok (.getfield 135, 3) := by decide +kernel
theorem dX5_countRulers_66 : decode cX5_countRulers 66 = .ok (.iload_n 2, 1) := by decide +kernel
theorem dX5_countRulers_67 : decode cX5_countRulers 67 = .ok (.iload_n 3, 1) := by decide +kernel
theorem dX5_countRulers_68 : decode cX5_countRulers 68 = .ok (.invokestatic 341, 3) := by decide +kernel
theorem dX5_countRulers_71 : decode cX5_countRulers 71 = .ok (.ireturn, 1) := by decide +kernel
theorem dX5_countInner_0 : decode cX5_countInner 0 = .ok (.iload_n 1, 1) := by decide +kernel
theorem dX5_countInner_1 : decode cX5_countInner 1 = .ok (.ifCond .gt 5, 3) := by decide +kernel
theorem dX5_countInner_4 : decode cX5_countInner 4 = .ok (.iconst 1, 1) := by decide +kernel
theorem dX5_countInner_5 : decode cX5_countInner 5 = .ok (.ireturn, 1) := by decide +kernel
theorem dX5_countInner_6 : decode cX5_countInner 6 = .ok (.iconst 0, 1) := by decide +kernel
theorem dX5_countInner_7 : decode cX5_countInner 7 = .ok (.istore 5, 2) := by decide +kernel
theorem dX5_countInner_9 : decode cX5_countInner 9 = .ok (.iload_n 3, 1) := by decide +kernel
theorem dX5_countInner_10 : decode cX5_countInner 10 = .ok (.iload_n 1, 1) := by decide +kernel
theorem dX5_countInner_11 : decode cX5_countInner 11 = .ok (.aload_n 0, 1) := by decide +kernel
theorem dX5_countInner_12 : decode cX5_countInner 12 = .ok (.getfield 345, 3) := by decide +kernel
theorem dX5_countInner_15 : decode cX5_countInner 15 = .ok (.imul, 1) := by decide +kernel
theorem dX5_countInner_16 : decode cX5_countInner 16 = .ok (.isub, 1) := by decide +kernel
theorem dX5_countInner_17 : decode cX5_countInner 17 = .ok (.istore 6, 2) := by decide +kernel
theorem dX5_countInner_19 : decode cX5_countInner 19 = .ok (.iload_n 2, 1) := by decide +kernel
theorem dX5_countInner_20 : decode cX5_countInner 20 = .ok (.istore 7, 2) := by decide +kernel
theorem dX5_countInner_22 : decode cX5_countInner 22 = .ok (.iload 7, 2) := by decide +kernel
theorem dX5_countInner_24 : decode cX5_countInner 24 = .ok (.iload 6, 2) := by decide +kernel
theorem dX5_countInner_26 : decode cX5_countInner 26 = .ok (.if_icmp .gt 63, 3) := by decide +kernel
theorem dX5_countInner_29 : decode cX5_countInner 29 = .ok (.iload 5, 2) := by decide +kernel
theorem dX5_countInner_31 : decode cX5_countInner 31 = .ok (.iload 4, 2) := by decide +kernel
theorem dX5_countInner_33 : decode cX5_countInner 33 = .ok (.if_icmp .ge 56, 3) := by decide +kernel
theorem dX5_countInner_36 : decode cX5_countInner 36 = .ok (.aload_n 0, 1) := by decide +kernel
theorem dX5_countInner_37 : decode cX5_countInner 37 = .ok (.iload 7, 2) := by decide +kernel
theorem dX5_countInner_39 : decode cX5_countInner 39 = .ok (.bipush 60, 2) := by decide +kernel
theorem dX5_countInner_41 : decode cX5_countInner 41 = .ok (.invokevirtual 334, 3) := by decide +kernel
theorem dX5_countInner_44 : decode cX5_countInner 44 = .ok (.ifCond .eq 39, 3) := by decide +kernel
theorem dX5_countInner_47 : decode cX5_countInner 47 = .ok (.iload 5, 2) := by decide +kernel
theorem dX5_countInner_49 : decode cX5_countInner 49 = .ok (.aload_n 0, 1) := by decide +kernel
theorem dX5_countInner_50 : decode cX5_countInner 50 = .ok (.iload_n 1, 1) := by decide +kernel
theorem dX5_countInner_51 : decode cX5_countInner 51 = .ok (.iconst 1, 1) := by decide +kernel
theorem dX5_countInner_52 : decode cX5_countInner 52 = .ok (.isub, 1) := by decide +kernel
theorem dX5_countInner_53 : decode cX5_countInner 53 = .ok (.iload 7, 2) := by decide +kernel
theorem dX5_countInner_55 : decode cX5_countInner 55 = .ok (.aload_n 0, 1) := by decide +kernel
theorem dX5_countInner_56 : decode cX5_countInner 56 = .ok (.getfield 345, 3) := by decide +kernel
theorem dX5_countInner_59 : decode cX5_countInner 59 = .ok (.iadd, 1) := by decide +kernel
theorem dX5_countInner_60 : decode cX5_countInner 60 = .ok (.iload_n 3, 1) := by decide +kernel
theorem dX5_countInner_61 : decode cX5_countInner 61 = .ok (.iload 4, 2) := by decide +kernel
theorem dX5_countInner_63 : decode cX5_countInner 63 = .ok (.iload 5, 2) := by decide +kernel
theorem dX5_countInner_65 : decode cX5_countInner 65 = .ok (.isub, 1) := by decide +kernel
theorem dX5_countInner_66 : decode cX5_countInner 66 = .ok (.invokestatic 341, 3) := by decide +kernel
theorem dX5_countInner_69 : decode cX5_countInner 69 = .ok (.iadd, 1) := by decide +kernel
theorem dX5_countInner_70 : decode cX5_countInner 70 = .ok (.istore 5, 2) := by decide +kernel
theorem dX5_countInner_72 : decode cX5_countInner 72 = .ok (.iload 5, 2) := by decide +kernel
theorem dX5_countInner_74 : decode cX5_countInner 74 = .ok (.iload 4, 2) := by decide +kernel
theorem dX5_countInner_76 : decode cX5_countInner 76 = .ok (.if_icmp .ge 7, 3) := by decide +kernel
theorem dX5_countInner_79 : decode cX5_countInner 79 = .ok (.aload_n 0, 1) := by decide +kernel
theorem dX5_countInner_80 : decode cX5_countInner 80 = .ok (.invokevirtual 338, 3) := by decide +kernel
theorem dX5_countInner_83 : decode cX5_countInner 83 = .ok (.iinc 7 1, 3) := by decide +kernel
theorem dX5_countInner_86 : decode cX5_countInner 86 = .ok (.goto (-64), 3) := by decide +kernel
theorem dX5_countInner_89 : decode cX5_countInner 89 = .ok (.iload 5, 2) := by decide +kernel
theorem dX5_countInner_91 : decode cX5_countInner 91 = .ok (.ireturn, 1) := by decide +kernel
theorem dX5_mixActive_0 : decode cX5_mixActive 0 = .ok (.iconst 0, 1) := by decide +kernel
theorem dX5_mixActive_1 : decode cX5_mixActive 1 = .ok (.istore_n 2, 1) := by decide +kernel
theorem dX5_mixActive_2 : decode cX5_mixActive 2 = .ok (.iload_n 2, 1) := by decide +kernel
theorem dX5_mixActive_3 : decode cX5_mixActive 3 = .ok (.aload_n 0, 1) := by decide +kernel
theorem dX5_mixActive_4 : decode cX5_mixActive 4 = .ok (.getfield 47, 3) := by decide +kernel
theorem dX5_mixActive_7 : decode cX5_mixActive 7 = .ok (.arraylength, 1) := by decide +kernel
theorem dX5_mixActive_8 : decode cX5_mixActive 8 = .ok (.if_icmp .ge 29, 3) := by decide +kernel
theorem dX5_mixActive_11 : decode cX5_mixActive 11 = .ok (.aload_n 0, 1) := by decide +kernel
theorem dX5_mixActive_12 : decode cX5_mixActive 12 = .ok (.getfield 47, 3) := by decide +kernel
theorem dX5_mixActive_15 : decode cX5_mixActive 15 = .ok (.iload_n 2, 1) := by decide +kernel
theorem dX5_mixActive_16 : decode cX5_mixActive 16 = .ok (.aload_n 0, 1) := by decide +kernel
theorem dX5_mixActive_17 : decode cX5_mixActive 17 = .ok (.aload_n 0, 1) := by decide +kernel
theorem dX5_mixActive_18 : decode cX5_mixActive 18 = .ok (.getfield 10, 3) := by decide +kernel
theorem dX5_mixActive_21 : decode cX5_mixActive 21 = .ok (.iload_n 2, 1) := by decide +kernel
theorem dX5_mixActive_22 : decode cX5_mixActive 22 = .ok (.invokevirtual 223, 3) := by decide +kernel
theorem dX5_mixActive_25 : decode cX5_mixActive 25 = .ok (.iload_n 1, 1) := by decide +kernel
theorem dX5_mixActive_26 : decode cX5_mixActive 26 = .ok (.iand, 1) := by decide +kernel
theorem dX5_mixActive_27 : decode cX5_mixActive 27 = .ok (.invokevirtual 169, 3) := by decide +kernel
theorem dX5_mixActive_30 : decode cX5_mixActive 30 = .ok (.lastore, 1) := by decide +kernel
theorem dX5_mixActive_31 : decode cX5_mixActive 31 = .ok (.iinc 2 1, 3) := by decide +kernel
theorem dX5_mixActive_34 : decode cX5_mixActive 34 = .ok (.goto (-32), 3) := by decide +kernel
theorem dX5_mixActive_37 : decode cX5_mixActive 37 = .ok (.return_, 1) := by decide +kernel
theorem dX5_mixersOn_0 : decode cX5_mixersOn 0 = .ok (.iconst 0, 1) := by decide +kernel
theorem dX5_mixersOn_1 : decode cX5_mixersOn 1 = .ok (.istore_n 2, 1) := by decide +kernel
theorem dX5_mixersOn_2 : decode cX5_mixersOn 2 = .ok (.iconst 0, 1) := by decide +kernel
theorem dX5_mixersOn_3 : decode cX5_mixersOn 3 = .ok (.istore_n 3, 1) := by decide +kernel
theorem dX5_mixersOn_4 : decode cX5_mixersOn 4 = .ok (.iload_n 3, 1) := by decide +kernel
theorem dX5_mixersOn_5 : decode cX5_mixersOn 5 = .ok (.aload_n 0, 1) := by decide +kernel
theorem dX5_mixersOn_6 : decode cX5_mixersOn 6 = .ok (.getfield 47, 3) := by decide +kernel
theorem dX5_mixersOn_9 : decode cX5_mixersOn 9 = .ok (.arraylength, 1) := by decide +kernel
theorem dX5_mixersOn_10 : decode cX5_mixersOn 10 = .ok (.if_icmp .ge 28, 3) := by decide +kernel
theorem dX5_mixersOn_13 : decode cX5_mixersOn 13 = .ok (.iload_n 1, 1) := by decide +kernel
theorem dX5_mixersOn_14 : decode cX5_mixersOn 14 = .ok (.aload_n 0, 1) := by decide +kernel
theorem dX5_mixersOn_15 : decode cX5_mixersOn 15 = .ok (.getfield 47, 3) := by decide +kernel
theorem dX5_mixersOn_18 : decode cX5_mixersOn 18 = .ok (.iload_n 3, 1) := by decide +kernel
theorem dX5_mixersOn_19 : decode cX5_mixersOn 19 = .ok (.laload, 1) := by decide +kernel
theorem dX5_mixersOn_20 : decode cX5_mixersOn 20 = .ok (.invokestatic 326, 3) := by decide +kernel
theorem dX5_mixersOn_23 : decode cX5_mixersOn 23 = .ok (.ifCond .eq 9, 3) := by decide +kernel
theorem dX5_mixersOn_26 : decode cX5_mixersOn 26 = .ok (.iload_n 2, 1) := by decide +kernel
theorem dX5_mixersOn_27 : decode cX5_mixersOn 27 = .ok (.iconst 1, 1) := by decide +kernel
theorem dX5_mixersOn_28 : decode cX5_mixersOn 28 = .ok (.iload_n 3, 1) := by decide +kernel
theorem dX5_mixersOn_29 : decode cX5_mixersOn 29 = .ok (.ishl, 1) := by decide +kernel
theorem dX5_mixersOn_30 : decode cX5_mixersOn 30 = .ok (.ior, 1) := by decide +kernel
theorem dX5_mixersOn_31 : decode cX5_mixersOn 31 = .ok (.istore_n 2, 1) := by decide +kernel
theorem dX5_mixersOn_32 : decode cX5_mixersOn 32 = .ok (.iinc 3 1, 3) := by decide +kernel
theorem dX5_mixersOn_35 : decode cX5_mixersOn 35 = .ok (.goto (-31), 3) := by decide +kernel
theorem dX5_mixersOn_38 : decode cX5_mixersOn 38 = .ok (.iload_n 2, 1) := by decide +kernel
theorem dX5_mixersOn_39 : decode cX5_mixersOn 39 = .ok (.ireturn, 1) := by decide +kernel
theorem dX5_countDiagnoses_0 : decode cX5_countDiagnoses 0 = .ok (.iconst 0, 1) := by decide +kernel
theorem dX5_countDiagnoses_1 : decode cX5_countDiagnoses 1 = .ok (.istore_n 1, 1) := by decide +kernel
theorem dX5_countDiagnoses_2 : decode cX5_countDiagnoses 2 = .ok (.iconst 0, 1) := by decide +kernel
theorem dX5_countDiagnoses_3 : decode cX5_countDiagnoses 3 = .ok (.istore_n 2, 1) := by decide +kernel
theorem dX5_countDiagnoses_4 : decode cX5_countDiagnoses 4 = .ok (.iload_n 2, 1) := by decide +kernel
theorem dX5_countDiagnoses_5 : decode cX5_countDiagnoses 5 = .ok (.aload_n 0, 1) := by decide +kernel
theorem dX5_countDiagnoses_6 : decode cX5_countDiagnoses 6 = .ok (.getfield 10, 3) := by decide +kernel
theorem dX5_countDiagnoses_9 : decode cX5_countDiagnoses 9 = .ok (.invokevirtual 252, 3) := by decide +kernel
theorem dX5_countDiagnoses_12 : decode cX5_countDiagnoses 12 = .ok (.if_icmp .gt 23, 3) := by decide +kernel
theorem dX5_countDiagnoses_15 : decode cX5_countDiagnoses 15 = .ok (.aload_n 0, 1) := by decide +kernel
theorem dX5_countDiagnoses_16 : decode cX5_countDiagnoses 16 = .ok (.getfield 10, 3) := by decide +kernel
theorem dX5_countDiagnoses_19 : decode cX5_countDiagnoses 19 = .ok (.iload_n 2, 1) := by decide +kernel
theorem dX5_countDiagnoses_20 : decode cX5_countDiagnoses 20 = .ok (.invokevirtual 255, 3) := by decide +kernel
theorem dX5_countDiagnoses_23 : decode cX5_countDiagnoses 23 = .ok (.ifCond .eq 6, 3) := by decide +kernel
theorem dX5_countDiagnoses_26 : decode cX5_countDiagnoses 26 = .ok (.iinc 1 1, 3) := by decide +kernel
theorem dX5_countDiagnoses_29 : decode cX5_countDiagnoses 29 = .ok (.iinc 2 1, 3) := by decide +kernel
theorem dX5_countDiagnoses_32 : decode cX5_countDiagnoses 32 = .ok (.goto (-28), 3) := by decide +kernel
theorem dX5_countDiagnoses_35 : decode cX5_countDiagnoses 35 = .ok (.iload_n 1, 1) := by decide +kernel
theorem dX5_countDiagnoses_36 : decode cX5_countDiagnoses 36 = .ok (.ireturn, 1) := by decide +kernel
theorem dX5_countHeard_0 : decode cX5_countHeard 0 = .ok (.iconst 0, 1) := by decide +kernel
theorem dX5_countHeard_1 : decode cX5_countHeard 1 = .ok (.istore_n 2, 1) := by decide +kernel
theorem dX5_countHeard_2 : decode cX5_countHeard 2 = .ok (.iconst 0, 1) := by decide +kernel
theorem dX5_countHeard_3 : decode cX5_countHeard 3 = .ok (.istore_n 3, 1) := by decide +kernel
theorem dX5_countHeard_4 : decode cX5_countHeard 4 = .ok (.iload_n 3, 1) := by decide +kernel
theorem dX5_countHeard_5 : decode cX5_countHeard 5 = .ok (.aload_n 0, 1) := by decide +kernel
theorem dX5_countHeard_6 : decode cX5_countHeard 6 = .ok (.getfield 10, 3) := by decide +kernel
theorem dX5_countHeard_9 : decode cX5_countHeard 9 = .ok (.invokevirtual 252, 3) := by decide +kernel
theorem dX5_countHeard_12 : decode cX5_countHeard 12 = .ok (.if_icmp .gt 29, 3) := by decide +kernel
theorem dX5_countHeard_15 : decode cX5_countHeard 15 = .ok (.iload_n 3, 1) := by decide +kernel
theorem dX5_countHeard_16 : decode cX5_countHeard 16 = .ok (.iload_n 1, 1) := by decide +kernel
theorem dX5_countHeard_17 : decode cX5_countHeard 17 = .ok (.iand, 1) := by decide +kernel
theorem dX5_countHeard_18 : decode cX5_countHeard 18 = .ok (.ifCond .eq 17, 3) := by decide +kernel
theorem dX5_countHeard_21 : decode cX5_countHeard 21 = .ok (.aload_n 0, 1) := by decide +kernel
theorem dX5_countHeard_22 : decode cX5_countHeard 22 = .ok (.getfield 10, 3) := by decide +kernel
theorem dX5_countHeard_25 : decode cX5_countHeard 25 = .ok (.iload_n 3, 1) := by decide +kernel
theorem dX5_countHeard_26 : decode cX5_countHeard 26 = .ok (.invokevirtual 255, 3) := by decide +kernel
theorem dX5_countHeard_29 : decode cX5_countHeard 29 = .ok (.ifCond .eq 6, 3) := by decide +kernel
theorem dX5_countHeard_32 : decode cX5_countHeard 32 = .ok (.iinc 2 1, 3) := by decide +kernel
theorem dX5_countHeard_35 : decode cX5_countHeard 35 = .ok (.iinc 3 1, 3) := by decide +kernel
theorem dX5_countHeard_38 : decode cX5_countHeard 38 = .ok (.goto (-34), 3) := by decide +kernel
theorem dX5_countHeard_41 : decode cX5_countHeard 41 = .ok (.iload_n 2, 1) := by decide +kernel
theorem dX5_countHeard_42 : decode cX5_countHeard 42 = .ok (.ireturn, 1) := by decide +kernel
theorem dJ6_bitCount_0f7a4_0 : decode cJ6_bitCount_0f7a4 0 = .ok (.iload_n 0, 1) := by decide +kernel
theorem dJ6_bitCount_0f7a4_1 : decode cJ6_bitCount_0f7a4 1 = .ok (.iload_n 0, 1) := by decide +kernel
theorem dJ6_bitCount_0f7a4_2 : decode cJ6_bitCount_0f7a4 2 = .ok (.iconst 1, 1) := by decide +kernel
theorem dJ6_bitCount_0f7a4_3 : decode cJ6_bitCount_0f7a4 3 = .ok (.iushr, 1) := by decide +kernel
theorem dJ6_bitCount_0f7a4_4 : decode cJ6_bitCount_0f7a4 4 = .ok (.ldc_w 265, 3) := by decide +kernel
theorem dJ6_bitCount_0f7a4_7 : decode cJ6_bitCount_0f7a4 7 = .ok (.iand, 1) := by decide +kernel
theorem dJ6_bitCount_0f7a4_8 : decode cJ6_bitCount_0f7a4 8 = .ok (.isub, 1) := by decide +kernel
theorem dJ6_bitCount_0f7a4_9 : decode cJ6_bitCount_0f7a4 9 = .ok (.istore_n 0, 1) := by decide +kernel
theorem dJ6_bitCount_0f7a4_10 : decode cJ6_bitCount_0f7a4 10 = .ok (.iload_n 0, 1) := by decide +kernel
theorem dJ6_bitCount_0f7a4_11 : decode cJ6_bitCount_0f7a4 11 = .ok (.ldc_w 266, 3) := by decide +kernel
theorem dJ6_bitCount_0f7a4_14 : decode cJ6_bitCount_0f7a4 14 = .ok (.iand, 1) := by decide +kernel
theorem dJ6_bitCount_0f7a4_15 : decode cJ6_bitCount_0f7a4 15 = .ok (.iload_n 0, 1) := by decide +kernel
theorem dJ6_bitCount_0f7a4_16 : decode cJ6_bitCount_0f7a4 16 = .ok (.iconst 2, 1) := by decide +kernel
theorem dJ6_bitCount_0f7a4_17 : decode cJ6_bitCount_0f7a4 17 = .ok (.iushr, 1) := by decide +kernel
theorem dJ6_bitCount_0f7a4_18 : decode cJ6_bitCount_0f7a4 18 = .ok (.ldc_w 266, 3) := by decide +kernel
theorem dJ6_bitCount_0f7a4_21 : decode cJ6_bitCount_0f7a4 21 = .ok (.iand, 1) := by decide +kernel
theorem dJ6_bitCount_0f7a4_22 : decode cJ6_bitCount_0f7a4 22 = .ok (.iadd, 1) := by decide +kernel
theorem dJ6_bitCount_0f7a4_23 : decode cJ6_bitCount_0f7a4 23 = .ok (.istore_n 0, 1) := by decide +kernel
theorem dJ6_bitCount_0f7a4_24 : decode cJ6_bitCount_0f7a4 24 = .ok (.iload_n 0, 1) := by decide +kernel
theorem dJ6_bitCount_0f7a4_25 : decode cJ6_bitCount_0f7a4 25 = .ok (.iload_n 0, 1) := by decide +kernel
theorem dJ6_bitCount_0f7a4_26 : decode cJ6_bitCount_0f7a4 26 = .ok (.iconst 4, 1) := by decide +kernel
theorem dJ6_bitCount_0f7a4_27 : decode cJ6_bitCount_0f7a4 27 = .ok (.iushr, 1) := by decide +kernel
theorem dJ6_bitCount_0f7a4_28 : decode cJ6_bitCount_0f7a4 28 = .ok (.iadd, 1) := by decide +kernel
theorem dJ6_bitCount_0f7a4_29 : decode cJ6_bitCount_0f7a4 29 = .ok (.ldc_w 267, 3) := by decide +kernel
theorem dJ6_bitCount_0f7a4_32 : decode cJ6_bitCount_0f7a4 32 = .ok (.iand, 1) := by decide +kernel
theorem dJ6_bitCount_0f7a4_33 : decode cJ6_bitCount_0f7a4 33 = .ok (.istore_n 0, 1) := by decide +kernel
theorem dJ6_bitCount_0f7a4_34 : decode cJ6_bitCount_0f7a4 34 = .ok (.iload_n 0, 1) := by decide +kernel
theorem dJ6_bitCount_0f7a4_35 : decode cJ6_bitCount_0f7a4 35 = .ok (.iload_n 0, 1) := by decide +kernel
theorem dJ6_bitCount_0f7a4_36 : decode cJ6_bitCount_0f7a4 36 = .ok (.bipush 8, 2) := by decide +kernel
theorem dJ6_bitCount_0f7a4_38 : decode cJ6_bitCount_0f7a4 38 = .ok (.iushr, 1) := by decide +kernel
theorem dJ6_bitCount_0f7a4_39 : decode cJ6_bitCount_0f7a4 39 = .ok (.iadd, 1) := by decide +kernel
theorem dJ6_bitCount_0f7a4_40 : decode cJ6_bitCount_0f7a4 40 = .ok (.istore_n 0, 1) := by decide +kernel
theorem dJ6_bitCount_0f7a4_41 : decode cJ6_bitCount_0f7a4 41 = .ok (.iload_n 0, 1) := by decide +kernel
theorem dJ6_bitCount_0f7a4_42 : decode cJ6_bitCount_0f7a4 42 = .ok (.iload_n 0, 1) := by decide +kernel
theorem dJ6_bitCount_0f7a4_43 : decode cJ6_bitCount_0f7a4 43 = .ok (.bipush 16, 2) := by decide +kernel
theorem dJ6_bitCount_0f7a4_45 : decode cJ6_bitCount_0f7a4 45 = .ok (.iushr, 1) := by decide +kernel
theorem dJ6_bitCount_0f7a4_46 : decode cJ6_bitCount_0f7a4 46 = .ok (.iadd, 1) := by decide +kernel
theorem dJ6_bitCount_0f7a4_47 : decode cJ6_bitCount_0f7a4 47 = .ok (.istore_n 0, 1) := by decide +kernel
theorem dJ6_bitCount_0f7a4_48 : decode cJ6_bitCount_0f7a4 48 = .ok (.iload_n 0, 1) := by decide +kernel
theorem dJ6_bitCount_0f7a4_49 : decode cJ6_bitCount_0f7a4 49 = .ok (.bipush 63, 2) := by decide +kernel
theorem dJ6_bitCount_0f7a4_51 : decode cJ6_bitCount_0f7a4 51 = .ok (.iand, 1) := by decide +kernel
theorem dJ6_bitCount_0f7a4_52 : decode cJ6_bitCount_0f7a4 52 = .ok (.ireturn, 1) := by decide +kernel
theorem dJ9_abs_0f7a4_0 : decode cJ9_abs_0f7a4 0 = .ok (.iload_n 0, 1) := by decide +kernel
theorem dJ9_abs_0f7a4_1 : decode cJ9_abs_0f7a4 1 = .ok (.ifCond .ge 8, 3) := by decide +kernel
theorem dJ9_abs_0f7a4_4 : decode cJ9_abs_0f7a4 4 = .ok (.iload_n 0, 1) := by decide +kernel
theorem dJ9_abs_0f7a4_5 : decode cJ9_abs_0f7a4 5 = .ok (.ineg, 1) := by decide +kernel
theorem dJ9_abs_0f7a4_6 : decode cJ9_abs_0f7a4 6 = .ok (.goto 4, 3) := by decide +kernel
theorem dJ9_abs_0f7a4_9 : decode cJ9_abs_0f7a4 9 = .ok (.iload_n 0, 1) := by decide +kernel
theorem dJ9_abs_0f7a4_10 : decode cJ9_abs_0f7a4 10 = .ok (.ireturn, 1) := by decide +kernel
theorem dJ9_max_7cf53_0 : decode cJ9_max_7cf53 0 = .ok (.iload_n 0, 1) := by decide +kernel
theorem dJ9_max_7cf53_1 : decode cJ9_max_7cf53 1 = .ok (.iload_n 1, 1) := by decide +kernel
theorem dJ9_max_7cf53_2 : decode cJ9_max_7cf53 2 = .ok (.if_icmp .lt 7, 3) := by decide +kernel
theorem dJ9_max_7cf53_5 : decode cJ9_max_7cf53 5 = .ok (.iload_n 0, 1) := by decide +kernel
theorem dJ9_max_7cf53_6 : decode cJ9_max_7cf53 6 = .ok (.goto 4, 3) := by decide +kernel
theorem dJ9_max_7cf53_9 : decode cJ9_max_7cf53 9 = .ok (.iload_n 1, 1) := by decide +kernel
theorem dJ9_max_7cf53_10 : decode cJ9_max_7cf53 10 = .ok (.ireturn, 1) := by decide +kernel
theorem dJ9_min_7cf53_0 : decode cJ9_min_7cf53 0 = .ok (.iload_n 0, 1) := by decide +kernel
theorem dJ9_min_7cf53_1 : decode cJ9_min_7cf53 1 = .ok (.iload_n 1, 1) := by decide +kernel
theorem dJ9_min_7cf53_2 : decode cJ9_min_7cf53 2 = .ok (.if_icmp .gt 7, 3) := by decide +kernel
theorem dJ9_min_7cf53_5 : decode cJ9_min_7cf53 5 = .ok (.iload_n 0, 1) := by decide +kernel
theorem dJ9_min_7cf53_6 : decode cJ9_min_7cf53 6 = .ok (.goto 4, 3) := by decide +kernel
theorem dJ9_min_7cf53_9 : decode cJ9_min_7cf53 9 = .ok (.iload_n 1, 1) := by decide +kernel
theorem dJ9_min_7cf53_10 : decode cJ9_min_7cf53 10 = .ok (.ireturn, 1) := by decide +kernel
theorem dL_cell_0 : decode cL_cell 0 = .ok (.iload_n 1, 1) := by decide +kernel
theorem dL_cell_1 : decode cL_cell 1 = .ok (.aload_n 0, 1) := by decide +kernel
theorem dL_cell_2 : decode cL_cell 2 = .ok (.arraylength, 1) := by decide +kernel
theorem dL_cell_3 : decode cL_cell 3 = .ok (.if_icmp .ge 9, 3) := by decide +kernel
theorem dL_cell_6 : decode cL_cell 6 = .ok (.aload_n 0, 1) := by decide +kernel
theorem dL_cell_7 : decode cL_cell 7 = .ok (.iload_n 1, 1) := by decide +kernel
theorem dL_cell_8 : decode cL_cell 8 = .ok (.iaload, 1) := by decide +kernel
theorem dL_cell_9 : decode cL_cell 9 = .ok (.goto 15, 3) := by decide +kernel
theorem dL_cell_12 : decode cL_cell 12 = .ok (.ldc 7, 2) := by decide +kernel
theorem dL_cell_14 : decode cL_cell 14 = .ok (.iload_n 1, 1) := by decide +kernel
theorem dL_cell_15 : decode cL_cell 15 = .ok (.sipush 1297, 3) := by decide +kernel
theorem dL_cell_18 : decode cL_cell 18 = .ok (.iadd, 1) := by decide +kernel
theorem dL_cell_19 : decode cL_cell 19 = .ok (.imul, 1) := by decide +kernel
theorem dL_cell_20 : decode cL_cell 20 = .ok (.sipush 1103, 3) := by decide +kernel
theorem dL_cell_23 : decode cL_cell 23 = .ok (.iadd, 1) := by decide +kernel
theorem dL_cell_24 : decode cL_cell 24 = .ok (.ireturn, 1) := by decide +kernel
theorem dL_low_0 : decode cL_low 0 = .ok (.iload_n 0, 1) := by decide +kernel
theorem dL_low_1 : decode cL_low 1 = .ok (.ldc 8, 2) := by decide +kernel
theorem dL_low_3 : decode cL_low 3 = .ok (.iand, 1) := by decide +kernel
theorem dL_low_4 : decode cL_low 4 = .ok (.iload_n 1, 1) := by decide +kernel
theorem dL_low_5 : decode cL_low 5 = .ok (.irem, 1) := by decide +kernel
theorem dL_low_6 : decode cL_low 6 = .ok (.ireturn, 1) := by decide +kernel
theorem dL_addCarrier_0 : decode cL_addCarrier 0 = .ok (.aload_n 0, 1) := by decide +kernel
theorem dL_addCarrier_1 : decode cL_addCarrier 1 = .ok (.iload_n 1, 1) := by decide +kernel
theorem dL_addCarrier_2 : decode cL_addCarrier 2 = .ok (.iload_n 2, 1) := by decide +kernel
theorem dL_addCarrier_3 : decode cL_addCarrier 3 = .ok (.invokevirtual 9, 3) := by decide +kernel
theorem dL_addCarrier_6 : decode cL_addCarrier 6 = .ok (.ireturn, 1) := by decide +kernel
theorem dL_addCarrier_7 : decode cL_addCarrier 7 = .ok (.astore_n 3, 1) := by decide +kernel
theorem dL_addCarrier_8 : decode cL_addCarrier 8 = .ok (.sipush (-901), 3) := by decide +kernel
theorem dL_addCarrier_11 : decode cL_addCarrier 11 = .ok (.ireturn, 1) := by decide +kernel
theorem dL_addCarrier_12 : decode cL_addCarrier 12 = .ok (.astore_n 3, 1) := by decide +kernel
theorem dL_addCarrier_13 : decode cL_addCarrier 13 = .ok (.sipush (-902), 3) := by decide +kernel
theorem dL_addCarrier_16 : decode cL_addCarrier 16 = .ok (.ireturn, 1) := by decide +kernel
theorem dL_moveCarrier_0 : decode cL_moveCarrier 0 = .ok (.aload_n 0, 1) := by decide +kernel
theorem dL_moveCarrier_1 : decode cL_moveCarrier 1 = .ok (.iload_n 1, 1) := by decide +kernel
theorem dL_moveCarrier_2 : decode cL_moveCarrier 2 = .ok (.iload_n 2, 1) := by decide +kernel
theorem dL_moveCarrier_3 : decode cL_moveCarrier 3 = .ok (.iload_n 3, 1) := by decide +kernel
theorem dL_moveCarrier_4 : decode cL_moveCarrier 4 = .ok (.invokevirtual 19, 3) := by decide +kernel
theorem dL_moveCarrier_7 : decode cL_moveCarrier 7 = .ok (.ireturn, 1) := by decide +kernel
theorem dL_moveCarrier_8 : decode cL_moveCarrier 8 = .ok (.astore 4, 2) := by decide +kernel
theorem dL_moveCarrier_10 : decode cL_moveCarrier 10 = .ok (.sipush (-903), 3) := by decide +kernel
theorem dL_moveCarrier_13 : decode cL_moveCarrier 13 = .ok (.ireturn, 1) := by decide +kernel
theorem dL_moveCarrier_14 : decode cL_moveCarrier 14 = .ok (.astore 4, 2) := by decide +kernel
theorem dL_moveCarrier_16 : decode cL_moveCarrier 16 = .ok (.sipush (-901), 3) := by decide +kernel
theorem dL_moveCarrier_19 : decode cL_moveCarrier 19 = .ok (.ireturn, 1) := by decide +kernel
theorem dL_removeCarrier_0 : decode cL_removeCarrier 0 = .ok (.aload_n 0, 1) := by decide +kernel
theorem dL_removeCarrier_1 : decode cL_removeCarrier 1 = .ok (.iload_n 1, 1) := by decide +kernel
theorem dL_removeCarrier_2 : decode cL_removeCarrier 2 = .ok (.invokevirtual 25, 3) := by decide +kernel
theorem dL_removeCarrier_5 : decode cL_removeCarrier 5 = .ok (.ireturn, 1) := by decide +kernel
theorem dL_removeCarrier_6 : decode cL_removeCarrier 6 = .ok (.astore_n 2, 1) := by decide +kernel
theorem dL_removeCarrier_7 : decode cL_removeCarrier 7 = .ok (.sipush (-903), 3) := by decide +kernel
theorem dL_removeCarrier_10 : decode cL_removeCarrier 10 = .ok (.ireturn, 1) := by decide +kernel
theorem dL_shift_0 : decode cL_shift 0 = .ok (.aload_n 0, 1) := by decide +kernel
theorem dL_shift_1 : decode cL_shift 1 = .ok (.iload_n 1, 1) := by decide +kernel
theorem dL_shift_2 : decode cL_shift 2 = .ok (.invokevirtual 29, 3) := by decide +kernel
theorem dL_shift_5 : decode cL_shift 5 = .ok (.ireturn, 1) := by decide +kernel
theorem dL_shift_6 : decode cL_shift 6 = .ok (.astore_n 2, 1) := by decide +kernel
theorem dL_shift_7 : decode cL_shift 7 = .ok (.sipush (-901), 3) := by decide +kernel
theorem dL_shift_10 : decode cL_shift 10 = .ok (.ireturn, 1) := by decide +kernel
theorem dL_shift_11 : decode cL_shift 11 = .ok (.astore_n 2, 1) := by decide +kernel
theorem dL_shift_12 : decode cL_shift 12 = .ok (.sipush (-902), 3) := by decide +kernel
theorem dL_shift_15 : decode cL_shift 15 = .ok (.ireturn, 1) := by decide +kernel
theorem dL_setProducts_0 : decode cL_setProducts 0 = .ok (.aload_n 0, 1) := by decide +kernel
theorem dL_setProducts_1 : decode cL_setProducts 1 = .ok (.iload_n 1, 1) := by decide +kernel
theorem dL_setProducts_2 : decode cL_setProducts 2 = .ok (.iload_n 2, 1) := by decide +kernel
theorem dL_setProducts_3 : decode cL_setProducts 3 = .ok (.iload_n 3, 1) := by decide +kernel
theorem dL_setProducts_4 : decode cL_setProducts 4 = .ok (.invokevirtual 32, 3) := by decide +kernel
theorem dL_setProducts_7 : decode cL_setProducts 7 = .ok (.ireturn, 1) := by decide +kernel
theorem dL_setProducts_8 : decode cL_setProducts 8 = .ok (.astore 4, 2) := by decide +kernel
theorem dL_setProducts_10 : decode cL_setProducts 10 = .ok (.sipush (-901), 3) := by decide +kernel
theorem dL_setProducts_13 : decode cL_setProducts 13 = .ok (.ireturn, 1) := by decide +kernel
theorem dL_setSpacing_0 : decode cL_setSpacing 0 = .ok (.aload_n 0, 1) := by decide +kernel
theorem dL_setSpacing_1 : decode cL_setSpacing 1 = .ok (.iload_n 1, 1) := by decide +kernel
theorem dL_setSpacing_2 : decode cL_setSpacing 2 = .ok (.iload_n 2, 1) := by decide +kernel
theorem dL_setSpacing_3 : decode cL_setSpacing 3 = .ok (.invokevirtual 35, 3) := by decide +kernel
theorem dL_setSpacing_6 : decode cL_setSpacing 6 = .ok (.ireturn, 1) := by decide +kernel
theorem dL_setSpacing_7 : decode cL_setSpacing 7 = .ok (.astore_n 3, 1) := by decide +kernel
theorem dL_setSpacing_8 : decode cL_setSpacing 8 = .ok (.sipush (-901), 3) := by decide +kernel
theorem dL_setSpacing_11 : decode cL_setSpacing 11 = .ok (.ireturn, 1) := by decide +kernel
theorem dL_size_0 : decode cL_size 0 = .ok (.aload_n 0, 1) := by decide +kernel
theorem dL_size_1 : decode cL_size 1 = .ok (.iload_n 1, 1) := by decide +kernel
theorem dL_size_2 : decode cL_size 2 = .ok (.invokevirtual 38, 3) := by decide +kernel
theorem dL_size_5 : decode cL_size 5 = .ok (.ireturn, 1) := by decide +kernel
theorem dL_size_6 : decode cL_size 6 = .ok (.astore_n 2, 1) := by decide +kernel
theorem dL_size_7 : decode cL_size 7 = .ok (.sipush (-901), 3) := by decide +kernel
theorem dL_size_10 : decode cL_size 10 = .ok (.ireturn, 1) := by decide +kernel
theorem dL_carrier_0 : decode cL_carrier 0 = .ok (.aload_n 0, 1) := by decide +kernel
theorem dL_carrier_1 : decode cL_carrier 1 = .ok (.iload_n 1, 1) := by decide +kernel
theorem dL_carrier_2 : decode cL_carrier 2 = .ok (.iload_n 2, 1) := by decide +kernel
theorem dL_carrier_3 : decode cL_carrier 3 = .ok (.invokevirtual 41, 3) := by decide +kernel
theorem dL_carrier_6 : decode cL_carrier 6 = .ok (.ireturn, 1) := by decide +kernel
theorem dL_carrier_7 : decode cL_carrier 7 = .ok (.astore_n 3, 1) := by decide +kernel
theorem dL_carrier_8 : decode cL_carrier 8 = .ok (.sipush (-903), 3) := by decide +kernel
theorem dL_carrier_11 : decode cL_carrier 11 = .ok (.ireturn, 1) := by decide +kernel
theorem dL_product_0 : decode cL_product 0 = .ok (.aload_n 0, 1) := by decide +kernel
theorem dL_product_1 : decode cL_product 1 = .ok (.iload_n 1, 1) := by decide +kernel
theorem dL_product_2 : decode cL_product 2 = .ok (.iload_n 2, 1) := by decide +kernel
theorem dL_product_3 : decode cL_product 3 = .ok (.invokevirtual 45, 3) := by decide +kernel
theorem dL_product_6 : decode cL_product 6 = .ok (.ireturn, 1) := by decide +kernel
theorem dL_product_7 : decode cL_product 7 = .ok (.astore_n 3, 1) := by decide +kernel
theorem dL_product_8 : decode cL_product 8 = .ok (.sipush (-903), 3) := by decide +kernel
theorem dL_product_11 : decode cL_product 11 = .ok (.ireturn, 1) := by decide +kernel
theorem dL_product_12 : decode cL_product 12 = .ok (.astore_n 3, 1) := by decide +kernel
theorem dL_product_13 : decode cL_product 13 = .ok (.sipush (-901), 3) := by decide +kernel
theorem dL_product_16 : decode cL_product 16 = .ok (.ireturn, 1) := by decide +kernel
theorem dL_fallout_0 : decode cL_fallout 0 = .ok (.aload_n 0, 1) := by decide +kernel
theorem dL_fallout_1 : decode cL_fallout 1 = .ok (.iload_n 1, 1) := by decide +kernel
theorem dL_fallout_2 : decode cL_fallout 2 = .ok (.invokevirtual 48, 3) := by decide +kernel
theorem dL_fallout_5 : decode cL_fallout 5 = .ok (.lreturn, 1) := by decide +kernel
theorem dL_fallout_6 : decode cL_fallout 6 = .ok (.astore_n 2, 1) := by decide +kernel
theorem dL_fallout_7 : decode cL_fallout 7 = .ok (.ldc2_w 52, 3) := by decide +kernel
theorem dL_fallout_10 : decode cL_fallout 10 = .ok (.lreturn, 1) := by decide +kernel
theorem dL_hitsOn_0 : decode cL_hitsOn 0 = .ok (.aload_n 0, 1) := by decide +kernel
theorem dL_hitsOn_1 : decode cL_hitsOn 1 = .ok (.iload_n 1, 1) := by decide +kernel
theorem dL_hitsOn_2 : decode cL_hitsOn 2 = .ok (.invokevirtual 54, 3) := by decide +kernel
theorem dL_hitsOn_5 : decode cL_hitsOn 5 = .ok (.ireturn, 1) := by decide +kernel
theorem dL_hitsOn_6 : decode cL_hitsOn 6 = .ok (.astore_n 2, 1) := by decide +kernel
theorem dL_hitsOn_7 : decode cL_hitsOn 7 = .ok (.sipush (-903), 3) := by decide +kernel
theorem dL_hitsOn_10 : decode cL_hitsOn 10 = .ok (.ireturn, 1) := by decide +kernel
theorem dL_leastSpan_0 : decode cL_leastSpan 0 = .ok (.aload_n 0, 1) := by decide +kernel
theorem dL_leastSpan_1 : decode cL_leastSpan 1 = .ok (.iload_n 1, 1) := by decide +kernel
theorem dL_leastSpan_2 : decode cL_leastSpan 2 = .ok (.invokevirtual 57, 3) := by decide +kernel
theorem dL_leastSpan_5 : decode cL_leastSpan 5 = .ok (.ireturn, 1) := by decide +kernel
theorem dL_leastSpan_6 : decode cL_leastSpan 6 = .ok (.astore_n 2, 1) := by decide +kernel
theorem dL_leastSpan_7 : decode cL_leastSpan 7 = .ok (.sipush (-901), 3) := by decide +kernel
theorem dL_leastSpan_10 : decode cL_leastSpan 10 = .ok (.ireturn, 1) := by decide +kernel
theorem dL_bestRuler_0 : decode cL_bestRuler 0 = .ok (.aload_n 0, 1) := by decide +kernel
theorem dL_bestRuler_1 : decode cL_bestRuler 1 = .ok (.iload_n 1, 1) := by decide +kernel
theorem dL_bestRuler_2 : decode cL_bestRuler 2 = .ok (.invokevirtual 60, 3) := by decide +kernel
theorem dL_bestRuler_5 : decode cL_bestRuler 5 = .ok (.lreturn, 1) := by decide +kernel
theorem dL_bestRuler_6 : decode cL_bestRuler 6 = .ok (.astore_n 2, 1) := by decide +kernel
theorem dL_bestRuler_7 : decode cL_bestRuler 7 = .ok (.ldc2_w 52, 3) := by decide +kernel
theorem dL_bestRuler_10 : decode cL_bestRuler 10 = .ok (.lreturn, 1) := by decide +kernel
theorem dL_rulers_0 : decode cL_rulers 0 = .ok (.aload_n 0, 1) := by decide +kernel
theorem dL_rulers_1 : decode cL_rulers 1 = .ok (.iload_n 1, 1) := by decide +kernel
theorem dL_rulers_2 : decode cL_rulers 2 = .ok (.iload_n 2, 1) := by decide +kernel
theorem dL_rulers_3 : decode cL_rulers 3 = .ok (.invokevirtual 63, 3) := by decide +kernel
theorem dL_rulers_6 : decode cL_rulers 6 = .ok (.ireturn, 1) := by decide +kernel
theorem dL_rulers_7 : decode cL_rulers 7 = .ok (.astore_n 3, 1) := by decide +kernel
theorem dL_rulers_8 : decode cL_rulers 8 = .ok (.sipush (-901), 3) := by decide +kernel
theorem dL_rulers_11 : decode cL_rulers 11 = .ok (.ireturn, 1) := by decide +kernel
theorem dL_openings_0 : decode cL_openings 0 = .ok (.aload_n 0, 1) := by decide +kernel
theorem dL_openings_1 : decode cL_openings 1 = .ok (.iload_n 1, 1) := by decide +kernel
theorem dL_openings_2 : decode cL_openings 2 = .ok (.invokevirtual 66, 3) := by decide +kernel
theorem dL_openings_5 : decode cL_openings 5 = .ok (.lreturn, 1) := by decide +kernel
theorem dL_openings_6 : decode cL_openings 6 = .ok (.astore_n 2, 1) := by decide +kernel
theorem dL_openings_7 : decode cL_openings 7 = .ok (.ldc2_w 52, 3) := by decide +kernel
theorem dL_openings_10 : decode cL_openings 10 = .ok (.lreturn, 1) := by decide +kernel
theorem dL_putIn_0 : decode cL_putIn 0 = .ok (.aload_n 0, 1) := by decide +kernel
theorem dL_putIn_1 : decode cL_putIn 1 = .ok (.iload_n 1, 1) := by decide +kernel
theorem dL_putIn_2 : decode cL_putIn 2 = .ok (.invokevirtual 69, 3) := by decide +kernel
theorem dL_putIn_5 : decode cL_putIn 5 = .ok (.ireturn, 1) := by decide +kernel
theorem dL_putIn_6 : decode cL_putIn 6 = .ok (.astore_n 2, 1) := by decide +kernel
theorem dL_putIn_7 : decode cL_putIn 7 = .ok (.sipush (-901), 3) := by decide +kernel
theorem dL_putIn_10 : decode cL_putIn 10 = .ok (.ireturn, 1) := by decide +kernel
theorem dL_putIn_11 : decode cL_putIn 11 = .ok (.astore_n 2, 1) := by decide +kernel
theorem dL_putIn_12 : decode cL_putIn 12 = .ok (.sipush (-902), 3) := by decide +kernel
theorem dL_putIn_15 : decode cL_putIn 15 = .ok (.ireturn, 1) := by decide +kernel
theorem dL_addMixer_0 : decode cL_addMixer 0 = .ok (.aload_n 0, 1) := by decide +kernel
theorem dL_addMixer_1 : decode cL_addMixer 1 = .ok (.iload_n 1, 1) := by decide +kernel
theorem dL_addMixer_2 : decode cL_addMixer 2 = .ok (.invokevirtual 72, 3) := by decide +kernel
theorem dL_addMixer_5 : decode cL_addMixer 5 = .ok (.ireturn, 1) := by decide +kernel
theorem dL_addMixer_6 : decode cL_addMixer 6 = .ok (.astore_n 2, 1) := by decide +kernel
theorem dL_addMixer_7 : decode cL_addMixer 7 = .ok (.sipush (-901), 3) := by decide +kernel
theorem dL_addMixer_10 : decode cL_addMixer 10 = .ok (.ireturn, 1) := by decide +kernel
theorem dL_addMixer_11 : decode cL_addMixer 11 = .ok (.astore_n 2, 1) := by decide +kernel
theorem dL_addMixer_12 : decode cL_addMixer 12 = .ok (.sipush (-902), 3) := by decide +kernel
theorem dL_addMixer_15 : decode cL_addMixer 15 = .ok (.ireturn, 1) := by decide +kernel
theorem dL_setMember_0 : decode cL_setMember 0 = .ok (.aload_n 0, 1) := by decide +kernel
theorem dL_setMember_1 : decode cL_setMember 1 = .ok (.iload_n 1, 1) := by decide +kernel
theorem dL_setMember_2 : decode cL_setMember 2 = .ok (.iload_n 2, 1) := by decide +kernel
theorem dL_setMember_3 : decode cL_setMember 3 = .ok (.iload_n 3, 1) := by decide +kernel
theorem dL_setMember_4 : decode cL_setMember 4 = .ok (.invokevirtual 75, 3) := by decide +kernel
theorem dL_setMember_7 : decode cL_setMember 7 = .ok (.ireturn, 1) := by decide +kernel
theorem dL_setMember_8 : decode cL_setMember 8 = .ok (.astore 4, 2) := by decide +kernel
theorem dL_setMember_10 : decode cL_setMember 10 = .ok (.sipush (-903), 3) := by decide +kernel
theorem dL_setMember_13 : decode cL_setMember 13 = .ok (.ireturn, 1) := by decide +kernel
theorem dL_mixer_0 : decode cL_mixer 0 = .ok (.aload_n 0, 1) := by decide +kernel
theorem dL_mixer_1 : decode cL_mixer 1 = .ok (.iload_n 1, 1) := by decide +kernel
theorem dL_mixer_2 : decode cL_mixer 2 = .ok (.invokevirtual 79, 3) := by decide +kernel
theorem dL_mixer_5 : decode cL_mixer 5 = .ok (.ireturn, 1) := by decide +kernel
theorem dL_mixer_6 : decode cL_mixer 6 = .ok (.astore_n 2, 1) := by decide +kernel
theorem dL_mixer_7 : decode cL_mixer 7 = .ok (.sipush (-903), 3) := by decide +kernel
theorem dL_mixer_10 : decode cL_mixer 10 = .ok (.ireturn, 1) := by decide +kernel
theorem dL_addTest_0 : decode cL_addTest 0 = .ok (.aload_n 0, 1) := by decide +kernel
theorem dL_addTest_1 : decode cL_addTest 1 = .ok (.iload_n 1, 1) := by decide +kernel
theorem dL_addTest_2 : decode cL_addTest 2 = .ok (.iload_n 2, 1) := by decide +kernel
theorem dL_addTest_3 : decode cL_addTest 3 = .ok (.iload_n 3, 1) := by decide +kernel
theorem dL_addTest_4 : decode cL_addTest 4 = .ok (.invokevirtual 82, 3) := by decide +kernel
theorem dL_addTest_7 : decode cL_addTest 7 = .ok (.ireturn, 1) := by decide +kernel
theorem dL_addTest_8 : decode cL_addTest 8 = .ok (.astore 4, 2) := by decide +kernel
theorem dL_addTest_10 : decode cL_addTest 10 = .ok (.sipush (-901), 3) := by decide +kernel
theorem dL_addTest_13 : decode cL_addTest 13 = .ok (.ireturn, 1) := by decide +kernel
theorem dL_addTest_14 : decode cL_addTest 14 = .ok (.astore 4, 2) := by decide +kernel
theorem dL_addTest_16 : decode cL_addTest 16 = .ok (.sipush (-902), 3) := by decide +kernel
theorem dL_addTest_19 : decode cL_addTest 19 = .ok (.ireturn, 1) := by decide +kernel
theorem dL_test_0 : decode cL_test 0 = .ok (.aload_n 0, 1) := by decide +kernel
theorem dL_test_1 : decode cL_test 1 = .ok (.iload_n 1, 1) := by decide +kernel
theorem dL_test_2 : decode cL_test 2 = .ok (.iload_n 2, 1) := by decide +kernel
theorem dL_test_3 : decode cL_test 3 = .ok (.invokevirtual 85, 3) := by decide +kernel
theorem dL_test_6 : decode cL_test 6 = .ok (.ireturn, 1) := by decide +kernel
theorem dL_test_7 : decode cL_test 7 = .ok (.astore_n 3, 1) := by decide +kernel
theorem dL_test_8 : decode cL_test 8 = .ok (.sipush (-903), 3) := by decide +kernel
theorem dL_test_11 : decode cL_test 11 = .ok (.ireturn, 1) := by decide +kernel
theorem dL_test_12 : decode cL_test 12 = .ok (.astore_n 3, 1) := by decide +kernel
theorem dL_test_13 : decode cL_test 13 = .ok (.sipush (-901), 3) := by decide +kernel
theorem dL_test_16 : decode cL_test 16 = .ok (.ireturn, 1) := by decide +kernel
theorem dL_heard_0 : decode cL_heard 0 = .ok (.aload_n 0, 1) := by decide +kernel
theorem dL_heard_1 : decode cL_heard 1 = .ok (.iload_n 1, 1) := by decide +kernel
theorem dL_heard_2 : decode cL_heard 2 = .ok (.iload_n 2, 1) := by decide +kernel
theorem dL_heard_3 : decode cL_heard 3 = .ok (.invokevirtual 88, 3) := by decide +kernel
theorem dL_heard_6 : decode cL_heard 6 = .ok (.ireturn, 1) := by decide +kernel
theorem dL_heard_7 : decode cL_heard 7 = .ok (.astore_n 3, 1) := by decide +kernel
theorem dL_heard_8 : decode cL_heard 8 = .ok (.sipush (-901), 3) := by decide +kernel
theorem dL_heard_11 : decode cL_heard 11 = .ok (.ireturn, 1) := by decide +kernel
theorem dL_bestTest_0 : decode cL_bestTest 0 = .ok (.aload_n 0, 1) := by decide +kernel
theorem dL_bestTest_1 : decode cL_bestTest 1 = .ok (.iload_n 1, 1) := by decide +kernel
theorem dL_bestTest_2 : decode cL_bestTest 2 = .ok (.invokevirtual 91, 3) := by decide +kernel
theorem dL_bestTest_5 : decode cL_bestTest 5 = .ok (.ireturn, 1) := by decide +kernel
theorem dL_bestTest_6 : decode cL_bestTest 6 = .ok (.astore_n 2, 1) := by decide +kernel
theorem dL_bestTest_7 : decode cL_bestTest 7 = .ok (.sipush (-901), 3) := by decide +kernel
theorem dL_bestTest_10 : decode cL_bestTest 10 = .ok (.ireturn, 1) := by decide +kernel
theorem dL_append_0 : decode cL_append 0 = .ok (.aload_n 0, 1) := by decide +kernel
theorem dL_append_1 : decode cL_append 1 = .ok (.iload_n 1, 1) := by decide +kernel
theorem dL_append_2 : decode cL_append 2 = .ok (.invokevirtual 94, 3) := by decide +kernel
theorem dL_append_5 : decode cL_append 5 = .ok (.ireturn, 1) := by decide +kernel
theorem dL_append_6 : decode cL_append 6 = .ok (.astore_n 2, 1) := by decide +kernel
theorem dL_append_7 : decode cL_append 7 = .ok (.sipush (-901), 3) := by decide +kernel
theorem dL_append_10 : decode cL_append 10 = .ok (.ireturn, 1) := by decide +kernel
theorem dL_append_11 : decode cL_append 11 = .ok (.astore_n 2, 1) := by decide +kernel
theorem dL_append_12 : decode cL_append 12 = .ok (.sipush (-902), 3) := by decide +kernel
theorem dL_append_15 : decode cL_append 15 = .ok (.ireturn, 1) := by decide +kernel
theorem dL_undo_0 : decode cL_undo 0 = .ok (.aload_n 0, 1) := by decide +kernel
theorem dL_undo_1 : decode cL_undo 1 = .ok (.invokevirtual 97, 3) := by decide +kernel
theorem dL_undo_4 : decode cL_undo 4 = .ok (.ireturn, 1) := by decide +kernel
theorem dL_undo_5 : decode cL_undo 5 = .ok (.astore_n 1, 1) := by decide +kernel
theorem dL_undo_6 : decode cL_undo 6 = .ok (.sipush (-902), 3) := by decide +kernel
theorem dL_undo_9 : decode cL_undo 9 = .ok (.ireturn, 1) := by decide +kernel
theorem dL_highest_0 : decode cL_highest 0 = .ok (.bipush 63, 2) := by decide +kernel
theorem dL_highest_2 : decode cL_highest 2 = .ok (.istore_n 2, 1) := by decide +kernel
theorem dL_highest_3 : decode cL_highest 3 = .ok (.iload_n 2, 1) := by decide +kernel
theorem dL_highest_4 : decode cL_highest 4 = .ok (.ifCond .lt 19, 3) := by decide +kernel
theorem dL_highest_7 : decode cL_highest 7 = .ok (.lload_n 0, 1) := by decide +kernel
theorem dL_highest_8 : decode cL_highest 8 = .ok (.iload_n 2, 1) := by decide +kernel
theorem dL_highest_9 : decode cL_highest 9 = .ok (.lshr, 1) := by decide +kernel
theorem dL_highest_10 : decode cL_highest 10 = .ok (.lconst 1, 1) := by decide +kernel
theorem dL_highest_11 : decode cL_highest 11 = .ok (.land, 1) := by decide +kernel
theorem dL_highest_12 : decode cL_highest 12 = .ok (.lconst 0, 1) := by decide +kernel
theorem dL_highest_13 : decode cL_highest 13 = .ok (.lcmp, 1) := by decide +kernel
theorem dL_highest_14 : decode cL_highest 14 = .ok (.ifCond .ne 9, 3) := by decide +kernel
theorem dL_highest_17 : decode cL_highest 17 = .ok (.iinc 2 (-1), 3) := by decide +kernel
theorem dL_highest_20 : decode cL_highest 20 = .ok (.goto (-17), 3) := by decide +kernel
theorem dL_highest_23 : decode cL_highest 23 = .ok (.iload_n 2, 1) := by decide +kernel
theorem dL_highest_24 : decode cL_highest 24 = .ok (.ireturn, 1) := by decide +kernel
theorem dL_many_0 : decode cL_many 0 = .ok (.iconst 0, 1) := by decide +kernel
theorem dL_many_1 : decode cL_many 1 = .ok (.istore_n 2, 1) := by decide +kernel
theorem dL_many_2 : decode cL_many 2 = .ok (.lload_n 0, 1) := by decide +kernel
theorem dL_many_3 : decode cL_many 3 = .ok (.lstore_n 3, 1) := by decide +kernel
theorem dL_many_4 : decode cL_many 4 = .ok (.lload_n 3, 1) := by decide +kernel
theorem dL_many_5 : decode cL_many 5 = .ok (.lconst 0, 1) := by decide +kernel
theorem dL_many_6 : decode cL_many 6 = .ok (.lcmp, 1) := by decide +kernel
theorem dL_many_7 : decode cL_many 7 = .ok (.ifCond .eq 15, 3) := by decide +kernel
theorem dL_many_10 : decode cL_many 10 = .ok (.iinc 2 1, 3) := by decide +kernel
theorem dL_many_13 : decode cL_many 13 = .ok (.lload_n 3, 1) := by decide +kernel
theorem dL_many_14 : decode cL_many 14 = .ok (.lload_n 3, 1) := by decide +kernel
theorem dL_many_15 : decode cL_many 15 = .ok (.lconst 1, 1) := by decide +kernel
theorem dL_many_16 : decode cL_many 16 = .ok (.lsub, 1) := by decide +kernel
theorem dL_many_17 : decode cL_many 17 = .ok (.land, 1) := by decide +kernel
theorem dL_many_18 : decode cL_many 18 = .ok (.lstore_n 3, 1) := by decide +kernel
theorem dL_many_19 : decode cL_many 19 = .ok (.goto (-15), 3) := by decide +kernel
theorem dL_many_22 : decode cL_many 22 = .ok (.iload_n 2, 1) := by decide +kernel
theorem dL_many_23 : decode cL_many 23 = .ok (.ireturn, 1) := by decide +kernel
theorem dL_sound_0 : decode cL_sound 0 = .ok (.aload_n 0, 1) := by decide +kernel
theorem dL_sound_1 : decode cL_sound 1 = .ok (.iconst 0, 1) := by decide +kernel
theorem dL_sound_2 : decode cL_sound 2 = .ok (.invokestatic 101, 3) := by decide +kernel
theorem dL_sound_5 : decode cL_sound 5 = .ok (.istore_n 2, 1) := by decide +kernel
theorem dL_sound_6 : decode cL_sound 6 = .ok (.iconst 1, 1) := by decide +kernel
theorem dL_sound_7 : decode cL_sound 7 = .ok (.iload_n 2, 1) := by decide +kernel
theorem dL_sound_8 : decode cL_sound 8 = .ok (.ishl, 1) := by decide +kernel
theorem dL_sound_9 : decode cL_sound 9 = .ok (.iconst 1, 1) := by decide +kernel
theorem dL_sound_10 : decode cL_sound 10 = .ok (.isub, 1) := by decide +kernel
theorem dL_sound_11 : decode cL_sound 11 = .ok (.istore_n 3, 1) := by decide +kernel
theorem dL_sound_12 : decode cL_sound 12 = .ok (.aload_n 0, 1) := by decide +kernel
theorem dL_sound_13 : decode cL_sound 13 = .ok (.iload_n 3, 1) := by decide +kernel
theorem dL_sound_14 : decode cL_sound 14 = .ok (.invokestatic 106, 3) := by decide +kernel
theorem dL_sound_17 : decode cL_sound 17 = .ok (.lstore 4, 2) := by decide +kernel
theorem dL_sound_19 : decode cL_sound 19 = .ok (.iconst 0, 1) := by decide +kernel
theorem dL_sound_20 : decode cL_sound 20 = .ok (.istore 6, 2) := by decide +kernel
theorem dL_sound_22 : decode cL_sound 22 = .ok (.iconst 0, 1) := by decide +kernel
theorem dL_sound_23 : decode cL_sound 23 = .ok (.istore 7, 2) := by decide +kernel
theorem dL_sound_25 : decode cL_sound 25 = .ok (.iload 7, 2) := by decide +kernel
theorem dL_sound_27 : decode cL_sound 27 = .ok (.iload_n 2, 1) := by decide +kernel
theorem dL_sound_28 : decode cL_sound 28 = .ok (.if_icmp .ge 65, 3) := by decide +kernel
theorem dL_sound_31 : decode cL_sound 31 = .ok (.iload 6, 2) := by decide +kernel
theorem dL_sound_33 : decode cL_sound 33 = .ok (.aload_n 0, 1) := by decide +kernel
theorem dL_sound_34 : decode cL_sound 34 = .ok (.iload 7, 2) := by decide +kernel
theorem dL_sound_36 : decode cL_sound 36 = .ok (.invokestatic 109, 3) := by decide +kernel
theorem dL_sound_39 : decode cL_sound 39 = .ok (.iadd, 1) := by decide +kernel
theorem dL_sound_40 : decode cL_sound 40 = .ok (.istore 6, 2) := by decide +kernel
theorem dL_sound_42 : decode cL_sound 42 = .ok (.aload_n 0, 1) := by decide +kernel
theorem dL_sound_43 : decode cL_sound 43 = .ok (.iload_n 3, 1) := by decide +kernel
theorem dL_sound_44 : decode cL_sound 44 = .ok (.iconst 1, 1) := by decide +kernel
theorem dL_sound_45 : decode cL_sound 45 = .ok (.iload 7, 2) := by decide +kernel
theorem dL_sound_47 : decode cL_sound 47 = .ok (.ishl, 1) := by decide +kernel
theorem dL_sound_48 : decode cL_sound 48 = .ok (.iconst (-1), 1) := by decide +kernel
theorem dL_sound_49 : decode cL_sound 49 = .ok (.ixor, 1) := by decide +kernel
theorem dL_sound_50 : decode cL_sound 50 = .ok (.iand, 1) := by decide +kernel
theorem dL_sound_51 : decode cL_sound 51 = .ok (.invokestatic 106, 3) := by decide +kernel
theorem dL_sound_54 : decode cL_sound 54 = .ok (.lload 4, 2) := by decide +kernel
theorem dL_sound_56 : decode cL_sound 56 = .ok (.ldc2_w 111, 3) := by decide +kernel
theorem dL_sound_59 : decode cL_sound 59 = .ok (.lxor, 1) := by decide +kernel
theorem dL_sound_60 : decode cL_sound 60 = .ok (.land, 1) := by decide +kernel
theorem dL_sound_61 : decode cL_sound 61 = .ok (.lconst 0, 1) := by decide +kernel
theorem dL_sound_62 : decode cL_sound 62 = .ok (.lcmp, 1) := by decide +kernel
theorem dL_sound_63 : decode cL_sound 63 = .ok (.ifCond .ne 22, 3) := by decide +kernel
theorem dL_sound_66 : decode cL_sound 66 = .ok (.aload_n 0, 1) := by decide +kernel
theorem dL_sound_67 : decode cL_sound 67 = .ok (.invokevirtual 113, 3) := by decide +kernel
theorem dL_sound_70 : decode cL_sound 70 = .ok (.aload_n 0, 1) := by decide +kernel
theorem dL_sound_71 : decode cL_sound 71 = .ok (.iload 7, 2) := by decide +kernel
theorem dL_sound_73 : decode cL_sound 73 = .ok (.iconst 0, 1) := by decide +kernel
theorem dL_sound_74 : decode cL_sound 74 = .ok (.invokestatic 117, 3) := by decide +kernel
theorem dL_sound_77 : decode cL_sound 77 = .ok (.lshr, 1) := by decide +kernel
theorem dL_sound_78 : decode cL_sound 78 = .ok (.lconst 1, 1) := by decide +kernel
theorem dL_sound_79 : decode cL_sound 79 = .ok (.land, 1) := by decide +kernel
theorem dL_sound_80 : decode cL_sound 80 = .ok (.lconst 1, 1) := by decide +kernel
theorem dL_sound_81 : decode cL_sound 81 = .ok (.lcmp, 1) := by decide +kernel
theorem dL_sound_82 : decode cL_sound 82 = .ok (.ifCond .eq 5, 3) := by decide +kernel
theorem dL_sound_85 : decode cL_sound 85 = .ok (.iconst 0, 1) := by decide +kernel
theorem dL_sound_86 : decode cL_sound 86 = .ok (.ireturn, 1) := by decide +kernel
theorem dL_sound_87 : decode cL_sound 87 = .ok (.iinc 7 1, 3) := by decide +kernel
theorem dL_sound_90 : decode cL_sound 90 = .ok (.goto (-65), 3) := by decide +kernel
theorem dL_sound_93 : decode cL_sound 93 = .ok (.iconst (-1), 1) := by decide +kernel
theorem dL_sound_94 : decode cL_sound 94 = .ok (.istore 7, 2) := by decide +kernel
theorem dL_sound_96 : decode cL_sound 96 = .ok (.lconst 0, 1) := by decide +kernel
theorem dL_sound_97 : decode cL_sound 97 = .ok (.lstore 8, 2) := by decide +kernel
theorem dL_sound_99 : decode cL_sound 99 = .ok (.aload_n 0, 1) := by decide +kernel
theorem dL_sound_100 : decode cL_sound 100 = .ok (.invokevirtual 120, 3) := by decide +kernel
theorem dL_sound_103 : decode cL_sound 103 = .ok (.istore 10, 2) := by decide +kernel
theorem dL_sound_105 : decode cL_sound 105 = .ok (.iconst 1, 1) := by decide +kernel
theorem dL_sound_106 : decode cL_sound 106 = .ok (.iload 10, 2) := by decide +kernel
theorem dL_sound_108 : decode cL_sound 108 = .ok (.iconst 4, 1) := by decide +kernel
theorem dL_sound_109 : decode cL_sound 109 = .ok (.idiv, 1) := by decide +kernel
theorem dL_sound_110 : decode cL_sound 110 = .ok (.iadd, 1) := by decide +kernel
theorem dL_sound_111 : decode cL_sound 111 = .ok (.istore 11, 2) := by decide +kernel
theorem dL_sound_113 : decode cL_sound 113 = .ok (.iload_n 1, 1) := by decide +kernel
theorem dL_sound_114 : decode cL_sound 114 = .ok (.iload 11, 2) := by decide +kernel
theorem dL_sound_116 : decode cL_sound 116 = .ok (.irem, 1) := by decide +kernel
theorem dL_sound_117 : decode cL_sound 117 = .ok (.istore 12, 2) := by decide +kernel
theorem dL_sound_119 : decode cL_sound 119 = .ok (.iload 12, 2) := by decide +kernel
theorem dL_sound_121 : decode cL_sound 121 = .ok (.iload 10, 2) := by decide +kernel
theorem dL_sound_123 : decode cL_sound 123 = .ok (.if_icmp .ge 271, 3) := by decide +kernel
theorem dL_sound_126 : decode cL_sound 126 = .ok (.aload_n 0, 1) := by decide +kernel
theorem dL_sound_127 : decode cL_sound 127 = .ok (.iload 12, 2) := by decide +kernel
theorem dL_sound_129 : decode cL_sound 129 = .ok (.iconst 0, 1) := by decide +kernel
theorem dL_sound_130 : decode cL_sound 130 = .ok (.invokestatic 123, 3) := by decide +kernel
theorem dL_sound_133 : decode cL_sound 133 = .ok (.istore 13, 2) := by decide +kernel
theorem dL_sound_135 : decode cL_sound 135 = .ok (.aload_n 0, 1) := by decide +kernel
theorem dL_sound_136 : decode cL_sound 136 = .ok (.iload 12, 2) := by decide +kernel
theorem dL_sound_138 : decode cL_sound 138 = .ok (.iconst 1, 1) := by decide +kernel
theorem dL_sound_139 : decode cL_sound 139 = .ok (.invokestatic 123, 3) := by decide +kernel
theorem dL_sound_142 : decode cL_sound 142 = .ok (.istore 14, 2) := by decide +kernel
theorem dL_sound_144 : decode cL_sound 144 = .ok (.aload_n 0, 1) := by decide +kernel
theorem dL_sound_145 : decode cL_sound 145 = .ok (.iload 12, 2) := by decide +kernel
theorem dL_sound_147 : decode cL_sound 147 = .ok (.iconst 2, 1) := by decide +kernel
theorem dL_sound_148 : decode cL_sound 148 = .ok (.invokestatic 123, 3) := by decide +kernel
theorem dL_sound_151 : decode cL_sound 151 = .ok (.istore 15, 2) := by decide +kernel
theorem dL_sound_153 : decode cL_sound 153 = .ok (.aload_n 0, 1) := by decide +kernel
theorem dL_sound_154 : decode cL_sound 154 = .ok (.iload 12, 2) := by decide +kernel
theorem dL_sound_156 : decode cL_sound 156 = .ok (.iconst 3, 1) := by decide +kernel
theorem dL_sound_157 : decode cL_sound 157 = .ok (.invokestatic 123, 3) := by decide +kernel
theorem dL_sound_160 : decode cL_sound 160 = .ok (.istore 16, 2) := by decide +kernel
theorem dL_sound_162 : decode cL_sound 162 = .ok (.sipush 4096, 3) := by decide +kernel
theorem dL_sound_165 : decode cL_sound 165 = .ok (.iload 13, 2) := by decide +kernel
theorem dL_sound_167 : decode cL_sound 167 = .ok (.imul, 1) := by decide +kernel
theorem dL_sound_168 : decode cL_sound 168 = .ok (.sipush 256, 3) := by decide +kernel
theorem dL_sound_171 : decode cL_sound 171 = .ok (.iload 14, 2) := by decide +kernel
theorem dL_sound_173 : decode cL_sound 173 = .ok (.imul, 1) := by decide +kernel
theorem dL_sound_174 : decode cL_sound 174 = .ok (.iadd, 1) := by decide +kernel
theorem dL_sound_175 : decode cL_sound 175 = .ok (.bipush 16, 2) := by decide +kernel
theorem dL_sound_177 : decode cL_sound 177 = .ok (.iload 15, 2) := by decide +kernel
theorem dL_sound_179 : decode cL_sound 179 = .ok (.imul, 1) := by decide +kernel
theorem dL_sound_180 : decode cL_sound 180 = .ok (.iadd, 1) := by decide +kernel
theorem dL_sound_181 : decode cL_sound 181 = .ok (.iload 16, 2) := by decide +kernel
theorem dL_sound_183 : decode cL_sound 183 = .ok (.iadd, 1) := by decide +kernel
theorem dL_sound_184 : decode cL_sound 184 = .ok (.iconst 1, 1) := by decide +kernel
theorem dL_sound_185 : decode cL_sound 185 = .ok (.iadd, 1) := by decide +kernel
theorem dL_sound_186 : decode cL_sound 186 = .ok (.istore 17, 2) := by decide +kernel
theorem dL_sound_188 : decode cL_sound 188 = .ok (.aload_n 0, 1) := by decide +kernel
theorem dL_sound_189 : decode cL_sound 189 = .ok (.iload 12, 2) := by decide +kernel
theorem dL_sound_191 : decode cL_sound 191 = .ok (.iconst 4, 1) := by decide +kernel
theorem dL_sound_192 : decode cL_sound 192 = .ok (.invokestatic 123, 3) := by decide +kernel
theorem dL_sound_195 : decode cL_sound 195 = .ok (.istore 18, 2) := by decide +kernel
theorem dL_sound_197 : decode cL_sound 197 = .ok (.iload 13, 2) := by decide +kernel
theorem dL_sound_199 : decode cL_sound 199 = .ok (.ifCond .ne 23, 3) := by decide +kernel
theorem dL_sound_202 : decode cL_sound 202 = .ok (.iconst 2, 1) := by decide +kernel
theorem dL_sound_203 : decode cL_sound 203 = .ok (.aload_n 0, 1) := by decide +kernel
theorem dL_sound_204 : decode cL_sound 204 = .ok (.iload 14, 2) := by decide +kernel
theorem dL_sound_206 : decode cL_sound 206 = .ok (.iconst 0, 1) := by decide +kernel
theorem dL_sound_207 : decode cL_sound 207 = .ok (.invokestatic 117, 3) := by decide +kernel
theorem dL_sound_210 : decode cL_sound 210 = .ok (.imul, 1) := by decide +kernel
theorem dL_sound_211 : decode cL_sound 211 = .ok (.aload_n 0, 1) := by decide +kernel
theorem dL_sound_212 : decode cL_sound 212 = .ok (.iload 15, 2) := by decide +kernel
theorem dL_sound_214 : decode cL_sound 214 = .ok (.iconst 0, 1) := by decide +kernel
theorem dL_sound_215 : decode cL_sound 215 = .ok (.invokestatic 117, 3) := by decide +kernel
theorem dL_sound_218 : decode cL_sound 218 = .ok (.isub, 1) := by decide +kernel
theorem dL_sound_219 : decode cL_sound 219 = .ok (.goto 54, 3) := by decide +kernel
theorem dL_sound_222 : decode cL_sound 222 = .ok (.iload 13, 2) := by decide +kernel
theorem dL_sound_224 : decode cL_sound 224 = .ok (.iconst 1, 1) := by decide +kernel
theorem dL_sound_225 : decode cL_sound 225 = .ok (.if_icmp .ne 29, 3) := by decide +kernel
theorem dL_sound_228 : decode cL_sound 228 = .ok (.aload_n 0, 1) := by decide +kernel
theorem dL_sound_229 : decode cL_sound 229 = .ok (.iload 14, 2) := by decide +kernel
theorem dL_sound_231 : decode cL_sound 231 = .ok (.iconst 0, 1) := by decide +kernel
theorem dL_sound_232 : decode cL_sound 232 = .ok (.invokestatic 117, 3) := by decide +kernel
theorem dL_sound_235 : decode cL_sound 235 = .ok (.aload_n 0, 1) := by decide +kernel
theorem dL_sound_236 : decode cL_sound 236 = .ok (.iload 15, 2) := by decide +kernel
theorem dL_sound_238 : decode cL_sound 238 = .ok (.iconst 0, 1) := by decide +kernel
theorem dL_sound_239 : decode cL_sound 239 = .ok (.invokestatic 117, 3) := by decide +kernel
theorem dL_sound_242 : decode cL_sound 242 = .ok (.iadd, 1) := by decide +kernel
theorem dL_sound_243 : decode cL_sound 243 = .ok (.aload_n 0, 1) := by decide +kernel
theorem dL_sound_244 : decode cL_sound 244 = .ok (.iload 16, 2) := by decide +kernel
theorem dL_sound_246 : decode cL_sound 246 = .ok (.iconst 0, 1) := by decide +kernel
theorem dL_sound_247 : decode cL_sound 247 = .ok (.invokestatic 117, 3) := by decide +kernel
theorem dL_sound_250 : decode cL_sound 250 = .ok (.isub, 1) := by decide +kernel
theorem dL_sound_251 : decode cL_sound 251 = .ok (.goto 22, 3) := by decide +kernel
theorem dL_sound_254 : decode cL_sound 254 = .ok (.iconst 3, 1) := by decide +kernel
theorem dL_sound_255 : decode cL_sound 255 = .ok (.aload_n 0, 1) := by decide +kernel
theorem dL_sound_256 : decode cL_sound 256 = .ok (.iload 14, 2) := by decide +kernel
theorem dL_sound_258 : decode cL_sound 258 = .ok (.iconst 0, 1) := by decide +kernel
theorem dL_sound_259 : decode cL_sound 259 = .ok (.invokestatic 117, 3) := by decide +kernel
theorem dL_sound_262 : decode cL_sound 262 = .ok (.imul, 1) := by decide +kernel
theorem dL_sound_263 : decode cL_sound 263 = .ok (.iconst 2, 1) := by decide +kernel
theorem dL_sound_264 : decode cL_sound 264 = .ok (.aload_n 0, 1) := by decide +kernel
theorem dL_sound_265 : decode cL_sound 265 = .ok (.iload 15, 2) := by decide +kernel
theorem dL_sound_267 : decode cL_sound 267 = .ok (.iconst 0, 1) := by decide +kernel
theorem dL_sound_268 : decode cL_sound 268 = .ok (.invokestatic 117, 3) := by decide +kernel
theorem dL_sound_271 : decode cL_sound 271 = .ok (.imul, 1) := by decide +kernel
theorem dL_sound_272 : decode cL_sound 272 = .ok (.isub, 1) := by decide +kernel
theorem dL_sound_273 : decode cL_sound 273 = .ok (.istore 19, 2) := by decide +kernel
theorem dL_sound_275 : decode cL_sound 275 = .ok (.iload 17, 2) := by decide +kernel
theorem dL_sound_277 : decode cL_sound 277 = .ok (.iload 7, 2) := by decide +kernel
theorem dL_sound_279 : decode cL_sound 279 = .ok (.if_icmp .le 90, 3) := by decide +kernel
theorem dL_sound_282 : decode cL_sound 282 = .ok (.iload 14, 2) := by decide +kernel
theorem dL_sound_284 : decode cL_sound 284 = .ok (.iload 15, 2) := by decide +kernel
theorem dL_sound_286 : decode cL_sound 286 = .ok (.if_icmp .eq 83, 3) := by decide +kernel
theorem dL_sound_289 : decode cL_sound 289 = .ok (.iload 14, 2) := by decide +kernel
theorem dL_sound_291 : decode cL_sound 291 = .ok (.iload 16, 2) := by decide +kernel
theorem dL_sound_293 : decode cL_sound 293 = .ok (.if_icmp .eq 76, 3) := by decide +kernel
theorem dL_sound_296 : decode cL_sound 296 = .ok (.iload 15, 2) := by decide +kernel
theorem dL_sound_298 : decode cL_sound 298 = .ok (.iload 16, 2) := by decide +kernel
theorem dL_sound_300 : decode cL_sound 300 = .ok (.if_icmp .eq 69, 3) := by decide +kernel
theorem dL_sound_303 : decode cL_sound 303 = .ok (.iload 18, 2) := by decide +kernel
theorem dL_sound_305 : decode cL_sound 305 = .ok (.ifCond .lt 64, 3) := by decide +kernel
theorem dL_sound_308 : decode cL_sound 308 = .ok (.iload 18, 2) := by decide +kernel
theorem dL_sound_310 : decode cL_sound 310 = .ok (.bipush 63, 2) := by decide +kernel
theorem dL_sound_312 : decode cL_sound 312 = .ok (.if_icmp .gt 57, 3) := by decide +kernel
theorem dL_sound_315 : decode cL_sound 315 = .ok (.iload 19, 2) := by decide +kernel
theorem dL_sound_317 : decode cL_sound 317 = .ok (.iload 18, 2) := by decide +kernel
theorem dL_sound_319 : decode cL_sound 319 = .ok (.if_icmp .ne 50, 3) := by decide +kernel
theorem dL_sound_322 : decode cL_sound 322 = .ok (.aload_n 0, 1) := by decide +kernel
theorem dL_sound_323 : decode cL_sound 323 = .ok (.iload 12, 2) := by decide +kernel
theorem dL_sound_325 : decode cL_sound 325 = .ok (.iconst 5, 1) := by decide +kernel
theorem dL_sound_326 : decode cL_sound 326 = .ok (.invokestatic 123, 3) := by decide +kernel
theorem dL_sound_329 : decode cL_sound 329 = .ok (.ifCond .lt 40, 3) := by decide +kernel
theorem dL_sound_332 : decode cL_sound 332 = .ok (.iload 13, 2) := by decide +kernel
theorem dL_sound_334 : decode cL_sound 334 = .ok (.iconst 1, 1) := by decide +kernel
theorem dL_sound_335 : decode cL_sound 335 = .ok (.if_icmp .ne 10, 3) := by decide +kernel
theorem dL_sound_338 : decode cL_sound 338 = .ok (.iload 14, 2) := by decide +kernel
theorem dL_sound_340 : decode cL_sound 340 = .ok (.iload 15, 2) := by decide +kernel
theorem dL_sound_342 : decode cL_sound 342 = .ok (.if_icmp .gt 27, 3) := by decide +kernel
theorem dL_sound_345 : decode cL_sound 345 = .ok (.iload 16, 2) := by decide +kernel
theorem dL_sound_347 : decode cL_sound 347 = .ok (.ifCond .ge 7, 3) := by decide +kernel
theorem dL_sound_350 : decode cL_sound 350 = .ok (.iconst 1, 1) := by decide +kernel
theorem dL_sound_351 : decode cL_sound 351 = .ok (.goto 4, 3) := by decide +kernel
theorem dL_sound_354 : decode cL_sound 354 = .ok (.iconst 0, 1) := by decide +kernel
theorem dL_sound_355 : decode cL_sound 355 = .ok (.iload 13, 2) := by decide +kernel
theorem dL_sound_357 : decode cL_sound 357 = .ok (.iconst 1, 1) := by decide +kernel
theorem dL_sound_358 : decode cL_sound 358 = .ok (.if_icmp .eq 7, 3) := by decide +kernel
theorem dL_sound_361 : decode cL_sound 361 = .ok (.iconst 1, 1) := by decide +kernel
theorem dL_sound_362 : decode cL_sound 362 = .ok (.goto 4, 3) := by decide +kernel
theorem dL_sound_365 : decode cL_sound 365 = .ok (.iconst 0, 1) := by decide +kernel
theorem dL_sound_366 : decode cL_sound 366 = .ok (.if_icmp .eq 5, 3) := by decide +kernel
theorem dL_sound_369 : decode cL_sound 369 = .ok (.iconst 0, 1) := by decide +kernel
theorem dL_sound_370 : decode cL_sound 370 = .ok (.ireturn, 1) := by decide +kernel
theorem dL_sound_371 : decode cL_sound 371 = .ok (.iload 17, 2) := by decide +kernel
theorem dL_sound_373 : decode cL_sound 373 = .ok (.istore 7, 2) := by decide +kernel
theorem dL_sound_375 : decode cL_sound 375 = .ok (.lload 8, 2) := by decide +kernel
theorem dL_sound_377 : decode cL_sound 377 = .ok (.lconst 1, 1) := by decide +kernel
theorem dL_sound_378 : decode cL_sound 378 = .ok (.iload 18, 2) := by decide +kernel
theorem dL_sound_380 : decode cL_sound 380 = .ok (.lshl, 1) := by decide +kernel
theorem dL_sound_381 : decode cL_sound 381 = .ok (.lor, 1) := by decide +kernel
theorem dL_sound_382 : decode cL_sound 382 = .ok (.lstore 8, 2) := by decide +kernel
theorem dL_sound_384 : decode cL_sound 384 = .ok (.iload 12, 2) := by decide +kernel
theorem dL_sound_386 : decode cL_sound 386 = .ok (.iload 11, 2) := by decide +kernel
theorem dL_sound_388 : decode cL_sound 388 = .ok (.iadd, 1) := by decide +kernel
theorem dL_sound_389 : decode cL_sound 389 = .ok (.istore 12, 2) := by decide +kernel
theorem dL_sound_391 : decode cL_sound 391 = .ok (.goto (-272), 3) := by decide +kernel
theorem dL_sound_394 : decode cL_sound 394 = .ok (.iload 6, 2) := by decide +kernel
theorem dL_sound_396 : decode cL_sound 396 = .ok (.ifCond .ne 22, 3) := by decide +kernel
theorem dL_sound_399 : decode cL_sound 399 = .ok (.aload_n 0, 1) := by decide +kernel
theorem dL_sound_400 : decode cL_sound 400 = .ok (.invokevirtual 126, 3) := by decide +kernel
theorem dL_sound_403 : decode cL_sound 403 = .ok (.ifCond .lt 11, 3) := by decide +kernel
theorem dL_sound_406 : decode cL_sound 406 = .ok (.aload_n 0, 1) := by decide +kernel
theorem dL_sound_407 : decode cL_sound 407 = .ok (.invokevirtual 126, 3) := by decide +kernel
theorem dL_sound_410 : decode cL_sound 410 = .ok (.iload_n 1, 1) := by decide +kernel
theorem dL_sound_411 : decode cL_sound 411 = .ok (.if_icmp .lt 7, 3) := by decide +kernel
theorem dL_sound_414 : decode cL_sound 414 = .ok (.iconst 1, 1) := by decide +kernel
theorem dL_sound_415 : decode cL_sound 415 = .ok (.goto 4, 3) := by decide +kernel
theorem dL_sound_418 : decode cL_sound 418 = .ok (.iconst 0, 1) := by decide +kernel
theorem dL_sound_419 : decode cL_sound 419 = .ok (.istore 12, 2) := by decide +kernel
theorem dL_sound_421 : decode cL_sound 421 = .ok (.aload_n 0, 1) := by decide +kernel
theorem dL_sound_422 : decode cL_sound 422 = .ok (.invokevirtual 129, 3) := by decide +kernel
theorem dL_sound_425 : decode cL_sound 425 = .ok (.istore 13, 2) := by decide +kernel
theorem dL_sound_427 : decode cL_sound 427 = .ok (.lload 8, 2) := by decide +kernel
theorem dL_sound_429 : decode cL_sound 429 = .ok (.lload 4, 2) := by decide +kernel
theorem dL_sound_431 : decode cL_sound 431 = .ok (.ldc2_w 111, 3) := by decide +kernel
theorem dL_sound_434 : decode cL_sound 434 = .ok (.lxor, 1) := by decide +kernel
theorem dL_sound_435 : decode cL_sound 435 = .ok (.land, 1) := by decide +kernel
theorem dL_sound_436 : decode cL_sound 436 = .ok (.lconst 0, 1) := by decide +kernel
theorem dL_sound_437 : decode cL_sound 437 = .ok (.lcmp, 1) := by decide +kernel
theorem dL_sound_438 : decode cL_sound 438 = .ok (.ifCond .ne 123, 3) := by decide +kernel
theorem dL_sound_441 : decode cL_sound 441 = .ok (.iload 10, 2) := by decide +kernel
theorem dL_sound_443 : decode cL_sound 443 = .ok (.ifCond .ne 7, 3) := by decide +kernel
theorem dL_sound_446 : decode cL_sound 446 = .ok (.iconst 1, 1) := by decide +kernel
theorem dL_sound_447 : decode cL_sound 447 = .ok (.goto 4, 3) := by decide +kernel
theorem dL_sound_450 : decode cL_sound 450 = .ok (.iconst 0, 1) := by decide +kernel
theorem dL_sound_451 : decode cL_sound 451 = .ok (.lload 4, 2) := by decide +kernel
theorem dL_sound_453 : decode cL_sound 453 = .ok (.lconst 0, 1) := by decide +kernel
theorem dL_sound_454 : decode cL_sound 454 = .ok (.lcmp, 1) := by decide +kernel
theorem dL_sound_455 : decode cL_sound 455 = .ok (.ifCond .ne 7, 3) := by decide +kernel
theorem dL_sound_458 : decode cL_sound 458 = .ok (.iconst 1, 1) := by decide +kernel
theorem dL_sound_459 : decode cL_sound 459 = .ok (.goto 4, 3) := by decide +kernel
theorem dL_sound_462 : decode cL_sound 462 = .ok (.iconst 0, 1) := by decide +kernel
theorem dL_sound_463 : decode cL_sound 463 = .ok (.if_icmp .ne 98, 3) := by decide +kernel
theorem dL_sound_466 : decode cL_sound 466 = .ok (.iload 6, 2) := by decide +kernel
theorem dL_sound_468 : decode cL_sound 468 = .ok (.aload_n 0, 1) := by decide +kernel
theorem dL_sound_469 : decode cL_sound 469 = .ok (.invokevirtual 132, 3) := by decide +kernel
theorem dL_sound_472 : decode cL_sound 472 = .ok (.if_icmp .ne 89, 3) := by decide +kernel
theorem dL_sound_475 : decode cL_sound 475 = .ok (.aload_n 0, 1) := by decide +kernel
theorem dL_sound_476 : decode cL_sound 476 = .ok (.invokevirtual 135, 3) := by decide +kernel
theorem dL_sound_479 : decode cL_sound 479 = .ok (.iload 12, 2) := by decide +kernel
theorem dL_sound_481 : decode cL_sound 481 = .ok (.if_icmp .ne 80, 3) := by decide +kernel
theorem dL_sound_484 : decode cL_sound 484 = .ok (.aload_n 0, 1) := by decide +kernel
theorem dL_sound_485 : decode cL_sound 485 = .ok (.invokevirtual 113, 3) := by decide +kernel
theorem dL_sound_488 : decode cL_sound 488 = .ok (.invokestatic 139, 3) := by decide +kernel
theorem dL_sound_491 : decode cL_sound 491 = .ok (.iload_n 2, 1) := by decide +kernel
theorem dL_sound_492 : decode cL_sound 492 = .ok (.if_icmp .ne 69, 3) := by decide +kernel
theorem dL_sound_495 : decode cL_sound 495 = .ok (.iload 13, 2) := by decide +kernel
theorem dL_sound_497 : decode cL_sound 497 = .ok (.ifCond .ne 7, 3) := by decide +kernel
theorem dL_sound_500 : decode cL_sound 500 = .ok (.iconst 1, 1) := by decide +kernel
theorem dL_sound_501 : decode cL_sound 501 = .ok (.goto 4, 3) := by decide +kernel
theorem dL_sound_504 : decode cL_sound 504 = .ok (.iconst 0, 1) := by decide +kernel
theorem dL_sound_505 : decode cL_sound 505 = .ok (.iload 12, 2) := by decide +kernel
theorem dL_sound_507 : decode cL_sound 507 = .ok (.if_icmp .ne 54, 3) := by decide +kernel
theorem dL_sound_510 : decode cL_sound 510 = .ok (.iload 13, 2) := by decide +kernel
theorem dL_sound_512 : decode cL_sound 512 = .ok (.iload_n 3, 1) := by decide +kernel
theorem dL_sound_513 : decode cL_sound 513 = .ok (.iconst (-1), 1) := by decide +kernel
theorem dL_sound_514 : decode cL_sound 514 = .ok (.ixor, 1) := by decide +kernel
theorem dL_sound_515 : decode cL_sound 515 = .ok (.iand, 1) := by decide +kernel
theorem dL_sound_516 : decode cL_sound 516 = .ok (.ifCond .ne 45, 3) := by decide +kernel
theorem dL_sound_519 : decode cL_sound 519 = .ok (.aload_n 0, 1) := by decide +kernel
theorem dL_sound_520 : decode cL_sound 520 = .ok (.invokevirtual 126, 3) := by decide +kernel
theorem dL_sound_523 : decode cL_sound 523 = .ok (.ifCond .ge 7, 3) := by decide +kernel
theorem dL_sound_526 : decode cL_sound 526 = .ok (.iconst 1, 1) := by decide +kernel
theorem dL_sound_527 : decode cL_sound 527 = .ok (.goto 4, 3) := by decide +kernel
theorem dL_sound_530 : decode cL_sound 530 = .ok (.iconst 0, 1) := by decide +kernel
theorem dL_sound_531 : decode cL_sound 531 = .ok (.iload_n 2, 1) := by decide +kernel
theorem dL_sound_532 : decode cL_sound 532 = .ok (.iconst 2, 1) := by decide +kernel
theorem dL_sound_533 : decode cL_sound 533 = .ok (.if_icmp .ge 7, 3) := by decide +kernel
theorem dL_sound_536 : decode cL_sound 536 = .ok (.iconst 1, 1) := by decide +kernel
theorem dL_sound_537 : decode cL_sound 537 = .ok (.goto 4, 3) := by decide +kernel
theorem dL_sound_540 : decode cL_sound 540 = .ok (.iconst 0, 1) := by decide +kernel
theorem dL_sound_541 : decode cL_sound 541 = .ok (.if_icmp .ne 20, 3) := by decide +kernel
theorem dL_sound_544 : decode cL_sound 544 = .ok (.aload_n 0, 1) := by decide +kernel
theorem dL_sound_545 : decode cL_sound 545 = .ok (.iload 10, 2) := by decide +kernel
theorem dL_sound_547 : decode cL_sound 547 = .ok (.iconst 0, 1) := by decide +kernel
theorem dL_sound_548 : decode cL_sound 548 = .ok (.invokestatic 123, 3) := by decide +kernel
theorem dL_sound_551 : decode cL_sound 551 = .ok (.sipush (-903), 3) := by decide +kernel
theorem dL_sound_554 : decode cL_sound 554 = .ok (.if_icmp .ne 7, 3) := by decide +kernel
theorem dL_sound_557 : decode cL_sound 557 = .ok (.iconst 1, 1) := by decide +kernel
theorem dL_sound_558 : decode cL_sound 558 = .ok (.goto 4, 3) := by decide +kernel
theorem dL_sound_561 : decode cL_sound 561 = .ok (.iconst 0, 1) := by decide +kernel
theorem dL_sound_562 : decode cL_sound 562 = .ok (.ireturn, 1) := by decide +kernel
theorem dL_opens_0 : decode cL_opens 0 = .ok (.aload_n 0, 1) := by decide +kernel
theorem dL_opens_1 : decode cL_opens 1 = .ok (.iload_n 1, 1) := by decide +kernel
theorem dL_opens_2 : decode cL_opens 2 = .ok (.invokestatic 143, 3) := by decide +kernel
theorem dL_opens_5 : decode cL_opens 5 = .ok (.lstore_n 2, 1) := by decide +kernel
theorem dL_opens_6 : decode cL_opens 6 = .ok (.lload_n 2, 1) := by decide +kernel
theorem dL_opens_7 : decode cL_opens 7 = .ok (.aload_n 0, 1) := by decide +kernel
theorem dL_opens_8 : decode cL_opens 8 = .ok (.invokevirtual 113, 3) := by decide +kernel
theorem dL_opens_11 : decode cL_opens 11 = .ok (.land, 1) := by decide +kernel
theorem dL_opens_12 : decode cL_opens 12 = .ok (.lconst 0, 1) := by decide +kernel
theorem dL_opens_13 : decode cL_opens 13 = .ok (.lcmp, 1) := by decide +kernel
theorem dL_opens_14 : decode cL_opens 14 = .ok (.ifCond .ne 16, 3) := by decide +kernel
theorem dL_opens_17 : decode cL_opens 17 = .ok (.aload_n 0, 1) := by decide +kernel
theorem dL_opens_18 : decode cL_opens 18 = .ok (.invokevirtual 135, 3) := by decide +kernel
theorem dL_opens_21 : decode cL_opens 21 = .ok (.ifCond .ne 11, 3) := by decide +kernel
theorem dL_opens_24 : decode cL_opens 24 = .ok (.lload_n 2, 1) := by decide +kernel
theorem dL_opens_25 : decode cL_opens 25 = .ok (.lconst 0, 1) := by decide +kernel
theorem dL_opens_26 : decode cL_opens 26 = .ok (.lcmp, 1) := by decide +kernel
theorem dL_opens_27 : decode cL_opens 27 = .ok (.ifCond .eq 5, 3) := by decide +kernel
theorem dL_opens_30 : decode cL_opens 30 = .ok (.iconst 0, 1) := by decide +kernel
theorem dL_opens_31 : decode cL_opens 31 = .ok (.ireturn, 1) := by decide +kernel
theorem dL_opens_32 : decode cL_opens 32 = .ok (.aload_n 0, 1) := by decide +kernel
theorem dL_opens_33 : decode cL_opens 33 = .ok (.iconst 0, 1) := by decide +kernel
theorem dL_opens_34 : decode cL_opens 34 = .ok (.invokestatic 101, 3) := by decide +kernel
theorem dL_opens_37 : decode cL_opens 37 = .ok (.istore 4, 2) := by decide +kernel
theorem dL_opens_39 : decode cL_opens 39 = .ok (.aload_n 0, 1) := by decide +kernel
theorem dL_opens_40 : decode cL_opens 40 = .ok (.iload_n 1, 1) := by decide +kernel
theorem dL_opens_41 : decode cL_opens 41 = .ok (.invokestatic 145, 3) := by decide +kernel
theorem dL_opens_44 : decode cL_opens 44 = .ok (.istore 5, 2) := by decide +kernel
theorem dL_opens_46 : decode cL_opens 46 = .ok (.iload 4, 2) := by decide +kernel
theorem dL_opens_48 : decode cL_opens 48 = .ok (.bipush 10, 2) := by decide +kernel
theorem dL_opens_50 : decode cL_opens 50 = .ok (.if_icmp .ne 17, 3) := by decide +kernel
theorem dL_opens_53 : decode cL_opens 53 = .ok (.iload 5, 2) := by decide +kernel
theorem dL_opens_55 : decode cL_opens 55 = .ok (.sipush (-902), 3) := by decide +kernel
theorem dL_opens_58 : decode cL_opens 58 = .ok (.if_icmp .ne 7, 3) := by decide +kernel
theorem dL_opens_61 : decode cL_opens 61 = .ok (.iconst 1, 1) := by decide +kernel
theorem dL_opens_62 : decode cL_opens 62 = .ok (.goto 4, 3) := by decide +kernel
theorem dL_opens_65 : decode cL_opens 65 = .ok (.iconst 0, 1) := by decide +kernel
theorem dL_opens_66 : decode cL_opens 66 = .ok (.ireturn, 1) := by decide +kernel
theorem dL_opens_67 : decode cL_opens 67 = .ok (.lload_n 2, 1) := by decide +kernel
theorem dL_opens_68 : decode cL_opens 68 = .ok (.lconst 0, 1) := by decide +kernel
theorem dL_opens_69 : decode cL_opens 69 = .ok (.lcmp, 1) := by decide +kernel
theorem dL_opens_70 : decode cL_opens 70 = .ok (.ifCond .ne 25, 3) := by decide +kernel
theorem dL_opens_73 : decode cL_opens 73 = .ok (.iload 5, 2) := by decide +kernel
theorem dL_opens_75 : decode cL_opens 75 = .ok (.iconst (-1), 1) := by decide +kernel
theorem dL_opens_76 : decode cL_opens 76 = .ok (.if_icmp .ne 17, 3) := by decide +kernel
theorem dL_opens_79 : decode cL_opens 79 = .ok (.aload_n 0, 1) := by decide +kernel
theorem dL_opens_80 : decode cL_opens 80 = .ok (.iconst 0, 1) := by decide +kernel
theorem dL_opens_81 : decode cL_opens 81 = .ok (.invokestatic 101, 3) := by decide +kernel
theorem dL_opens_84 : decode cL_opens 84 = .ok (.iload 4, 2) := by decide +kernel
theorem dL_opens_86 : decode cL_opens 86 = .ok (.if_icmp .ne 7, 3) := by decide +kernel
theorem dL_opens_89 : decode cL_opens 89 = .ok (.iconst 1, 1) := by decide +kernel
theorem dL_opens_90 : decode cL_opens 90 = .ok (.goto 4, 3) := by decide +kernel
theorem dL_opens_93 : decode cL_opens 93 = .ok (.iconst 0, 1) := by decide +kernel
theorem dL_opens_94 : decode cL_opens 94 = .ok (.ireturn, 1) := by decide +kernel
theorem dL_opens_95 : decode cL_opens 95 = .ok (.lload_n 2, 1) := by decide +kernel
theorem dL_opens_96 : decode cL_opens 96 = .ok (.iload 5, 2) := by decide +kernel
theorem dL_opens_98 : decode cL_opens 98 = .ok (.lshr, 1) := by decide +kernel
theorem dL_opens_99 : decode cL_opens 99 = .ok (.lconst 1, 1) := by decide +kernel
theorem dL_opens_100 : decode cL_opens 100 = .ok (.land, 1) := by decide +kernel
theorem dL_opens_101 : decode cL_opens 101 = .ok (.lconst 1, 1) := by decide +kernel
theorem dL_opens_102 : decode cL_opens 102 = .ok (.lcmp, 1) := by decide +kernel
theorem dL_opens_103 : decode cL_opens 103 = .ok (.ifCond .ne 70, 3) := by decide +kernel
theorem dL_opens_106 : decode cL_opens 106 = .ok (.lload_n 2, 1) := by decide +kernel
theorem dL_opens_107 : decode cL_opens 107 = .ok (.lconst 1, 1) := by decide +kernel
theorem dL_opens_108 : decode cL_opens 108 = .ok (.iload 5, 2) := by decide +kernel
theorem dL_opens_110 : decode cL_opens 110 = .ok (.lshl, 1) := by decide +kernel
theorem dL_opens_111 : decode cL_opens 111 = .ok (.lconst 1, 1) := by decide +kernel
theorem dL_opens_112 : decode cL_opens 112 = .ok (.lsub, 1) := by decide +kernel
theorem dL_opens_113 : decode cL_opens 113 = .ok (.land, 1) := by decide +kernel
theorem dL_opens_114 : decode cL_opens 114 = .ok (.lconst 0, 1) := by decide +kernel
theorem dL_opens_115 : decode cL_opens 115 = .ok (.lcmp, 1) := by decide +kernel
theorem dL_opens_116 : decode cL_opens 116 = .ok (.ifCond .ne 57, 3) := by decide +kernel
theorem dL_opens_119 : decode cL_opens 119 = .ok (.aload_n 0, 1) := by decide +kernel
theorem dL_opens_120 : decode cL_opens 120 = .ok (.invokevirtual 135, 3) := by decide +kernel
theorem dL_opens_123 : decode cL_opens 123 = .ok (.ifCond .eq 50, 3) := by decide +kernel
theorem dL_opens_126 : decode cL_opens 126 = .ok (.aload_n 0, 1) := by decide +kernel
theorem dL_opens_127 : decode cL_opens 127 = .ok (.iconst 0, 1) := by decide +kernel
theorem dL_opens_128 : decode cL_opens 128 = .ok (.invokestatic 101, 3) := by decide +kernel
theorem dL_opens_131 : decode cL_opens 131 = .ok (.iload 4, 2) := by decide +kernel
theorem dL_opens_133 : decode cL_opens 133 = .ok (.iconst 1, 1) := by decide +kernel
theorem dL_opens_134 : decode cL_opens 134 = .ok (.iadd, 1) := by decide +kernel
theorem dL_opens_135 : decode cL_opens 135 = .ok (.if_icmp .ne 38, 3) := by decide +kernel
theorem dL_opens_138 : decode cL_opens 138 = .ok (.aload_n 0, 1) := by decide +kernel
theorem dL_opens_139 : decode cL_opens 139 = .ok (.iload 4, 2) := by decide +kernel
theorem dL_opens_141 : decode cL_opens 141 = .ok (.iconst 0, 1) := by decide +kernel
theorem dL_opens_142 : decode cL_opens 142 = .ok (.invokestatic 117, 3) := by decide +kernel
theorem dL_opens_145 : decode cL_opens 145 = .ok (.iload 5, 2) := by decide +kernel
theorem dL_opens_147 : decode cL_opens 147 = .ok (.if_icmp .ne 26, 3) := by decide +kernel
theorem dL_opens_150 : decode cL_opens 150 = .ok (.aload_n 0, 1) := by decide +kernel
theorem dL_opens_151 : decode cL_opens 151 = .ok (.iload 4, 2) := by decide +kernel
theorem dL_opens_153 : decode cL_opens 153 = .ok (.iconst 1, 1) := by decide +kernel
theorem dL_opens_154 : decode cL_opens 154 = .ok (.invokestatic 117, 3) := by decide +kernel
theorem dL_opens_157 : decode cL_opens 157 = .ok (.iload_n 1, 1) := by decide +kernel
theorem dL_opens_158 : decode cL_opens 158 = .ok (.if_icmp .ne 15, 3) := by decide +kernel
theorem dL_opens_161 : decode cL_opens 161 = .ok (.aload_n 0, 1) := by decide +kernel
theorem dL_opens_162 : decode cL_opens 162 = .ok (.iconst 2, 1) := by decide +kernel
theorem dL_opens_163 : decode cL_opens 163 = .ok (.invokestatic 101, 3) := by decide +kernel
theorem dL_opens_166 : decode cL_opens 166 = .ok (.ifCond .ne 7, 3) := by decide +kernel
theorem dL_opens_169 : decode cL_opens 169 = .ok (.iconst 1, 1) := by decide +kernel
theorem dL_opens_170 : decode cL_opens 170 = .ok (.goto 4, 3) := by decide +kernel
theorem dL_opens_173 : decode cL_opens 173 = .ok (.iconst 0, 1) := by decide +kernel
theorem dL_opens_174 : decode cL_opens 174 = .ok (.istore 6, 2) := by decide +kernel
theorem dL_opens_176 : decode cL_opens 176 = .ok (.iload 6, 2) := by decide +kernel
theorem dL_opens_178 : decode cL_opens 178 = .ok (.ifCond .eq 24, 3) := by decide +kernel
theorem dL_opens_181 : decode cL_opens 181 = .ok (.aload_n 0, 1) := by decide +kernel
theorem dL_opens_182 : decode cL_opens 182 = .ok (.invokestatic 147, 3) := by decide +kernel
theorem dL_opens_185 : decode cL_opens 185 = .ok (.ifCond .lt 17, 3) := by decide +kernel
theorem dL_opens_188 : decode cL_opens 188 = .ok (.aload_n 0, 1) := by decide +kernel
theorem dL_opens_189 : decode cL_opens 189 = .ok (.iload_n 1, 1) := by decide +kernel
theorem dL_opens_190 : decode cL_opens 190 = .ok (.invokestatic 143, 3) := by decide +kernel
theorem dL_opens_193 : decode cL_opens 193 = .ok (.lload_n 2, 1) := by decide +kernel
theorem dL_opens_194 : decode cL_opens 194 = .ok (.lcmp, 1) := by decide +kernel
theorem dL_opens_195 : decode cL_opens 195 = .ok (.ifCond .ne 7, 3) := by decide +kernel
theorem dL_opens_198 : decode cL_opens 198 = .ok (.iconst 1, 1) := by decide +kernel
theorem dL_opens_199 : decode cL_opens 199 = .ok (.goto 4, 3) := by decide +kernel
theorem dL_opens_202 : decode cL_opens 202 = .ok (.iconst 0, 1) := by decide +kernel
theorem dL_opens_203 : decode cL_opens 203 = .ok (.ireturn, 1) := by decide +kernel
theorem dL_spans_0 : decode cL_spans 0 = .ok (.iconst 0, 1) := by decide +kernel
theorem dL_spans_1 : decode cL_spans 1 = .ok (.istore_n 1, 1) := by decide +kernel
theorem dL_spans_2 : decode cL_spans 2 = .ok (.iconst 1, 1) := by decide +kernel
theorem dL_spans_3 : decode cL_spans 3 = .ok (.istore_n 2, 1) := by decide +kernel
theorem dL_spans_4 : decode cL_spans 4 = .ok (.iload_n 2, 1) := by decide +kernel
theorem dL_spans_5 : decode cL_spans 5 = .ok (.bipush 6, 2) := by decide +kernel
theorem dL_spans_7 : decode cL_spans 7 = .ok (.if_icmp .ge 121, 3) := by decide +kernel
theorem dL_spans_10 : decode cL_spans 10 = .ok (.aload_n 0, 1) := by decide +kernel
theorem dL_spans_11 : decode cL_spans 11 = .ok (.iload_n 2, 1) := by decide +kernel
theorem dL_spans_12 : decode cL_spans 12 = .ok (.invokestatic 150, 3) := by decide +kernel
theorem dL_spans_15 : decode cL_spans 15 = .ok (.istore_n 3, 1) := by decide +kernel
theorem dL_spans_16 : decode cL_spans 16 = .ok (.aload_n 0, 1) := by decide +kernel
theorem dL_spans_17 : decode cL_spans 17 = .ok (.iload_n 2, 1) := by decide +kernel
theorem dL_spans_18 : decode cL_spans 18 = .ok (.invokestatic 152, 3) := by decide +kernel
theorem dL_spans_21 : decode cL_spans 21 = .ok (.lstore 4, 2) := by decide +kernel
theorem dL_spans_23 : decode cL_spans 23 = .ok (.iload_n 3, 1) := by decide +kernel
theorem dL_spans_24 : decode cL_spans 24 = .ok (.ifCond .ge 33, 3) := by decide +kernel
theorem dL_spans_27 : decode cL_spans 27 = .ok (.lload 4, 2) := by decide +kernel
theorem dL_spans_29 : decode cL_spans 29 = .ok (.lconst 0, 1) := by decide +kernel
theorem dL_spans_30 : decode cL_spans 30 = .ok (.lcmp, 1) := by decide +kernel
theorem dL_spans_31 : decode cL_spans 31 = .ok (.ifCond .ne 24, 3) := by decide +kernel
theorem dL_spans_34 : decode cL_spans 34 = .ok (.aload_n 0, 1) := by decide +kernel
theorem dL_spans_35 : decode cL_spans 35 = .ok (.iload_n 2, 1) := by decide +kernel
theorem dL_spans_36 : decode cL_spans 36 = .ok (.bipush 40, 2) := by decide +kernel
theorem dL_spans_38 : decode cL_spans 38 = .ok (.invokestatic 154, 3) := by decide +kernel
theorem dL_spans_41 : decode cL_spans 41 = .ok (.ifCond .ne 14, 3) := by decide +kernel
theorem dL_spans_44 : decode cL_spans 44 = .ok (.aload_n 0, 1) := by decide +kernel
theorem dL_spans_45 : decode cL_spans 45 = .ok (.iload_n 2, 1) := by decide +kernel
theorem dL_spans_46 : decode cL_spans 46 = .ok (.iconst 1, 1) := by decide +kernel
theorem dL_spans_47 : decode cL_spans 47 = .ok (.iadd, 1) := by decide +kernel
theorem dL_spans_48 : decode cL_spans 48 = .ok (.invokestatic 150, 3) := by decide +kernel
theorem dL_spans_51 : decode cL_spans 51 = .ok (.iconst (-1), 1) := by decide +kernel
theorem dL_spans_52 : decode cL_spans 52 = .ok (.if_icmp .eq 68, 3) := by decide +kernel
theorem dL_spans_55 : decode cL_spans 55 = .ok (.iconst 0, 1) := by decide +kernel
theorem dL_spans_56 : decode cL_spans 56 = .ok (.ireturn, 1) := by decide +kernel
theorem dL_spans_57 : decode cL_spans 57 = .ok (.iload_n 1, 1) := by decide +kernel
theorem dL_spans_58 : decode cL_spans 58 = .ok (.ifCond .lt 60, 3) := by decide +kernel
theorem dL_spans_61 : decode cL_spans 61 = .ok (.iload_n 3, 1) := by decide +kernel
theorem dL_spans_62 : decode cL_spans 62 = .ok (.iload_n 1, 1) := by decide +kernel
theorem dL_spans_63 : decode cL_spans 63 = .ok (.if_icmp .lt 55, 3) := by decide +kernel
theorem dL_spans_66 : decode cL_spans 66 = .ok (.lload 4, 2) := by decide +kernel
theorem dL_spans_68 : decode cL_spans 68 = .ok (.invokestatic 139, 3) := by decide +kernel
theorem dL_spans_71 : decode cL_spans 71 = .ok (.iload_n 2, 1) := by decide +kernel
theorem dL_spans_72 : decode cL_spans 72 = .ok (.if_icmp .ne 46, 3) := by decide +kernel
theorem dL_spans_75 : decode cL_spans 75 = .ok (.lload 4, 2) := by decide +kernel
theorem dL_spans_77 : decode cL_spans 77 = .ok (.invokestatic 156, 3) := by decide +kernel
theorem dL_spans_80 : decode cL_spans 80 = .ok (.iload_n 3, 1) := by decide +kernel
theorem dL_spans_81 : decode cL_spans 81 = .ok (.if_icmp .ne 37, 3) := by decide +kernel
theorem dL_spans_84 : decode cL_spans 84 = .ok (.lload 4, 2) := by decide +kernel
theorem dL_spans_86 : decode cL_spans 86 = .ok (.lconst 1, 1) := by decide +kernel
theorem dL_spans_87 : decode cL_spans 87 = .ok (.land, 1) := by decide +kernel
theorem dL_spans_88 : decode cL_spans 88 = .ok (.lconst 1, 1) := by decide +kernel
theorem dL_spans_89 : decode cL_spans 89 = .ok (.lcmp, 1) := by decide +kernel
theorem dL_spans_90 : decode cL_spans 90 = .ok (.ifCond .ne 28, 3) := by decide +kernel
theorem dL_spans_93 : decode cL_spans 93 = .ok (.aload_n 0, 1) := by decide +kernel
theorem dL_spans_94 : decode cL_spans 94 = .ok (.iload_n 2, 1) := by decide +kernel
theorem dL_spans_95 : decode cL_spans 95 = .ok (.iload_n 3, 1) := by decide +kernel
theorem dL_spans_96 : decode cL_spans 96 = .ok (.invokestatic 154, 3) := by decide +kernel
theorem dL_spans_99 : decode cL_spans 99 = .ok (.iconst 1, 1) := by decide +kernel
theorem dL_spans_100 : decode cL_spans 100 = .ok (.if_icmp .lt 18, 3) := by decide +kernel
theorem dL_spans_103 : decode cL_spans 103 = .ok (.iload_n 3, 1) := by decide +kernel
theorem dL_spans_104 : decode cL_spans 104 = .ok (.ifCond .le 16, 3) := by decide +kernel
theorem dL_spans_107 : decode cL_spans 107 = .ok (.aload_n 0, 1) := by decide +kernel
theorem dL_spans_108 : decode cL_spans 108 = .ok (.iload_n 2, 1) := by decide +kernel
theorem dL_spans_109 : decode cL_spans 109 = .ok (.iload_n 3, 1) := by decide +kernel
theorem dL_spans_110 : decode cL_spans 110 = .ok (.iconst 1, 1) := by decide +kernel
theorem dL_spans_111 : decode cL_spans 111 = .ok (.isub, 1) := by decide +kernel
theorem dL_spans_112 : decode cL_spans 112 = .ok (.invokestatic 154, 3) := by decide +kernel
theorem dL_spans_115 : decode cL_spans 115 = .ok (.ifCond .eq 5, 3) := by decide +kernel
theorem dL_spans_118 : decode cL_spans 118 = .ok (.iconst 0, 1) := by decide +kernel
theorem dL_spans_119 : decode cL_spans 119 = .ok (.ireturn, 1) := by decide +kernel
theorem dL_spans_120 : decode cL_spans 120 = .ok (.iload_n 3, 1) := by decide +kernel
theorem dL_spans_121 : decode cL_spans 121 = .ok (.istore_n 1, 1) := by decide +kernel
theorem dL_spans_122 : decode cL_spans 122 = .ok (.iinc 2 1, 3) := by decide +kernel
theorem dL_spans_125 : decode cL_spans 125 = .ok (.goto (-121), 3) := by decide +kernel
theorem dL_spans_128 : decode cL_spans 128 = .ok (.aload_n 0, 1) := by decide +kernel
theorem dL_spans_129 : decode cL_spans 129 = .ok (.iconst 1, 1) := by decide +kernel
theorem dL_spans_130 : decode cL_spans 130 = .ok (.invokestatic 150, 3) := by decide +kernel
theorem dL_spans_133 : decode cL_spans 133 = .ok (.ifCond .ne 7, 3) := by decide +kernel
theorem dL_spans_136 : decode cL_spans 136 = .ok (.iconst 1, 1) := by decide +kernel
theorem dL_spans_137 : decode cL_spans 137 = .ok (.goto 4, 3) := by decide +kernel
theorem dL_spans_140 : decode cL_spans 140 = .ok (.iconst 0, 1) := by decide +kernel
theorem dL_spans_141 : decode cL_spans 141 = .ok (.ireturn, 1) := by decide +kernel
theorem dL_known_0 : decode cL_known 0 = .ok (.iconst 0, 1) := by decide +kernel
theorem dL_known_1 : decode cL_known 1 = .ok (.istore_n 2, 1) := by decide +kernel
theorem dL_known_2 : decode cL_known 2 = .ok (.aload_n 0, 1) := by decide +kernel
theorem dL_known_3 : decode cL_known 3 = .ok (.iconst 3, 1) := by decide +kernel
theorem dL_known_4 : decode cL_known 4 = .ok (.iload_n 1, 1) := by decide +kernel
theorem dL_known_5 : decode cL_known 5 = .ok (.iconst 0, 1) := by decide +kernel
theorem dL_known_6 : decode cL_known 6 = .ok (.invokestatic 159, 3) := by decide +kernel
theorem dL_known_9 : decode cL_known 9 = .ok (.ifCond .lt 16, 3) := by decide +kernel
theorem dL_known_12 : decode cL_known 12 = .ok (.aload_n 0, 1) := by decide +kernel
theorem dL_known_13 : decode cL_known 13 = .ok (.iconst 0, 1) := by decide +kernel
theorem dL_known_14 : decode cL_known 14 = .ok (.iconst 1, 1) := by decide +kernel
theorem dL_known_15 : decode cL_known 15 = .ok (.invokestatic 162, 3) := by decide +kernel
theorem dL_known_18 : decode cL_known 18 = .ok (.ifCond .lt 7, 3) := by decide +kernel
theorem dL_known_21 : decode cL_known 21 = .ok (.iconst 1, 1) := by decide +kernel
theorem dL_known_22 : decode cL_known 22 = .ok (.goto 4, 3) := by decide +kernel
theorem dL_known_25 : decode cL_known 25 = .ok (.iconst 0, 1) := by decide +kernel
theorem dL_known_26 : decode cL_known 26 = .ok (.istore_n 3, 1) := by decide +kernel
theorem dL_known_27 : decode cL_known 27 = .ok (.iconst 1, 1) := by decide +kernel
theorem dL_known_28 : decode cL_known 28 = .ok (.istore 4, 2) := by decide +kernel
theorem dL_known_30 : decode cL_known 30 = .ok (.iload 4, 2) := by decide +kernel
theorem dL_known_32 : decode cL_known 32 = .ok (.bipush 7, 2) := by decide +kernel
theorem dL_known_34 : decode cL_known 34 = .ok (.if_icmp .ge 84, 3) := by decide +kernel
theorem dL_known_37 : decode cL_known 37 = .ok (.iload 4, 2) := by decide +kernel
theorem dL_known_39 : decode cL_known 39 = .ok (.iconst 1, 1) := by decide +kernel
theorem dL_known_40 : decode cL_known 40 = .ok (.if_icmp .ne 7, 3) := by decide +kernel
theorem dL_known_43 : decode cL_known 43 = .ok (.iconst 0, 1) := by decide +kernel
theorem dL_known_44 : decode cL_known 44 = .ok (.goto 47, 3) := by decide +kernel
theorem dL_known_47 : decode cL_known 47 = .ok (.iload 4, 2) := by decide +kernel
theorem dL_known_49 : decode cL_known 49 = .ok (.iconst 2, 1) := by decide +kernel
theorem dL_known_50 : decode cL_known 50 = .ok (.if_icmp .ne 7, 3) := by decide +kernel
theorem dL_known_53 : decode cL_known 53 = .ok (.iconst 1, 1) := by decide +kernel
theorem dL_known_54 : decode cL_known 54 = .ok (.goto 37, 3) := by decide +kernel
theorem dL_known_57 : decode cL_known 57 = .ok (.iload 4, 2) := by decide +kernel
theorem dL_known_59 : decode cL_known 59 = .ok (.iconst 3, 1) := by decide +kernel
theorem dL_known_60 : decode cL_known 60 = .ok (.if_icmp .ne 7, 3) := by decide +kernel
theorem dL_known_63 : decode cL_known 63 = .ok (.iconst 3, 1) := by decide +kernel
theorem dL_known_64 : decode cL_known 64 = .ok (.goto 27, 3) := by decide +kernel
theorem dL_known_67 : decode cL_known 67 = .ok (.iload 4, 2) := by decide +kernel
theorem dL_known_69 : decode cL_known 69 = .ok (.iconst 4, 1) := by decide +kernel
theorem dL_known_70 : decode cL_known 70 = .ok (.if_icmp .ne 8, 3) := by decide +kernel
theorem dL_known_73 : decode cL_known 73 = .ok (.bipush 6, 2) := by decide +kernel
theorem dL_known_75 : decode cL_known 75 = .ok (.goto 16, 3) := by decide +kernel
theorem dL_known_78 : decode cL_known 78 = .ok (.iload 4, 2) := by decide +kernel
theorem dL_known_80 : decode cL_known 80 = .ok (.iconst 5, 1) := by decide +kernel
theorem dL_known_81 : decode cL_known 81 = .ok (.if_icmp .ne 8, 3) := by decide +kernel
theorem dL_known_84 : decode cL_known 84 = .ok (.bipush 11, 2) := by decide +kernel
theorem dL_known_86 : decode cL_known 86 = .ok (.goto 5, 3) := by decide +kernel
theorem dL_known_89 : decode cL_known 89 = .ok (.bipush 17, 2) := by decide +kernel
theorem dL_known_91 : decode cL_known 91 = .ok (.istore_n 2, 1) := by decide +kernel
theorem dL_known_92 : decode cL_known 92 = .ok (.iload_n 3, 1) := by decide +kernel
theorem dL_known_93 : decode cL_known 93 = .ok (.ifCond .eq 17, 3) := by decide +kernel
theorem dL_known_96 : decode cL_known 96 = .ok (.aload_n 0, 1) := by decide +kernel
theorem dL_known_97 : decode cL_known 97 = .ok (.iload 4, 2) := by decide +kernel
theorem dL_known_99 : decode cL_known 99 = .ok (.invokestatic 150, 3) := by decide +kernel
theorem dL_known_102 : decode cL_known 102 = .ok (.iload_n 2, 1) := by decide +kernel
theorem dL_known_103 : decode cL_known 103 = .ok (.if_icmp .ne 7, 3) := by decide +kernel
theorem dL_known_106 : decode cL_known 106 = .ok (.iconst 1, 1) := by decide +kernel
theorem dL_known_107 : decode cL_known 107 = .ok (.goto 4, 3) := by decide +kernel
theorem dL_known_110 : decode cL_known 110 = .ok (.iconst 0, 1) := by decide +kernel
theorem dL_known_111 : decode cL_known 111 = .ok (.istore_n 3, 1) := by decide +kernel
theorem dL_known_112 : decode cL_known 112 = .ok (.iinc 4 1, 3) := by decide +kernel
theorem dL_known_115 : decode cL_known 115 = .ok (.goto (-85), 3) := by decide +kernel
theorem dL_known_118 : decode cL_known 118 = .ok (.iload_n 3, 1) := by decide +kernel
theorem dL_known_119 : decode cL_known 119 = .ok (.ifCond .eq 21, 3) := by decide +kernel
theorem dL_known_122 : decode cL_known 122 = .ok (.aload_n 0, 1) := by decide +kernel
theorem dL_known_123 : decode cL_known 123 = .ok (.invokestatic 147, 3) := by decide +kernel
theorem dL_known_126 : decode cL_known 126 = .ok (.ifCond .lt 14, 3) := by decide +kernel
theorem dL_known_129 : decode cL_known 129 = .ok (.aload_n 0, 1) := by decide +kernel
theorem dL_known_130 : decode cL_known 130 = .ok (.invokestatic 147, 3) := by decide +kernel
theorem dL_known_133 : decode cL_known 133 = .ok (.ifCond .lt 7, 3) := by decide +kernel
theorem dL_known_136 : decode cL_known 136 = .ok (.iconst 1, 1) := by decide +kernel
theorem dL_known_137 : decode cL_known 137 = .ok (.goto 4, 3) := by decide +kernel
theorem dL_known_140 : decode cL_known 140 = .ok (.iconst 0, 1) := by decide +kernel
theorem dL_known_141 : decode cL_known 141 = .ok (.ireturn, 1) := by decide +kernel
theorem dL_listens_0 : decode cL_listens 0 = .ok (.aload_n 0, 1) := by decide +kernel
theorem dL_listens_1 : decode cL_listens 1 = .ok (.iconst 0, 1) := by decide +kernel
theorem dL_listens_2 : decode cL_listens 2 = .ok (.invokestatic 101, 3) := by decide +kernel
theorem dL_listens_5 : decode cL_listens 5 = .ok (.istore_n 2, 1) := by decide +kernel
theorem dL_listens_6 : decode cL_listens 6 = .ok (.iconst 1, 1) := by decide +kernel
theorem dL_listens_7 : decode cL_listens 7 = .ok (.iload_n 2, 1) := by decide +kernel
theorem dL_listens_8 : decode cL_listens 8 = .ok (.ishl, 1) := by decide +kernel
theorem dL_listens_9 : decode cL_listens 9 = .ok (.iconst 1, 1) := by decide +kernel
theorem dL_listens_10 : decode cL_listens 10 = .ok (.isub, 1) := by decide +kernel
theorem dL_listens_11 : decode cL_listens 11 = .ok (.istore_n 3, 1) := by decide +kernel
theorem dL_listens_12 : decode cL_listens 12 = .ok (.iload_n 1, 1) := by decide +kernel
theorem dL_listens_13 : decode cL_listens 13 = .ok (.iconst 1, 1) := by decide +kernel
theorem dL_listens_14 : decode cL_listens 14 = .ok (.iload_n 2, 1) := by decide +kernel
theorem dL_listens_15 : decode cL_listens 15 = .ok (.ishl, 1) := by decide +kernel
theorem dL_listens_16 : decode cL_listens 16 = .ok (.invokestatic 164, 3) := by decide +kernel
theorem dL_listens_19 : decode cL_listens 19 = .ok (.istore 4, 2) := by decide +kernel
theorem dL_listens_21 : decode cL_listens 21 = .ok (.iload_n 1, 1) := by decide +kernel
theorem dL_listens_22 : decode cL_listens 22 = .ok (.bipush 10, 2) := by decide +kernel
theorem dL_listens_24 : decode cL_listens 24 = .ok (.ishr, 1) := by decide +kernel
theorem dL_listens_25 : decode cL_listens 25 = .ok (.bipush 64, 2) := by decide +kernel
theorem dL_listens_27 : decode cL_listens 27 = .ok (.invokestatic 164, 3) := by decide +kernel
theorem dL_listens_30 : decode cL_listens 30 = .ok (.istore 5, 2) := by decide +kernel
theorem dL_listens_32 : decode cL_listens 32 = .ok (.aload_n 0, 1) := by decide +kernel
theorem dL_listens_33 : decode cL_listens 33 = .ok (.iconst 1, 1) := by decide +kernel
theorem dL_listens_34 : decode cL_listens 34 = .ok (.invokestatic 101, 3) := by decide +kernel
theorem dL_listens_37 : decode cL_listens 37 = .ok (.istore 6, 2) := by decide +kernel
theorem dL_listens_39 : decode cL_listens 39 = .ok (.aload_n 0, 1) := by decide +kernel
theorem dL_listens_40 : decode cL_listens 40 = .ok (.iload 4, 2) := by decide +kernel
theorem dL_listens_42 : decode cL_listens 42 = .ok (.iload 5, 2) := by decide +kernel
theorem dL_listens_44 : decode cL_listens 44 = .ok (.invokestatic 167, 3) := by decide +kernel
theorem dL_listens_47 : decode cL_listens 47 = .ok (.istore 7, 2) := by decide +kernel
theorem dL_listens_49 : decode cL_listens 49 = .ok (.iload 7, 2) := by decide +kernel
theorem dL_listens_51 : decode cL_listens 51 = .ok (.aload_n 0, 1) := by decide +kernel
theorem dL_listens_52 : decode cL_listens 52 = .ok (.iload_n 3, 1) := by decide +kernel
theorem dL_listens_53 : decode cL_listens 53 = .ok (.iload 5, 2) := by decide +kernel
theorem dL_listens_55 : decode cL_listens 55 = .ok (.invokestatic 167, 3) := by decide +kernel
theorem dL_listens_58 : decode cL_listens 58 = .ok (.iconst (-1), 1) := by decide +kernel
theorem dL_listens_59 : decode cL_listens 59 = .ok (.ixor, 1) := by decide +kernel
theorem dL_listens_60 : decode cL_listens 60 = .ok (.iand, 1) := by decide +kernel
theorem dL_listens_61 : decode cL_listens 61 = .ok (.ifCond .ne 38, 3) := by decide +kernel
theorem dL_listens_64 : decode cL_listens 64 = .ok (.iload 7, 2) := by decide +kernel
theorem dL_listens_66 : decode cL_listens 66 = .ok (.iconst 1, 1) := by decide +kernel
theorem dL_listens_67 : decode cL_listens 67 = .ok (.iload 6, 2) := by decide +kernel
theorem dL_listens_69 : decode cL_listens 69 = .ok (.ishl, 1) := by decide +kernel
theorem dL_listens_70 : decode cL_listens 70 = .ok (.if_icmp .ge 29, 3) := by decide +kernel
theorem dL_listens_73 : decode cL_listens 73 = .ok (.aload_n 0, 1) := by decide +kernel
theorem dL_listens_74 : decode cL_listens 74 = .ok (.iconst 2, 1) := by decide +kernel
theorem dL_listens_75 : decode cL_listens 75 = .ok (.invokestatic 101, 3) := by decide +kernel
theorem dL_listens_78 : decode cL_listens 78 = .ok (.ifCond .ne 23, 3) := by decide +kernel
theorem dL_listens_81 : decode cL_listens 81 = .ok (.aload_n 0, 1) := by decide +kernel
theorem dL_listens_82 : decode cL_listens 82 = .ok (.invokevirtual 169, 3) := by decide +kernel
theorem dL_listens_85 : decode cL_listens 85 = .ok (.iconst 1, 1) := by decide +kernel
theorem dL_listens_86 : decode cL_listens 86 = .ok (.iload 6, 2) := by decide +kernel
theorem dL_listens_88 : decode cL_listens 88 = .ok (.ishl, 1) := by decide +kernel
theorem dL_listens_89 : decode cL_listens 89 = .ok (.if_icmp .ne 10, 3) := by decide +kernel
theorem dL_listens_92 : decode cL_listens 92 = .ok (.aload_n 0, 1) := by decide +kernel
theorem dL_listens_93 : decode cL_listens 93 = .ok (.invokevirtual 172, 3) := by decide +kernel
theorem dL_listens_96 : decode cL_listens 96 = .ok (.ifCond .eq 5, 3) := by decide +kernel
theorem dL_listens_99 : decode cL_listens 99 = .ok (.iconst 0, 1) := by decide +kernel
theorem dL_listens_100 : decode cL_listens 100 = .ok (.ireturn, 1) := by decide +kernel
theorem dL_listens_101 : decode cL_listens 101 = .ok (.aload_n 0, 1) := by decide +kernel
theorem dL_listens_102 : decode cL_listens 102 = .ok (.invokevirtual 169, 3) := by decide +kernel
theorem dL_listens_105 : decode cL_listens 105 = .ok (.istore 8, 2) := by decide +kernel
theorem dL_listens_107 : decode cL_listens 107 = .ok (.iload 8, 2) := by decide +kernel
theorem dL_listens_109 : decode cL_listens 109 = .ok (.ifCond .ne 7, 3) := by decide +kernel
theorem dL_listens_112 : decode cL_listens 112 = .ok (.iconst 1, 1) := by decide +kernel
theorem dL_listens_113 : decode cL_listens 113 = .ok (.goto 4, 3) := by decide +kernel
theorem dL_listens_116 : decode cL_listens 116 = .ok (.iconst 0, 1) := by decide +kernel
theorem dL_listens_117 : decode cL_listens 117 = .ok (.istore 9, 2) := by decide +kernel
theorem dL_listens_119 : decode cL_listens 119 = .ok (.aload_n 0, 1) := by decide +kernel
theorem dL_listens_120 : decode cL_listens 120 = .ok (.iconst 1, 1) := by decide +kernel
theorem dL_listens_121 : decode cL_listens 121 = .ok (.invokevirtual 175, 3) := by decide +kernel
theorem dL_listens_124 : decode cL_listens 124 = .ok (.istore 10, 2) := by decide +kernel
theorem dL_listens_126 : decode cL_listens 126 = .ok (.aload_n 0, 1) := by decide +kernel
theorem dL_listens_127 : decode cL_listens 127 = .ok (.iconst 0, 1) := by decide +kernel
theorem dL_listens_128 : decode cL_listens 128 = .ok (.invokevirtual 175, 3) := by decide +kernel
theorem dL_listens_131 : decode cL_listens 131 = .ok (.istore 11, 2) := by decide +kernel
theorem dL_listens_133 : decode cL_listens 133 = .ok (.aload_n 0, 1) := by decide +kernel
theorem dL_listens_134 : decode cL_listens 134 = .ok (.invokevirtual 172, 3) := by decide +kernel
theorem dL_listens_137 : decode cL_listens 137 = .ok (.iconst (-1), 1) := by decide +kernel
theorem dL_listens_138 : decode cL_listens 138 = .ok (.if_icmp .ne 7, 3) := by decide +kernel
theorem dL_listens_141 : decode cL_listens 141 = .ok (.iconst 1, 1) := by decide +kernel
theorem dL_listens_142 : decode cL_listens 142 = .ok (.goto 4, 3) := by decide +kernel
theorem dL_listens_145 : decode cL_listens 145 = .ok (.iconst 0, 1) := by decide +kernel
theorem dL_listens_146 : decode cL_listens 146 = .ok (.iload 9, 2) := by decide +kernel
theorem dL_listens_148 : decode cL_listens 148 = .ok (.if_icmp .ne 63, 3) := by decide +kernel
theorem dL_listens_151 : decode cL_listens 151 = .ok (.iload 9, 2) := by decide +kernel
theorem dL_listens_153 : decode cL_listens 153 = .ok (.ifCond .eq 24, 3) := by decide +kernel
theorem dL_listens_156 : decode cL_listens 156 = .ok (.iload 10, 2) := by decide +kernel
theorem dL_listens_158 : decode cL_listens 158 = .ok (.iconst 1, 1) := by decide +kernel
theorem dL_listens_159 : decode cL_listens 159 = .ok (.iload 6, 2) := by decide +kernel
theorem dL_listens_161 : decode cL_listens 161 = .ok (.ishl, 1) := by decide +kernel
theorem dL_listens_162 : decode cL_listens 162 = .ok (.iconst 1, 1) := by decide +kernel
theorem dL_listens_163 : decode cL_listens 163 = .ok (.isub, 1) := by decide +kernel
theorem dL_listens_164 : decode cL_listens 164 = .ok (.if_icmp .ne 47, 3) := by decide +kernel
theorem dL_listens_167 : decode cL_listens 167 = .ok (.iload 11, 2) := by decide +kernel
theorem dL_listens_169 : decode cL_listens 169 = .ok (.iload 10, 2) := by decide +kernel
theorem dL_listens_171 : decode cL_listens 171 = .ok (.if_icmp .ne 40, 3) := by decide +kernel
theorem dL_listens_174 : decode cL_listens 174 = .ok (.goto 33, 3) := by decide +kernel
theorem dL_listens_177 : decode cL_listens 177 = .ok (.iload 10, 2) := by decide +kernel
theorem dL_listens_179 : decode cL_listens 179 = .ok (.iload 11, 2) := by decide +kernel
theorem dL_listens_181 : decode cL_listens 181 = .ok (.iand, 1) := by decide +kernel
theorem dL_listens_182 : decode cL_listens 182 = .ok (.ifCond .ne 29, 3) := by decide +kernel
theorem dL_listens_185 : decode cL_listens 185 = .ok (.aload_n 0, 1) := by decide +kernel
theorem dL_listens_186 : decode cL_listens 186 = .ok (.invokevirtual 172, 3) := by decide +kernel
theorem dL_listens_189 : decode cL_listens 189 = .ok (.iload 10, 2) := by decide +kernel
theorem dL_listens_191 : decode cL_listens 191 = .ok (.iand, 1) := by decide +kernel
theorem dL_listens_192 : decode cL_listens 192 = .ok (.iload 10, 2) := by decide +kernel
theorem dL_listens_194 : decode cL_listens 194 = .ok (.if_icmp .ne 17, 3) := by decide +kernel
theorem dL_listens_197 : decode cL_listens 197 = .ok (.aload_n 0, 1) := by decide +kernel
theorem dL_listens_198 : decode cL_listens 198 = .ok (.invokevirtual 172, 3) := by decide +kernel
theorem dL_listens_201 : decode cL_listens 201 = .ok (.iload 11, 2) := by decide +kernel
theorem dL_listens_203 : decode cL_listens 203 = .ok (.iand, 1) := by decide +kernel
theorem dL_listens_204 : decode cL_listens 204 = .ok (.ifCond .ne 7, 3) := by decide +kernel
theorem dL_listens_207 : decode cL_listens 207 = .ok (.iconst 1, 1) := by decide +kernel
theorem dL_listens_208 : decode cL_listens 208 = .ok (.goto 4, 3) := by decide +kernel
theorem dL_listens_211 : decode cL_listens 211 = .ok (.iconst 0, 1) := by decide +kernel
theorem dL_listens_212 : decode cL_listens 212 = .ok (.istore 12, 2) := by decide +kernel
theorem dL_listens_214 : decode cL_listens 214 = .ok (.aload_n 0, 1) := by decide +kernel
theorem dL_listens_215 : decode cL_listens 215 = .ok (.iconst 2, 1) := by decide +kernel
theorem dL_listens_216 : decode cL_listens 216 = .ok (.invokestatic 101, 3) := by decide +kernel
theorem dL_listens_219 : decode cL_listens 219 = .ok (.bipush 16, 2) := by decide +kernel
theorem dL_listens_221 : decode cL_listens 221 = .ok (.if_icmp .ne 29, 3) := by decide +kernel
theorem dL_listens_224 : decode cL_listens 224 = .ok (.iload 12, 2) := by decide +kernel
theorem dL_listens_226 : decode cL_listens 226 = .ok (.ifCond .eq 22, 3) := by decide +kernel
theorem dL_listens_229 : decode cL_listens 229 = .ok (.aload_n 0, 1) := by decide +kernel
theorem dL_listens_230 : decode cL_listens 230 = .ok (.iload 4, 2) := by decide +kernel
theorem dL_listens_232 : decode cL_listens 232 = .ok (.iload 5, 2) := by decide +kernel
theorem dL_listens_234 : decode cL_listens 234 = .ok (.iconst 1, 1) := by decide +kernel
theorem dL_listens_235 : decode cL_listens 235 = .ok (.invokestatic 179, 3) := by decide +kernel
theorem dL_listens_238 : decode cL_listens 238 = .ok (.sipush (-902), 3) := by decide +kernel
theorem dL_listens_241 : decode cL_listens 241 = .ok (.if_icmp .ne 7, 3) := by decide +kernel
theorem dL_listens_244 : decode cL_listens 244 = .ok (.iconst 1, 1) := by decide +kernel
theorem dL_listens_245 : decode cL_listens 245 = .ok (.goto 4, 3) := by decide +kernel
theorem dL_listens_248 : decode cL_listens 248 = .ok (.iconst 0, 1) := by decide +kernel
theorem dL_listens_249 : decode cL_listens 249 = .ok (.ireturn, 1) := by decide +kernel
theorem dL_listens_250 : decode cL_listens 250 = .ok (.aload_n 0, 1) := by decide +kernel
theorem dL_listens_251 : decode cL_listens 251 = .ok (.iload 4, 2) := by decide +kernel
theorem dL_listens_253 : decode cL_listens 253 = .ok (.iload 5, 2) := by decide +kernel
theorem dL_listens_255 : decode cL_listens 255 = .ok (.iconst 1, 1) := by decide +kernel
theorem dL_listens_256 : decode cL_listens 256 = .ok (.invokestatic 179, 3) := by decide +kernel
theorem dL_listens_259 : decode cL_listens 259 = .ok (.istore 13, 2) := by decide +kernel
theorem dL_listens_261 : decode cL_listens 261 = .ok (.iload 12, 2) := by decide +kernel
theorem dL_listens_263 : decode cL_listens 263 = .ok (.ifCond .eq 23, 3) := by decide +kernel
theorem dL_listens_266 : decode cL_listens 266 = .ok (.aload_n 0, 1) := by decide +kernel
theorem dL_listens_267 : decode cL_listens 267 = .ok (.invokestatic 147, 3) := by decide +kernel
theorem dL_listens_270 : decode cL_listens 270 = .ok (.ifCond .lt 16, 3) := by decide +kernel
theorem dL_listens_273 : decode cL_listens 273 = .ok (.aload_n 0, 1) := by decide +kernel
theorem dL_listens_274 : decode cL_listens 274 = .ok (.invokevirtual 169, 3) := by decide +kernel
theorem dL_listens_277 : decode cL_listens 277 = .ok (.iload 8, 2) := by decide +kernel
theorem dL_listens_279 : decode cL_listens 279 = .ok (.if_icmp .ne 7, 3) := by decide +kernel
theorem dL_listens_282 : decode cL_listens 282 = .ok (.iconst 1, 1) := by decide +kernel
theorem dL_listens_283 : decode cL_listens 283 = .ok (.goto 4, 3) := by decide +kernel
theorem dL_listens_286 : decode cL_listens 286 = .ok (.iconst 0, 1) := by decide +kernel
theorem dL_listens_287 : decode cL_listens 287 = .ok (.istore 12, 2) := by decide +kernel
theorem dL_listens_289 : decode cL_listens 289 = .ok (.aload_n 0, 1) := by decide +kernel
theorem dL_listens_290 : decode cL_listens 290 = .ok (.iload 4, 2) := by decide +kernel
theorem dL_listens_292 : decode cL_listens 292 = .ok (.iload 5, 2) := by decide +kernel
theorem dL_listens_294 : decode cL_listens 294 = .ok (.iconst 0, 1) := by decide +kernel
theorem dL_listens_295 : decode cL_listens 295 = .ok (.invokestatic 179, 3) := by decide +kernel
theorem dL_listens_298 : decode cL_listens 298 = .ok (.istore 14, 2) := by decide +kernel
theorem dL_listens_300 : decode cL_listens 300 = .ok (.iload 12, 2) := by decide +kernel
theorem dL_listens_302 : decode cL_listens 302 = .ok (.ifCond .eq 42, 3) := by decide +kernel
theorem dL_listens_305 : decode cL_listens 305 = .ok (.aload_n 0, 1) := by decide +kernel
theorem dL_listens_306 : decode cL_listens 306 = .ok (.invokestatic 147, 3) := by decide +kernel
theorem dL_listens_309 : decode cL_listens 309 = .ok (.ifCond .lt 35, 3) := by decide +kernel
theorem dL_listens_312 : decode cL_listens 312 = .ok (.aload_n 0, 1) := by decide +kernel
theorem dL_listens_313 : decode cL_listens 313 = .ok (.invokevirtual 169, 3) := by decide +kernel
theorem dL_listens_316 : decode cL_listens 316 = .ok (.iload 8, 2) := by decide +kernel
theorem dL_listens_318 : decode cL_listens 318 = .ok (.if_icmp .ne 26, 3) := by decide +kernel
theorem dL_listens_321 : decode cL_listens 321 = .ok (.iload 13, 2) := by decide +kernel
theorem dL_listens_323 : decode cL_listens 323 = .ok (.iload 14, 2) := by decide +kernel
theorem dL_listens_325 : decode cL_listens 325 = .ok (.iadd, 1) := by decide +kernel
theorem dL_listens_326 : decode cL_listens 326 = .ok (.iload 8, 2) := by decide +kernel
theorem dL_listens_328 : decode cL_listens 328 = .ok (.if_icmp .ne 16, 3) := by decide +kernel
theorem dL_listens_331 : decode cL_listens 331 = .ok (.aload_n 0, 1) := by decide +kernel
theorem dL_listens_332 : decode cL_listens 332 = .ok (.iload 4, 2) := by decide +kernel
theorem dL_listens_334 : decode cL_listens 334 = .ok (.invokestatic 182, 3) := by decide +kernel
theorem dL_listens_337 : decode cL_listens 337 = .ok (.ifCond .lt 7, 3) := by decide +kernel
theorem dL_listens_340 : decode cL_listens 340 = .ok (.iconst 1, 1) := by decide +kernel
theorem dL_listens_341 : decode cL_listens 341 = .ok (.goto 4, 3) := by decide +kernel
theorem dL_listens_344 : decode cL_listens 344 = .ok (.iconst 0, 1) := by decide +kernel
theorem dL_listens_345 : decode cL_listens 345 = .ok (.istore 12, 2) := by decide +kernel
theorem dL_listens_347 : decode cL_listens 347 = .ok (.iload 12, 2) := by decide +kernel
theorem dL_listens_349 : decode cL_listens 349 = .ok (.ifCond .eq 45, 3) := by decide +kernel
theorem dL_listens_352 : decode cL_listens 352 = .ok (.iload 7, 2) := by decide +kernel
theorem dL_listens_354 : decode cL_listens 354 = .ok (.iload 10, 2) := by decide +kernel
theorem dL_listens_356 : decode cL_listens 356 = .ok (.iand, 1) := by decide +kernel
theorem dL_listens_357 : decode cL_listens 357 = .ok (.ifCond .eq 13, 3) := by decide +kernel
theorem dL_listens_360 : decode cL_listens 360 = .ok (.iload 9, 2) := by decide +kernel
theorem dL_listens_362 : decode cL_listens 362 = .ok (.ifCond .ne 8, 3) := by decide +kernel
theorem dL_listens_365 : decode cL_listens 365 = .ok (.iload 14, 2) := by decide +kernel
theorem dL_listens_367 : decode cL_listens 367 = .ok (.ifCond .ne 27, 3) := by decide +kernel
theorem dL_listens_370 : decode cL_listens 370 = .ok (.iload 7, 2) := by decide +kernel
theorem dL_listens_372 : decode cL_listens 372 = .ok (.iload 11, 2) := by decide +kernel
theorem dL_listens_374 : decode cL_listens 374 = .ok (.iconst (-1), 1) := by decide +kernel
theorem dL_listens_375 : decode cL_listens 375 = .ok (.ixor, 1) := by decide +kernel
theorem dL_listens_376 : decode cL_listens 376 = .ok (.iand, 1) := by decide +kernel
theorem dL_listens_377 : decode cL_listens 377 = .ok (.ifCond .ne 13, 3) := by decide +kernel
theorem dL_listens_380 : decode cL_listens 380 = .ok (.iload 9, 2) := by decide +kernel
theorem dL_listens_382 : decode cL_listens 382 = .ok (.ifCond .ne 8, 3) := by decide +kernel
theorem dL_listens_385 : decode cL_listens 385 = .ok (.iload 13, 2) := by decide +kernel
theorem dL_listens_387 : decode cL_listens 387 = .ok (.ifCond .ne 7, 3) := by decide +kernel
theorem dL_listens_390 : decode cL_listens 390 = .ok (.iconst 1, 1) := by decide +kernel
theorem dL_listens_391 : decode cL_listens 391 = .ok (.goto 4, 3) := by decide +kernel
theorem dL_listens_394 : decode cL_listens 394 = .ok (.iconst 0, 1) := by decide +kernel
theorem dL_listens_395 : decode cL_listens 395 = .ok (.ireturn, 1) := by decide +kernel
theorem dL_refuses_0 : decode cL_refuses 0 = .ok (.aload_n 0, 1) := by decide +kernel
theorem dL_refuses_1 : decode cL_refuses 1 = .ok (.invokevirtual 184, 3) := by decide +kernel
theorem dL_refuses_4 : decode cL_refuses 4 = .ok (.lstore_n 1, 1) := by decide +kernel
theorem dL_refuses_5 : decode cL_refuses 5 = .ok (.aload_n 0, 1) := by decide +kernel
theorem dL_refuses_6 : decode cL_refuses 6 = .ok (.iconst 0, 1) := by decide +kernel
theorem dL_refuses_7 : decode cL_refuses 7 = .ok (.invokestatic 101, 3) := by decide +kernel
theorem dL_refuses_10 : decode cL_refuses 10 = .ok (.istore_n 3, 1) := by decide +kernel
theorem dL_refuses_11 : decode cL_refuses 11 = .ok (.aload_n 0, 1) := by decide +kernel
theorem dL_refuses_12 : decode cL_refuses 12 = .ok (.iconst (-1), 1) := by decide +kernel
