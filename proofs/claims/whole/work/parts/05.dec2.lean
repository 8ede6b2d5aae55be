theorem dX5_channels_12 : decode cX5_channels 12 = .ok (.if_icmp .ge 22, 3) := by decide +kernel
theorem dX5_channels_15 : decode cX5_channels 15 = .ok (.lload_n 1, 1) := by decide +kernel
theorem dX5_channels_16 : decode cX5_channels 16 = .ok (.lconst 1, 1) := by decide +kernel
theorem dX5_channels_17 : decode cX5_channels 17 = .ok (.aload_n 0, 1) := by decide +kernel
theorem dX5_channels_18 : decode cX5_channels 18 = .ok (.getfield 10, 3) := by decide +kernel
theorem dX5_channels_21 : decode cX5_channels 21 = .ok (.iload_n 3, 1) := by decide +kernel
theorem dX5_channels_22 : decode cX5_channels 22 = .ok (.invokevirtual 92, 3) := by decide +kernel
theorem dX5_channels_25 : decode cX5_channels 25 = .ok (.lshl, 1) := by decide +kernel
theorem dX5_channels_26 : decode cX5_channels 26 = .ok (.lor, 1) := by decide +kernel
theorem dX5_channels_27 : decode cX5_channels 27 = .ok (.lstore_n 1, 1) := by decide +kernel
theorem dX5_channels_28 : decode cX5_channels 28 = .ok (.iinc 3 1, 3) := by decide +kernel
theorem dX5_channels_31 : decode cX5_channels 31 = .ok (.goto (-27), 3) := by decide +kernel
theorem dX5_channels_34 : decode cX5_channels 34 = .ok (.lload_n 1, 1) := by decide +kernel
theorem dX5_channels_35 : decode cX5_channels 35 = .ok (.lreturn, 1) := by decide +kernel
theorem dX5_products_0 : decode cX5_products 0 = .ok (.aload_n 0, 1) := by decide +kernel
theorem dX5_products_1 : decode cX5_products 1 = .ok (.getfield 29, 3) := by decide +kernel
theorem dX5_products_4 : decode cX5_products 4 = .ok (.aload_n 0, 1) := by decide +kernel
theorem dX5_products_5 : decode cX5_products 5 = .ok (.getfield 10, 3) := by decide +kernel
theorem dX5_products_8 : decode cX5_products 8 = .ok (.aload_n 0, 1) := by decide +kernel
theorem dX5_products_9 : decode cX5_products 9 = .ok (.getfield 10, 3) := by decide +kernel
theorem dX5_products_12 : decode cX5_products 12 = .ok (.invokevirtual 146, 3) := by decide +kernel
theorem dX5_products_15 : decode cX5_products 15 = .ok (.invokevirtual 150, 3) := by decide +kernel
theorem dX5_products_18 : decode cX5_products 18 = .ok (.aload_n 0, 1) := by decide +kernel
theorem dX5_products_19 : decode cX5_products 19 = .ok (.getfield 29, 3) := by decide +kernel
theorem dX5_products_22 : decode cX5_products 22 = .ok (.getfield 154, 3) := by decide +kernel
theorem dX5_products_25 : decode cX5_products 25 = .ok (.ireturn, 1) := by decide +kernel
theorem dX5_product_0 : decode cX5_product 0 = .ok (.aload_n 0, 1) := by decide +kernel
theorem dX5_product_1 : decode cX5_product 1 = .ok (.getfield 29, 3) := by decide +kernel
theorem dX5_product_4 : decode cX5_product 4 = .ok (.aload_n 0, 1) := by decide +kernel
theorem dX5_product_5 : decode cX5_product 5 = .ok (.getfield 10, 3) := by decide +kernel
theorem dX5_product_8 : decode cX5_product 8 = .ok (.aload_n 0, 1) := by decide +kernel
theorem dX5_product_9 : decode cX5_product 9 = .ok (.getfield 10, 3) := by decide +kernel
theorem dX5_product_12 : decode cX5_product 12 = .ok (.invokevirtual 146, 3) := by decide +kernel
theorem dX5_product_15 : decode cX5_product 15 = .ok (.invokevirtual 150, 3) := by decide +kernel
theorem dX5_product_18 : decode cX5_product 18 = .ok (.iload_n 1, 1) := by decide +kernel
theorem dX5_product_19 : decode cX5_product 19 = .ok (.ifCond .lt 14, 3) := by decide +kernel
theorem dX5_product_22 : decode cX5_product 22 = .ok (.iload_n 1, 1) := by decide +kernel
theorem dX5_product_23 : decode cX5_product 23 = .ok (.aload_n 0, 1) := by decide +kernel
theorem dX5_product_24 : decode cX5_product 24 = .ok (.getfield 29, 3) := by decide +kernel
theorem dX5_product_27 : decode cX5_product 27 = .ok (.getfield 154, 3) := by decide +kernel
theorem dX5_product_30 : decode cX5_product 30 = .ok (.if_icmp .lt 13, 3) := by decide +kernel
theorem dX5_product_33 : decode cX5_product 33 = .ok (.new 157, 3) := by decide +kernel
theorem dX5_product_36 : decode cX5_product 36 = .ok (.dup, 1) := by decide +kernel
theorem dX5_product_37 : decode cX5_product 37 = .ok (.ldc 159, 2) := by decide +kernel
theorem dX5_product_39 : decode cX5_product 39 = .ok (.invokespecial 161, 3) := by decide +kernel
theorem dX5_product_42 : decode cX5_product 42 = .ok (.athrow, 1) := by decide +kernel
theorem dX5_product_43 : decode cX5_product 43 = .ok (.iload_n 2, 1) := by decide +kernel
theorem dX5_product_44 : decode cX5_product 44 = .ok (.iconst 0, 1) := by decide +kernel
theorem dX5_product_45 : decode cX5_product 45 = .ok (.iconst 5, 1) := by decide +kernel
theorem dX5_product_46 : decode cX5_product 46 = .ok (.invokestatic 112, 3) := by decide +kernel
theorem dX5_product_49 : decode cX5_product 49 = .ok (.ifCond .ne 13, 3) := by decide +kernel
theorem dX5_product_52 : decode cX5_product 52 = .ok (.new 62, 3) := by decide +kernel
theorem dX5_product_55 : decode cX5_product 55 = .ok (.dup, 1) := by decide +kernel
theorem dX5_product_56 : decode cX5_product 56 = .ok (.ldc 141, 2) := by decide +kernel
theorem dX5_product_58 : decode cX5_product 58 = .ok (.invokespecial 66, 3) := by decide +kernel
theorem dX5_product_61 : decode cX5_product 61 = .ok (.athrow, 1) := by decide +kernel
theorem dX5_product_62 : decode cX5_product 62 = .ok (.aload_n 0, 1) := by decide +kernel
theorem dX5_product_63 : decode cX5_product 63 = .ok (.getfield 29, 3) := by decide +kernel
theorem dX5_product_66 : decode cX5_product 66 = .ok (.iload_n 1, 1) := by decide +kernel
theorem dX5_product_67 : decode cX5_product 67 = .ok (.iload_n 2, 1) := by decide +kernel
theorem dX5_product_68 : decode cX5_product 68 = .ok (.invokevirtual 162, 3) := by decide +kernel
theorem dX5_product_71 : decode cX5_product 71 = .ok (.ireturn, 1) := by decide +kernel
theorem dX5_fallout_0 : decode cX5_fallout 0 = .ok (.aload_n 0, 1) := by decide +kernel
theorem dX5_fallout_1 : decode cX5_fallout 1 = .ok (.iload_n 1, 1) := by decide +kernel
theorem dX5_fallout_2 : decode cX5_fallout 2 = .ok (.invokevirtual 166, 3) := by decide +kernel
theorem dX5_fallout_5 : decode cX5_fallout 5 = .ok (.aload_n 0, 1) := by decide +kernel
theorem dX5_fallout_6 : decode cX5_fallout 6 = .ok (.iload_n 1, 1) := by decide +kernel
theorem dX5_fallout_7 : decode cX5_fallout 7 = .ok (.invokevirtual 169, 3) := by decide +kernel
theorem dX5_fallout_10 : decode cX5_fallout 10 = .ok (.lreturn, 1) := by decide +kernel
theorem dX5_hits_0 : decode cX5_hits 0 = .ok (.aload_n 0, 1) := by decide +kernel
theorem dX5_hits_1 : decode cX5_hits 1 = .ok (.getfield 29, 3) := by decide +kernel
theorem dX5_hits_4 : decode cX5_hits 4 = .ok (.aload_n 0, 1) := by decide +kernel
theorem dX5_hits_5 : decode cX5_hits 5 = .ok (.getfield 10, 3) := by decide +kernel
theorem dX5_hits_8 : decode cX5_hits 8 = .ok (.aload_n 0, 1) := by decide +kernel
theorem dX5_hits_9 : decode cX5_hits 9 = .ok (.getfield 10, 3) := by decide +kernel
theorem dX5_hits_12 : decode cX5_hits 12 = .ok (.invokevirtual 146, 3) := by decide +kernel
theorem dX5_hits_15 : decode cX5_hits 15 = .ok (.invokevirtual 150, 3) := by decide +kernel
theorem dX5_hits_18 : decode cX5_hits 18 = .ok (.iconst 0, 1) := by decide +kernel
theorem dX5_hits_19 : decode cX5_hits 19 = .ok (.istore_n 1, 1) := by decide +kernel
theorem dX5_hits_20 : decode cX5_hits 20 = .ok (.iconst 0, 1) := by decide +kernel
theorem dX5_hits_21 : decode cX5_hits 21 = .ok (.istore_n 2, 1) := by decide +kernel
theorem dX5_hits_22 : decode cX5_hits 22 = .ok (.iload_n 2, 1) := by decide +kernel
theorem dX5_hits_23 : decode cX5_hits 23 = .ok (.aload_n 0, 1) := by decide +kernel
theorem dX5_hits_24 : decode cX5_hits 24 = .ok (.getfield 10, 3) := by decide +kernel
theorem dX5_hits_27 : decode cX5_hits 27 = .ok (.getfield 80, 3) := by decide +kernel
theorem dX5_hits_30 : decode cX5_hits 30 = .ok (.if_icmp .ge 34, 3) := by decide +kernel
theorem dX5_hits_33 : decode cX5_hits 33 = .ok (.iload_n 1, 1) := by decide +kernel
theorem dX5_hits_34 : decode cX5_hits 34 = .ok (.aload_n 0, 1) := by decide +kernel
theorem dX5_hits_35 : decode cX5_hits 35 = .ok (.getfield 29, 3) := by decide +kernel
theorem dX5_hits_38 : decode cX5_hits 38 = .ok (.aload_n 0, 1) := by decide +kernel
theorem dX5_hits_39 : decode cX5_hits 39 = .ok (.getfield 10, 3) := by decide +kernel
theorem dX5_hits_42 : decode cX5_hits 42 = .ok (.iload_n 2, 1) := by decide +kernel
theorem dX5_hits_43 : decode cX5_hits 43 = .ok (.invokevirtual 92, 3) := by decide +kernel
theorem dX5_hits_46 : decode cX5_hits 46 = .ok (.aload_n 0, 1) := by decide +kernel
theorem dX5_hits_47 : decode cX5_hits 47 = .ok (.getfield 10, 3) := by decide +kernel
theorem dX5_hits_50 : decode cX5_hits 50 = .ok (.getfield 132, 3) := by decide +kernel
theorem dX5_hits_53 : decode cX5_hits 53 = .ok (.invokevirtual 173, 3) := by decide +kernel
theorem dX5_hits_56 : decode cX5_hits 56 = .ok (.iadd, 1) := by decide +kernel
theorem dX5_hits_57 : decode cX5_hits 57 = .ok (.istore_n 1, 1) := by decide +kernel
theorem dX5_hits_58 : decode cX5_hits 58 = .ok (.iinc 2 1, 3) := by decide +kernel
theorem dX5_hits_61 : decode cX5_hits 61 = .ok (.goto (-39), 3) := by decide +kernel
theorem dX5_hits_64 : decode cX5_hits 64 = .ok (.iload_n 1, 1) := by decide +kernel
theorem dX5_hits_65 : decode cX5_hits 65 = .ok (.ireturn, 1) := by decide +kernel
theorem dX5_hitsOn_0 : decode cX5_hitsOn 0 = .ok (.aload_n 0, 1) := by decide +kernel
theorem dX5_hitsOn_1 : decode cX5_hitsOn 1 = .ok (.iload_n 1, 1) := by decide +kernel
theorem dX5_hitsOn_2 : decode cX5_hitsOn 2 = .ok (.invokevirtual 84, 3) := by decide +kernel
theorem dX5_hitsOn_5 : decode cX5_hitsOn 5 = .ok (.aload_n 0, 1) := by decide +kernel
theorem dX5_hitsOn_6 : decode cX5_hitsOn 6 = .ok (.getfield 29, 3) := by decide +kernel
theorem dX5_hitsOn_9 : decode cX5_hitsOn 9 = .ok (.aload_n 0, 1) := by decide +kernel
theorem dX5_hitsOn_10 : decode cX5_hitsOn 10 = .ok (.getfield 10, 3) := by decide +kernel
theorem dX5_hitsOn_13 : decode cX5_hitsOn 13 = .ok (.aload_n 0, 1) := by decide +kernel
theorem dX5_hitsOn_14 : decode cX5_hitsOn 14 = .ok (.getfield 10, 3) := by decide +kernel
theorem dX5_hitsOn_17 : decode cX5_hitsOn 17 = .ok (.invokevirtual 146, 3) := by decide +kernel
theorem dX5_hitsOn_20 : decode cX5_hitsOn 20 = .ok (.invokevirtual 150, 3) := by decide +kernel
theorem dX5_hitsOn_23 : decode cX5_hitsOn 23 = .ok (.aload_n 0, 1) := by decide +kernel
theorem dX5_hitsOn_24 : decode cX5_hitsOn 24 = .ok (.getfield 29, 3) := by decide +kernel
theorem dX5_hitsOn_27 : decode cX5_hitsOn 27 = .ok (.aload_n 0, 1) := by decide +kernel
theorem dX5_hitsOn_28 : decode cX5_hitsOn 28 = .ok (.getfield 10, 3) := by decide +kernel
theorem dX5_hitsOn_31 : decode cX5_hitsOn 31 = .ok (.iload_n 1, 1) := by decide +kernel
theorem dX5_hitsOn_32 : decode cX5_hitsOn 32 = .ok (.invokevirtual 92, 3) := by decide +kernel
theorem dX5_hitsOn_35 : decode cX5_hitsOn 35 = .ok (.aload_n 0, 1) := by decide +kernel
theorem dX5_hitsOn_36 : decode cX5_hitsOn 36 = .ok (.getfield 10, 3) := by decide +kernel
theorem dX5_hitsOn_39 : decode cX5_hitsOn 39 = .ok (.getfield 132, 3) := by decide +kernel
theorem dX5_hitsOn_42 : decode cX5_hitsOn 42 = .ok (.invokevirtual 173, 3) := by decide +kernel
theorem dX5_hitsOn_45 : decode cX5_hitsOn 45 = .ok (.ireturn, 1) := by decide +kernel
theorem dX5_isClean_0 : decode cX5_isClean 0 = .ok (.aload_n 0, 1) := by decide +kernel
theorem dX5_isClean_1 : decode cX5_isClean 1 = .ok (.aload_n 0, 1) := by decide +kernel
theorem dX5_isClean_2 : decode cX5_isClean 2 = .ok (.getfield 10, 3) := by decide +kernel
theorem dX5_isClean_5 : decode cX5_isClean 5 = .ok (.invokevirtual 146, 3) := by decide +kernel
theorem dX5_isClean_8 : decode cX5_isClean 8 = .ok (.invokevirtual 176, 3) := by decide +kernel
theorem dX5_isClean_11 : decode cX5_isClean 11 = .ok (.ireturn, 1) := by decide +kernel
theorem dX5_closest_0 : decode cX5_closest 0 = .ok (.iconst (-1), 1) := by decide +kernel
theorem dX5_closest_1 : decode cX5_closest 1 = .ok (.istore_n 1, 1) := by decide +kernel
theorem dX5_closest_2 : decode cX5_closest 2 = .ok (.iconst 0, 1) := by decide +kernel
theorem dX5_closest_3 : decode cX5_closest 3 = .ok (.istore_n 2, 1) := by decide +kernel
theorem dX5_closest_4 : decode cX5_closest 4 = .ok (.iload_n 2, 1) := by decide +kernel
theorem dX5_closest_5 : decode cX5_closest 5 = .ok (.aload_n 0, 1) := by decide +kernel
theorem dX5_closest_6 : decode cX5_closest 6 = .ok (.getfield 10, 3) := by decide +kernel
theorem dX5_closest_9 : decode cX5_closest 9 = .ok (.getfield 80, 3) := by decide +kernel
theorem dX5_closest_12 : decode cX5_closest 12 = .ok (.if_icmp .ge 66, 3) := by decide +kernel
theorem dX5_closest_15 : decode cX5_closest 15 = .ok (.iload_n 2, 1) := by decide +kernel
theorem dX5_closest_16 : decode cX5_closest 16 = .ok (.iconst 1, 1) := by decide +kernel
theorem dX5_closest_17 : decode cX5_closest 17 = .ok (.iadd, 1) := by decide +kernel
theorem dX5_closest_18 : decode cX5_closest 18 = .ok (.istore_n 3, 1) := by decide +kernel
theorem dX5_closest_19 : decode cX5_closest 19 = .ok (.iload_n 3, 1) := by decide +kernel
theorem dX5_closest_20 : decode cX5_closest 20 = .ok (.aload_n 0, 1) := by decide +kernel
theorem dX5_closest_21 : decode cX5_closest 21 = .ok (.getfield 10, 3) := by decide +kernel
theorem dX5_closest_24 : decode cX5_closest 24 = .ok (.getfield 80, 3) := by decide +kernel
theorem dX5_closest_27 : decode cX5_closest 27 = .ok (.if_icmp .ge 45, 3) := by decide +kernel
theorem dX5_closest_30 : decode cX5_closest 30 = .ok (.aload_n 0, 1) := by decide +kernel
theorem dX5_closest_31 : decode cX5_closest 31 = .ok (.getfield 10, 3) := by decide +kernel
theorem dX5_closest_34 : decode cX5_closest 34 = .ok (.iload_n 2, 1) := by decide +kernel
theorem dX5_closest_35 : decode cX5_closest 35 = .ok (.invokevirtual 92, 3) := by decide +kernel
theorem dX5_closest_38 : decode cX5_closest 38 = .ok (.aload_n 0, 1) := by decide +kernel
theorem dX5_closest_39 : decode cX5_closest 39 = .ok (.getfield 10, 3) := by decide +kernel
theorem dX5_closest_42 : decode cX5_closest 42 = .ok (.iload_n 3, 1) := by decide +kernel
theorem dX5_closest_43 : decode cX5_closest 43 = .ok (.invokevirtual 92, 3) := by decide +kernel
theorem dX5_closest_46 : decode cX5_closest 46 = .ok (.isub, 1) := by decide +kernel
theorem dX5_closest_47 : decode cX5_closest 47 = .ok (.invokestatic 179, 3) := by decide +kernel
theorem dX5_closest_50 : decode cX5_closest 50 = .ok (.istore 4, 2) := by decide +kernel
theorem dX5_closest_52 : decode cX5_closest 52 = .ok (.iload_n 1, 1) := by decide +kernel
theorem dX5_closest_53 : decode cX5_closest 53 = .ok (.iconst (-1), 1) := by decide +kernel
theorem dX5_closest_54 : decode cX5_closest 54 = .ok (.if_icmp .eq 9, 3) := by decide +kernel
theorem dX5_closest_57 : decode cX5_closest 57 = .ok (.iload 4, 2) := by decide +kernel
theorem dX5_closest_59 : decode cX5_closest 59 = .ok (.iload_n 1, 1) := by decide +kernel
theorem dX5_closest_60 : decode cX5_closest 60 = .ok (.if_icmp .ge 6, 3) := by decide +kernel
theorem dX5_closest_63 : decode cX5_closest 63 = .ok (.iload 4, 2) := by decide +kernel
theorem dX5_closest_65 : decode cX5_closest 65 = .ok (.istore_n 1, 1) := by decide +kernel
theorem dX5_closest_66 : decode cX5_closest 66 = .ok (.iinc 3 1, 3) := by decide +kernel
theorem dX5_closest_69 : decode cX5_closest 69 = .ok (.goto (-50), 3) := by decide +kernel
theorem dX5_closest_72 : decode cX5_closest 72 = .ok (.iinc 2 1, 3) := by decide +kernel
theorem dX5_closest_75 : decode cX5_closest 75 = .ok (.goto (-71), 3) := by decide +kernel
theorem dX5_closest_78 : decode cX5_closest 78 = .ok (.iload_n 1, 1) := by decide +kernel
theorem dX5_closest_79 : decode cX5_closest 79 = .ok (.ireturn, 1) := by decide +kernel
theorem dX5_removal_0 : decode cX5_removal 0 = .ok (.aload_n 0, 1) := by decide +kernel
theorem dX5_removal_1 : decode cX5_removal 1 = .ok (.getfield 10, 3) := by decide +kernel
theorem dX5_removal_4 : decode cX5_removal 4 = .ok (.invokevirtual 146, 3) := by decide +kernel
theorem dX5_removal_7 : decode cX5_removal 7 = .ok (.istore_n 1, 1) := by decide +kernel
theorem dX5_removal_8 : decode cX5_removal 8 = .ok (.iload_n 1, 1) := by decide +kernel
theorem dX5_removal_9 : decode cX5_removal 9 = .ok (.istore_n 2, 1) := by decide +kernel
theorem dX5_removal_10 : decode cX5_removal 10 = .ok (.iconst 0, 1) := by decide +kernel
theorem dX5_removal_11 : decode cX5_removal 11 = .ok (.istore_n 3, 1) := by decide +kernel
theorem dX5_removal_12 : decode cX5_removal 12 = .ok (.iload_n 3, 1) := by decide +kernel
theorem dX5_removal_13 : decode cX5_removal 13 = .ok (.iload_n 1, 1) := by decide +kernel
theorem dX5_removal_14 : decode cX5_removal 14 = .ok (.if_icmp .ge 34, 3) := by decide +kernel
theorem dX5_removal_17 : decode cX5_removal 17 = .ok (.iload_n 3, 1) := by decide +kernel
theorem dX5_removal_18 : decode cX5_removal 18 = .ok (.invokestatic 184, 3) := by decide +kernel
theorem dX5_removal_21 : decode cX5_removal 21 = .ok (.iload_n 2, 1) := by decide +kernel
theorem dX5_removal_22 : decode cX5_removal 22 = .ok (.invokestatic 184, 3) := by decide +kernel
theorem dX5_removal_25 : decode cX5_removal 25 = .ok (.if_icmp .ge 17, 3) := by decide +kernel
theorem dX5_removal_28 : decode cX5_removal 28 = .ok (.aload_n 0, 1) := by decide +kernel
theorem dX5_removal_29 : decode cX5_removal 29 = .ok (.iload_n 1, 1) := by decide +kernel
theorem dX5_removal_30 : decode cX5_removal 30 = .ok (.iload_n 3, 1) := by decide +kernel
theorem dX5_removal_31 : decode cX5_removal 31 = .ok (.iconst (-1), 1) := by decide +kernel
theorem dX5_removal_32 : decode cX5_removal 32 = .ok (.ixor, 1) := by decide +kernel
theorem dX5_removal_33 : decode cX5_removal 33 = .ok (.iand, 1) := by decide +kernel
theorem dX5_removal_34 : decode cX5_removal 34 = .ok (.invokevirtual 176, 3) := by decide +kernel
theorem dX5_removal_37 : decode cX5_removal 37 = .ok (.ifCond .eq 5, 3) := by decide +kernel
theorem dX5_removal_40 : decode cX5_removal 40 = .ok (.iload_n 3, 1) := by decide +kernel
theorem dX5_removal_41 : decode cX5_removal 41 = .ok (.istore_n 2, 1) := by decide +kernel
theorem dX5_removal_42 : decode cX5_removal 42 = .ok (.iinc 3 1, 3) := by decide +kernel
theorem dX5_removal_45 : decode cX5_removal 45 = .ok (.goto (-33), 3) := by decide +kernel
theorem dX5_removal_48 : decode cX5_removal 48 = .ok (.iload_n 2, 1) := by decide +kernel
theorem dX5_removal_49 : decode cX5_removal 49 = .ok (.ireturn, 1) := by decide +kernel
theorem dX5_leastSpan_0 : decode cX5_leastSpan 0 = .ok (.iload_n 1, 1) := by decide +kernel
theorem dX5_leastSpan_1 : decode cX5_leastSpan 1 = .ok (.bipush 6, 2) := by decide +kernel
theorem dX5_leastSpan_3 : decode cX5_leastSpan 3 = .ok (.invokestatic 189, 3) := by decide +kernel
theorem dX5_leastSpan_6 : decode cX5_leastSpan 6 = .ok (.aload_n 0, 1) := by decide +kernel
theorem dX5_leastSpan_7 : decode cX5_leastSpan 7 = .ok (.iload_n 1, 1) := by decide +kernel
theorem dX5_leastSpan_8 : decode cX5_leastSpan 8 = .ok (.invokevirtual 192, 3) := by decide +kernel
theorem dX5_leastSpan_11 : decode cX5_leastSpan 11 = .ok (.ireturn, 1) := by decide +kernel
theorem dX5_bestRuler_0 : decode cX5_bestRuler 0 = .ok (.iload_n 1, 1) := by decide +kernel
theorem dX5_bestRuler_1 : decode cX5_bestRuler 1 = .ok (.bipush 6, 2) := by decide +kernel
theorem dX5_bestRuler_3 : decode cX5_bestRuler 3 = .ok (.invokestatic 189, 3) := by decide +kernel
theorem dX5_bestRuler_6 : decode cX5_bestRuler 6 = .ok (.aload_n 0, 1) := by decide +kernel
theorem dX5_bestRuler_7 : decode cX5_bestRuler 7 = .ok (.iload_n 1, 1) := by decide +kernel
theorem dX5_bestRuler_8 : decode cX5_bestRuler 8 = .ok (.invokevirtual 192, 3) := by decide +kernel
theorem dX5_bestRuler_11 : decode cX5_bestRuler 11 = .ok (.iconst (-1), 1) := by decide +kernel
theorem dX5_bestRuler_12 : decode cX5_bestRuler 12 = .ok (.if_icmp .ne 7, 3) := by decide +kernel
theorem dX5_bestRuler_15 : decode cX5_bestRuler 15 = .ok (.lconst 0, 1) := by decide +kernel
theorem dX5_bestRuler_16 : decode cX5_bestRuler 16 = .ok (.goto 10, 3) := by decide +kernel
theorem dX5_bestRuler_19 : decode cX5_bestRuler 19 = .ok (.aload_n 0, 1) := by decide +kernel
theorem dX5_bestRuler_20 : decode cX5_bestRuler 20 = .ok (.getfield 36, 3) := by decide +kernel
theorem dX5_bestRuler_23 : decode cX5_bestRuler 23 = .ok (.invokevirtual 195, 3) := by decide +kernel
theorem dX5_bestRuler_26 : decode cX5_bestRuler 26 = .ok (.lreturn, 1) := by decide +kernel
theorem dX5_rulers_0 : decode cX5_rulers 0 = .ok (.iload_n 1, 1) := by decide +kernel
theorem dX5_rulers_1 : decode cX5_rulers 1 = .ok (.iconst 5, 1) := by decide +kernel
theorem dX5_rulers_2 : decode cX5_rulers 2 = .ok (.invokestatic 189, 3) := by decide +kernel
theorem dX5_rulers_5 : decode cX5_rulers 5 = .ok (.iload_n 2, 1) := by decide +kernel
theorem dX5_rulers_6 : decode cX5_rulers 6 = .ok (.iconst 0, 1) := by decide +kernel
theorem dX5_rulers_7 : decode cX5_rulers 7 = .ok (.bipush 40, 2) := by decide +kernel
theorem dX5_rulers_9 : decode cX5_rulers 9 = .ok (.invokestatic 112, 3) := by decide +kernel
theorem dX5_rulers_12 : decode cX5_rulers 12 = .ok (.ifCond .ne 13, 3) := by decide +kernel
theorem dX5_rulers_15 : decode cX5_rulers 15 = .ok (.new 62, 3) := by decide +kernel
theorem dX5_rulers_18 : decode cX5_rulers 18 = .ok (.dup, 1) := by decide +kernel
theorem dX5_rulers_19 : decode cX5_rulers 19 = .ok (.ldc 199, 2) := by decide +kernel
theorem dX5_rulers_21 : decode cX5_rulers 21 = .ok (.invokespecial 66, 3) := by decide +kernel
theorem dX5_rulers_24 : decode cX5_rulers 24 = .ok (.athrow, 1) := by decide +kernel
theorem dX5_rulers_25 : decode cX5_rulers 25 = .ok (.aload_n 0, 1) := by decide +kernel
theorem dX5_rulers_26 : decode cX5_rulers 26 = .ok (.iload_n 1, 1) := by decide +kernel
theorem dX5_rulers_27 : decode cX5_rulers 27 = .ok (.iload_n 2, 1) := by decide +kernel
theorem dX5_rulers_28 : decode cX5_rulers 28 = .ok (.sipush 10000, 3) := by decide +kernel
theorem dX5_rulers_31 : decode cX5_rulers 31 = .ok (.invokevirtual 201, 3) := by decide +kernel
theorem dX5_rulers_34 : decode cX5_rulers 34 = .ok (.ireturn, 1) := by decide +kernel
theorem dX5_openings_0 : decode cX5_openings 0 = .ok (.iload_n 1, 1) := by decide +kernel
theorem dX5_openings_1 : decode cX5_openings 1 = .ok (.invokestatic 205, 3) := by decide +kernel
theorem dX5_openings_4 : decode cX5_openings 4 = .ok (.aload_n 0, 1) := by decide +kernel
theorem dX5_openings_5 : decode cX5_openings 5 = .ok (.iload_n 1, 1) := by decide +kernel
theorem dX5_openings_6 : decode cX5_openings 6 = .ok (.invokevirtual 208, 3) := by decide +kernel
theorem dX5_openings_9 : decode cX5_openings 9 = .ok (.lreturn, 1) := by decide +kernel
theorem dX5_putIn_0 : decode cX5_putIn 0 = .ok (.iload_n 1, 1) := by decide +kernel
theorem dX5_putIn_1 : decode cX5_putIn 1 = .ok (.invokestatic 205, 3) := by decide +kernel
theorem dX5_putIn_4 : decode cX5_putIn 4 = .ok (.aload_n 0, 1) := by decide +kernel
theorem dX5_putIn_5 : decode cX5_putIn 5 = .ok (.invokevirtual 69, 3) := by decide +kernel
theorem dX5_putIn_8 : decode cX5_putIn 8 = .ok (.aload_n 0, 1) := by decide +kernel
theorem dX5_putIn_9 : decode cX5_putIn 9 = .ok (.iload_n 1, 1) := by decide +kernel
theorem dX5_putIn_10 : decode cX5_putIn 10 = .ok (.invokevirtual 208, 3) := by decide +kernel
theorem dX5_putIn_13 : decode cX5_putIn 13 = .ok (.invokestatic 211, 3) := by decide +kernel
theorem dX5_putIn_16 : decode cX5_putIn 16 = .ok (.istore_n 2, 1) := by decide +kernel
theorem dX5_putIn_17 : decode cX5_putIn 17 = .ok (.iload_n 2, 1) := by decide +kernel
theorem dX5_putIn_18 : decode cX5_putIn 18 = .ok (.iconst (-1), 1) := by decide +kernel
theorem dX5_putIn_19 : decode cX5_putIn 19 = .ok (.if_icmp .eq 23, 3) := by decide +kernel
theorem dX5_putIn_22 : decode cX5_putIn 22 = .ok (.aload_n 0, 1) := by decide +kernel
theorem dX5_putIn_23 : decode cX5_putIn 23 = .ok (.getfield 22, 3) := by decide +kernel
theorem dX5_putIn_26 : decode cX5_putIn 26 = .ok (.aload_n 0, 1) := by decide +kernel
theorem dX5_putIn_27 : decode cX5_putIn 27 = .ok (.getfield 10, 3) := by decide +kernel
theorem dX5_putIn_30 : decode cX5_putIn 30 = .ok (.invokevirtual 72, 3) := by decide +kernel
theorem dX5_putIn_33 : decode cX5_putIn 33 = .ok (.aload_n 0, 1) := by decide +kernel
theorem dX5_putIn_34 : decode cX5_putIn 34 = .ok (.getfield 10, 3) := by decide +kernel
theorem dX5_putIn_37 : decode cX5_putIn 37 = .ok (.iload_n 2, 1) := by decide +kernel
theorem dX5_putIn_38 : decode cX5_putIn 38 = .ok (.iload_n 1, 1) := by decide +kernel
theorem dX5_putIn_39 : decode cX5_putIn 39 = .ok (.invokevirtual 76, 3) := by decide +kernel
theorem dX5_putIn_42 : decode cX5_putIn 42 = .ok (.iload_n 2, 1) := by decide +kernel
theorem dX5_putIn_43 : decode cX5_putIn 43 = .ok (.ireturn, 1) := by decide +kernel
theorem dX5_addMixer_0 : decode cX5_addMixer 0 = .ok (.aload_n 0, 1) := by decide +kernel
theorem dX5_addMixer_1 : decode cX5_addMixer 1 = .ok (.iload_n 1, 1) := by decide +kernel
theorem dX5_addMixer_2 : decode cX5_addMixer 2 = .ok (.invokevirtual 166, 3) := by decide +kernel
theorem dX5_addMixer_5 : decode cX5_addMixer 5 = .ok (.aload_n 0, 1) := by decide +kernel
theorem dX5_addMixer_6 : decode cX5_addMixer 6 = .ok (.getfield 10, 3) := by decide +kernel
theorem dX5_addMixer_9 : decode cX5_addMixer 9 = .ok (.getfield 138, 3) := by decide +kernel
theorem dX5_addMixer_12 : decode cX5_addMixer 12 = .ok (.iconst 5, 1) := by decide +kernel
theorem dX5_addMixer_13 : decode cX5_addMixer 13 = .ok (.if_icmp .lt 13, 3) := by decide +kernel
theorem dX5_addMixer_16 : decode cX5_addMixer 16 = .ok (.new 104, 3) := by decide +kernel
theorem dX5_addMixer_19 : decode cX5_addMixer 19 = .ok (.dup, 1) := by decide +kernel
theorem dX5_addMixer_20 : decode cX5_addMixer 20 = .ok (.ldc 215, 2) := by decide +kernel
theorem dX5_addMixer_22 : decode cX5_addMixer 22 = .ok (.invokespecial 108, 3) := by decide +kernel
theorem dX5_addMixer_25 : decode cX5_addMixer 25 = .ok (.athrow, 1) := by decide +kernel
theorem dX5_addMixer_26 : decode cX5_addMixer 26 = .ok (.aload_n 0, 1) := by decide +kernel
theorem dX5_addMixer_27 : decode cX5_addMixer 27 = .ok (.getfield 22, 3) := by decide +kernel
theorem dX5_addMixer_30 : decode cX5_addMixer 30 = .ok (.aload_n 0, 1) := by decide +kernel
theorem dX5_addMixer_31 : decode cX5_addMixer 31 = .ok (.getfield 10, 3) := by decide +kernel
theorem dX5_addMixer_34 : decode cX5_addMixer 34 = .ok (.invokevirtual 72, 3) := by decide +kernel
theorem dX5_addMixer_37 : decode cX5_addMixer 37 = .ok (.aload_n 0, 1) := by decide +kernel
theorem dX5_addMixer_38 : decode cX5_addMixer 38 = .ok (.getfield 10, 3) := by decide +kernel
theorem dX5_addMixer_41 : decode cX5_addMixer 41 = .ok (.iload_n 1, 1) := by decide +kernel
theorem dX5_addMixer_42 : decode cX5_addMixer 42 = .ok (.invokevirtual 217, 3) := by decide +kernel
theorem dX5_addMixer_45 : decode cX5_addMixer 45 = .ok (.aload_n 0, 1) := by decide +kernel
theorem dX5_addMixer_46 : decode cX5_addMixer 46 = .ok (.getfield 10, 3) := by decide +kernel
theorem dX5_addMixer_49 : decode cX5_addMixer 49 = .ok (.getfield 138, 3) := by decide +kernel
theorem dX5_addMixer_52 : decode cX5_addMixer 52 = .ok (.iconst 1, 1) := by decide +kernel
theorem dX5_addMixer_53 : decode cX5_addMixer 53 = .ok (.isub, 1) := by decide +kernel
theorem dX5_addMixer_54 : decode cX5_addMixer 54 = .ok (.ireturn, 1) := by decide +kernel
theorem dX5_setMember_0 : decode cX5_setMember 0 = .ok (.aload_n 0, 1) := by decide +kernel
theorem dX5_setMember_1 : decode cX5_setMember 1 = .ok (.iload_n 1, 1) := by decide +kernel
theorem dX5_setMember_2 : decode cX5_setMember 2 = .ok (.invokevirtual 220, 3) := by decide +kernel
theorem dX5_setMember_5 : decode cX5_setMember 5 = .ok (.aload_n 0, 1) := by decide +kernel
theorem dX5_setMember_6 : decode cX5_setMember 6 = .ok (.iload_n 2, 1) := by decide +kernel
theorem dX5_setMember_7 : decode cX5_setMember 7 = .ok (.invokevirtual 84, 3) := by decide +kernel
theorem dX5_setMember_10 : decode cX5_setMember 10 = .ok (.aload_n 0, 1) := by decide +kernel
theorem dX5_setMember_11 : decode cX5_setMember 11 = .ok (.getfield 22, 3) := by decide +kernel
theorem dX5_setMember_14 : decode cX5_setMember 14 = .ok (.aload_n 0, 1) := by decide +kernel
theorem dX5_setMember_15 : decode cX5_setMember 15 = .ok (.getfield 10, 3) := by decide +kernel
theorem dX5_setMember_18 : decode cX5_setMember 18 = .ok (.invokevirtual 72, 3) := by decide +kernel
theorem dX5_setMember_21 : decode cX5_setMember 21 = .ok (.iconst 1, 1) := by decide +kernel
theorem dX5_setMember_22 : decode cX5_setMember 22 = .ok (.iload_n 2, 1) := by decide +kernel
theorem dX5_setMember_23 : decode cX5_setMember 23 = .ok (.ishl, 1) := by decide +kernel
theorem dX5_setMember_24 : decode cX5_setMember 24 = .ok (.istore 4, 2) := by decide +kernel
theorem dX5_setMember_26 : decode cX5_setMember 26 = .ok (.aload_n 0, 1) := by decide +kernel
theorem dX5_setMember_27 : decode cX5_setMember 27 = .ok (.getfield 10, 3) := by decide +kernel
theorem dX5_setMember_30 : decode cX5_setMember 30 = .ok (.iload_n 1, 1) := by decide +kernel
theorem dX5_setMember_31 : decode cX5_setMember 31 = .ok (.invokevirtual 223, 3) := by decide +kernel
theorem dX5_setMember_34 : decode cX5_setMember 34 = .ok (.istore 5, 2) := by decide +kernel
theorem dX5_setMember_36 : decode cX5_setMember 36 = .ok (.aload_n 0, 1) := by decide +kernel
theorem dX5_setMember_37 : decode cX5_setMember 37 = .ok (.getfield 10, 3) := by decide +kernel
theorem dX5_setMember_40 : decode cX5_setMember 40 = .ok (.iload_n 1, 1) := by decide +kernel
theorem dX5_setMember_41 : decode cX5_setMember 41 = .ok (.iload_n 3, 1) := by decide +kernel
theorem dX5_setMember_42 : decode cX5_setMember 42 = .ok (.ifCond .eq 11, 3) := by decide +kernel
theorem dX5_setMember_45 : decode cX5_setMember 45 = .ok (.iload 5, 2) := by decide +kernel
theorem dX5_setMember_47 : decode cX5_setMember 47 = .ok (.iload 4, 2) := by decide +kernel
theorem dX5_setMember_49 : decode cX5_setMember 49 = .ok (.ior, 1) := by decide +kernel
theorem dX5_setMember_50 : decode cX5_setMember 50 = .ok (.goto 10, 3) := by decide +kernel
theorem dX5_setMember_53 : decode cX5_setMember 53 = .ok (.iload 5, 2) := by decide +kernel
theorem dX5_setMember_55 : decode cX5_setMember 55 = .ok (.iload 4, 2) := by decide +kernel
theorem dX5_setMember_57 : decode cX5_setMember 57 = .ok (.iconst (-1), 1) := by decide +kernel
theorem dX5_setMember_58 : decode cX5_setMember 58 = .ok (.ixor, 1) := by decide +kernel
theorem dX5_setMember_59 : decode cX5_setMember 59 = .ok (.iand, 1) := by decide +kernel
theorem dX5_setMember_60 : decode cX5_setMember 60 = .ok (.invokevirtual 226, 3) := by decide +kernel
theorem dX5_setMember_63 : decode cX5_setMember 63 = .ok (.aload_n 0, 1) := by decide +kernel
theorem dX5_setMember_64 : decode cX5_setMember 64 = .ok (.getfield 10, 3) := by decide +kernel
theorem dX5_setMember_67 : decode cX5_setMember 67 = .ok (.iload_n 1, 1) := by decide +kernel
theorem dX5_setMember_68 : decode cX5_setMember 68 = .ok (.invokevirtual 223, 3) := by decide +kernel
theorem dX5_setMember_71 : decode cX5_setMember 71 = .ok (.ireturn, 1) := by decide +kernel
theorem dX5_mixer_0 : decode cX5_mixer 0 = .ok (.aload_n 0, 1) := by decide +kernel
theorem dX5_mixer_1 : decode cX5_mixer 1 = .ok (.iload_n 1, 1) := by decide +kernel
theorem dX5_mixer_2 : decode cX5_mixer 2 = .ok (.invokevirtual 220, 3) := by decide +kernel
theorem dX5_mixer_5 : decode cX5_mixer 5 = .ok (.aload_n 0, 1) := by decide +kernel
theorem dX5_mixer_6 : decode cX5_mixer 6 = .ok (.getfield 10, 3) := by decide +kernel
theorem dX5_mixer_9 : decode cX5_mixer 9 = .ok (.iload_n 1, 1) := by decide +kernel
theorem dX5_mixer_10 : decode cX5_mixer 10 = .ok (.invokevirtual 223, 3) := by decide +kernel
theorem dX5_mixer_13 : decode cX5_mixer 13 = .ok (.ireturn, 1) := by decide +kernel
theorem dX5_addTest_0 : decode cX5_addTest 0 = .ok (.aload_n 0, 1) := by decide +kernel
theorem dX5_addTest_1 : decode cX5_addTest 1 = .ok (.iload_n 1, 1) := by decide +kernel
theorem dX5_addTest_2 : decode cX5_addTest 2 = .ok (.invokevirtual 166, 3) := by decide +kernel
theorem dX5_addTest_5 : decode cX5_addTest 5 = .ok (.iload_n 2, 1) := by decide +kernel
theorem dX5_addTest_6 : decode cX5_addTest 6 = .ok (.invokestatic 229, 3) := by decide +kernel
theorem dX5_addTest_9 : decode cX5_addTest 9 = .ok (.aload_n 0, 1) := by decide +kernel
theorem dX5_addTest_10 : decode cX5_addTest 10 = .ok (.getfield 10, 3) := by decide +kernel
theorem dX5_addTest_13 : decode cX5_addTest 13 = .ok (.getfield 127, 3) := by decide +kernel
theorem dX5_addTest_16 : decode cX5_addTest 16 = .ok (.bipush 16, 2) := by decide +kernel
theorem dX5_addTest_18 : decode cX5_addTest 18 = .ok (.if_icmp .lt 13, 3) := by decide +kernel
theorem dX5_addTest_21 : decode cX5_addTest 21 = .ok (.new 104, 3) := by decide +kernel
theorem dX5_addTest_24 : decode cX5_addTest 24 = .ok (.dup, 1) := by decide +kernel
theorem dX5_addTest_25 : decode cX5_addTest 25 = .ok (.ldc 232, 2) := by decide +kernel
theorem dX5_addTest_27 : decode cX5_addTest 27 = .ok (.invokespecial 108, 3) := by decide +kernel
theorem dX5_addTest_30 : decode cX5_addTest 30 = .ok (.athrow, 1) := by decide +kernel
theorem dX5_addTest_31 : decode cX5_addTest 31 = .ok (.aload_n 0, 1) := by decide +kernel
theorem dX5_addTest_32 : decode cX5_addTest 32 = .ok (.getfield 22, 3) := by decide +kernel
theorem dX5_addTest_35 : decode cX5_addTest 35 = .ok (.aload_n 0, 1) := by decide +kernel
theorem dX5_addTest_36 : decode cX5_addTest 36 = .ok (.getfield 10, 3) := by decide +kernel
theorem dX5_addTest_39 : decode cX5_addTest 39 = .ok (.invokevirtual 72, 3) := by decide +kernel
theorem dX5_addTest_42 : decode cX5_addTest 42 = .ok (.aload_n 0, 1) := by decide +kernel
theorem dX5_addTest_43 : decode cX5_addTest 43 = .ok (.iload_n 1, 1) := by decide +kernel
theorem dX5_addTest_44 : decode cX5_addTest 44 = .ok (.invokevirtual 234, 3) := by decide +kernel
theorem dX5_addTest_47 : decode cX5_addTest 47 = .ok (.aload_n 0, 1) := by decide +kernel
theorem dX5_addTest_48 : decode cX5_addTest 48 = .ok (.getfield 10, 3) := by decide +kernel
theorem dX5_addTest_51 : decode cX5_addTest 51 = .ok (.iload_n 1, 1) := by decide +kernel
theorem dX5_addTest_52 : decode cX5_addTest 52 = .ok (.iload_n 2, 1) := by decide +kernel
theorem dX5_addTest_53 : decode cX5_addTest 53 = .ok (.iload_n 3, 1) := by decide +kernel
theorem dX5_addTest_54 : decode cX5_addTest 54 = .ok (.aload_n 0, 1) := by decide +kernel
theorem dX5_addTest_55 : decode cX5_addTest 55 = .ok (.iload_n 2, 1) := by decide +kernel
theorem dX5_addTest_56 : decode cX5_addTest 56 = .ok (.invokevirtual 237, 3) := by decide +kernel
theorem dX5_addTest_59 : decode cX5_addTest 59 = .ok (.invokevirtual 240, 3) := by decide +kernel
theorem dX5_addTest_62 : decode cX5_addTest 62 = .ok (.aload_n 0, 1) := by decide +kernel
theorem dX5_addTest_63 : decode cX5_addTest 63 = .ok (.invokevirtual 244, 3) := by decide +kernel
theorem dX5_addTest_66 : decode cX5_addTest 66 = .ok (.ireturn, 1) := by decide +kernel
theorem dX5_test_0 : decode cX5_test 0 = .ok (.iload_n 1, 1) := by decide +kernel
theorem dX5_test_1 : decode cX5_test 1 = .ok (.ifCond .lt 14, 3) := by decide +kernel
theorem dX5_test_4 : decode cX5_test 4 = .ok (.iload_n 1, 1) := by decide +kernel
theorem dX5_test_5 : decode cX5_test 5 = .ok (.aload_n 0, 1) := by decide +kernel
theorem dX5_test_6 : decode cX5_test 6 = .ok (.getfield 10, 3) := by decide +kernel
theorem dX5_test_9 : decode cX5_test 9 = .ok (.getfield 127, 3) := by decide +kernel
theorem dX5_test_12 : decode cX5_test 12 = .ok (.if_icmp .lt 13, 3) := by decide +kernel
theorem dX5_test_15 : decode cX5_test 15 = .ok (.new 157, 3) := by decide +kernel
theorem dX5_test_18 : decode cX5_test 18 = .ok (.dup, 1) := by decide +kernel
theorem dX5_test_19 : decode cX5_test 19 = .ok (.ldc 247, 2) := by decide +kernel
theorem dX5_test_21 : decode cX5_test 21 = .ok (.invokespecial 161, 3) := by decide +kernel
theorem dX5_test_24 : decode cX5_test 24 = .ok (.athrow, 1) := by decide +kernel
theorem dX5_test_25 : decode cX5_test 25 = .ok (.iload_n 2, 1) := by decide +kernel
theorem dX5_test_26 : decode cX5_test 26 = .ok (.iconst 0, 1) := by decide +kernel
theorem dX5_test_27 : decode cX5_test 27 = .ok (.iconst 2, 1) := by decide +kernel
theorem dX5_test_28 : decode cX5_test 28 = .ok (.invokestatic 112, 3) := by decide +kernel
theorem dX5_test_31 : decode cX5_test 31 = .ok (.ifCond .ne 13, 3) := by decide +kernel
theorem dX5_test_34 : decode cX5_test 34 = .ok (.new 62, 3) := by decide +kernel
theorem dX5_test_37 : decode cX5_test 37 = .ok (.dup, 1) := by decide +kernel
theorem dX5_test_38 : decode cX5_test 38 = .ok (.ldc 141, 2) := by decide +kernel
theorem dX5_test_40 : decode cX5_test 40 = .ok (.invokespecial 66, 3) := by decide +kernel
theorem dX5_test_43 : decode cX5_test 43 = .ok (.athrow, 1) := by decide +kernel
theorem dX5_test_44 : decode cX5_test 44 = .ok (.aload_n 0, 1) := by decide +kernel
theorem dX5_test_45 : decode cX5_test 45 = .ok (.getfield 10, 3) := by decide +kernel
theorem dX5_test_48 : decode cX5_test 48 = .ok (.iload_n 1, 1) := by decide +kernel
theorem dX5_test_49 : decode cX5_test 49 = .ok (.iload_n 2, 1) := by decide +kernel
theorem dX5_test_50 : decode cX5_test 50 = .ok (.invokevirtual 249, 3) := by decide +kernel
theorem dX5_test_53 : decode cX5_test 53 = .ok (.ireturn, 1) := by decide +kernel
theorem dX5_heard_0 : decode cX5_heard 0 = .ok (.aload_n 0, 1) := by decide +kernel
theorem dX5_heard_1 : decode cX5_heard 1 = .ok (.iload_n 1, 1) := by decide +kernel
theorem dX5_heard_2 : decode cX5_heard 2 = .ok (.invokevirtual 166, 3) := by decide +kernel
theorem dX5_heard_5 : decode cX5_heard 5 = .ok (.iload_n 2, 1) := by decide +kernel
theorem dX5_heard_6 : decode cX5_heard 6 = .ok (.invokestatic 229, 3) := by decide +kernel
theorem dX5_heard_9 : decode cX5_heard 9 = .ok (.aload_n 0, 1) := by decide +kernel
theorem dX5_heard_10 : decode cX5_heard 10 = .ok (.iload_n 1, 1) := by decide +kernel
theorem dX5_heard_11 : decode cX5_heard 11 = .ok (.invokevirtual 234, 3) := by decide +kernel
theorem dX5_heard_14 : decode cX5_heard 14 = .ok (.aload_n 0, 1) := by decide +kernel
theorem dX5_heard_15 : decode cX5_heard 15 = .ok (.iload_n 2, 1) := by decide +kernel
theorem dX5_heard_16 : decode cX5_heard 16 = .ok (.invokevirtual 237, 3) := by decide +kernel
theorem dX5_heard_19 : decode cX5_heard 19 = .ok (.ireturn, 1) := by decide +kernel
theorem dX5_diagnoses_0 : decode cX5_diagnoses 0 = .ok (.aload_n 0, 1) := by decide +kernel
theorem dX5_diagnoses_1 : decode cX5_diagnoses 1 = .ok (.invokevirtual 244, 3) := by decide +kernel
theorem dX5_diagnoses_4 : decode cX5_diagnoses 4 = .ok (.ireturn, 1) := by decide +kernel
theorem dX5_diagnosis_0 : decode cX5_diagnosis 0 = .ok (.iconst (-1), 1) := by decide +kernel
theorem dX5_diagnosis_1 : decode cX5_diagnosis 1 = .ok (.istore_n 1, 1) := by decide +kernel
theorem dX5_diagnosis_2 : decode cX5_diagnosis 2 = .ok (.iconst 0, 1) := by decide +kernel
theorem dX5_diagnosis_3 : decode cX5_diagnosis 3 = .ok (.istore_n 2, 1) := by decide +kernel
theorem dX5_diagnosis_4 : decode cX5_diagnosis 4 = .ok (.iload_n 2, 1) := by decide +kernel
theorem dX5_diagnosis_5 : decode cX5_diagnosis 5 = .ok (.aload_n 0, 1) := by decide +kernel
theorem dX5_diagnosis_6 : decode cX5_diagnosis 6 = .ok (.getfield 10, 3) := by decide +kernel
theorem dX5_diagnosis_9 : decode cX5_diagnosis 9 = .ok (.invokevirtual 252, 3) := by decide +kernel
theorem dX5_diagnosis_12 : decode cX5_diagnosis 12 = .ok (.if_icmp .gt 38, 3) := by decide +kernel
theorem dX5_diagnosis_15 : decode cX5_diagnosis 15 = .ok (.aload_n 0, 1) := by decide +kernel
theorem dX5_diagnosis_16 : decode cX5_diagnosis 16 = .ok (.getfield 10, 3) := by decide +kernel
theorem dX5_diagnosis_19 : decode cX5_diagnosis 19 = .ok (.iload_n 2, 1) := by decide +kernel
theorem dX5_diagnosis_20 : decode cX5_diagnosis 20 = .ok (.invokevirtual 255, 3) := by decide +kernel
theorem dX5_diagnosis_23 : decode cX5_diagnosis 23 = .ok (.ifCond .eq 21, 3) := by decide +kernel
theorem dX5_diagnosis_26 : decode cX5_diagnosis 26 = .ok (.iload_n 1, 1) := by decide +kernel
theorem dX5_diagnosis_27 : decode cX5_diagnosis 27 = .ok (.iconst (-1), 1) := by decide +kernel
theorem dX5_diagnosis_28 : decode cX5_diagnosis 28 = .ok (.if_icmp .eq 14, 3) := by decide +kernel
theorem dX5_diagnosis_31 : decode cX5_diagnosis 31 = .ok (.iload_n 2, 1) := by decide +kernel
theorem dX5_diagnosis_32 : decode cX5_diagnosis 32 = .ok (.invokestatic 184, 3) := by decide +kernel
theorem dX5_diagnosis_35 : decode cX5_diagnosis 35 = .ok (.iload_n 1, 1) := by decide +kernel
theorem dX5_diagnosis_36 : decode cX5_diagnosis 36 = .ok (.invokestatic 184, 3) := by decide +kernel
theorem dX5_diagnosis_39 : decode cX5_diagnosis 39 = .ok (.if_icmp .ge 5, 3) := by decide +kernel
theorem dX5_diagnosis_42 : decode cX5_diagnosis 42 = .ok (.iload_n 2, 1) := by decide +kernel
theorem dX5_diagnosis_43 : decode cX5_diagnosis 43 = .ok (.istore_n 1, 1) := by decide +kernel
theorem dX5_diagnosis_44 : decode cX5_diagnosis 44 = .ok (.iinc 2 1, 3) := by decide +kernel
theorem dX5_diagnosis_47 : decode cX5_diagnosis 47 = .ok (.goto (-43), 3) := by decide +kernel
theorem dX5_diagnosis_50 : decode cX5_diagnosis 50 = .ok (.iload_n 1, 1) := by decide +kernel
theorem dX5_diagnosis_51 : decode cX5_diagnosis 51 = .ok (.ireturn, 1) := by decide +kernel
theorem dX5_certain_0 : decode cX5_certain 0 = .ok (.aload_n 0, 1) := by decide +kernel
theorem dX5_certain_1 : decode cX5_certain 1 = .ok (.getfield 10, 3) := by decide +kernel
theorem dX5_certain_4 : decode cX5_certain 4 = .ok (.invokevirtual 252, 3) := by decide +kernel
theorem dX5_certain_7 : decode cX5_certain 7 = .ok (.istore_n 2, 1) := by decide +kernel
theorem dX5_certain_8 : decode cX5_certain 8 = .ok (.aload_n 0, 1) := by decide +kernel
theorem dX5_certain_9 : decode cX5_certain 9 = .ok (.getfield 10, 3) := by decide +kernel
theorem dX5_certain_12 : decode cX5_certain 12 = .ok (.invokevirtual 252, 3) := by decide +kernel
theorem dX5_certain_15 : decode cX5_certain 15 = .ok (.istore_n 3, 1) := by decide +kernel
theorem dX5_certain_16 : decode cX5_certain 16 = .ok (.iconst 0, 1) := by decide +kernel
theorem dX5_certain_17 : decode cX5_certain 17 = .ok (.istore 4, 2) := by decide +kernel
theorem dX5_certain_19 : decode cX5_certain 19 = .ok (.iload 4, 2) := by decide +kernel
theorem dX5_certain_21 : decode cX5_certain 21 = .ok (.aload_n 0, 1) := by decide +kernel
theorem dX5_certain_22 : decode cX5_certain 22 = .ok (.getfield 10, 3) := by decide +kernel
theorem dX5_certain_25 : decode cX5_certain 25 = .ok (.invokevirtual 252, 3) := by decide +kernel
theorem dX5_certain_28 : decode cX5_certain 28 = .ok (.if_icmp .gt 33, 3) := by decide +kernel
theorem dX5_certain_31 : decode cX5_certain 31 = .ok (.aload_n 0, 1) := by decide +kernel
theorem dX5_certain_32 : decode cX5_certain 32 = .ok (.getfield 10, 3) := by decide +kernel
theorem dX5_certain_35 : decode cX5_certain 35 = .ok (.iload 4, 2) := by decide +kernel
theorem dX5_certain_37 : decode cX5_certain 37 = .ok (.invokevirtual 255, 3) := by decide +kernel
theorem dX5_certain_40 : decode cX5_certain 40 = .ok (.ifCond .eq 15, 3) := by decide +kernel
theorem dX5_certain_43 : decode cX5_certain 43 = .ok (.iload_n 2, 1) := by decide +kernel
theorem dX5_certain_44 : decode cX5_certain 44 = .ok (.iload 4, 2) := by decide +kernel
theorem dX5_certain_46 : decode cX5_certain 46 = .ok (.iand, 1) := by decide +kernel
theorem dX5_certain_47 : decode cX5_certain 47 = .ok (.istore_n 2, 1) := by decide +kernel
theorem dX5_certain_48 : decode cX5_certain 48 = .ok (.iload_n 3, 1) := by decide +kernel
theorem dX5_certain_49 : decode cX5_certain 49 = .ok (.iload 4, 2) := by decide +kernel
theorem dX5_certain_51 : decode cX5_certain 51 = .ok (.iconst (-1), 1) := by decide +kernel
theorem dX5_certain_52 : decode cX5_certain 52 = .ok (.ixor, 1) := by decide +kernel
theorem dX5_certain_53 : decode cX5_certain 53 = .ok (.iand, 1) := by decide +kernel
theorem dX5_certain_54 : decode cX5_certain 54 = .ok (.istore_n 3, 1) := by decide +kernel
theorem dX5_certain_55 : decode cX5_certain 55 = .ok (.iinc 4 1, 3) := by decide +kernel
theorem dX5_certain_58 : decode cX5_certain 58 = .ok (.goto (-39), 3) := by decide +kernel
theorem dX5_certain_61 : decode cX5_certain 61 = .ok (.iload_n 1, 1) := by decide +kernel
theorem dX5_certain_62 : decode cX5_certain 62 = .ok (.ifCond .eq 7, 3) := by decide +kernel
theorem dX5_certain_65 : decode cX5_certain 65 = .ok (.iload_n 2, 1) := by decide +kernel
theorem dX5_certain_66 : decode cX5_certain 66 = .ok (.goto 4, 3) := by decide +kernel
theorem dX5_certain_69 : decode cX5_certain 69 = .ok (.iload_n 3, 1) := by decide +kernel
theorem dX5_certain_70 : decode cX5_certain 70 = .ok (.ireturn, 1) := by decide +kernel
theorem dX5_bestTest_0 : decode cX5_bestTest 0 = .ok (.aload_n 0, 1) := by decide +kernel
theorem dX5_bestTest_1 : decode cX5_bestTest 1 = .ok (.iload_n 1, 1) := by decide +kernel
theorem dX5_bestTest_2 : decode cX5_bestTest 2 = .ok (.invokevirtual 166, 3) := by decide +kernel
theorem dX5_bestTest_5 : decode cX5_bestTest 5 = .ok (.aload_n 0, 1) := by decide +kernel
theorem dX5_bestTest_6 : decode cX5_bestTest 6 = .ok (.iload_n 1, 1) := by decide +kernel
theorem dX5_bestTest_7 : decode cX5_bestTest 7 = .ok (.invokevirtual 234, 3) := by decide +kernel
theorem dX5_bestTest_10 : decode cX5_bestTest 10 = .ok (.aload_n 0, 1) := by decide +kernel
theorem dX5_bestTest_11 : decode cX5_bestTest 11 = .ok (.invokevirtual 244, 3) := by decide +kernel
theorem dX5_bestTest_14 : decode cX5_bestTest 14 = .ok (.istore_n 2, 1) := by decide +kernel
theorem dX5_bestTest_15 : decode cX5_bestTest 15 = .ok (.iconst 0, 1) := by decide +kernel
theorem dX5_bestTest_16 : decode cX5_bestTest 16 = .ok (.istore_n 3, 1) := by decide +kernel
theorem dX5_bestTest_17 : decode cX5_bestTest 17 = .ok (.iload_n 2, 1) := by decide +kernel
theorem dX5_bestTest_18 : decode cX5_bestTest 18 = .ok (.istore 4, 2) := by decide +kernel
theorem dX5_bestTest_20 : decode cX5_bestTest 20 = .ok (.iconst 0, 1) := by decide +kernel
theorem dX5_bestTest_21 : decode cX5_bestTest 21 = .ok (.istore 5, 2) := by decide +kernel
theorem dX5_bestTest_23 : decode cX5_bestTest 23 = .ok (.iload 5, 2) := by decide +kernel
theorem dX5_bestTest_25 : decode cX5_bestTest 25 = .ok (.bipush 64, 2) := by decide +kernel
theorem dX5_bestTest_27 : decode cX5_bestTest 27 = .ok (.if_icmp .ge 46, 3) := by decide +kernel
theorem dX5_bestTest_30 : decode cX5_bestTest 30 = .ok (.aload_n 0, 1) := by decide +kernel
theorem dX5_bestTest_31 : decode cX5_bestTest 31 = .ok (.aload_n 0, 1) := by decide +kernel
theorem dX5_bestTest_32 : decode cX5_bestTest 32 = .ok (.iload 5, 2) := by decide +kernel
theorem dX5_bestTest_34 : decode cX5_bestTest 34 = .ok (.invokevirtual 237, 3) := by decide +kernel
theorem dX5_bestTest_37 : decode cX5_bestTest 37 = .ok (.invokevirtual 258, 3) := by decide +kernel
theorem dX5_bestTest_40 : decode cX5_bestTest 40 = .ok (.istore 6, 2) := by decide +kernel
theorem dX5_bestTest_42 : decode cX5_bestTest 42 = .ok (.iload 6, 2) := by decide +kernel
theorem dX5_bestTest_44 : decode cX5_bestTest 44 = .ok (.iload_n 2, 1) := by decide +kernel
theorem dX5_bestTest_45 : decode cX5_bestTest 45 = .ok (.iload 6, 2) := by decide +kernel
theorem dX5_bestTest_47 : decode cX5_bestTest 47 = .ok (.isub, 1) := by decide +kernel
theorem dX5_bestTest_48 : decode cX5_bestTest 48 = .ok (.invokestatic 261, 3) := by decide +kernel
theorem dX5_bestTest_51 : decode cX5_bestTest 51 = .ok (.istore 7, 2) := by decide +kernel
theorem dX5_bestTest_53 : decode cX5_bestTest 53 = .ok (.iload 7, 2) := by decide +kernel
theorem dX5_bestTest_55 : decode cX5_bestTest 55 = .ok (.iload 4, 2) := by decide +kernel
theorem dX5_bestTest_57 : decode cX5_bestTest 57 = .ok (.if_icmp .ge 10, 3) := by decide +kernel
theorem dX5_bestTest_60 : decode cX5_bestTest 60 = .ok (.iload 5, 2) := by decide +kernel
theorem dX5_bestTest_62 : decode cX5_bestTest 62 = .ok (.istore_n 3, 1) := by decide +kernel
theorem dX5_bestTest_63 : decode cX5_bestTest 63 = .ok (.iload 7, 2) := by decide +kernel
theorem dX5_bestTest_65 : decode cX5_bestTest 65 = .ok (.istore 4, 2) := by decide +kernel
theorem dX5_bestTest_67 : decode cX5_bestTest 67 = .ok (.iinc 5 1, 3) := by decide +kernel
theorem dX5_bestTest_70 : decode cX5_bestTest 70 = .ok (.goto (-47), 3) := by decide +kernel
theorem dX5_bestTest_73 : decode cX5_bestTest 73 = .ok (.iload_n 3, 1) := by decide +kernel
theorem dX5_bestTest_74 : decode cX5_bestTest 74 = .ok (.ireturn, 1) := by decide +kernel
theorem dX5_append_0 : decode cX5_append 0 = .ok (.iload_n 1, 1) := by decide +kernel
theorem dX5_append_1 : decode cX5_append 1 = .ok (.iconst 0, 1) := by decide +kernel
theorem dX5_append_2 : decode cX5_append 2 = .ok (.bipush 127, 2) := by decide +kernel
theorem dX5_append_4 : decode cX5_append 4 = .ok (.invokestatic 112, 3) := by decide +kernel
theorem dX5_append_7 : decode cX5_append 7 = .ok (.ifCond .ne 14, 3) := by decide +kernel
theorem dX5_append_10 : decode cX5_append 10 = .ok (.new 62, 3) := by decide +kernel
theorem dX5_append_13 : decode cX5_append 13 = .ok (.dup, 1) := by decide +kernel
theorem dX5_append_14 : decode cX5_append 14 = .ok (.ldc_w 264, 3) := by decide +kernel
theorem dX5_append_17 : decode cX5_append 17 = .ok (.invokespecial 66, 3) := by decide +kernel
theorem dX5_append_20 : decode cX5_append 20 = .ok (.athrow, 1) := by decide +kernel
theorem dX5_append_21 : decode cX5_append 21 = .ok (.aload_n 0, 1) := by decide +kernel
theorem dX5_append_22 : decode cX5_append 22 = .ok (.getfield 43, 3) := by decide +kernel
theorem dX5_append_25 : decode cX5_append 25 = .ok (.getfield 266, 3) := by decide +kernel
theorem dX5_append_28 : decode cX5_append 28 = .ok (.bipush 120, 2) := by decide +kernel
theorem dX5_append_30 : decode cX5_append 30 = .ok (.if_icmp .lt 14, 3) := by decide +kernel
theorem dX5_append_33 : decode cX5_append 33 = .ok (.new 104, 3) := by decide +kernel
theorem dX5_append_36 : decode cX5_append 36 = .ok (.dup, 1) := by decide +kernel
theorem dX5_append_37 : decode cX5_append 37 = .ok (.ldc_w 269, 3) := by decide +kernel
theorem dX5_append_40 : decode cX5_append 40 = .ok (.invokespecial 108, 3) := by decide +kernel
theorem dX5_append_43 : decode cX5_append 43 = .ok (.athrow, 1) := by decide +kernel
theorem dX5_append_44 : decode cX5_append 44 = .ok (.aload_n 0, 1) := by decide +kernel
theorem dX5_append_45 : decode cX5_append 45 = .ok (.getfield 43, 3) := by decide +kernel
theorem dX5_append_48 : decode cX5_append 48 = .ok (.iload_n 1, 1) := by decide +kernel
theorem dX5_append_49 : decode cX5_append 49 = .ok (.invokevirtual 271, 3) := by decide +kernel
theorem dX5_append_52 : decode cX5_append 52 = .ok (.aload_n 0, 1) := by decide +kernel
theorem dX5_append_53 : decode cX5_append 53 = .ok (.getfield 43, 3) := by decide +kernel
theorem dX5_append_56 : decode cX5_append 56 = .ok (.getfield 266, 3) := by decide +kernel
theorem dX5_append_59 : decode cX5_append 59 = .ok (.ireturn, 1) := by decide +kernel
theorem dX5_clearText_0 : decode cX5_clearText 0 = .ok (.aload_n 0, 1) := by decide +kernel
theorem dX5_clearText_1 : decode cX5_clearText 1 = .ok (.getfield 43, 3) := by decide +kernel
theorem dX5_clearText_4 : decode cX5_clearText 4 = .ok (.getfield 266, 3) := by decide +kernel
theorem dX5_clearText_7 : decode cX5_clearText 7 = .ok (.istore_n 1, 1) := by decide +kernel
theorem dX5_clearText_8 : decode cX5_clearText 8 = .ok (.aload_n 0, 1) := by decide +kernel
theorem dX5_clearText_9 : decode cX5_clearText 9 = .ok (.getfield 43, 3) := by decide +kernel
theorem dX5_clearText_12 : decode cX5_clearText 12 = .ok (.iconst 0, 1) := by decide +kernel
theorem dX5_clearText_13 : decode cX5_clearText 13 = .ok (.putfield 266, 3) := by decide +kernel
theorem dX5_clearText_16 : decode cX5_clearText 16 = .ok (.iload_n 1, 1) := by decide +kernel
theorem dX5_clearText_17 : decode cX5_clearText 17 = .ok (.ireturn, 1) := by decide +kernel
theorem dX5_parse_0 : decode cX5_parse 0 = .ok (.aload_n 0, 1) := by decide +kernel
theorem dX5_parse_1 : decode cX5_parse 1 = .ok (.getfield 16, 3) := by decide +kernel
theorem dX5_parse_4 : decode cX5_parse 4 = .ok (.aload_n 0, 1) := by decide +kernel
theorem dX5_parse_5 : decode cX5_parse 5 = .ok (.getfield 10, 3) := by decide +kernel
theorem dX5_parse_8 : decode cX5_parse 8 = .ok (.invokevirtual 274, 3) := by decide +kernel
theorem dX5_parse_11 : decode cX5_parse 11 = .ok (.aload_n 0, 1) := by decide +kernel
theorem dX5_parse_12 : decode cX5_parse 12 = .ok (.getfield 16, 3) := by decide +kernel
theorem dX5_parse_15 : decode cX5_parse 15 = .ok (.invokevirtual 277, 3) := by decide +kernel
theorem dX5_parse_18 : decode cX5_parse 18 = .ok (.aload_n 0, 1) := by decide +kernel
theorem dX5_parse_19 : decode cX5_parse 19 = .ok (.getfield 43, 3) := by decide +kernel
theorem dX5_parse_22 : decode cX5_parse 22 = .ok (.aload_n 0, 1) := by decide +kernel
theorem dX5_parse_23 : decode cX5_parse 23 = .ok (.getfield 16, 3) := by decide +kernel
theorem dX5_parse_26 : decode cX5_parse 26 = .ok (.invokevirtual 280, 3) := by decide +kernel
theorem dX5_parse_29 : decode cX5_parse 29 = .ok (.istore_n 1, 1) := by decide +kernel
theorem dX5_parse_30 : decode cX5_parse 30 = .ok (.iload_n 1, 1) := by decide +kernel
theorem dX5_parse_31 : decode cX5_parse 31 = .ok (.ifCond .lt 25, 3) := by decide +kernel
theorem dX5_parse_34 : decode cX5_parse 34 = .ok (.aload_n 0, 1) := by decide +kernel
theorem dX5_parse_35 : decode cX5_parse 35 = .ok (.getfield 22, 3) := by decide +kernel
theorem dX5_parse_38 : decode cX5_parse 38 = .ok (.aload_n 0, 1) := by decide +kernel
theorem dX5_parse_39 : decode cX5_parse 39 = .ok (.getfield 10, 3) := by decide +kernel
theorem dX5_parse_42 : decode cX5_parse 42 = .ok (.invokevirtual 72, 3) := by decide +kernel
theorem dX5_parse_45 : decode cX5_parse 45 = .ok (.aload_n 0, 1) := by decide +kernel
theorem dX5_parse_46 : decode cX5_parse 46 = .ok (.getfield 10, 3) := by decide +kernel
theorem dX5_parse_49 : decode cX5_parse 49 = .ok (.aload_n 0, 1) := by decide +kernel
theorem dX5_parse_50 : decode cX5_parse 50 = .ok (.getfield 16, 3) := by decide +kernel
theorem dX5_parse_53 : decode cX5_parse 53 = .ok (.invokevirtual 274, 3) := by decide +kernel
theorem dX5_parse_56 : decode cX5_parse 56 = .ok (.iload_n 1, 1) := by decide +kernel
theorem dX5_parse_57 : decode cX5_parse 57 = .ok (.ireturn, 1) := by decide +kernel
theorem dX5_undo_0 : decode cX5_undo 0 = .ok (.aload_n 0, 1) := by decide +kernel
theorem dX5_undo_1 : decode cX5_undo 1 = .ok (.getfield 22, 3) := by decide +kernel
theorem dX5_undo_4 : decode cX5_undo 4 = .ok (.getfield 284, 3) := by decide +kernel
theorem dX5_undo_7 : decode cX5_undo 7 = .ok (.ifCond .gt 14, 3) := by decide +kernel
theorem dX5_undo_10 : decode cX5_undo 10 = .ok (.new 104, 3) := by decide +kernel
theorem dX5_undo_13 : decode cX5_undo 13 = .ok (.dup, 1) := by decide +kernel
theorem dX5_undo_14 : decode cX5_undo 14 = .ok (.ldc_w 285, 3) := by decide +kernel
theorem dX5_undo_17 : decode cX5_undo 17 = .ok (.invokespecial 108, 3) := by decide +kernel
theorem dX5_undo_20 : decode cX5_undo 20 = .ok (.athrow, 1) := by decide +kernel
theorem dX5_undo_21 : decode cX5_undo 21 = .ok (.aload_n 0, 1) := by decide +kernel
theorem dX5_undo_22 : decode cX5_undo 22 = .ok (.getfield 22, 3) := by decide +kernel
theorem dX5_undo_25 : decode cX5_undo 25 = .ok (.aload_n 0, 1) := by decide +kernel
theorem dX5_undo_26 : decode cX5_undo 26 = .ok (.getfield 10, 3) := by decide +kernel
theorem dX5_undo_29 : decode cX5_undo 29 = .ok (.invokevirtual 287, 3) := by decide +kernel
theorem dX5_undo_32 : decode cX5_undo 32 = .ok (.aload_n 0, 1) := by decide +kernel
theorem dX5_undo_33 : decode cX5_undo 33 = .ok (.getfield 22, 3) := by decide +kernel
theorem dX5_undo_36 : decode cX5_undo 36 = .ok (.getfield 284, 3) := by decide +kernel
theorem dX5_undo_39 : decode cX5_undo 39 = .ok (.ireturn, 1) := by decide +kernel
theorem dX5_digest_0 : decode cX5_digest 0 = .ok (.ldc2_w 290, 3) := by decide +kernel
theorem dX5_digest_3 : decode cX5_digest 3 = .ok (.lstore_n 1, 1) := by decide +kernel
theorem dX5_digest_4 : decode cX5_digest 4 = .ok (.ldc2_w 292, 3) := by decide +kernel
theorem dX5_digest_7 : decode cX5_digest 7 = .ok (.lload_n 1, 1) := by decide +kernel
theorem dX5_digest_8 : decode cX5_digest 8 = .ok (.lmul, 1) := by decide +kernel
theorem dX5_digest_9 : decode cX5_digest 9 = .ok (.aload_n 0, 1) := by decide +kernel
theorem dX5_digest_10 : decode cX5_digest 10 = .ok (.getfield 43, 3) := by decide +kernel
theorem dX5_digest_13 : decode cX5_digest 13 = .ok (.getfield 266, 3) := by decide +kernel
theorem dX5_digest_16 : decode cX5_digest 16 = .ok (.i2l, 1) := by decide +kernel
theorem dX5_digest_17 : decode cX5_digest 17 = .ok (.ladd, 1) := by decide +kernel
theorem dX5_digest_18 : decode cX5_digest 18 = .ok (.lstore_n 1, 1) := by decide +kernel
theorem dX5_digest_19 : decode cX5_digest 19 = .ok (.ldc2_w 292, 3) := by decide +kernel
theorem dX5_digest_22 : decode cX5_digest 22 = .ok (.lload_n 1, 1) := by decide +kernel
theorem dX5_digest_23 : decode cX5_digest 23 = .ok (.lmul, 1) := by decide +kernel
theorem dX5_digest_24 : decode cX5_digest 24 = .ok (.aload_n 0, 1) := by decide +kernel
theorem dX5_digest_25 : decode cX5_digest 25 = .ok (.getfield 10, 3) := by decide +kernel
theorem dX5_digest_28 : decode cX5_digest 28 = .ok (.getfield 118, 3) := by decide +kernel
theorem dX5_digest_31 : decode cX5_digest 31 = .ok (.i2l, 1) := by decide +kernel
theorem dX5_digest_32 : decode cX5_digest 32 = .ok (.ladd, 1) := by decide +kernel
theorem dX5_digest_33 : decode cX5_digest 33 = .ok (.lstore_n 1, 1) := by decide +kernel
theorem dX5_digest_34 : decode cX5_digest 34 = .ok (.ldc2_w 292, 3) := by decide +kernel
theorem dX5_digest_37 : decode cX5_digest 37 = .ok (.lload_n 1, 1) := by decide +kernel
theorem dX5_digest_38 : decode cX5_digest 38 = .ok (.lmul, 1) := by decide +kernel
theorem dX5_digest_39 : decode cX5_digest 39 = .ok (.aload_n 0, 1) := by decide +kernel
theorem dX5_digest_40 : decode cX5_digest 40 = .ok (.getfield 10, 3) := by decide +kernel
theorem dX5_digest_43 : decode cX5_digest 43 = .ok (.getfield 121, 3) := by decide +kernel
theorem dX5_digest_46 : decode cX5_digest 46 = .ok (.i2l, 1) := by decide +kernel
theorem dX5_digest_47 : decode cX5_digest 47 = .ok (.ladd, 1) := by decide +kernel
theorem dX5_digest_48 : decode cX5_digest 48 = .ok (.lstore_n 1, 1) := by decide +kernel
theorem dX5_digest_49 : decode cX5_digest 49 = .ok (.ldc2_w 292, 3) := by decide +kernel
theorem dX5_digest_52 : decode cX5_digest 52 = .ok (.lload_n 1, 1) := by decide +kernel
theorem dX5_digest_53 : decode cX5_digest 53 = .ok (.lmul, 1) := by decide +kernel
theorem dX5_digest_54 : decode cX5_digest 54 = .ok (.aload_n 0, 1) := by decide +kernel
theorem dX5_digest_55 : decode cX5_digest 55 = .ok (.getfield 10, 3) := by decide +kernel
theorem dX5_digest_58 : decode cX5_digest 58 = .ok (.getfield 124, 3) := by decide +kernel
theorem dX5_digest_61 : decode cX5_digest 61 = .ok (.i2l, 1) := by decide +kernel
theorem dX5_digest_62 : decode cX5_digest 62 = .ok (.ladd, 1) := by decide +kernel
theorem dX5_digest_63 : decode cX5_digest 63 = .ok (.lstore_n 1, 1) := by decide +kernel
theorem dX5_digest_64 : decode cX5_digest 64 = .ok (.ldc2_w 292, 3) := by decide +kernel
theorem dX5_digest_67 : decode cX5_digest 67 = .ok (.lload_n 1, 1) := by decide +kernel
theorem dX5_digest_68 : decode cX5_digest 68 = .ok (.lmul, 1) := by decide +kernel
theorem dX5_digest_69 : decode cX5_digest 69 = .ok (.aload_n 0, 1) := by decide +kernel
theorem dX5_digest_70 : decode cX5_digest 70 = .ok (.getfield 10, 3) := by decide +kernel
theorem dX5_digest_73 : decode cX5_digest 73 = .ok (.getfield 132, 3) := by decide +kernel
theorem dX5_digest_76 : decode cX5_digest 76 = .ok (.i2l, 1) := by decide +kernel
theorem dX5_digest_77 : decode cX5_digest 77 = .ok (.ladd, 1) := by decide +kernel
theorem dX5_digest_78 : decode cX5_digest 78 = .ok (.lstore_n 1, 1) := by decide +kernel
theorem dX5_digest_79 : decode cX5_digest 79 = .ok (.ldc2_w 292, 3) := by decide +kernel
theorem dX5_digest_82 : decode cX5_digest 82 = .ok (.lload_n 1, 1) := by decide +kernel
theorem dX5_digest_83 : decode cX5_digest 83 = .ok (.lmul, 1) := by decide +kernel
theorem dX5_digest_84 : decode cX5_digest 84 = .ok (.aload_n 0, 1) := by decide +kernel
theorem dX5_digest_85 : decode cX5_digest 85 = .ok (.getfield 10, 3) := by decide +kernel
theorem dX5_digest_88 : decode cX5_digest 88 = .ok (.getfield 135, 3) := by decide +kernel
theorem dX5_digest_91 : decode cX5_digest 91 = .ok (.i2l, 1) := by decide +kernel
theorem dX5_digest_92 : decode cX5_digest 92 = .ok (.ladd, 1) := by decide +kernel
theorem dX5_digest_93 : decode cX5_digest 93 = .ok (.lstore_n 1, 1) := by decide +kernel
theorem dX5_digest_94 : decode cX5_digest 94 = .ok (.ldc2_w 292, 3) := by decide +kernel
theorem dX5_digest_97 : decode cX5_digest 97 = .ok (.lload_n 1, 1) := by decide +kernel
theorem dX5_digest_98 : decode cX5_digest 98 = .ok (.lmul, 1) := by decide +kernel
theorem dX5_digest_99 : decode cX5_digest 99 = .ok (.aload_n 0, 1) := by decide +kernel
theorem dX5_digest_100 : decode cX5_digest 100 = .ok (.getfield 10, 3) := by decide +kernel
theorem dX5_digest_103 : decode cX5_digest 103 = .ok (.getfield 80, 3) := by decide +kernel
theorem dX5_digest_106 : decode cX5_digest 106 = .ok (.i2l, 1) := by decide +kernel
theorem dX5_digest_107 : decode cX5_digest 107 = .ok (.ladd, 1) := by decide +kernel
theorem dX5_digest_108 : decode cX5_digest 108 = .ok (.lstore_n 1, 1) := by decide +kernel
theorem dX5_digest_109 : decode cX5_digest 109 = .ok (.iconst 0, 1) := by decide +kernel
theorem dX5_digest_110 : decode cX5_digest 110 = .ok (.istore_n 3, 1) := by decide +kernel
theorem dX5_digest_111 : decode cX5_digest 111 = .ok (.iload_n 3, 1) := by decide +kernel
theorem dX5_digest_112 : decode cX5_digest 112 = .ok (.aload_n 0, 1) := by decide +kernel
theorem dX5_digest_113 : decode cX5_digest 113 = .ok (.getfield 10, 3) := by decide +kernel
theorem dX5_digest_116 : decode cX5_digest 116 = .ok (.getfield 80, 3) := by decide +kernel
theorem dX5_digest_119 : decode cX5_digest 119 = .ok (.if_icmp .ge 41, 3) := by decide +kernel
theorem dX5_digest_122 : decode cX5_digest 122 = .ok (.ldc2_w 292, 3) := by decide +kernel
theorem dX5_digest_125 : decode cX5_digest 125 = .ok (.lload_n 1, 1) := by decide +kernel
theorem dX5_digest_126 : decode cX5_digest 126 = .ok (.lmul, 1) := by decide +kernel
theorem dX5_digest_127 : decode cX5_digest 127 = .ok (.aload_n 0, 1) := by decide +kernel
theorem dX5_digest_128 : decode cX5_digest 128 = .ok (.getfield 10, 3) := by decide +kernel
theorem dX5_digest_131 : decode cX5_digest 131 = .ok (.iload_n 3, 1) := by decide +kernel
theorem dX5_digest_132 : decode cX5_digest 132 = .ok (.invokevirtual 92, 3) := by decide +kernel
theorem dX5_digest_135 : decode cX5_digest 135 = .ok (.i2l, 1) := by decide +kernel
theorem dX5_digest_136 : decode cX5_digest 136 = .ok (.ladd, 1) := by decide +kernel
theorem dX5_digest_137 : decode cX5_digest 137 = .ok (.lstore_n 1, 1) := by decide +kernel
theorem dX5_digest_138 : decode cX5_digest 138 = .ok (.ldc2_w 292, 3) := by decide +kernel
theorem dX5_digest_141 : decode cX5_digest 141 = .ok (.lload_n 1, 1) := by decide +kernel
theorem dX5_digest_142 : decode cX5_digest 142 = .ok (.lmul, 1) := by decide +kernel
theorem dX5_digest_143 : decode cX5_digest 143 = .ok (.aload_n 0, 1) := by decide +kernel
theorem dX5_digest_144 : decode cX5_digest 144 = .ok (.getfield 10, 3) := by decide +kernel
theorem dX5_digest_147 : decode cX5_digest 147 = .ok (.iload_n 3, 1) := by decide +kernel
theorem dX5_digest_148 : decode cX5_digest 148 = .ok (.invokevirtual 143, 3) := by decide +kernel
theorem dX5_digest_151 : decode cX5_digest 151 = .ok (.i2l, 1) := by decide +kernel
theorem dX5_digest_152 : decode cX5_digest 152 = .ok (.ladd, 1) := by decide +kernel
theorem dX5_digest_153 : decode cX5_digest 153 = .ok (.lstore_n 1, 1) := by decide +kernel
theorem dX5_digest_154 : decode cX5_digest 154 = .ok (.iinc 3 1, 3) := by decide +kernel
theorem dX5_digest_157 : decode cX5_digest 157 = .ok (.goto (-46), 3) := by decide +kernel
theorem dX5_digest_160 : decode cX5_digest 160 = .ok (.ldc2_w 292, 3) := by decide +kernel
theorem dX5_digest_163 : decode cX5_digest 163 = .ok (.lload_n 1, 1) := by decide +kernel
theorem dX5_digest_164 : decode cX5_digest 164 = .ok (.lmul, 1) := by decide +kernel
theorem dX5_digest_165 : decode cX5_digest 165 = .ok (.aload_n 0, 1) := by decide +kernel
theorem dX5_digest_166 : decode cX5_digest 166 = .ok (.invokevirtual 294, 3) := by decide +kernel
theorem dX5_digest_169 : decode cX5_digest 169 = .ok (.i2l, 1) := by decide +kernel
theorem dX5_digest_170 : decode cX5_digest 170 = .ok (.ladd, 1) := by decide +kernel
theorem dX5_digest_171 : decode cX5_digest 171 = .ok (.lstore_n 1, 1) := by decide +kernel
theorem dX5_digest_172 : decode cX5_digest 172 = .ok (.ldc2_w 292, 3) := by decide +kernel
theorem dX5_digest_175 : decode cX5_digest 175 = .ok (.lload_n 1, 1) := by decide +kernel
theorem dX5_digest_176 : decode cX5_digest 176 = .ok (.lmul, 1) := by decide +kernel
theorem dX5_digest_177 : decode cX5_digest 177 = .ok (.aload_n 0, 1) := by decide +kernel
theorem dX5_digest_178 : decode cX5_digest 178 = .ok (.invokevirtual 297, 3) := by decide +kernel
theorem dX5_digest_181 : decode cX5_digest 181 = .ok (.i2l, 1) := by decide +kernel
theorem dX5_digest_182 : decode cX5_digest 182 = .ok (.ladd, 1) := by decide +kernel
theorem dX5_digest_183 : decode cX5_digest 183 = .ok (.lstore_n 1, 1) := by decide +kernel
theorem dX5_digest_184 : decode cX5_digest 184 = .ok (.ldc2_w 292, 3) := by decide +kernel
theorem dX5_digest_187 : decode cX5_digest 187 = .ok (.lload_n 1, 1) := by decide +kernel
theorem dX5_digest_188 : decode cX5_digest 188 = .ok (.lmul, 1) := by decide +kernel
theorem dX5_digest_189 : decode cX5_digest 189 = .ok (.aload_n 0, 1) := by decide +kernel
theorem dX5_digest_190 : decode cX5_digest 190 = .ok (.getfield 10, 3) := by decide +kernel
theorem dX5_digest_193 : decode cX5_digest 193 = .ok (.getfield 138, 3) := by decide +kernel
theorem dX5_digest_196 : decode cX5_digest 196 = .ok (.i2l, 1) := by decide +kernel
theorem dX5_digest_197 : decode cX5_digest 197 = .ok (.ladd, 1) := by decide +kernel
theorem dX5_digest_198 : decode cX5_digest 198 = .ok (.lstore_n 1, 1) := by decide +kernel
theorem dX5_digest_199 : decode cX5_digest 199 = .ok (.iconst 0, 1) := by decide +kernel
theorem dX5_digest_200 : decode cX5_digest 200 = .ok (.istore_n 3, 1) := by decide +kernel
theorem dX5_digest_201 : decode cX5_digest 201 = .ok (.iload_n 3, 1) := by decide +kernel
theorem dX5_digest_202 : decode cX5_digest 202 = .ok (.aload_n 0, 1) := by decide +kernel
theorem dX5_digest_203 : decode cX5_digest 203 = .ok (.getfield 10, 3) := by decide +kernel
theorem dX5_digest_206 : decode cX5_digest 206 = .ok (.getfield 138, 3) := by decide +kernel
theorem dX5_digest_209 : decode cX5_digest 209 = .ok (.if_icmp .ge 25, 3) := by decide +kernel
theorem dX5_digest_212 : decode cX5_digest 212 = .ok (.ldc2_w 292, 3) := by decide +kernel
theorem dX5_digest_215 : decode cX5_digest 215 = .ok (.lload_n 1, 1) := by decide +kernel
theorem dX5_digest_216 : decode cX5_digest 216 = .ok (.lmul, 1) := by decide +kernel
theorem dX5_digest_217 : decode cX5_digest 217 = .ok (.aload_n 0, 1) := by decide +kernel
theorem dX5_digest_218 : decode cX5_digest 218 = .ok (.getfield 10, 3) := by decide +kernel
theorem dX5_digest_221 : decode cX5_digest 221 = .ok (.iload_n 3, 1) := by decide +kernel
theorem dX5_digest_222 : decode cX5_digest 222 = .ok (.invokevirtual 223, 3) := by decide +kernel
theorem dX5_digest_225 : decode cX5_digest 225 = .ok (.i2l, 1) := by decide +kernel
theorem dX5_digest_226 : decode cX5_digest 226 = .ok (.ladd, 1) := by decide +kernel
theorem dX5_digest_227 : decode cX5_digest 227 = .ok (.lstore_n 1, 1) := by decide +kernel
theorem dX5_digest_228 : decode cX5_digest 228 = .ok (.iinc 3 1, 3) := by decide +kernel
theorem dX5_digest_231 : decode cX5_digest 231 = .ok (.goto (-30), 3) := by decide +kernel
theorem dX5_digest_234 : decode cX5_digest 234 = .ok (.ldc2_w 292, 3) := by decide +kernel
theorem dX5_digest_237 : decode cX5_digest 237 = .ok (.lload_n 1, 1) := by decide +kernel
theorem dX5_digest_238 : decode cX5_digest 238 = .ok (.lmul, 1) := by decide +kernel
theorem dX5_digest_239 : decode cX5_digest 239 = .ok (.aload_n 0, 1) := by decide +kernel
theorem dX5_digest_240 : decode cX5_digest 240 = .ok (.getfield 10, 3) := by decide +kernel
theorem dX5_digest_243 : decode cX5_digest 243 = .ok (.getfield 127, 3) := by decide +kernel
theorem dX5_digest_246 : decode cX5_digest 246 = .ok (.i2l, 1) := by decide +kernel
theorem dX5_digest_247 : decode cX5_digest 247 = .ok (.ladd, 1) := by decide +kernel
theorem dX5_digest_248 : decode cX5_digest 248 = .ok (.lstore_n 1, 1) := by decide +kernel
theorem dX5_digest_249 : decode cX5_digest 249 = .ok (.iconst 0, 1) := by decide +kernel
theorem dX5_digest_250 : decode cX5_digest 250 = .ok (.istore_n 3, 1) := by decide +kernel
theorem dX5_digest_251 : decode cX5_digest 251 = .ok (.iload_n 3, 1) := by decide +kernel
theorem dX5_digest_252 : decode cX5_digest 252 = .ok (.aload_n 0, 1) := by decide +kernel
theorem dX5_digest_253 : decode cX5_digest 253 = .ok (.getfield 10, 3) := by decide +kernel
theorem dX5_digest_256 : decode cX5_digest 256 = .ok (.getfield 127, 3) := by decide +kernel
theorem dX5_digest_259 : decode cX5_digest 259 = .ok (.if_icmp .ge 42, 3) := by decide +kernel
theorem dX5_digest_262 : decode cX5_digest 262 = .ok (.iconst 0, 1) := by decide +kernel
theorem dX5_digest_263 : decode cX5_digest 263 = .ok (.istore 4, 2) := by decide +kernel
theorem dX5_digest_265 : decode cX5_digest 265 = .ok (.iload 4, 2) := by decide +kernel
theorem dX5_digest_267 : decode cX5_digest 267 = .ok (.iconst 2, 1) := by decide +kernel
theorem dX5_digest_268 : decode cX5_digest 268 = .ok (.if_icmp .gt 27, 3) := by decide +kernel
theorem dX5_digest_271 : decode cX5_digest 271 = .ok (.ldc2_w 292, 3) := by decide +kernel
theorem dX5_digest_274 : decode cX5_digest 274 = .ok (.lload_n 1, 1) := by decide +kernel
theorem dX5_digest_275 : decode cX5_digest 275 = .ok (.lmul, 1) := by decide +kernel
theorem dX5_digest_276 : decode cX5_digest 276 = .ok (.aload_n 0, 1) := by decide +kernel
theorem dX5_digest_277 : decode cX5_digest 277 = .ok (.getfield 10, 3) := by decide +kernel
theorem dX5_digest_280 : decode cX5_digest 280 = .ok (.iload_n 3, 1) := by decide +kernel
theorem dX5_digest_281 : decode cX5_digest 281 = .ok (.iload 4, 2) := by decide +kernel
theorem dX5_digest_283 : decode cX5_digest 283 = .ok (.invokevirtual 249, 3) := by decide +kernel
theorem dX5_digest_286 : decode cX5_digest 286 = .ok (.i2l, 1) := by decide +kernel
theorem dX5_digest_287 : decode cX5_digest 287 = .ok (.ladd, 1) := by decide +kernel
theorem dX5_digest_288 : decode cX5_digest 288 = .ok (.lstore_n 1, 1) := by decide +kernel
theorem dX5_digest_289 : decode cX5_digest 289 = .ok (.iinc 4 1, 3) := by decide +kernel
theorem dX5_digest_292 : decode cX5_digest 292 = .ok (.goto (-27), 3) := by decide +kernel
theorem dX5_digest_295 : decode cX5_digest 295 = .ok (.iinc 3 1, 3) := by decide +kernel
theorem dX5_digest_298 : decode cX5_digest 298 = .ok (.goto (-47), 3) := by decide +kernel
theorem dX5_digest_301 : decode cX5_digest 301 = .ok (.ldc2_w 292, 3) := by decide +kernel
theorem dX5_digest_304 : decode cX5_digest 304 = .ok (.lload_n 1, 1) := by decide +kernel
theorem dX5_digest_305 : decode cX5_digest 305 = .ok (.lmul, 1) := by decide +kernel
theorem dX5_digest_306 : decode cX5_digest 306 = .ok (.aload_n 0, 1) := by decide +kernel
theorem dX5_digest_307 : decode cX5_digest 307 = .ok (.invokevirtual 300, 3) := by decide +kernel
theorem dX5_digest_310 : decode cX5_digest 310 = .ok (.i2l, 1) := by decide +kernel
theorem dX5_digest_311 : decode cX5_digest 311 = .ok (.ladd, 1) := by decide +kernel
theorem dX5_digest_312 : decode cX5_digest 312 = .ok (.lstore_n 1, 1) := by decide +kernel
theorem dX5_digest_313 : decode cX5_digest 313 = .ok (.ldc2_w 292, 3) := by decide +kernel
theorem dX5_digest_316 : decode cX5_digest 316 = .ok (.lload_n 1, 1) := by decide +kernel
theorem dX5_digest_317 : decode cX5_digest 317 = .ok (.lmul, 1) := by decide +kernel
theorem dX5_digest_318 : decode cX5_digest 318 = .ok (.aload_n 0, 1) := by decide +kernel
theorem dX5_digest_319 : decode cX5_digest 319 = .ok (.invokevirtual 303, 3) := by decide +kernel
theorem dX5_digest_322 : decode cX5_digest 322 = .ok (.i2l, 1) := by decide +kernel
theorem dX5_digest_323 : decode cX5_digest 323 = .ok (.ladd, 1) := by decide +kernel
theorem dX5_digest_324 : decode cX5_digest 324 = .ok (.lstore_n 1, 1) := by decide +kernel
theorem dX5_digest_325 : decode cX5_digest 325 = .ok (.ldc2_w 292, 3) := by decide +kernel
theorem dX5_digest_328 : decode cX5_digest 328 = .ok (.lload_n 1, 1) := by decide +kernel
theorem dX5_digest_329 : decode cX5_digest 329 = .ok (.lmul, 1) := by decide +kernel
theorem dX5_digest_330 : decode cX5_digest 330 = .ok (.aload_n 0, 1) := by decide +kernel
theorem dX5_digest_331 : decode cX5_digest 331 = .ok (.getfield 22, 3) := by decide +kernel
theorem dX5_digest_334 : decode cX5_digest 334 = .ok (.getfield 284, 3) := by decide +kernel
theorem dX5_digest_337 : decode cX5_digest 337 = .ok (.i2l, 1) := by decide +kernel
theorem dX5_digest_338 : decode cX5_digest 338 = .ok (.ladd, 1) := by decide +kernel
theorem dX5_digest_339 : decode cX5_digest 339 = .ok (.lstore_n 1, 1) := by decide +kernel
theorem dX5_digest_340 : decode cX5_digest 340 = .ok (.lload_n 1, 1) := by decide +kernel
theorem dX5_digest_341 : decode cX5_digest 341 = .ok (.lreturn, 1) := by decide +kernel
theorem dX5_isWithin_0 : decode cX5_isWithin 0 = .ok (.iload_n 0, 1) := by decide +kernel
theorem dX5_isWithin_1 : decode cX5_isWithin 1 = .ok (.iload_n 1, 1) := by decide +kernel
theorem dX5_isWithin_2 : decode cX5_isWithin 2 = .ok (.if_icmp .lt 12, 3) := by decide +kernel
theorem dX5_isWithin_5 : decode cX5_isWithin 5 = .ok (.iload_n 0, 1) := by decide +kernel
theorem dX5_isWithin_6 : decode cX5_isWithin 6 = .ok (.iload_n 2, 1) := by decide +kernel
theorem dX5_isWithin_7 : decode cX5_isWithin 7 = .ok (.if_icmp .gt 7, 3) := by decide +kernel
theorem dX5_isWithin_10 : decode cX5_isWithin 10 = .ok (.iconst 1, 1) := by decide +kernel
theorem dX5_isWithin_11 : decode cX5_isWithin 11 = .ok (.goto 4, 3) := by decide +kernel
theorem dX5_isWithin_14 : decode cX5_isWithin 14 = .ok (.iconst 0, 1) := by decide +kernel
theorem dX5_isWithin_15 : decode cX5_isWithin 15 = .ok (.ireturn, 1) := by decide +kernel
theorem dX5_isChannel_0 : decode cX5_isChannel 0 = .ok (.iload_n 0, 1) := by decide +kernel
theorem dX5_isChannel_1 : decode cX5_isChannel 1 = .ok (.ifCond .lt 13, 3) := by decide +kernel
theorem dX5_isChannel_4 : decode cX5_isChannel 4 = .ok (.iload_n 0, 1) := by decide +kernel
theorem dX5_isChannel_5 : decode cX5_isChannel 5 = .ok (.bipush 64, 2) := by decide +kernel
theorem dX5_isChannel_7 : decode cX5_isChannel 7 = .ok (.if_icmp .ge 7, 3) := by decide +kernel
theorem dX5_isChannel_10 : decode cX5_isChannel 10 = .ok (.iconst 1, 1) := by decide +kernel
theorem dX5_isChannel_11 : decode cX5_isChannel 11 = .ok (.goto 4, 3) := by decide +kernel
theorem dX5_isChannel_14 : decode cX5_isChannel 14 = .ok (.iconst 0, 1) := by decide +kernel
theorem dX5_isChannel_15 : decode cX5_isChannel 15 = .ok (.ireturn, 1) := by decide +kernel
theorem dX5_isLevel_0 : decode cX5_isLevel 0 = .ok (.iload_n 0, 1) := by decide +kernel
theorem dX5_isLevel_1 : decode cX5_isLevel 1 = .ok (.ifCond .lt 13, 3) := by decide +kernel
theorem dX5_isLevel_4 : decode cX5_isLevel 4 = .ok (.iload_n 0, 1) := by decide +kernel
theorem dX5_isLevel_5 : decode cX5_isLevel 5 = .ok (.bipush 60, 2) := by decide +kernel
theorem dX5_isLevel_7 : decode cX5_isLevel 7 = .ok (.if_icmp .gt 7, 3) := by decide +kernel
theorem dX5_isLevel_10 : decode cX5_isLevel 10 = .ok (.iconst 1, 1) := by decide +kernel
theorem dX5_isLevel_11 : decode cX5_isLevel 11 = .ok (.goto 4, 3) := by decide +kernel
theorem dX5_isLevel_14 : decode cX5_isLevel 14 = .ok (.iconst 0, 1) := by decide +kernel
theorem dX5_isLevel_15 : decode cX5_isLevel 15 = .ok (.ireturn, 1) := by decide +kernel
theorem dX5_isIn_0 : decode cX5_isIn 0 = .ok (.lload_n 1, 1) := by decide +kernel
theorem dX5_isIn_1 : decode cX5_isIn 1 = .ok (.iload_n 0, 1) := by decide +kernel
theorem dX5_isIn_2 : decode cX5_isIn 2 = .ok (.lushr, 1) := by decide +kernel
theorem dX5_isIn_3 : decode cX5_isIn 3 = .ok (.lconst 1, 1) := by decide +kernel
theorem dX5_isIn_4 : decode cX5_isIn 4 = .ok (.land, 1) := by decide +kernel
theorem dX5_isIn_5 : decode cX5_isIn 5 = .ok (.lconst 0, 1) := by decide +kernel
theorem dX5_isIn_6 : decode cX5_isIn 6 = .ok (.lcmp, 1) := by decide +kernel
theorem dX5_isIn_7 : decode cX5_isIn 7 = .ok (.ifCond .eq 7, 3) := by decide +kernel
theorem dX5_isIn_10 : decode cX5_isIn 10 = .ok (.iconst 1, 1) := by decide +kernel
theorem dX5_isIn_11 : decode cX5_isIn 11 = .ok (.goto 4, 3) := by decide +kernel
theorem dX5_isIn_14 : decode cX5_isIn 14 = .ok (.iconst 0, 1) := by decide +kernel
theorem dX5_isIn_15 : decode cX5_isIn 15 = .ok (.ireturn, 1) := by decide +kernel
theorem dX5_needChannel_0 : decode cX5_needChannel 0 = .ok (.iload_n 0, 1) := by decide +kernel
theorem dX5_needChannel_1 : decode cX5_needChannel 1 = .ok (.invokestatic 51, 3) := by decide +kernel
theorem dX5_needChannel_4 : decode cX5_needChannel 4 = .ok (.ifCond .ne 14, 3) := by decide +kernel
theorem dX5_needChannel_7 : decode cX5_needChannel 7 = .ok (.new 62, 3) := by decide +kernel
theorem dX5_needChannel_10 : decode cX5_needChannel 10 = .ok (.dup, 1) := by decide +kernel
theorem dX5_needChannel_11 : decode cX5_needChannel 11 = .ok (.ldc_w 306, 3) := by decide +kernel
theorem dX5_needChannel_14 : decode cX5_needChannel 14 = .ok (.invokespecial 66, 3) := by decide +kernel
theorem dX5_needChannel_17 : decode cX5_needChannel 17 = .ok (.athrow, 1) := by decide +kernel
theorem dX5_needChannel_18 : decode cX5_needChannel 18 = .ok (.return_, 1) := by decide +kernel
theorem dX5_needLevel_0 : decode cX5_needLevel 0 = .ok (.iload_n 0, 1) := by decide +kernel
theorem dX5_needLevel_1 : decode cX5_needLevel 1 = .ok (.invokestatic 55, 3) := by decide +kernel
theorem dX5_needLevel_4 : decode cX5_needLevel 4 = .ok (.ifCond .ne 14, 3) := by decide +kernel
theorem dX5_needLevel_7 : decode cX5_needLevel 7 = .ok (.new 62, 3) := by decide +kernel
theorem dX5_needLevel_10 : decode cX5_needLevel 10 = .ok (.dup, 1) := by decide +kernel
theorem dX5_needLevel_11 : decode cX5_needLevel 11 = .ok (.ldc_w 308, 3) := by decide +kernel
theorem dX5_needLevel_14 : decode cX5_needLevel 14 = .ok (.invokespecial 66, 3) := by decide +kernel
theorem dX5_needLevel_17 : decode cX5_needLevel 17 = .ok (.athrow, 1) := by decide +kernel
theorem dX5_needLevel_18 : decode cX5_needLevel 18 = .ok (.return_, 1) := by decide +kernel
theorem dX5_needMarks_0 : decode cX5_needMarks 0 = .ok (.iload_n 0, 1) := by decide +kernel
theorem dX5_needMarks_1 : decode cX5_needMarks 1 = .ok (.iconst 1, 1) := by decide +kernel
theorem dX5_needMarks_2 : decode cX5_needMarks 2 = .ok (.iload_n 1, 1) := by decide +kernel
theorem dX5_needMarks_3 : decode cX5_needMarks 3 = .ok (.invokestatic 112, 3) := by decide +kernel
theorem dX5_needMarks_6 : decode cX5_needMarks 6 = .ok (.ifCond .ne 14, 3) := by decide +kernel
theorem dX5_needMarks_9 : decode cX5_needMarks 9 = .ok (.new 62, 3) := by decide +kernel
theorem dX5_needMarks_12 : decode cX5_needMarks 12 = .ok (.dup, 1) := by decide +kernel
theorem dX5_needMarks_13 : decode cX5_needMarks 13 = .ok (.ldc_w 310, 3) := by decide +kernel
theorem dX5_needMarks_16 : decode cX5_needMarks 16 = .ok (.invokespecial 66, 3) := by decide +kernel
theorem dX5_needMarks_19 : decode cX5_needMarks 19 = .ok (.athrow, 1) := by decide +kernel
theorem dX5_needMarks_20 : decode cX5_needMarks 20 = .ok (.return_, 1) := by decide +kernel
theorem dX5_needRoomForCarrier_0 : decode cX5_needRoomForCarrier 0 = .ok (.aload_n 0, 1) := by decide +kernel
theorem dX5_needRoomForCarrier_1 : decode cX5_needRoomForCarrier 1 = .ok (.getfield 10, 3) := by decide +kernel
theorem dX5_needRoomForCarrier_4 : decode cX5_needRoomForCarrier 4 = .ok (.getfield 80, 3) := by decide +kernel
theorem dX5_needRoomForCarrier_7 : decode cX5_needRoomForCarrier 7 = .ok (.bipush 10, 2) := by decide +kernel
theorem dX5_needRoomForCarrier_9 : decode cX5_needRoomForCarrier 9 = .ok (.if_icmp .lt 14, 3) := by decide +kernel
theorem dX5_needRoomForCarrier_12 : decode cX5_needRoomForCarrier 12 = .ok (.new 104, 3) := by decide +kernel
theorem dX5_needRoomForCarrier_15 : decode cX5_needRoomForCarrier 15 = .ok (.dup, 1) := by decide +kernel
theorem dX5_needRoomForCarrier_16 : decode cX5_needRoomForCarrier 16 = .ok (.ldc_w 312, 3) := by decide +kernel
theorem dX5_needRoomForCarrier_19 : decode cX5_needRoomForCarrier 19 = .ok (.invokespecial 108, 3) := by decide +kernel
theorem dX5_needRoomForCarrier_22 : decode cX5_needRoomForCarrier 22 = .ok (.athrow, 1) := by decide +kernel
theorem dX5_needRoomForCarrier_23 : decode cX5_needRoomForCarrier 23 = .ok (.return_, 1) := by decide +kernel
theorem dX5_needCarrier_0 : decode cX5_needCarrier 0 = .ok (.aload_n 0, 1) := by decide +kernel
theorem dX5_needCarrier_1 : decode cX5_needCarrier 1 = .ok (.getfield 10, 3) := by decide +kernel
theorem dX5_needCarrier_4 : decode cX5_needCarrier 4 = .ok (.iload_n 1, 1) := by decide +kernel
theorem dX5_needCarrier_5 : decode cX5_needCarrier 5 = .ok (.invokevirtual 314, 3) := by decide +kernel
theorem dX5_needCarrier_8 : decode cX5_needCarrier 8 = .ok (.ifCond .ne 14, 3) := by decide +kernel
theorem dX5_needCarrier_11 : decode cX5_needCarrier 11 = .ok (.new 157, 3) := by decide +kernel
theorem dX5_needCarrier_14 : decode cX5_needCarrier 14 = .ok (.dup, 1) := by decide +kernel
theorem dX5_needCarrier_15 : decode cX5_needCarrier 15 = .ok (.ldc_w 317, 3) := by decide +kernel
theorem dX5_needCarrier_18 : decode cX5_needCarrier 18 = .ok (.invokespecial 161, 3) := by decide +kernel
theorem dX5_needCarrier_21 : decode cX5_needCarrier 21 = .ok (.athrow, 1) := by decide +kernel
theorem dX5_needCarrier_22 : decode cX5_needCarrier 22 = .ok (.return_, 1) := by decide +kernel
theorem dX5_needMixer_0 : decode cX5_needMixer 0 = .ok (.aload_n 0, 1) := by decide +kernel
theorem dX5_needMixer_1 : decode cX5_needMixer 1 = .ok (.getfield 10, 3) := by decide +kernel
theorem dX5_needMixer_4 : decode cX5_needMixer 4 = .ok (.iload_n 1, 1) := by decide +kernel
theorem dX5_needMixer_5 : decode cX5_needMixer 5 = .ok (.invokevirtual 319, 3) := by decide +kernel
theorem dX5_needMixer_8 : decode cX5_needMixer 8 = .ok (.ifCond .ne 14, 3) := by decide +kernel
theorem dX5_needMixer_11 : decode cX5_needMixer 11 = .ok (.new 157, 3) := by decide +kernel
theorem dX5_needMixer_14 : decode cX5_needMixer 14 = .ok (.dup, 1) := by decide +kernel
theorem dX5_needMixer_15 : decode cX5_needMixer 15 = .ok (.ldc_w 322, 3) := by decide +kernel
theorem dX5_needMixer_18 : decode cX5_needMixer 18 = .ok (.invokespecial 161, 3) := by decide +kernel
theorem dX5_needMixer_21 : decode cX5_needMixer 21 = .ok (.athrow, 1) := by decide +kernel
theorem dX5_needMixer_22 : decode cX5_needMixer 22 = .ok (.return_, 1) := by decide +kernel
theorem dX5_needSetOfCarriers_0 : decode cX5_needSetOfCarriers 0 = .ok (.iload_n 1, 1) := by decide +kernel
theorem dX5_needSetOfCarriers_1 : decode cX5_needSetOfCarriers 1 = .ok (.ifCond .lt 14, 3) := by decide +kernel
theorem dX5_needSetOfCarriers_4 : decode cX5_needSetOfCarriers 4 = .ok (.iload_n 1, 1) := by decide +kernel
theorem dX5_needSetOfCarriers_5 : decode cX5_needSetOfCarriers 5 = .ok (.aload_n 0, 1) := by decide +kernel
theorem dX5_needSetOfCarriers_6 : decode cX5_needSetOfCarriers 6 = .ok (.getfield 10, 3) := by decide +kernel
theorem dX5_needSetOfCarriers_9 : decode cX5_needSetOfCarriers 9 = .ok (.invokevirtual 146, 3) := by decide +kernel
theorem dX5_needSetOfCarriers_12 : decode cX5_needSetOfCarriers 12 = .ok (.if_icmp .le 14, 3) := by decide +kernel
theorem dX5_needSetOfCarriers_15 : decode cX5_needSetOfCarriers 15 = .ok (.new 62, 3) := by decide +kernel
theorem dX5_needSetOfCarriers_18 : decode cX5_needSetOfCarriers 18 = .ok (.dup, 1) := by decide +kernel
theorem dX5_needSetOfCarriers_19 : decode cX5_needSetOfCarriers 19 = .ok (.ldc_w 324, 3) := by decide +kernel
theorem dX5_needSetOfCarriers_22 : decode cX5_needSetOfCarriers 22 = .ok (.invokespecial 66, 3) := by decide +kernel
theorem dX5_needSetOfCarriers_25 : decode cX5_needSetOfCarriers 25 = .ok (.athrow, 1) := by decide +kernel
theorem dX5_needSetOfCarriers_26 : decode cX5_needSetOfCarriers 26 = .ok (.return_, 1) := by decide +kernel
theorem dX5_lowestOf_0 : decode cX5_lowestOf 0 = .ok (.iconst 0, 1) := by decide +kernel
theorem dX5_lowestOf_1 : decode cX5_lowestOf 1 = .ok (.istore_n 2, 1) := by decide +kernel
theorem dX5_lowestOf_2 : decode cX5_lowestOf 2 = .ok (.iload_n 2, 1) := by decide +kernel
theorem dX5_lowestOf_3 : decode cX5_lowestOf 3 = .ok (.bipush 64, 2) := by decide +kernel
theorem dX5_lowestOf_5 : decode cX5_lowestOf 5 = .ok (.if_icmp .ge 19, 3) := by decide +kernel
theorem dX5_lowestOf_8 : decode cX5_lowestOf 8 = .ok (.iload_n 2, 1) := by decide +kernel
theorem dX5_lowestOf_9 : decode cX5_lowestOf 9 = .ok (.lload_n 0, 1) := by decide +kernel
theorem dX5_lowestOf_10 : decode cX5_lowestOf 10 = .ok (.invokestatic 326, 3) := by decide +kernel
theorem dX5_lowestOf_13 : decode cX5_lowestOf 13 = .ok (.ifCond .eq 5, 3) := by decide +kernel
theorem dX5_lowestOf_16 : decode cX5_lowestOf 16 = .ok (.iload_n 2, 1) := by decide +kernel
theorem dX5_lowestOf_17 : decode cX5_lowestOf 17 = .ok (.ireturn, 1) := by decide +kernel
theorem dX5_lowestOf_18 : decode cX5_lowestOf 18 = .ok (.iinc 2 1, 3) := by decide +kernel
theorem dX5_lowestOf_21 : decode cX5_lowestOf 21 = .ok (.goto (-19), 3) := by decide +kernel
theorem dX5_lowestOf_24 : decode cX5_lowestOf 24 = .ok (.iconst (-1), 1) := by decide +kernel
theorem dX5_lowestOf_25 : decode cX5_lowestOf 25 = .ok (.ireturn, 1) := by decide +kernel
theorem dX5_falloutOf_0 : decode cX5_falloutOf 0 = .ok (.aload_n 0, 1) := by decide +kernel
theorem dX5_falloutOf_1 : decode cX5_falloutOf 1 = .ok (.getfield 29, 3) := by decide +kernel
theorem dX5_falloutOf_4 : decode cX5_falloutOf 4 = .ok (.aload_n 0, 1) := by decide +kernel
theorem dX5_falloutOf_5 : decode cX5_falloutOf 5 = .ok (.getfield 10, 3) := by decide +kernel
theorem dX5_falloutOf_8 : decode cX5_falloutOf 8 = .ok (.iload_n 1, 1) := by decide +kernel
theorem dX5_falloutOf_9 : decode cX5_falloutOf 9 = .ok (.invokevirtual 150, 3) := by decide +kernel
theorem dX5_falloutOf_12 : decode cX5_falloutOf 12 = .ok (.aload_n 0, 1) := by decide +kernel
theorem dX5_falloutOf_13 : decode cX5_falloutOf 13 = .ok (.getfield 29, 3) := by decide +kernel
theorem dX5_falloutOf_16 : decode cX5_falloutOf 16 = .ok (.invokevirtual 330, 3) := by decide +kernel
theorem dX5_falloutOf_19 : decode cX5_falloutOf 19 = .ok (.lreturn, 1) := by decide +kernel
theorem dX5_standsClean_0 : decode cX5_standsClean 0 = .ok (.aload_n 0, 1) := by decide +kernel
theorem dX5_standsClean_1 : decode cX5_standsClean 1 = .ok (.getfield 36, 3) := by decide +kernel
theorem dX5_standsClean_4 : decode cX5_standsClean 4 = .ok (.aload_n 0, 1) := by decide +kernel
theorem dX5_standsClean_5 : decode cX5_standsClean 5 = .ok (.getfield 10, 3) := by decide +kernel
theorem dX5_standsClean_8 : decode cX5_standsClean 8 = .ok (.invokevirtual 331, 3) := by decide +kernel
theorem dX5_standsClean_11 : decode cX5_standsClean 11 = .ok (.iconst 0, 1) := by decide +kernel
theorem dX5_standsClean_12 : decode cX5_standsClean 12 = .ok (.istore_n 2, 1) := by decide +kernel
theorem dX5_standsClean_13 : decode cX5_standsClean 13 = .ok (.iload_n 2, 1) := by decide +kernel
theorem dX5_standsClean_14 : decode cX5_standsClean 14 = .ok (.aload_n 0, 1) := by decide +kernel
theorem dX5_standsClean_15 : decode cX5_standsClean 15 = .ok (.getfield 10, 3) := by decide +kernel
theorem dX5_standsClean_18 : decode cX5_standsClean 18 = .ok (.getfield 80, 3) := by decide +kernel
theorem dX5_standsClean_21 : decode cX5_standsClean 21 = .ok (.if_icmp .ge 46, 3) := by decide +kernel
theorem dX5_standsClean_24 : decode cX5_standsClean 24 = .ok (.iload_n 2, 1) := by decide +kernel
theorem dX5_standsClean_25 : decode cX5_standsClean 25 = .ok (.iload_n 1, 1) := by decide +kernel
theorem dX5_standsClean_26 : decode cX5_standsClean 26 = .ok (.i2l, 1) := by decide +kernel
theorem dX5_standsClean_27 : decode cX5_standsClean 27 = .ok (.invokestatic 326, 3) := by decide +kernel
theorem dX5_standsClean_30 : decode cX5_standsClean 30 = .ok (.ifCond .eq 31, 3) := by decide +kernel
theorem dX5_standsClean_33 : decode cX5_standsClean 33 = .ok (.aload_n 0, 1) := by decide +kernel
theorem dX5_standsClean_34 : decode cX5_standsClean 34 = .ok (.getfield 36, 3) := by decide +kernel
theorem dX5_standsClean_37 : decode cX5_standsClean 37 = .ok (.aload_n 0, 1) := by decide +kernel
theorem dX5_standsClean_38 : decode cX5_standsClean 38 = .ok (.getfield 10, 3) := by decide +kernel
theorem dX5_standsClean_41 : decode cX5_standsClean 41 = .ok (.iload_n 2, 1) := by decide +kernel
theorem dX5_standsClean_42 : decode cX5_standsClean 42 = .ok (.invokevirtual 92, 3) := by decide +kernel
theorem dX5_standsClean_45 : decode cX5_standsClean 45 = .ok (.aload_n 0, 1) := by decide +kernel
theorem dX5_standsClean_46 : decode cX5_standsClean 46 = .ok (.getfield 10, 3) := by decide +kernel
theorem dX5_standsClean_49 : decode cX5_standsClean 49 = .ok (.iload_n 2, 1) := by decide +kernel
theorem dX5_standsClean_50 : decode cX5_standsClean 50 = .ok (.invokevirtual 143, 3) := by decide +kernel
theorem dX5_standsClean_53 : decode cX5_standsClean 53 = .ok (.invokevirtual 334, 3) := by decide +kernel
theorem dX5_standsClean_56 : decode cX5_standsClean 56 = .ok (.ifCond .ne 5, 3) := by decide +kernel
theorem dX5_standsClean_59 : decode cX5_standsClean 59 = .ok (.iconst 0, 1) := by decide +kernel
theorem dX5_standsClean_60 : decode cX5_standsClean 60 = .ok (.ireturn, 1) := by decide +kernel
theorem dX5_standsClean_61 : decode cX5_standsClean 61 = .ok (.iinc 2 1, 3) := by decide +kernel
theorem dX5_standsClean_64 : decode cX5_standsClean 64 = .ok (.goto (-51), 3) := by decide +kernel
theorem dX5_standsClean_67 : decode cX5_standsClean 67 = .ok (.iconst 1, 1) := by decide +kernel
theorem dX5_standsClean_68 : decode cX5_standsClean 68 = .ok (.ireturn, 1) := by decide +kernel
theorem dX5_openChannels_0 : decode cX5_openChannels 0 = .ok (.aload_n 0, 1) := by decide +kernel
theorem dX5_openChannels_1 : decode cX5_openChannels 1 = .ok (.aload_n 0, 1) := by decide +kernel
theorem dX5_openChannels_2 : decode cX5_openChannels 2 = .ok (.getfield 10, 3) := by decide +kernel
theorem dX5_openChannels_5 : decode cX5_openChannels 5 = .ok (.invokevirtual 146, 3) := by decide +kernel
theorem dX5_openChannels_8 : decode cX5_openChannels 8 = .ok (.invokevirtual 176, 3) := by decide +kernel
theorem dX5_openChannels_11 : decode cX5_openChannels 11 = .ok (.ifCond .ne 5, 3) := by decide +kernel
theorem dX5_openChannels_14 : decode cX5_openChannels 14 = .ok (.lconst 0, 1) := by decide +kernel
theorem dX5_openChannels_15 : decode cX5_openChannels 15 = .ok (.lreturn, 1) := by decide +kernel
theorem dX5_openChannels_16 : decode cX5_openChannels 16 = .ok (.lconst 0, 1) := by decide +kernel
theorem dX5_openChannels_17 : decode cX5_openChannels 17 = .ok (.lstore_n 2, 1) := by decide +kernel
theorem dX5_openChannels_18 : decode cX5_openChannels 18 = .ok (.iconst 0, 1) := by decide +kernel
theorem dX5_openChannels_19 : decode cX5_openChannels 19 = .ok (.istore 4, 2) := by decide +kernel
theorem dX5_openChannels_21 : decode cX5_openChannels 21 = .ok (.iload 4, 2) := by decide +kernel
theorem dX5_openChannels_23 : decode cX5_openChannels 23 = .ok (.bipush 64, 2) := by decide +kernel
theorem dX5_openChannels_25 : decode cX5_openChannels 25 = .ok (.if_icmp .ge 36, 3) := by decide +kernel
theorem dX5_openChannels_28 : decode cX5_openChannels 28 = .ok (.aload_n 0, 1) := by decide +kernel
theorem dX5_openChannels_29 : decode cX5_openChannels 29 = .ok (.getfield 36, 3) := by decide +kernel
theorem dX5_openChannels_32 : decode cX5_openChannels 32 = .ok (.iload 4, 2) := by decide +kernel
theorem dX5_openChannels_34 : decode cX5_openChannels 34 = .ok (.iload_n 1, 1) := by decide +kernel
theorem dX5_openChannels_35 : decode cX5_openChannels 35 = .ok (.invokevirtual 334, 3) := by decide +kernel
theorem dX5_openChannels_38 : decode cX5_openChannels 38 = .ok (.ifCond .eq 17, 3) := by decide +kernel
theorem dX5_openChannels_41 : decode cX5_openChannels 41 = .ok (.lload_n 2, 1) := by decide +kernel
theorem dX5_openChannels_42 : decode cX5_openChannels 42 = .ok (.lconst 1, 1) := by decide +kernel
theorem dX5_openChannels_43 : decode cX5_openChannels 43 = .ok (.iload 4, 2) := by decide +kernel
theorem dX5_openChannels_45 : decode cX5_openChannels 45 = .ok (.lshl, 1) := by decide +kernel
theorem dX5_openChannels_46 : decode cX5_openChannels 46 = .ok (.lor, 1) := by decide +kernel
theorem dX5_openChannels_47 : decode cX5_openChannels 47 = .ok (.lstore_n 2, 1) := by decide +kernel
theorem dX5_openChannels_48 : decode cX5_openChannels 48 = .ok (.aload_n 0, 1) := by decide +kernel
theorem dX5_openChannels_49 : decode cX5_openChannels 49 = .ok (.getfield 36, 3) := by decide +kernel
theorem dX5_openChannels_52 : decode cX5_openChannels 52 = .ok (.invokevirtual 338, 3) := by decide +kernel
theorem dX5_openChannels_55 : decode cX5_openChannels 55 = .ok (.iinc 4 1, 3) := by decide +kernel
theorem dX5_openChannels_58 : decode cX5_openChannels 58 = .ok (.goto (-37), 3) := by decide +kernel
theorem dX5_openChannels_61 : decode cX5_openChannels 61 = .ok (.lload_n 2, 1) := by decide +kernel
theorem dX5_openChannels_62 : decode cX5_openChannels 62 = .ok (.lreturn, 1) := by decide +kernel
theorem dX5_findBestRuler_0 : decode cX5_findBestRuler 0 = .ok (.iconst 0, 1) := by decide +kernel
theorem dX5_findBestRuler_1 : decode cX5_findBestRuler 1 = .ok (.istore_n 2, 1) := by decide +kernel
theorem dX5_findBestRuler_2 : decode cX5_findBestRuler 2 = .ok (.iload_n 2, 1) := by decide +kernel
theorem dX5_findBestRuler_3 : decode cX5_findBestRuler 3 = .ok (.bipush 40, 2) := by decide +kernel
theorem dX5_findBestRuler_5 : decode cX5_findBestRuler 5 = .ok (.if_icmp .gt 21, 3) := by decide +kernel
theorem dX5_findBestRuler_8 : decode cX5_findBestRuler 8 = .ok (.aload_n 0, 1) := by decide +kernel
theorem dX5_findBestRuler_9 : decode cX5_findBestRuler 9 = .ok (.iload_n 1, 1) := by decide +kernel
theorem dX5_findBestRuler_10 : decode cX5_findBestRuler 10 = .ok (.iload_n 2, 1) := by decide +kernel
theorem dX5_findBestRuler_11 : decode cX5_findBestRuler 11 = .ok (.iconst 1, 1) := by decide +kernel
theorem dX5_findBestRuler_12 : decode cX5_findBestRuler 12 = .ok (.invokevirtual 201, 3) := by decide +kernel
theorem dX5_findBestRuler_15 : decode cX5_findBestRuler 15 = .ok (.ifCond .le 5, 3) := by decide +kernel
theorem dX5_findBestRuler_18 : decode cX5_findBestRuler 18 = .ok (.iload_n 2, 1) := by decide +kernel
theorem dX5_findBestRuler_19 : decode cX5_findBestRuler 19 = .ok (.ireturn, 1) := by decide +kernel
theorem dX5_findBestRuler_20 : decode cX5_findBestRuler 20 = .ok (.iinc 2 1, 3) := by decide +kernel
theorem dX5_findBestRuler_23 : decode cX5_findBestRuler 23 = .ok (.goto (-21), 3) := by decide +kernel
theorem dX5_findBestRuler_26 : decode cX5_findBestRuler 26 = .ok (.iconst (-1), 1) := by decide +kernel
theorem dX5_findBestRuler_27 : decode cX5_findBestRuler 27 = .ok (.ireturn, 1) := by decide +kernel
theorem dX5_countRulers_0 : decode cX5_countRulers 0 = .ok (.aload_n 0, 1) := by decide +kernel
theorem dX5_countRulers_1 : decode cX5_countRulers 1 = .ok (.getfield 36, 3) := by decide +kernel
theorem dX5_countRulers_4 : decode cX5_countRulers 4 = .ok (.aload_n 0, 1) := by decide +kernel
theorem dX5_countRulers_5 : decode cX5_countRulers 5 = .ok (.getfield 10, 3) := by decide +kernel
theorem dX5_countRulers_8 : decode cX5_countRulers 8 = .ok (.invokevirtual 331, 3) := by decide +kernel
theorem dX5_countRulers_11 : decode cX5_countRulers 11 = .ok (.aload_n 0, 1) := by decide +kernel
theorem dX5_countRulers_12 : decode cX5_countRulers 12 = .ok (.getfield 36, 3) := by decide +kernel
theorem dX5_countRulers_15 : decode cX5_countRulers 15 = .ok (.iconst 0, 1) := by decide +kernel
theorem dX5_countRulers_16 : decode cX5_countRulers 16 = .ok (.bipush 60, 2) := by decide +kernel
theorem dX5_countRulers_18 : decode cX5_countRulers 18 = .ok (.invokevirtual 334, 3) := by decide +kernel
theorem dX5_countRulers_21 : decode cX5_countRulers 21 = .ok (.pop, 1) := by decide +kernel
theorem dX5_countRulers_22 : decode cX5_countRulers 22 = .ok (.iload_n 1, 1) := by decide +kernel
theorem dX5_countRulers_23 : decode cX5_countRulers 23 = .ok (.iconst 1, 1) := by decide +kernel
theorem dX5_countRulers_24 : decode cX5_countRulers 24 = .ok (.if_icmp .ne 13, 3) := by decide +kernel
theorem dX5_countRulers_27 : decode cX5_countRulers 27 = .ok (.iload_n 2, 1) := by decide +kernel
theorem dX5_countRulers_28 : decode cX5_countRulers 28 = .ok (.ifCond .ne 7, 3) := by decide +kernel
theorem dX5_countRulers_31 : decode cX5_countRulers 31 = .ok (.iconst 1, 1) := by decide +kernel
theorem dX5_countRulers_32 : decode cX5_countRulers 32 = .ok (.goto 4, 3) := by decide +kernel
theorem dX5_countRulers_35 : decode cX5_countRulers 35 = .ok (.iconst 0, 1) := by decide +kernel
theorem dX5_countRulers_36 : decode cX5_countRulers 36 = .ok (.ireturn, 1) := by decide +kernel
theorem dX5_countRulers_37 : decode cX5_countRulers 37 = .ok (.aload_n 0, 1) := by decide +kernel
theorem dX5_countRulers_38 : decode cX5_countRulers 38 = .ok (.getfield 36, 3) := by decide +kernel
theorem dX5_countRulers_41 : decode cX5_countRulers 41 = .ok (.iload_n 2, 1) := by decide +kernel
theorem dX5_countRulers_42 : decode cX5_countRulers 42 = .ok (.bipush 60, 2) := by decide +kernel
theorem dX5_countRulers_44 : decode cX5_countRulers 44 = .ok (.invokevirtual 334, 3) := by decide +kernel
theorem dX5_countRulers_47 : decode cX5_countRulers 47 = .ok (.ifCond .ne 5, 3) := by decide +kernel
theorem dX5_countRulers_50 : decode cX5_countRulers 50 = .ok (.iconst 0, 1) := by decide +kernel
theorem dX5_countRulers_51 : decode cX5_countRulers 51 = .ok (.ireturn, 1) := by decide +kernel
theorem dX5_countRulers_52 : decode cX5_countRulers 52 = .ok (.aload_n 0, 1) := by decide +kernel
theorem dX5_countRulers_53 : decode cX5_countRulers 53 = .ok (.getfield 36, 3) := by decide +kernel
theorem dX5_countRulers_56 : decode cX5_countRulers 56 = .ok (.iload_n 1, 1) := by decide +kernel
theorem dX5_countRulers_57 : decode cX5_countRulers 57 = .ok (.iconst 2, 1) := by decide +kernel
theorem dX5_countRulers_58 : decode cX5_countRulers 58 = .ok (.isub, 1) := by decide +kernel
theorem dX5_countRulers_59 : decode cX5_countRulers 59 = .ok (.aload_n 0, 1) := by decide +kernel
theorem dX5_countRulers_60 : decode cX5_countRulers 60 = .ok (.getfield 10, 3) := by decide +kernel
theorem dX5_countRulers_63 : decode cX5_countRulers 63 = .ok (.getfield 135, 3) := by decide +kernel
theorem dX5_countRulers_66 : decode cX5_countRulers 66 = .ok (.iload_n 2, 1) := by decide +kernel
theorem dX5_countRulers_67 : decode cX5_countRulers 67 = .ok (.iload_n 3, 1) := by decide +kernel
theorem dX5_countRulers_68 : decode cX5_countRulers 68 = .ok (.invokestatic 341, 3) := by decide +kernel
theorem dX5_countRulers_71 : decode cX5_countRulers 71 = .ok (.ireturn, 1) := by decide +kernel
theorem dX5_countInner_0 : decode cX5_countInner 0 = .ok (.iload_n 1, 1) := by decide +kernel
theorem dX5_countInner_1 : decode cX5_countInner 1 = .ok (.ifCond .gt 5, 3) := by decide +kernel
theorem dX5_countInner_4 : decode cX5_countInner 4 = .ok (.iconst 1, 1) := by decide +kernel
theorem dX5_countInner_5 : decode cX5_countInner 5 = .ok (.ireturn, 1) := by decide +kernel
theorem dX5_countInner_6 : decode cX5_countInner 6 = .ok (.iconst 0, 1) := by decide +kernel
theorem dX5_countInner_7 : decode cX5_countInner 7 = .ok (.istore 5, 2) := by decide +kernel
theorem dX5_countInner_9 : decode cX5_countInner 9 = .ok (.iload_n 3, 1) := by decide +kernel
theorem dX5_countInner_10 : decode cX5_countInner 10 = .ok (.iload_n 1, 1) := by decide +kernel
theorem dX5_countInner_11 : decode cX5_countInner 11 = .ok (.aload_n 0, 1) := by decide +kernel
theorem dX5_countInner_12 : decode cX5_countInner 12 = .ok (.getfield 345, 3) := by decide +kernel
theorem dX5_countInner_15 : decode cX5_countInner 15 = .ok (.imul, 1) := by decide +kernel
theorem dX5_countInner_16 : decode cX5_countInner 16 = .ok (.isub, 1) := by decide +kernel
theorem dX5_countInner_17 : decode cX5_countInner 17 = .ok (.istore 6, 2) := by decide +kernel
theorem dX5_countInner_19 : decode cX5_countInner 19 = .ok (.iload_n 2, 1) := by decide +kernel
theorem dX5_countInner_20 : decode cX5_countInner 20 = .ok (.istore 7, 2) := by decide +kernel
theorem dX5_countInner_22 : decode cX5_countInner 22 = .ok (.iload 7, 2) := by decide +kernel
theorem dX5_countInner_24 : decode cX5_countInner 24 = .ok (.iload 6, 2) := by decide +kernel
theorem dX5_countInner_26 : decode cX5_countInner 26 = .ok (.if_icmp .gt 63, 3) := by decide +kernel
theorem dX5_countInner_29 : decode cX5_countInner 29 = .ok (.iload 5, 2) := by decide +kernel
theorem dX5_countInner_31 : decode cX5_countInner 31 = .ok (.iload 4, 2) := by decide +kernel
theorem dX5_countInner_33 : decode cX5_countInner 33 = .ok (.if_icmp .ge 56, 3) := by decide +kernel
theorem dX5_countInner_36 : decode cX5_countInner 36 = .ok (.aload_n 0, 1) := by decide +kernel
theorem dX5_countInner_37 : decode cX5_countInner 37 = .ok (.iload 7, 2) := by decide +kernel
theorem dX5_countInner_39 : decode cX5_countInner 39 = .ok (.bipush 60, 2) := by decide +kernel
theorem dX5_countInner_41 : decode cX5_countInner 41 = .ok (.invokevirtual 334, 3) := by decide +kernel
theorem dX5_countInner_44 : decode cX5_countInner 44 = .ok (.ifCond .eq 39, 3) := by decide +kernel
theorem dX5_countInner_47 : decode cX5_countInner 47 = .ok (.iload 5, 2) := by decide +kernel
theorem dX5_countInner_49 : decode cX5_countInner 49 = .ok (.aload_n 0, 1) := by decide +kernel
theorem dX5_countInner_50 : decode cX5_countInner 50 = .ok (.iload_n 1, 1) := by decide +kernel
theorem dX5_countInner_51 : decode cX5_countInner 51 = .ok (.iconst 1, 1) := by decide +kernel
theorem dX5_countInner_52 : decode cX5_countInner 52 = .ok (.isub, 1) := by decide +kernel
theorem dX5_countInner_53 : decode cX5_countInner 53 = .ok (.iload 7, 2) := by decide +kernel
theorem dX5_countInner_55 : decode cX5_countInner 55 = .ok (.aload_n 0, 1) := by decide +kernel
theorem dX5_countInner_56 : decode cX5_countInner 56 = .ok (.getfield 345, 3) := by decide +kernel
theorem dX5_countInner_59 : decode cX5_countInner 59 = .ok (.iadd, 1) := by decide +kernel
theorem dX5_countInner_60 : decode cX5_countInner 60 = .ok (.iload_n 3, 1) := by decide +kernel
theorem dX5_countInner_61 : decode cX5_countInner 61 = .ok (.iload 4, 2) := by decide +kernel
theorem dX5_countInner_63 : decode cX5_countInner 63 = .ok (.iload 5, 2) := by decide +kernel
theorem dX5_countInner_65 : decode cX5_countInner 65 = .ok (.isub, 1) := by decide +kernel
theorem dX5_countInner_66 : decode cX5_countInner 66 = .ok (.invokestatic 341, 3) := by decide +kernel
theorem dX5_countInner_69 : decode cX5_countInner 69 = .ok (.iadd, 1) := by decide +kernel
theorem dX5_countInner_70 : decode cX5_countInner 70 = .ok (.istore 5, 2) := by decide +kernel
theorem dX5_countInner_72 : decode cX5_countInner 72 = .ok (.iload 5, 2) := by decide +kernel
theorem dX5_countInner_74 : decode cX5_countInner 74 = .ok (.iload 4, 2) := by decide +kernel
theorem dX5_countInner_76 : decode cX5_countInner 76 = .ok (.if_icmp .ge 7, 3) := by decide +kernel
theorem dX5_countInner_79 : decode cX5_countInner 79 = .ok (.aload_n 0, 1) := by decide +kernel
theorem dX5_countInner_80 : decode cX5_countInner 80 = .ok (.invokevirtual 338, 3) := by decide +kernel
theorem dX5_countInner_83 : decode cX5_countInner 83 = .ok (.iinc 7 1, 3) := by decide +kernel
theorem dX5_countInner_86 : decode cX5_countInner 86 = .ok (.goto (-64), 3) := by decide +kernel
theorem dX5_countInner_89 : decode cX5_countInner 89 = .ok (.iload 5, 2) := by decide +kernel
theorem dX5_countInner_91 : decode cX5_countInner 91 = .ok (.ireturn, 1) := by decide +kernel
theorem dX5_mixActive_0 : decode cX5_mixActive 0 = .ok (.iconst 0, 1) := by decide +kernel
theorem dX5_mixActive_1 : decode cX5_mixActive 1 = .ok (.istore_n 2, 1) := by decide +kernel
theorem dX5_mixActive_2 : decode cX5_mixActive 2 = .ok (.iload_n 2, 1) := by decide +kernel
theorem dX5_mixActive_3 : decode cX5_mixActive 3 = .ok (.aload_n 0, 1) := by decide +kernel
theorem dX5_mixActive_4 : decode cX5_mixActive 4 = .ok (.getfield 47, 3) := by decide +kernel
theorem dX5_mixActive_7 : decode cX5_mixActive 7 = .ok (.arraylength, 1) := by decide +kernel
theorem dX5_mixActive_8 : decode cX5_mixActive 8 = .ok (.if_icmp .ge 29, 3) := by decide +kernel
theorem dX5_mixActive_11 : decode cX5_mixActive 11 = .ok (.aload_n 0, 1) := by decide +kernel
theorem dX5_mixActive_12 : decode cX5_mixActive 12 = .ok (.getfield 47, 3) := by decide +kernel
theorem dX5_mixActive_15 : decode cX5_mixActive 15 = .ok (.iload_n 2, 1) := by decide +kernel
theorem dX5_mixActive_16 : decode cX5_mixActive 16 = .ok (.aload_n 0, 1) := by decide +kernel
theorem dX5_mixActive_17 : decode cX5_mixActive 17 = .ok (.aload_n 0, 1) := by decide +kernel
theorem dX5_mixActive_18 : decode cX5_mixActive 18 = .ok (.getfield 10, 3) := by decide +kernel
theorem dX5_mixActive_21 : decode cX5_mixActive 21 = .ok (.iload_n 2, 1) := by decide +kernel
theorem dX5_mixActive_22 : decode cX5_mixActive 22 = .ok (.invokevirtual 223, 3) := by decide +kernel
theorem dX5_mixActive_25 : decode cX5_mixActive 25 = .ok (.iload_n 1, 1) := by decide +kernel
theorem dX5_mixActive_26 : decode cX5_mixActive 26 = .ok (.iand, 1) := by decide +kernel
theorem dX5_mixActive_27 : decode cX5_mixActive 27 = .ok (.invokevirtual 169, 3) := by decide +kernel
theorem dX5_mixActive_30 : decode cX5_mixActive 30 = .ok (.lastore, 1) := by decide +kernel
theorem dX5_mixActive_31 : decode cX5_mixActive 31 = .ok (.iinc 2 1, 3) := by decide +kernel
theorem dX5_mixActive_34 : decode cX5_mixActive 34 = .ok (.goto (-32), 3) := by decide +kernel
theorem dX5_mixActive_37 : decode cX5_mixActive 37 = .ok (.return_, 1) := by decide +kernel
theorem dX5_mixersOn_0 : decode cX5_mixersOn 0 = .ok (.iconst 0, 1) := by decide +kernel
theorem dX5_mixersOn_1 : decode cX5_mixersOn 1 = .ok (.istore_n 2, 1) := by decide +kernel
theorem dX5_mixersOn_2 : decode cX5_mixersOn 2 = .ok (.iconst 0, 1) := by decide +kernel
theorem dX5_mixersOn_3 : decode cX5_mixersOn 3 = .ok (.istore_n 3, 1) := by decide +kernel
theorem dX5_mixersOn_4 : decode cX5_mixersOn 4 = .ok (.iload_n 3, 1) := by decide +kernel
theorem dX5_mixersOn_5 : decode cX5_mixersOn 5 = .ok (.aload_n 0, 1) := by decide +kernel
theorem dX5_mixersOn_6 : decode cX5_mixersOn 6 = .ok (.getfield 47, 3) := by decide +kernel
theorem dX5_mixersOn_9 : decode cX5_mixersOn 9 = .ok (.arraylength, 1) := by decide +kernel
theorem dX5_mixersOn_10 : decode cX5_mixersOn 10 = .ok (.if_icmp .ge 28, 3) := by decide +kernel
theorem dX5_mixersOn_13 : decode cX5_mixersOn 13 = .ok (.iload_n 1, 1) := by decide +kernel
theorem dX5_mixersOn_14 : decode cX5_mixersOn 14 = .ok (.aload_n 0, 1) := by decide +kernel
theorem dX5_mixersOn_15 : decode cX5_mixersOn 15 = .ok (.getfield 47, 3) := by decide +kernel
theorem dX5_mixersOn_18 : decode cX5_mixersOn 18 = .ok (.iload_n 3, 1) := by decide +kernel
theorem dX5_mixersOn_19 : decode cX5_mixersOn 19 = .ok (.laload, 1) := by decide +kernel
theorem dX5_mixersOn_20 : decode cX5_mixersOn 20 = .ok (.invokestatic 326, 3) := by decide +kernel
theorem dX5_mixersOn_23 : decode cX5_mixersOn 23 = .ok (.ifCond .eq 9, 3) := by decide +kernel
theorem dX5_mixersOn_26 : decode cX5_mixersOn 26 = .ok (.iload_n 2, 1) := by decide +kernel
theorem dX5_mixersOn_27 : decode cX5_mixersOn 27 = .ok (.iconst 1, 1) := by decide +kernel
theorem dX5_mixersOn_28 : decode cX5_mixersOn 28 = .ok (.iload_n 3, 1) := by decide +kernel
theorem dX5_mixersOn_29 : decode cX5_mixersOn 29 = .ok (.ishl, 1) := by decide +kernel
theorem dX5_mixersOn_30 : decode cX5_mixersOn 30 = .ok (.ior, 1) := by decide +kernel
theorem dX5_mixersOn_31 : decode cX5_mixersOn 31 = .ok (.istore_n 2, 1) := by decide +kernel
theorem dX5_mixersOn_32 : decode cX5_mixersOn 32 = .ok (.iinc 3 1, 3) := by decide +kernel
theorem dX5_mixersOn_35 : decode cX5_mixersOn 35 = .ok (.goto (-31), 3) := by decide +kernel
theorem dX5_mixersOn_38 : decode cX5_mixersOn 38 = .ok (.iload_n 2, 1) := by decide +kernel
theorem dX5_mixersOn_39 : decode cX5_mixersOn 39 = .ok (.ireturn, 1) := by decide +kernel
theorem dX5_countDiagnoses_0 : decode cX5_countDiagnoses 0 = .ok (.iconst 0, 1) := by decide +kernel
theorem dX5_countDiagnoses_1 : decode cX5_countDiagnoses 1 = .ok (.istore_n 1, 1) := by decide +kernel
theorem dX5_countDiagnoses_2 : decode cX5_countDiagnoses 2 = .ok (.iconst 0, 1) := by decide +kernel
theorem dX5_countDiagnoses_3 : decode cX5_countDiagnoses 3 = .ok (.istore_n 2, 1) := by decide +kernel
theorem dX5_countDiagnoses_4 : decode cX5_countDiagnoses 4 = .ok (.iload_n 2, 1) := by decide +kernel
theorem dX5_countDiagnoses_5 : decode cX5_countDiagnoses 5 = .ok (.aload_n 0, 1) := by decide +kernel
theorem dX5_countDiagnoses_6 : decode cX5_countDiagnoses 6 = .ok (.getfield 10, 3) := by decide +kernel
theorem dX5_countDiagnoses_9 : decode cX5_countDiagnoses 9 = .ok (.invokevirtual 252, 3) := by decide +kernel
theorem dX5_countDiagnoses_12 : decode cX5_countDiagnoses 12 = .ok (.if_icmp .gt 23, 3) := by decide +kernel
theorem dX5_countDiagnoses_15 : decode cX5_countDiagnoses 15 = .ok (.aload_n 0, 1) := by decide +kernel
theorem dX5_countDiagnoses_16 : decode cX5_countDiagnoses 16 = .ok (.getfield 10, 3) := by decide +kernel
theorem dX5_countDiagnoses_19 : decode cX5_countDiagnoses 19 = .ok (.iload_n 2, 1) := by decide +kernel
theorem dX5_countDiagnoses_20 : decode cX5_countDiagnoses 20 = .ok (.invokevirtual 255, 3) := by decide +kernel
theorem dX5_countDiagnoses_23 : decode cX5_countDiagnoses 23 = .ok (.ifCond .eq 6, 3) := by decide +kernel
theorem dX5_countDiagnoses_26 : decode cX5_countDiagnoses 26 = .ok (.iinc 1 1, 3) := by decide +kernel
theorem dX5_countDiagnoses_29 : decode cX5_countDiagnoses 29 = .ok (.iinc 2 1, 3) := by decide +kernel
theorem dX5_countDiagnoses_32 : decode cX5_countDiagnoses 32 = .ok (.goto (-28), 3) := by decide +kernel
theorem dX5_countDiagnoses_35 : decode cX5_countDiagnoses 35 = .ok (.iload_n 1, 1) := by decide +kernel
theorem dX5_countDiagnoses_36 : decode cX5_countDiagnoses 36 = .ok (.ireturn, 1) := by decide +kernel
theorem dX5_countHeard_0 : decode cX5_countHeard 0 = .ok (.iconst 0, 1) := by decide +kernel
theorem dX5_countHeard_1 : decode cX5_countHeard 1 = .ok (.istore_n 2, 1) := by decide +kernel
theorem dX5_countHeard_2 : decode cX5_countHeard 2 = .ok (.iconst 0, 1) := by decide +kernel
theorem dX5_countHeard_3 : decode cX5_countHeard 3 = .ok (.istore_n 3, 1) := by decide +kernel
theorem dX5_countHeard_4 : decode cX5_countHeard 4 = .ok (.iload_n 3, 1) := by decide +kernel
theorem dX5_countHeard_5 : decode cX5_countHeard 5 = .ok (.aload_n 0, 1) := by decide +kernel
theorem dX5_countHeard_6 : decode cX5_countHeard 6 = .ok (.getfield 10, 3) := by decide +kernel
theorem dX5_countHeard_9 : decode cX5_countHeard 9 = .ok (.invokevirtual 252, 3) := by decide +kernel
theorem dX5_countHeard_12 : decode cX5_countHeard 12 = .ok (.if_icmp .gt 29, 3) := by decide +kernel
theorem dX5_countHeard_15 : decode cX5_countHeard 15 = .ok (.iload_n 3, 1) := by decide +kernel
theorem dX5_countHeard_16 : decode cX5_countHeard 16 = .ok (.iload_n 1, 1) := by decide +kernel
theorem dX5_countHeard_17 : decode cX5_countHeard 17 = .ok (.iand, 1) := by decide +kernel
theorem dX5_countHeard_18 : decode cX5_countHeard 18 = .ok (.ifCond .eq 17, 3) := by decide +kernel
theorem dX5_countHeard_21 : decode cX5_countHeard 21 = .ok (.aload_n 0, 1) := by decide +kernel
theorem dX5_countHeard_22 : decode cX5_countHeard 22 = .ok (.getfield 10, 3) := by decide +kernel
theorem dX5_countHeard_25 : decode cX5_countHeard 25 = .ok (.iload_n 3, 1) := by decide +kernel
theorem dX5_countHeard_26 : decode cX5_countHeard 26 = .ok (.invokevirtual 255, 3) := by decide +kernel
theorem dX5_countHeard_29 : decode cX5_countHeard 29 = .ok (.ifCond .eq 6, 3) := by decide +kernel
theorem dX5_countHeard_32 : decode cX5_countHeard 32 = .ok (.iinc 2 1, 3) := by decide +kernel
theorem dX5_countHeard_35 : decode cX5_countHeard 35 = .ok (.iinc 3 1, 3) := by decide +kernel
theorem dX5_countHeard_38 : decode cX5_countHeard 38 = .ok (.goto (-34), 3) := by decide +kernel
theorem dX5_countHeard_41 : decode cX5_countHeard 41 = .ok (.iload_n 2, 1) := by decide +kernel
theorem dX5_countHeard_42 : decode cX5_countHeard 42 = .ok (.ireturn, 1) := by decide +kernel
theorem dX6_init_0 : decode cX6_init 0 = .ok (.aload_n 0, 1) := by decide +kernel
theorem dX6_init_1 : decode cX6_init 1 = .ok (.invokespecial 1, 3) := by decide +kernel
theorem dX6_init_4 : decode cX6_init 4 = .ok (.aload_n 0, 1) := by decide +kernel
theorem dX6_init_5 : decode cX6_init 5 = .ok (.bipush 81, 2) := by decide +kernel
theorem dX6_init_7 : decode cX6_init 7 = .ok (.newarray .int, 2) := by decide +kernel
theorem dX6_init_9 : decode cX6_init 9 = .ok (.putfield 7, 3) := by decide +kernel
theorem dX6_init_12 : decode cX6_init 12 = .ok (.aload_n 0, 1) := by decide +kernel
theorem dX6_init_13 : decode cX6_init 13 = .ok (.sipush 324, 3) := by decide +kernel
theorem dX6_init_16 : decode cX6_init 16 = .ok (.newarray .int, 2) := by decide +kernel
theorem dX6_init_18 : decode cX6_init 18 = .ok (.putfield 13, 3) := by decide +kernel
theorem dX6_init_21 : decode cX6_init 21 = .ok (.aload_n 0, 1) := by decide +kernel
theorem dX6_init_22 : decode cX6_init 22 = .ok (.bipush 120, 2) := by decide +kernel
theorem dX6_init_24 : decode cX6_init 24 = .ok (.newarray .int, 2) := by decide +kernel
theorem dX6_init_26 : decode cX6_init 26 = .ok (.putfield 16, 3) := by decide +kernel
theorem dX6_init_29 : decode cX6_init 29 = .ok (.aload_n 0, 1) := by decide +kernel
theorem dX6_init_30 : decode cX6_init 30 = .ok (.bipush 12, 2) := by decide +kernel
theorem dX6_init_32 : decode cX6_init 32 = .ok (.newarray .int, 2) := by decide +kernel
theorem dX6_init_34 : decode cX6_init 34 = .ok (.putfield 19, 3) := by decide +kernel
theorem dX6_init_37 : decode cX6_init 37 = .ok (.aload_n 0, 1) := by decide +kernel
theorem dX6_init_38 : decode cX6_init 38 = .ok (.bipush 12, 2) := by decide +kernel
theorem dX6_init_40 : decode cX6_init 40 = .ok (.newarray .int, 2) := by decide +kernel
theorem dX6_init_42 : decode cX6_init 42 = .ok (.putfield 22, 3) := by decide +kernel
theorem dX6_init_45 : decode cX6_init 45 = .ok (.aload_n 0, 1) := by decide +kernel
theorem dX6_init_46 : decode cX6_init 46 = .ok (.sipush 3300, 3) := by decide +kernel
theorem dX6_init_49 : decode cX6_init 49 = .ok (.newarray .int, 2) := by decide +kernel
theorem dX6_init_51 : decode cX6_init 51 = .ok (.putfield 25, 3) := by decide +kernel
theorem dX6_init_54 : decode cX6_init 54 = .ok (.aload_n 0, 1) := by decide +kernel
theorem dX6_init_55 : decode cX6_init 55 = .ok (.bipush 8, 2) := by decide +kernel
theorem dX6_init_57 : decode cX6_init 57 = .ok (.newarray .int, 2) := by decide +kernel
theorem dX6_init_59 : decode cX6_init 59 = .ok (.putfield 28, 3) := by decide +kernel
theorem dX6_init_62 : decode cX6_init 62 = .ok (.aload_n 0, 1) := by decide +kernel
theorem dX6_init_63 : decode cX6_init 63 = .ok (.bipush 17, 2) := by decide +kernel
theorem dX6_init_65 : decode cX6_init 65 = .ok (.newarray .int, 2) := by decide +kernel
theorem dX6_init_67 : decode cX6_init 67 = .ok (.putfield 31, 3) := by decide +kernel
theorem dX6_init_70 : decode cX6_init 70 = .ok (.aload_n 0, 1) := by decide +kernel
theorem dX6_init_71 : decode cX6_init 71 = .ok (.bipush 32, 2) := by decide +kernel
theorem dX6_init_73 : decode cX6_init 73 = .ok (.newarray .int, 2) := by decide +kernel
theorem dX6_init_75 : decode cX6_init 75 = .ok (.putfield 34, 3) := by decide +kernel
theorem dX6_init_78 : decode cX6_init 78 = .ok (.aload_n 0, 1) := by decide +kernel
theorem dX6_init_79 : decode cX6_init 79 = .ok (.bipush 20, 2) := by decide +kernel
theorem dX6_init_81 : decode cX6_init 81 = .ok (.newarray .int, 2) := by decide +kernel
theorem dX6_init_83 : decode cX6_init 83 = .ok (.putfield 37, 3) := by decide +kernel
theorem dX6_init_86 : decode cX6_init 86 = .ok (.aload_n 0, 1) := by decide +kernel
theorem dX6_init_87 : decode cX6_init 87 = .ok (.iconst 5, 1) := by decide +kernel
theorem dX6_init_88 : decode cX6_init 88 = .ok (.newarray .int, 2) := by decide +kernel
theorem dX6_init_90 : decode cX6_init 90 = .ok (.putfield 40, 3) := by decide +kernel
theorem dX6_init_93 : decode cX6_init 93 = .ok (.aload_n 0, 1) := by decide +kernel
theorem dX6_init_94 : decode cX6_init 94 = .ok (.getfield 7, 3) := by decide +kernel
theorem dX6_init_97 : decode cX6_init 97 = .ok (.iconst 0, 1) := by decide +kernel
theorem dX6_init_98 : decode cX6_init 98 = .ok (.iconst 3, 1) := by decide +kernel
theorem dX6_init_99 : decode cX6_init 99 = .ok (.iastore, 1) := by decide +kernel
theorem dX6_init_100 : decode cX6_init 100 = .ok (.aload_n 0, 1) := by decide +kernel
theorem dX6_init_101 : decode cX6_init 101 = .ok (.getfield 7, 3) := by decide +kernel
theorem dX6_init_104 : decode cX6_init 104 = .ok (.iconst 2, 1) := by decide +kernel
theorem dX6_init_105 : decode cX6_init 105 = .ok (.bipush 100, 2) := by decide +kernel
theorem dX6_init_107 : decode cX6_init 107 = .ok (.iastore, 1) := by decide +kernel
theorem dX6_init_108 : decode cX6_init 108 = .ok (.aload_n 0, 1) := by decide +kernel
theorem dX6_init_109 : decode cX6_init 109 = .ok (.getfield 7, 3) := by decide +kernel
theorem dX6_init_112 : decode cX6_init 112 = .ok (.iconst 4, 1) := by decide +kernel
theorem dX6_init_113 : decode cX6_init 113 = .ok (.iconst 1, 1) := by decide +kernel
theorem dX6_init_114 : decode cX6_init 114 = .ok (.iastore, 1) := by decide +kernel
theorem dX6_init_115 : decode cX6_init 115 = .ok (.return_, 1) := by decide +kernel
theorem dX6_thrown_0 : decode cX6_thrown 0 = .ok (.aload_n 0, 1) := by decide +kernel
theorem dX6_thrown_1 : decode cX6_thrown 1 = .ok (.getfield 43, 3) := by decide +kernel
theorem dX6_thrown_4 : decode cX6_thrown 4 = .ok (.ireturn, 1) := by decide +kernel
theorem dX6_in_0 : decode cX6_in 0 = .ok (.iload_n 0, 1) := by decide +kernel
theorem dX6_in_1 : decode cX6_in 1 = .ok (.iload_n 1, 1) := by decide +kernel
theorem dX6_in_2 : decode cX6_in 2 = .ok (.if_icmp .lt 12, 3) := by decide +kernel
theorem dX6_in_5 : decode cX6_in 5 = .ok (.iload_n 0, 1) := by decide +kernel
theorem dX6_in_6 : decode cX6_in 6 = .ok (.iload_n 2, 1) := by decide +kernel
theorem dX6_in_7 : decode cX6_in 7 = .ok (.if_icmp .gt 7, 3) := by decide +kernel
theorem dX6_in_10 : decode cX6_in 10 = .ok (.iconst 1, 1) := by decide +kernel
theorem dX6_in_11 : decode cX6_in 11 = .ok (.goto 4, 3) := by decide +kernel
theorem dX6_in_14 : decode cX6_in 14 = .ok (.iconst 0, 1) := by decide +kernel
theorem dX6_in_15 : decode cX6_in 15 = .ok (.ireturn, 1) := by decide +kernel
theorem dX6_keep_0 : decode cX6_keep 0 = .ok (.aload_n 0, 1) := by decide +kernel
theorem dX6_keep_1 : decode cX6_keep 1 = .ok (.getfield 47, 3) := by decide +kernel
theorem dX6_keep_4 : decode cX6_keep 4 = .ok (.iconst 4, 1) := by decide +kernel
theorem dX6_keep_5 : decode cX6_keep 5 = .ok (.if_icmp .ne 43, 3) := by decide +kernel
theorem dX6_keep_8 : decode cX6_keep 8 = .ok (.iconst 0, 1) := by decide +kernel
theorem dX6_keep_9 : decode cX6_keep 9 = .ok (.istore_n 1, 1) := by decide +kernel
theorem dX6_keep_10 : decode cX6_keep 10 = .ok (.iload_n 1, 1) := by decide +kernel
theorem dX6_keep_11 : decode cX6_keep 11 = .ok (.sipush 243, 3) := by decide +kernel
theorem dX6_keep_14 : decode cX6_keep 14 = .ok (.if_icmp .ge 24, 3) := by decide +kernel
theorem dX6_keep_17 : decode cX6_keep 17 = .ok (.aload_n 0, 1) := by decide +kernel
theorem dX6_keep_18 : decode cX6_keep 18 = .ok (.getfield 13, 3) := by decide +kernel
theorem dX6_keep_21 : decode cX6_keep 21 = .ok (.iload_n 1, 1) := by decide +kernel
theorem dX6_keep_22 : decode cX6_keep 22 = .ok (.aload_n 0, 1) := by decide +kernel
theorem dX6_keep_23 : decode cX6_keep 23 = .ok (.getfield 13, 3) := by decide +kernel
theorem dX6_keep_26 : decode cX6_keep 26 = .ok (.iload_n 1, 1) := by decide +kernel
theorem dX6_keep_27 : decode cX6_keep 27 = .ok (.bipush 81, 2) := by decide +kernel
theorem dX6_keep_29 : decode cX6_keep 29 = .ok (.iadd, 1) := by decide +kernel
theorem dX6_keep_30 : decode cX6_keep 30 = .ok (.iaload, 1) := by decide +kernel
theorem dX6_keep_31 : decode cX6_keep 31 = .ok (.iastore, 1) := by decide +kernel
theorem dX6_keep_32 : decode cX6_keep 32 = .ok (.iinc 1 1, 3) := by decide +kernel
theorem dX6_keep_35 : decode cX6_keep 35 = .ok (.goto (-25), 3) := by decide +kernel
theorem dX6_keep_38 : decode cX6_keep 38 = .ok (.aload_n 0, 1) := by decide +kernel
theorem dX6_keep_39 : decode cX6_keep 39 = .ok (.dup, 1) := by decide +kernel
theorem dX6_keep_40 : decode cX6_keep 40 = .ok (.getfield 47, 3) := by decide +kernel
theorem dX6_keep_43 : decode cX6_keep 43 = .ok (.iconst 1, 1) := by decide +kernel
theorem dX6_keep_44 : decode cX6_keep 44 = .ok (.isub, 1) := by decide +kernel
theorem dX6_keep_45 : decode cX6_keep 45 = .ok (.putfield 47, 3) := by decide +kernel
theorem dX6_keep_48 : decode cX6_keep 48 = .ok (.iconst 0, 1) := by decide +kernel
theorem dX6_keep_49 : decode cX6_keep 49 = .ok (.istore_n 1, 1) := by decide +kernel
theorem dX6_keep_50 : decode cX6_keep 50 = .ok (.iload_n 1, 1) := by decide +kernel
theorem dX6_keep_51 : decode cX6_keep 51 = .ok (.bipush 81, 2) := by decide +kernel
theorem dX6_keep_53 : decode cX6_keep 53 = .ok (.if_icmp .ge 29, 3) := by decide +kernel
theorem dX6_keep_56 : decode cX6_keep 56 = .ok (.aload_n 0, 1) := by decide +kernel
theorem dX6_keep_57 : decode cX6_keep 57 = .ok (.getfield 13, 3) := by decide +kernel
theorem dX6_keep_60 : decode cX6_keep 60 = .ok (.bipush 81, 2) := by decide +kernel
theorem dX6_keep_62 : decode cX6_keep 62 = .ok (.aload_n 0, 1) := by decide +kernel
theorem dX6_keep_63 : decode cX6_keep 63 = .ok (.getfield 47, 3) := by decide +kernel
theorem dX6_keep_66 : decode cX6_keep 66 = .ok (.imul, 1) := by decide +kernel
theorem dX6_keep_67 : decode cX6_keep 67 = .ok (.iload_n 1, 1) := by decide +kernel
theorem dX6_keep_68 : decode cX6_keep 68 = .ok (.iadd, 1) := by decide +kernel
theorem dX6_keep_69 : decode cX6_keep 69 = .ok (.aload_n 0, 1) := by decide +kernel
theorem dX6_keep_70 : decode cX6_keep 70 = .ok (.getfield 7, 3) := by decide +kernel
theorem dX6_keep_73 : decode cX6_keep 73 = .ok (.iload_n 1, 1) := by decide +kernel
theorem dX6_keep_74 : decode cX6_keep 74 = .ok (.iaload, 1) := by decide +kernel
theorem dX6_keep_75 : decode cX6_keep 75 = .ok (.iastore, 1) := by decide +kernel
theorem dX6_keep_76 : decode cX6_keep 76 = .ok (.iinc 1 1, 3) := by decide +kernel
theorem dX6_keep_79 : decode cX6_keep 79 = .ok (.goto (-29), 3) := by decide +kernel
theorem dX6_keep_82 : decode cX6_keep 82 = .ok (.aload_n 0, 1) := by decide +kernel
theorem dX6_keep_83 : decode cX6_keep 83 = .ok (.dup, 1) := by decide +kernel
theorem dX6_keep_84 : decode cX6_keep 84 = .ok (.getfield 47, 3) := by decide +kernel
theorem dX6_keep_87 : decode cX6_keep 87 = .ok (.iconst 1, 1) := by decide +kernel
theorem dX6_keep_88 : decode cX6_keep 88 = .ok (.iadd, 1) := by decide +kernel
theorem dX6_keep_89 : decode cX6_keep 89 = .ok (.putfield 47, 3) := by decide +kernel
theorem dX6_keep_92 : decode cX6_keep 92 = .ok (.return_, 1) := by decide +kernel
theorem dX6_change_0 : decode cX6_change 0 = .ok (.aload_n 0, 1) := by decide +kernel
theorem dX6_change_1 : decode cX6_change 1 = .ok (.invokevirtual 50, 3) := by decide +kernel
theorem dX6_change_4 : decode cX6_change 4 = .ok (.aload_n 0, 1) := by decide +kernel
theorem dX6_change_5 : decode cX6_change 5 = .ok (.getfield 7, 3) := by decide +kernel
theorem dX6_change_8 : decode cX6_change 8 = .ok (.bipush 32, 2) := by decide +kernel
theorem dX6_change_10 : decode cX6_change 10 = .ok (.iconst 0, 1) := by decide +kernel
theorem dX6_change_11 : decode cX6_change 11 = .ok (.iastore, 1) := by decide +kernel
theorem dX6_change_12 : decode cX6_change 12 = .ok (.return_, 1) := by decide +kernel
theorem dX6_has_0 : decode cX6_has 0 = .ok (.iload_n 0, 1) := by decide +kernel
theorem dX6_has_1 : decode cX6_has 1 = .ok (.iload_n 1, 1) := by decide +kernel
theorem dX6_has_2 : decode cX6_has 2 = .ok (.ishr, 1) := by decide +kernel
theorem dX6_has_3 : decode cX6_has 3 = .ok (.iconst 1, 1) := by decide +kernel
theorem dX6_has_4 : decode cX6_has 4 = .ok (.iand, 1) := by decide +kernel
theorem dX6_has_5 : decode cX6_has 5 = .ok (.iconst 1, 1) := by decide +kernel
theorem dX6_has_6 : decode cX6_has 6 = .ok (.if_icmp .ne 7, 3) := by decide +kernel
theorem dX6_has_9 : decode cX6_has 9 = .ok (.iconst 1, 1) := by decide +kernel
theorem dX6_has_10 : decode cX6_has 10 = .ok (.goto 4, 3) := by decide +kernel
theorem dX6_has_13 : decode cX6_has 13 = .ok (.iconst 0, 1) := by decide +kernel
theorem dX6_has_14 : decode cX6_has 14 = .ok (.ireturn, 1) := by decide +kernel
theorem dX6_bits_0 : decode cX6_bits 0 = .ok (.iconst 0, 1) := by decide +kernel
theorem dX6_bits_1 : decode cX6_bits 1 = .ok (.istore_n 1, 1) := by decide +kernel
theorem dX6_bits_2 : decode cX6_bits 2 = .ok (.iload_n 0, 1) := by decide +kernel
theorem dX6_bits_3 : decode cX6_bits 3 = .ok (.istore_n 2, 1) := by decide +kernel
theorem dX6_bits_4 : decode cX6_bits 4 = .ok (.iload_n 2, 1) := by decide +kernel
theorem dX6_bits_5 : decode cX6_bits 5 = .ok (.ifCond .eq 15, 3) := by decide +kernel
theorem dX6_bits_8 : decode cX6_bits 8 = .ok (.iinc 1 1, 3) := by decide +kernel
theorem dX6_bits_11 : decode cX6_bits 11 = .ok (.iload_n 2, 1) := by decide +kernel
theorem dX6_bits_12 : decode cX6_bits 12 = .ok (.iload_n 2, 1) := by decide +kernel
theorem dX6_bits_13 : decode cX6_bits 13 = .ok (.iconst 1, 1) := by decide +kernel
theorem dX6_bits_14 : decode cX6_bits 14 = .ok (.isub, 1) := by decide +kernel
theorem dX6_bits_15 : decode cX6_bits 15 = .ok (.iand, 1) := by decide +kernel
theorem dX6_bits_16 : decode cX6_bits 16 = .ok (.istore_n 2, 1) := by decide +kernel
theorem dX6_bits_17 : decode cX6_bits 17 = .ok (.goto (-13), 3) := by decide +kernel
theorem dX6_bits_20 : decode cX6_bits 20 = .ok (.iload_n 1, 1) := by decide +kernel
theorem dX6_bits_21 : decode cX6_bits 21 = .ok (.ireturn, 1) := by decide +kernel
theorem dX6_channelOf_0 : decode cX6_channelOf 0 = .ok (.aload_n 0, 1) := by decide +kernel
theorem dX6_channelOf_1 : decode cX6_channelOf 1 = .ok (.getfield 7, 3) := by decide +kernel
theorem dX6_channelOf_4 : decode cX6_channelOf 4 = .ok (.bipush 6, 2) := by decide +kernel
theorem dX6_channelOf_6 : decode cX6_channelOf 6 = .ok (.iconst 2, 1) := by decide +kernel
theorem dX6_channelOf_7 : decode cX6_channelOf 7 = .ok (.iload_n 1, 1) := by decide +kernel
theorem dX6_channelOf_8 : decode cX6_channelOf 8 = .ok (.imul, 1) := by decide +kernel
theorem dX6_channelOf_9 : decode cX6_channelOf 9 = .ok (.iadd, 1) := by decide +kernel
theorem dX6_channelOf_10 : decode cX6_channelOf 10 = .ok (.iaload, 1) := by decide +kernel
theorem dX6_channelOf_11 : decode cX6_channelOf 11 = .ok (.ireturn, 1) := by decide +kernel
theorem dX6_levelOf_0 : decode cX6_levelOf 0 = .ok (.aload_n 0, 1) := by decide +kernel
theorem dX6_levelOf_1 : decode cX6_levelOf 1 = .ok (.getfield 7, 3) := by decide +kernel
theorem dX6_levelOf_4 : decode cX6_levelOf 4 = .ok (.bipush 6, 2) := by decide +kernel
theorem dX6_levelOf_6 : decode cX6_levelOf 6 = .ok (.iconst 2, 1) := by decide +kernel
theorem dX6_levelOf_7 : decode cX6_levelOf 7 = .ok (.iload_n 1, 1) := by decide +kernel
theorem dX6_levelOf_8 : decode cX6_levelOf 8 = .ok (.imul, 1) := by decide +kernel
theorem dX6_levelOf_9 : decode cX6_levelOf 9 = .ok (.iadd, 1) := by decide +kernel
theorem dX6_levelOf_10 : decode cX6_levelOf 10 = .ok (.iconst 1, 1) := by decide +kernel
theorem dX6_levelOf_11 : decode cX6_levelOf 11 = .ok (.iadd, 1) := by decide +kernel
theorem dX6_levelOf_12 : decode cX6_levelOf 12 = .ok (.iaload, 1) := by decide +kernel
theorem dX6_levelOf_13 : decode cX6_levelOf 13 = .ok (.ireturn, 1) := by decide +kernel
theorem dX6_isCarrier_0 : decode cX6_isCarrier 0 = .ok (.iload_n 1, 1) := by decide +kernel
theorem dX6_isCarrier_1 : decode cX6_isCarrier 1 = .ok (.iconst 0, 1) := by decide +kernel
theorem dX6_isCarrier_2 : decode cX6_isCarrier 2 = .ok (.aload_n 0, 1) := by decide +kernel
theorem dX6_isCarrier_3 : decode cX6_isCarrier 3 = .ok (.getfield 7, 3) := by decide +kernel
theorem dX6_isCarrier_6 : decode cX6_isCarrier 6 = .ok (.iconst 5, 1) := by decide +kernel
theorem dX6_isCarrier_7 : decode cX6_isCarrier 7 = .ok (.iaload, 1) := by decide +kernel
theorem dX6_isCarrier_8 : decode cX6_isCarrier 8 = .ok (.iconst 1, 1) := by decide +kernel
theorem dX6_isCarrier_9 : decode cX6_isCarrier 9 = .ok (.isub, 1) := by decide +kernel
theorem dX6_isCarrier_10 : decode cX6_isCarrier 10 = .ok (.invokestatic 53, 3) := by decide +kernel
theorem dX6_isCarrier_13 : decode cX6_isCarrier 13 = .ok (.ireturn, 1) := by decide +kernel
theorem dX6_isSet_0 : decode cX6_isSet 0 = .ok (.iload_n 1, 1) := by decide +kernel
theorem dX6_isSet_1 : decode cX6_isSet 1 = .ok (.iconst 0, 1) := by decide +kernel
theorem dX6_isSet_2 : decode cX6_isSet 2 = .ok (.iconst 1, 1) := by decide +kernel
theorem dX6_isSet_3 : decode cX6_isSet 3 = .ok (.aload_n 0, 1) := by decide +kernel
theorem dX6_isSet_4 : decode cX6_isSet 4 = .ok (.getfield 7, 3) := by decide +kernel
theorem dX6_isSet_7 : decode cX6_isSet 7 = .ok (.iconst 5, 1) := by decide +kernel
theorem dX6_isSet_8 : decode cX6_isSet 8 = .ok (.iaload, 1) := by decide +kernel
theorem dX6_isSet_9 : decode cX6_isSet 9 = .ok (.ishl, 1) := by decide +kernel
theorem dX6_isSet_10 : decode cX6_isSet 10 = .ok (.iconst 1, 1) := by decide +kernel
theorem dX6_isSet_11 : decode cX6_isSet 11 = .ok (.isub, 1) := by decide +kernel
theorem dX6_isSet_12 : decode cX6_isSet 12 = .ok (.invokestatic 53, 3) := by decide +kernel
theorem dX6_isSet_15 : decode cX6_isSet 15 = .ok (.ireturn, 1) := by decide +kernel
theorem dX6_isChannel_0 : decode cX6_isChannel 0 = .ok (.iload_n 0, 1) := by decide +kernel
theorem dX6_isChannel_1 : decode cX6_isChannel 1 = .ok (.iconst 0, 1) := by decide +kernel
theorem dX6_isChannel_2 : decode cX6_isChannel 2 = .ok (.bipush 63, 2) := by decide +kernel
theorem dX6_isChannel_4 : decode cX6_isChannel 4 = .ok (.invokestatic 53, 3) := by decide +kernel
theorem dX6_isChannel_7 : decode cX6_isChannel 7 = .ok (.ireturn, 1) := by decide +kernel
theorem dX6_isTaken_0 : decode cX6_isTaken 0 = .ok (.iconst 0, 1) := by decide +kernel
theorem dX6_isTaken_1 : decode cX6_isTaken 1 = .ok (.istore_n 3, 1) := by decide +kernel
theorem dX6_isTaken_2 : decode cX6_isTaken 2 = .ok (.iconst 0, 1) := by decide +kernel
theorem dX6_isTaken_3 : decode cX6_isTaken 3 = .ok (.istore 4, 2) := by decide +kernel
theorem dX6_isTaken_5 : decode cX6_isTaken 5 = .ok (.iload 4, 2) := by decide +kernel
theorem dX6_isTaken_7 : decode cX6_isTaken 7 = .ok (.aload_n 0, 1) := by decide +kernel
theorem dX6_isTaken_8 : decode cX6_isTaken 8 = .ok (.getfield 7, 3) := by decide +kernel
theorem dX6_isTaken_11 : decode cX6_isTaken 11 = .ok (.iconst 5, 1) := by decide +kernel
theorem dX6_isTaken_12 : decode cX6_isTaken 12 = .ok (.iaload, 1) := by decide +kernel
theorem dX6_isTaken_13 : decode cX6_isTaken 13 = .ok (.if_icmp .ge 35, 3) := by decide +kernel
theorem dX6_isTaken_16 : decode cX6_isTaken 16 = .ok (.iload_n 3, 1) := by decide +kernel
theorem dX6_isTaken_17 : decode cX6_isTaken 17 = .ok (.ifCond .ne 19, 3) := by decide +kernel
theorem dX6_isTaken_20 : decode cX6_isTaken 20 = .ok (.iload 4, 2) := by decide +kernel
theorem dX6_isTaken_22 : decode cX6_isTaken 22 = .ok (.iload_n 2, 1) := by decide +kernel
theorem dX6_isTaken_23 : decode cX6_isTaken 23 = .ok (.if_icmp .eq 17, 3) := by decide +kernel
theorem dX6_isTaken_26 : decode cX6_isTaken 26 = .ok (.aload_n 0, 1) := by decide +kernel
theorem dX6_isTaken_27 : decode cX6_isTaken 27 = .ok (.iload 4, 2) := by decide +kernel
theorem dX6_isTaken_29 : decode cX6_isTaken 29 = .ok (.invokevirtual 57, 3) := by decide +kernel
theorem dX6_isTaken_32 : decode cX6_isTaken 32 = .ok (.iload_n 1, 1) := by decide +kernel
theorem dX6_isTaken_33 : decode cX6_isTaken 33 = .ok (.if_icmp .ne 7, 3) := by decide +kernel
theorem dX6_isTaken_36 : decode cX6_isTaken 36 = .ok (.iconst 1, 1) := by decide +kernel
theorem dX6_isTaken_37 : decode cX6_isTaken 37 = .ok (.goto 4, 3) := by decide +kernel
theorem dX6_isTaken_40 : decode cX6_isTaken 40 = .ok (.iconst 0, 1) := by decide +kernel
theorem dX6_isTaken_41 : decode cX6_isTaken 41 = .ok (.istore_n 3, 1) := by decide +kernel
theorem dX6_isTaken_42 : decode cX6_isTaken 42 = .ok (.iinc 4 1, 3) := by decide +kernel
theorem dX6_isTaken_45 : decode cX6_isTaken 45 = .ok (.goto (-40), 3) := by decide +kernel
theorem dX6_isTaken_48 : decode cX6_isTaken 48 = .ok (.iload_n 3, 1) := by decide +kernel
theorem dX6_isTaken_49 : decode cX6_isTaken 49 = .ok (.ireturn, 1) := by decide +kernel
theorem dX6_lay_0 : decode cX6_lay 0 = .ok (.aload_n 0, 1) := by decide +kernel
theorem dX6_lay_1 : decode cX6_lay 1 = .ok (.getfield 7, 3) := by decide +kernel
theorem dX6_lay_4 : decode cX6_lay 4 = .ok (.bipush 6, 2) := by decide +kernel
theorem dX6_lay_6 : decode cX6_lay 6 = .ok (.iconst 2, 1) := by decide +kernel
theorem dX6_lay_7 : decode cX6_lay 7 = .ok (.iload_n 1, 1) := by decide +kernel
theorem dX6_lay_8 : decode cX6_lay 8 = .ok (.imul, 1) := by decide +kernel
theorem dX6_lay_9 : decode cX6_lay 9 = .ok (.iadd, 1) := by decide +kernel
theorem dX6_lay_10 : decode cX6_lay 10 = .ok (.iload_n 2, 1) := by decide +kernel
theorem dX6_lay_11 : decode cX6_lay 11 = .ok (.iastore, 1) := by decide +kernel
theorem dX6_lay_12 : decode cX6_lay 12 = .ok (.aload_n 0, 1) := by decide +kernel
theorem dX6_lay_13 : decode cX6_lay 13 = .ok (.getfield 7, 3) := by decide +kernel
theorem dX6_lay_16 : decode cX6_lay 16 = .ok (.bipush 6, 2) := by decide +kernel
theorem dX6_lay_18 : decode cX6_lay 18 = .ok (.iconst 2, 1) := by decide +kernel
theorem dX6_lay_19 : decode cX6_lay 19 = .ok (.iload_n 1, 1) := by decide +kernel
theorem dX6_lay_20 : decode cX6_lay 20 = .ok (.imul, 1) := by decide +kernel
theorem dX6_lay_21 : decode cX6_lay 21 = .ok (.iadd, 1) := by decide +kernel
theorem dX6_lay_22 : decode cX6_lay 22 = .ok (.iconst 1, 1) := by decide +kernel
theorem dX6_lay_23 : decode cX6_lay 23 = .ok (.iadd, 1) := by decide +kernel
theorem dX6_lay_24 : decode cX6_lay 24 = .ok (.iload_n 3, 1) := by decide +kernel
theorem dX6_lay_25 : decode cX6_lay 25 = .ok (.iastore, 1) := by decide +kernel
theorem dX6_lay_26 : decode cX6_lay 26 = .ok (.return_, 1) := by decide +kernel
theorem dX6_isFit_0 : decode cX6_isFit 0 = .ok (.iload_n 1, 1) := by decide +kernel
theorem dX6_isFit_1 : decode cX6_isFit 1 = .ok (.invokestatic 61, 3) := by decide +kernel
theorem dX6_isFit_4 : decode cX6_isFit 4 = .ok (.ifCond .eq 26, 3) := by decide +kernel
theorem dX6_isFit_7 : decode cX6_isFit 7 = .ok (.iload_n 2, 1) := by decide +kernel
theorem dX6_isFit_8 : decode cX6_isFit 8 = .ok (.iconst 0, 1) := by decide +kernel
theorem dX6_isFit_9 : decode cX6_isFit 9 = .ok (.bipush 60, 2) := by decide +kernel
theorem dX6_isFit_11 : decode cX6_isFit 11 = .ok (.invokestatic 53, 3) := by decide +kernel
theorem dX6_isFit_14 : decode cX6_isFit 14 = .ok (.ifCond .eq 16, 3) := by decide +kernel
theorem dX6_isFit_17 : decode cX6_isFit 17 = .ok (.aload_n 0, 1) := by decide +kernel
theorem dX6_isFit_18 : decode cX6_isFit 18 = .ok (.iload_n 1, 1) := by decide +kernel
theorem dX6_isFit_19 : decode cX6_isFit 19 = .ok (.iload_n 3, 1) := by decide +kernel
theorem dX6_isFit_20 : decode cX6_isFit 20 = .ok (.invokevirtual 65, 3) := by decide +kernel
theorem dX6_isFit_23 : decode cX6_isFit 23 = .ok (.ifCond .ne 7, 3) := by decide +kernel
theorem dX6_isFit_26 : decode cX6_isFit 26 = .ok (.iconst 1, 1) := by decide +kernel
theorem dX6_isFit_27 : decode cX6_isFit 27 = .ok (.goto 4, 3) := by decide +kernel
theorem dX6_isFit_30 : decode cX6_isFit 30 = .ok (.iconst 0, 1) := by decide +kernel
theorem dX6_isFit_31 : decode cX6_isFit 31 = .ok (.ireturn, 1) := by decide +kernel
theorem dX6_addCarrier_0 : decode cX6_addCarrier 0 = .ok (.aload_n 0, 1) := by decide +kernel
theorem dX6_addCarrier_1 : decode cX6_addCarrier 1 = .ok (.aload_n 0, 1) := by decide +kernel
theorem dX6_addCarrier_2 : decode cX6_addCarrier 2 = .ok (.iload_n 1, 1) := by decide +kernel
theorem dX6_addCarrier_3 : decode cX6_addCarrier 3 = .ok (.iload_n 2, 1) := by decide +kernel
theorem dX6_addCarrier_4 : decode cX6_addCarrier 4 = .ok (.iconst (-1), 1) := by decide +kernel
theorem dX6_addCarrier_5 : decode cX6_addCarrier 5 = .ok (.invokevirtual 69, 3) := by decide +kernel
theorem dX6_addCarrier_8 : decode cX6_addCarrier 8 = .ok (.ifCond .ne 7, 3) := by decide +kernel
theorem dX6_addCarrier_11 : decode cX6_addCarrier 11 = .ok (.iconst 1, 1) := by decide +kernel
theorem dX6_addCarrier_12 : decode cX6_addCarrier 12 = .ok (.goto 19, 3) := by decide +kernel
theorem dX6_addCarrier_15 : decode cX6_addCarrier 15 = .ok (.aload_n 0, 1) := by decide +kernel
theorem dX6_addCarrier_16 : decode cX6_addCarrier 16 = .ok (.getfield 7, 3) := by decide +kernel
theorem dX6_addCarrier_19 : decode cX6_addCarrier 19 = .ok (.iconst 5, 1) := by decide +kernel
theorem dX6_addCarrier_20 : decode cX6_addCarrier 20 = .ok (.iaload, 1) := by decide +kernel
theorem dX6_addCarrier_21 : decode cX6_addCarrier 21 = .ok (.bipush 10, 2) := by decide +kernel
theorem dX6_addCarrier_23 : decode cX6_addCarrier 23 = .ok (.if_icmp .ne 7, 3) := by decide +kernel
theorem dX6_addCarrier_26 : decode cX6_addCarrier 26 = .ok (.iconst 2, 1) := by decide +kernel
theorem dX6_addCarrier_27 : decode cX6_addCarrier 27 = .ok (.goto 4, 3) := by decide +kernel
theorem dX6_addCarrier_30 : decode cX6_addCarrier 30 = .ok (.iconst 0, 1) := by decide +kernel
theorem dX6_addCarrier_31 : decode cX6_addCarrier 31 = .ok (.putfield 43, 3) := by decide +kernel
theorem dX6_addCarrier_34 : decode cX6_addCarrier 34 = .ok (.aload_n 0, 1) := by decide +kernel
theorem dX6_addCarrier_35 : decode cX6_addCarrier 35 = .ok (.getfield 43, 3) := by decide +kernel
theorem dX6_addCarrier_38 : decode cX6_addCarrier 38 = .ok (.ifCond .eq 5, 3) := by decide +kernel
theorem dX6_addCarrier_41 : decode cX6_addCarrier 41 = .ok (.iconst 0, 1) := by decide +kernel
theorem dX6_addCarrier_42 : decode cX6_addCarrier 42 = .ok (.ireturn, 1) := by decide +kernel
theorem dX6_addCarrier_43 : decode cX6_addCarrier 43 = .ok (.aload_n 0, 1) := by decide +kernel
theorem dX6_addCarrier_44 : decode cX6_addCarrier 44 = .ok (.invokevirtual 72, 3) := by decide +kernel
theorem dX6_addCarrier_47 : decode cX6_addCarrier 47 = .ok (.aload_n 0, 1) := by decide +kernel
theorem dX6_addCarrier_48 : decode cX6_addCarrier 48 = .ok (.aload_n 0, 1) := by decide +kernel
theorem dX6_addCarrier_49 : decode cX6_addCarrier 49 = .ok (.getfield 7, 3) := by decide +kernel
theorem dX6_addCarrier_52 : decode cX6_addCarrier 52 = .ok (.iconst 5, 1) := by decide +kernel
theorem dX6_addCarrier_53 : decode cX6_addCarrier 53 = .ok (.iaload, 1) := by decide +kernel
theorem dX6_addCarrier_54 : decode cX6_addCarrier 54 = .ok (.iload_n 1, 1) := by decide +kernel
theorem dX6_addCarrier_55 : decode cX6_addCarrier 55 = .ok (.iload_n 2, 1) := by decide +kernel
theorem dX6_addCarrier_56 : decode cX6_addCarrier 56 = .ok (.invokevirtual 75, 3) := by decide +kernel
theorem dX6_addCarrier_59 : decode cX6_addCarrier 59 = .ok (.aload_n 0, 1) := by decide +kernel
theorem dX6_addCarrier_60 : decode cX6_addCarrier 60 = .ok (.getfield 7, 3) := by decide +kernel
theorem dX6_addCarrier_63 : decode cX6_addCarrier 63 = .ok (.iconst 5, 1) := by decide +kernel
theorem dX6_addCarrier_64 : decode cX6_addCarrier 64 = .ok (.dup2, 1) := by decide +kernel
theorem dX6_addCarrier_65 : decode cX6_addCarrier 65 = .ok (.iaload, 1) := by decide +kernel
theorem dX6_addCarrier_66 : decode cX6_addCarrier 66 = .ok (.iconst 1, 1) := by decide +kernel
theorem dX6_addCarrier_67 : decode cX6_addCarrier 67 = .ok (.iadd, 1) := by decide +kernel
theorem dX6_addCarrier_68 : decode cX6_addCarrier 68 = .ok (.iastore, 1) := by decide +kernel
theorem dX6_addCarrier_69 : decode cX6_addCarrier 69 = .ok (.aload_n 0, 1) := by decide +kernel
theorem dX6_addCarrier_70 : decode cX6_addCarrier 70 = .ok (.getfield 7, 3) := by decide +kernel
theorem dX6_addCarrier_73 : decode cX6_addCarrier 73 = .ok (.iconst 5, 1) := by decide +kernel
theorem dX6_addCarrier_74 : decode cX6_addCarrier 74 = .ok (.iaload, 1) := by decide +kernel
theorem dX6_addCarrier_75 : decode cX6_addCarrier 75 = .ok (.iconst 1, 1) := by decide +kernel
theorem dX6_addCarrier_76 : decode cX6_addCarrier 76 = .ok (.isub, 1) := by decide +kernel
theorem dX6_addCarrier_77 : decode cX6_addCarrier 77 = .ok (.ireturn, 1) := by decide +kernel
theorem dX6_moveCarrier_0 : decode cX6_moveCarrier 0 = .ok (.aload_n 0, 1) := by decide +kernel
theorem dX6_moveCarrier_1 : decode cX6_moveCarrier 1 = .ok (.aload_n 0, 1) := by decide +kernel
theorem dX6_moveCarrier_2 : decode cX6_moveCarrier 2 = .ok (.iload_n 1, 1) := by decide +kernel
theorem dX6_moveCarrier_3 : decode cX6_moveCarrier 3 = .ok (.invokevirtual 79, 3) := by decide +kernel
theorem dX6_moveCarrier_6 : decode cX6_moveCarrier 6 = .ok (.ifCond .ne 7, 3) := by decide +kernel
theorem dX6_moveCarrier_9 : decode cX6_moveCarrier 9 = .ok (.iconst 1, 1) := by decide +kernel
theorem dX6_moveCarrier_10 : decode cX6_moveCarrier 10 = .ok (.goto 18, 3) := by decide +kernel
theorem dX6_moveCarrier_13 : decode cX6_moveCarrier 13 = .ok (.aload_n 0, 1) := by decide +kernel
theorem dX6_moveCarrier_14 : decode cX6_moveCarrier 14 = .ok (.iload_n 2, 1) := by decide +kernel
theorem dX6_moveCarrier_15 : decode cX6_moveCarrier 15 = .ok (.iload_n 3, 1) := by decide +kernel
theorem dX6_moveCarrier_16 : decode cX6_moveCarrier 16 = .ok (.iload_n 1, 1) := by decide +kernel
theorem dX6_moveCarrier_17 : decode cX6_moveCarrier 17 = .ok (.invokevirtual 69, 3) := by decide +kernel
theorem dX6_moveCarrier_20 : decode cX6_moveCarrier 20 = .ok (.ifCond .eq 7, 3) := by decide +kernel
theorem dX6_moveCarrier_23 : decode cX6_moveCarrier 23 = .ok (.iconst 0, 1) := by decide +kernel
theorem dX6_moveCarrier_24 : decode cX6_moveCarrier 24 = .ok (.goto 4, 3) := by decide +kernel
theorem dX6_moveCarrier_27 : decode cX6_moveCarrier 27 = .ok (.iconst 2, 1) := by decide +kernel
theorem dX6_moveCarrier_28 : decode cX6_moveCarrier 28 = .ok (.putfield 43, 3) := by decide +kernel
theorem dX6_moveCarrier_31 : decode cX6_moveCarrier 31 = .ok (.aload_n 0, 1) := by decide +kernel
theorem dX6_moveCarrier_32 : decode cX6_moveCarrier 32 = .ok (.getfield 43, 3) := by decide +kernel
theorem dX6_moveCarrier_35 : decode cX6_moveCarrier 35 = .ok (.ifCond .eq 5, 3) := by decide +kernel
theorem dX6_moveCarrier_38 : decode cX6_moveCarrier 38 = .ok (.iconst 0, 1) := by decide +kernel
theorem dX6_moveCarrier_39 : decode cX6_moveCarrier 39 = .ok (.ireturn, 1) := by decide +kernel
theorem dX6_moveCarrier_40 : decode cX6_moveCarrier 40 = .ok (.aload_n 0, 1) := by decide +kernel
theorem dX6_moveCarrier_41 : decode cX6_moveCarrier 41 = .ok (.invokevirtual 72, 3) := by decide +kernel
theorem dX6_moveCarrier_44 : decode cX6_moveCarrier 44 = .ok (.aload_n 0, 1) := by decide +kernel
theorem dX6_moveCarrier_45 : decode cX6_moveCarrier 45 = .ok (.iload_n 1, 1) := by decide +kernel
theorem dX6_moveCarrier_46 : decode cX6_moveCarrier 46 = .ok (.invokevirtual 57, 3) := by decide +kernel
theorem dX6_moveCarrier_49 : decode cX6_moveCarrier 49 = .ok (.istore 4, 2) := by decide +kernel
theorem dX6_moveCarrier_51 : decode cX6_moveCarrier 51 = .ok (.aload_n 0, 1) := by decide +kernel
theorem dX6_moveCarrier_52 : decode cX6_moveCarrier 52 = .ok (.iload_n 1, 1) := by decide +kernel
theorem dX6_moveCarrier_53 : decode cX6_moveCarrier 53 = .ok (.iload_n 2, 1) := by decide +kernel
theorem dX6_moveCarrier_54 : decode cX6_moveCarrier 54 = .ok (.iload_n 3, 1) := by decide +kernel
theorem dX6_moveCarrier_55 : decode cX6_moveCarrier 55 = .ok (.invokevirtual 75, 3) := by decide +kernel
theorem dX6_moveCarrier_58 : decode cX6_moveCarrier 58 = .ok (.iload 4, 2) := by decide +kernel
theorem dX6_moveCarrier_60 : decode cX6_moveCarrier 60 = .ok (.ireturn, 1) := by decide +kernel
theorem dX6_removeCarrier_0 : decode cX6_removeCarrier 0 = .ok (.aload_n 0, 1) := by decide +kernel
theorem dX6_removeCarrier_1 : decode cX6_removeCarrier 1 = .ok (.aload_n 0, 1) := by decide +kernel
theorem dX6_removeCarrier_2 : decode cX6_removeCarrier 2 = .ok (.iload_n 1, 1) := by decide +kernel
theorem dX6_removeCarrier_3 : decode cX6_removeCarrier 3 = .ok (.invokevirtual 79, 3) := by decide +kernel
theorem dX6_removeCarrier_6 : decode cX6_removeCarrier 6 = .ok (.ifCond .eq 7, 3) := by decide +kernel
theorem dX6_removeCarrier_9 : decode cX6_removeCarrier 9 = .ok (.iconst 0, 1) := by decide +kernel
theorem dX6_removeCarrier_10 : decode cX6_removeCarrier 10 = .ok (.goto 4, 3) := by decide +kernel
theorem dX6_removeCarrier_13 : decode cX6_removeCarrier 13 = .ok (.iconst 1, 1) := by decide +kernel
theorem dX6_removeCarrier_14 : decode cX6_removeCarrier 14 = .ok (.putfield 43, 3) := by decide +kernel
theorem dX6_removeCarrier_17 : decode cX6_removeCarrier 17 = .ok (.aload_n 0, 1) := by decide +kernel
theorem dX6_removeCarrier_18 : decode cX6_removeCarrier 18 = .ok (.getfield 43, 3) := by decide +kernel
theorem dX6_removeCarrier_21 : decode cX6_removeCarrier 21 = .ok (.ifCond .eq 5, 3) := by decide +kernel
theorem dX6_removeCarrier_24 : decode cX6_removeCarrier 24 = .ok (.iconst 0, 1) := by decide +kernel
theorem dX6_removeCarrier_25 : decode cX6_removeCarrier 25 = .ok (.ireturn, 1) := by decide +kernel
theorem dX6_removeCarrier_26 : decode cX6_removeCarrier 26 = .ok (.aload_n 0, 1) := by decide +kernel
theorem dX6_removeCarrier_27 : decode cX6_removeCarrier 27 = .ok (.invokevirtual 72, 3) := by decide +kernel
theorem dX6_removeCarrier_30 : decode cX6_removeCarrier 30 = .ok (.aload_n 0, 1) := by decide +kernel
theorem dX6_removeCarrier_31 : decode cX6_removeCarrier 31 = .ok (.getfield 7, 3) := by decide +kernel
theorem dX6_removeCarrier_34 : decode cX6_removeCarrier 34 = .ok (.iconst 5, 1) := by decide +kernel
theorem dX6_removeCarrier_35 : decode cX6_removeCarrier 35 = .ok (.dup2, 1) := by decide +kernel
theorem dX6_removeCarrier_36 : decode cX6_removeCarrier 36 = .ok (.iaload, 1) := by decide +kernel
theorem dX6_removeCarrier_37 : decode cX6_removeCarrier 37 = .ok (.iconst 1, 1) := by decide +kernel
theorem dX6_removeCarrier_38 : decode cX6_removeCarrier 38 = .ok (.isub, 1) := by decide +kernel
theorem dX6_removeCarrier_39 : decode cX6_removeCarrier 39 = .ok (.iastore, 1) := by decide +kernel
theorem dX6_removeCarrier_40 : decode cX6_removeCarrier 40 = .ok (.iload_n 1, 1) := by decide +kernel
theorem dX6_removeCarrier_41 : decode cX6_removeCarrier 41 = .ok (.istore_n 2, 1) := by decide +kernel
theorem dX6_removeCarrier_42 : decode cX6_removeCarrier 42 = .ok (.iload_n 2, 1) := by decide +kernel
theorem dX6_removeCarrier_43 : decode cX6_removeCarrier 43 = .ok (.aload_n 0, 1) := by decide +kernel
theorem dX6_removeCarrier_44 : decode cX6_removeCarrier 44 = .ok (.getfield 7, 3) := by decide +kernel
theorem dX6_removeCarrier_47 : decode cX6_removeCarrier 47 = .ok (.iconst 5, 1) := by decide +kernel
theorem dX6_removeCarrier_48 : decode cX6_removeCarrier 48 = .ok (.iaload, 1) := by decide +kernel
theorem dX6_removeCarrier_49 : decode cX6_removeCarrier 49 = .ok (.if_icmp .ge 28, 3) := by decide +kernel
theorem dX6_removeCarrier_52 : decode cX6_removeCarrier 52 = .ok (.aload_n 0, 1) := by decide +kernel
theorem dX6_removeCarrier_53 : decode cX6_removeCarrier 53 = .ok (.iload_n 2, 1) := by decide +kernel
theorem dX6_removeCarrier_54 : decode cX6_removeCarrier 54 = .ok (.aload_n 0, 1) := by decide +kernel
theorem dX6_removeCarrier_55 : decode cX6_removeCarrier 55 = .ok (.iload_n 2, 1) := by decide +kernel
theorem dX6_removeCarrier_56 : decode cX6_removeCarrier 56 = .ok (.iconst 1, 1) := by decide +kernel
theorem dX6_removeCarrier_57 : decode cX6_removeCarrier 57 = .ok (.iadd, 1) := by decide +kernel
theorem dX6_removeCarrier_58 : decode cX6_removeCarrier 58 = .ok (.invokevirtual 57, 3) := by decide +kernel
theorem dX6_removeCarrier_61 : decode cX6_removeCarrier 61 = .ok (.aload_n 0, 1) := by decide +kernel
theorem dX6_removeCarrier_62 : decode cX6_removeCarrier 62 = .ok (.iload_n 2, 1) := by decide +kernel
theorem dX6_removeCarrier_63 : decode cX6_removeCarrier 63 = .ok (.iconst 1, 1) := by decide +kernel
theorem dX6_removeCarrier_64 : decode cX6_removeCarrier 64 = .ok (.iadd, 1) := by decide +kernel
theorem dX6_removeCarrier_65 : decode cX6_removeCarrier 65 = .ok (.invokevirtual 82, 3) := by decide +kernel
theorem dX6_removeCarrier_68 : decode cX6_removeCarrier 68 = .ok (.invokevirtual 75, 3) := by decide +kernel
theorem dX6_removeCarrier_71 : decode cX6_removeCarrier 71 = .ok (.iinc 2 1, 3) := by decide +kernel
theorem dX6_removeCarrier_74 : decode cX6_removeCarrier 74 = .ok (.goto (-32), 3) := by decide +kernel
theorem dX6_removeCarrier_77 : decode cX6_removeCarrier 77 = .ok (.iconst 1, 1) := by decide +kernel
theorem dX6_removeCarrier_78 : decode cX6_removeCarrier 78 = .ok (.iload_n 1, 1) := by decide +kernel
theorem dX6_removeCarrier_79 : decode cX6_removeCarrier 79 = .ok (.ishl, 1) := by decide +kernel
theorem dX6_removeCarrier_80 : decode cX6_removeCarrier 80 = .ok (.iconst 1, 1) := by decide +kernel
theorem dX6_removeCarrier_81 : decode cX6_removeCarrier 81 = .ok (.isub, 1) := by decide +kernel
theorem dX6_removeCarrier_82 : decode cX6_removeCarrier 82 = .ok (.istore_n 2, 1) := by decide +kernel
theorem dX6_removeCarrier_83 : decode cX6_removeCarrier 83 = .ok (.iconst 0, 1) := by decide +kernel
theorem dX6_removeCarrier_84 : decode cX6_removeCarrier 84 = .ok (.istore_n 3, 1) := by decide +kernel
theorem dX6_removeCarrier_85 : decode cX6_removeCarrier 85 = .ok (.iload_n 3, 1) := by decide +kernel
theorem dX6_removeCarrier_86 : decode cX6_removeCarrier 86 = .ok (.aload_n 0, 1) := by decide +kernel
theorem dX6_removeCarrier_87 : decode cX6_removeCarrier 87 = .ok (.getfield 7, 3) := by decide +kernel
theorem dX6_removeCarrier_90 : decode cX6_removeCarrier 90 = .ok (.bipush 26, 2) := by decide +kernel
theorem dX6_removeCarrier_92 : decode cX6_removeCarrier 92 = .ok (.iaload, 1) := by decide +kernel
theorem dX6_removeCarrier_93 : decode cX6_removeCarrier 93 = .ok (.if_icmp .ge 45, 3) := by decide +kernel
theorem dX6_removeCarrier_96 : decode cX6_removeCarrier 96 = .ok (.aload_n 0, 1) := by decide +kernel
theorem dX6_removeCarrier_97 : decode cX6_removeCarrier 97 = .ok (.getfield 7, 3) := by decide +kernel
theorem dX6_removeCarrier_100 : decode cX6_removeCarrier 100 = .ok (.bipush 27, 2) := by decide +kernel
theorem dX6_removeCarrier_102 : decode cX6_removeCarrier 102 = .ok (.iload_n 3, 1) := by decide +kernel
theorem dX6_removeCarrier_103 : decode cX6_removeCarrier 103 = .ok (.iadd, 1) := by decide +kernel
theorem dX6_removeCarrier_104 : decode cX6_removeCarrier 104 = .ok (.aload_n 0, 1) := by decide +kernel
theorem dX6_removeCarrier_105 : decode cX6_removeCarrier 105 = .ok (.getfield 7, 3) := by decide +kernel
theorem dX6_removeCarrier_108 : decode cX6_removeCarrier 108 = .ok (.bipush 27, 2) := by decide +kernel
theorem dX6_removeCarrier_110 : decode cX6_removeCarrier 110 = .ok (.iload_n 3, 1) := by decide +kernel
theorem dX6_removeCarrier_111 : decode cX6_removeCarrier 111 = .ok (.iadd, 1) := by decide +kernel
theorem dX6_removeCarrier_112 : decode cX6_removeCarrier 112 = .ok (.iaload, 1) := by decide +kernel
theorem dX6_removeCarrier_113 : decode cX6_removeCarrier 113 = .ok (.iload_n 2, 1) := by decide +kernel
theorem dX6_removeCarrier_114 : decode cX6_removeCarrier 114 = .ok (.iand, 1) := by decide +kernel
theorem dX6_removeCarrier_115 : decode cX6_removeCarrier 115 = .ok (.aload_n 0, 1) := by decide +kernel
theorem dX6_removeCarrier_116 : decode cX6_removeCarrier 116 = .ok (.getfield 7, 3) := by decide +kernel
theorem dX6_removeCarrier_119 : decode cX6_removeCarrier 119 = .ok (.bipush 27, 2) := by decide +kernel
theorem dX6_removeCarrier_121 : decode cX6_removeCarrier 121 = .ok (.iload_n 3, 1) := by decide +kernel
theorem dX6_removeCarrier_122 : decode cX6_removeCarrier 122 = .ok (.iadd, 1) := by decide +kernel
theorem dX6_removeCarrier_123 : decode cX6_removeCarrier 123 = .ok (.iaload, 1) := by decide +kernel
theorem dX6_removeCarrier_124 : decode cX6_removeCarrier 124 = .ok (.iconst 1, 1) := by decide +kernel
theorem dX6_removeCarrier_125 : decode cX6_removeCarrier 125 = .ok (.ishr, 1) := by decide +kernel
theorem dX6_removeCarrier_126 : decode cX6_removeCarrier 126 = .ok (.iload_n 2, 1) := by decide +kernel
theorem dX6_removeCarrier_127 : decode cX6_removeCarrier 127 = .ok (.iconst (-1), 1) := by decide +kernel
theorem dX6_removeCarrier_128 : decode cX6_removeCarrier 128 = .ok (.ixor, 1) := by decide +kernel
theorem dX6_removeCarrier_129 : decode cX6_removeCarrier 129 = .ok (.iand, 1) := by decide +kernel
theorem dX6_removeCarrier_130 : decode cX6_removeCarrier 130 = .ok (.ior, 1) := by decide +kernel
theorem dX6_removeCarrier_131 : decode cX6_removeCarrier 131 = .ok (.iastore, 1) := by decide +kernel
theorem dX6_removeCarrier_132 : decode cX6_removeCarrier 132 = .ok (.iinc 3 1, 3) := by decide +kernel
theorem dX6_removeCarrier_135 : decode cX6_removeCarrier 135 = .ok (.goto (-50), 3) := by decide +kernel
theorem dX6_removeCarrier_138 : decode cX6_removeCarrier 138 = .ok (.aload_n 0, 1) := by decide +kernel
theorem dX6_removeCarrier_139 : decode cX6_removeCarrier 139 = .ok (.getfield 7, 3) := by decide +kernel
theorem dX6_removeCarrier_142 : decode cX6_removeCarrier 142 = .ok (.iconst 5, 1) := by decide +kernel
theorem dX6_removeCarrier_143 : decode cX6_removeCarrier 143 = .ok (.iaload, 1) := by decide +kernel
theorem dX6_removeCarrier_144 : decode cX6_removeCarrier 144 = .ok (.ireturn, 1) := by decide +kernel
theorem dX6_shift_0 : decode cX6_shift 0 = .ok (.iconst 1, 1) := by decide +kernel
theorem dX6_shift_1 : decode cX6_shift 1 = .ok (.istore_n 2, 1) := by decide +kernel
theorem dX6_shift_2 : decode cX6_shift 2 = .ok (.iconst 0, 1) := by decide +kernel
theorem dX6_shift_3 : decode cX6_shift 3 = .ok (.istore_n 3, 1) := by decide +kernel
theorem dX6_shift_4 : decode cX6_shift 4 = .ok (.iload_n 3, 1) := by decide +kernel
theorem dX6_shift_5 : decode cX6_shift 5 = .ok (.aload_n 0, 1) := by decide +kernel
theorem dX6_shift_6 : decode cX6_shift 6 = .ok (.getfield 7, 3) := by decide +kernel
theorem dX6_shift_9 : decode cX6_shift 9 = .ok (.iconst 5, 1) := by decide +kernel
theorem dX6_shift_10 : decode cX6_shift 10 = .ok (.iaload, 1) := by decide +kernel
theorem dX6_shift_11 : decode cX6_shift 11 = .ok (.if_icmp .ge 43, 3) := by decide +kernel
theorem dX6_shift_14 : decode cX6_shift 14 = .ok (.iload_n 1, 1) := by decide +kernel
theorem dX6_shift_15 : decode cX6_shift 15 = .ok (.bipush (-63), 2) := by decide +kernel
theorem dX6_shift_17 : decode cX6_shift 17 = .ok (.bipush 63, 2) := by decide +kernel
theorem dX6_shift_19 : decode cX6_shift 19 = .ok (.invokestatic 53, 3) := by decide +kernel
theorem dX6_shift_22 : decode cX6_shift 22 = .ok (.ifCond .eq 32, 3) := by decide +kernel
theorem dX6_shift_25 : decode cX6_shift 25 = .ok (.iload_n 2, 1) := by decide +kernel
theorem dX6_shift_26 : decode cX6_shift 26 = .ok (.ifCond .eq 20, 3) := by decide +kernel
theorem dX6_shift_29 : decode cX6_shift 29 = .ok (.aload_n 0, 1) := by decide +kernel
theorem dX6_shift_30 : decode cX6_shift 30 = .ok (.iload_n 3, 1) := by decide +kernel
theorem dX6_shift_31 : decode cX6_shift 31 = .ok (.invokevirtual 57, 3) := by decide +kernel
theorem dX6_shift_34 : decode cX6_shift 34 = .ok (.iload_n 1, 1) := by decide +kernel
theorem dX6_shift_35 : decode cX6_shift 35 = .ok (.iadd, 1) := by decide +kernel
theorem dX6_shift_36 : decode cX6_shift 36 = .ok (.invokestatic 61, 3) := by decide +kernel
theorem dX6_shift_39 : decode cX6_shift 39 = .ok (.ifCond .eq 7, 3) := by decide +kernel
theorem dX6_shift_42 : decode cX6_shift 42 = .ok (.iconst 1, 1) := by decide +kernel
theorem dX6_shift_43 : decode cX6_shift 43 = .ok (.goto 4, 3) := by decide +kernel
theorem dX6_shift_46 : decode cX6_shift 46 = .ok (.iconst 0, 1) := by decide +kernel
theorem dX6_shift_47 : decode cX6_shift 47 = .ok (.istore_n 2, 1) := by decide +kernel
theorem dX6_shift_48 : decode cX6_shift 48 = .ok (.iinc 3 1, 3) := by decide +kernel
theorem dX6_shift_51 : decode cX6_shift 51 = .ok (.goto (-47), 3) := by decide +kernel
theorem dX6_shift_54 : decode cX6_shift 54 = .ok (.aload_n 0, 1) := by decide +kernel
theorem dX6_shift_55 : decode cX6_shift 55 = .ok (.iload_n 1, 1) := by decide +kernel
theorem dX6_shift_56 : decode cX6_shift 56 = .ok (.bipush (-63), 2) := by decide +kernel
theorem dX6_shift_58 : decode cX6_shift 58 = .ok (.bipush 63, 2) := by decide +kernel
theorem dX6_shift_60 : decode cX6_shift 60 = .ok (.invokestatic 53, 3) := by decide +kernel
theorem dX6_shift_63 : decode cX6_shift 63 = .ok (.ifCond .ne 7, 3) := by decide +kernel
theorem dX6_shift_66 : decode cX6_shift 66 = .ok (.iconst 1, 1) := by decide +kernel
theorem dX6_shift_67 : decode cX6_shift 67 = .ok (.goto 12, 3) := by decide +kernel
theorem dX6_shift_70 : decode cX6_shift 70 = .ok (.iload_n 2, 1) := by decide +kernel
theorem dX6_shift_71 : decode cX6_shift 71 = .ok (.ifCond .eq 7, 3) := by decide +kernel
theorem dX6_shift_74 : decode cX6_shift 74 = .ok (.iconst 0, 1) := by decide +kernel
theorem dX6_shift_75 : decode cX6_shift 75 = .ok (.goto 4, 3) := by decide +kernel
theorem dX6_shift_78 : decode cX6_shift 78 = .ok (.iconst 2, 1) := by decide +kernel
theorem dX6_shift_79 : decode cX6_shift 79 = .ok (.putfield 43, 3) := by decide +kernel
theorem dX6_shift_82 : decode cX6_shift 82 = .ok (.aload_n 0, 1) := by decide +kernel
theorem dX6_shift_83 : decode cX6_shift 83 = .ok (.getfield 43, 3) := by decide +kernel
theorem dX6_shift_86 : decode cX6_shift 86 = .ok (.ifCond .eq 5, 3) := by decide +kernel
theorem dX6_shift_89 : decode cX6_shift 89 = .ok (.iconst 0, 1) := by decide +kernel
theorem dX6_shift_90 : decode cX6_shift 90 = .ok (.ireturn, 1) := by decide +kernel
theorem dX6_shift_91 : decode cX6_shift 91 = .ok (.aload_n 0, 1) := by decide +kernel
theorem dX6_shift_92 : decode cX6_shift 92 = .ok (.invokevirtual 72, 3) := by decide +kernel
theorem dX6_shift_95 : decode cX6_shift 95 = .ok (.iconst 0, 1) := by decide +kernel
theorem dX6_shift_96 : decode cX6_shift 96 = .ok (.istore_n 3, 1) := by decide +kernel
theorem dX6_shift_97 : decode cX6_shift 97 = .ok (.iload_n 3, 1) := by decide +kernel
theorem dX6_shift_98 : decode cX6_shift 98 = .ok (.aload_n 0, 1) := by decide +kernel
theorem dX6_shift_99 : decode cX6_shift 99 = .ok (.getfield 7, 3) := by decide +kernel
theorem dX6_shift_102 : decode cX6_shift 102 = .ok (.iconst 5, 1) := by decide +kernel
theorem dX6_shift_103 : decode cX6_shift 103 = .ok (.iaload, 1) := by decide +kernel
theorem dX6_shift_104 : decode cX6_shift 104 = .ok (.if_icmp .ge 26, 3) := by decide +kernel
theorem dX6_shift_107 : decode cX6_shift 107 = .ok (.aload_n 0, 1) := by decide +kernel
theorem dX6_shift_108 : decode cX6_shift 108 = .ok (.iload_n 3, 1) := by decide +kernel
theorem dX6_shift_109 : decode cX6_shift 109 = .ok (.aload_n 0, 1) := by decide +kernel
theorem dX6_shift_110 : decode cX6_shift 110 = .ok (.iload_n 3, 1) := by decide +kernel
theorem dX6_shift_111 : decode cX6_shift 111 = .ok (.invokevirtual 57, 3) := by decide +kernel
theorem dX6_shift_114 : decode cX6_shift 114 = .ok (.iload_n 1, 1) := by decide +kernel
theorem dX6_shift_115 : decode cX6_shift 115 = .ok (.iadd, 1) := by decide +kernel
theorem dX6_shift_116 : decode cX6_shift 116 = .ok (.aload_n 0, 1) := by decide +kernel
theorem dX6_shift_117 : decode cX6_shift 117 = .ok (.iload_n 3, 1) := by decide +kernel
theorem dX6_shift_118 : decode cX6_shift 118 = .ok (.invokevirtual 82, 3) := by decide +kernel
theorem dX6_shift_121 : decode cX6_shift 121 = .ok (.invokevirtual 75, 3) := by decide +kernel
theorem dX6_shift_124 : decode cX6_shift 124 = .ok (.iinc 3 1, 3) := by decide +kernel
theorem dX6_shift_127 : decode cX6_shift 127 = .ok (.goto (-30), 3) := by decide +kernel
theorem dX6_shift_130 : decode cX6_shift 130 = .ok (.aload_n 0, 1) := by decide +kernel
theorem dX6_shift_131 : decode cX6_shift 131 = .ok (.getfield 7, 3) := by decide +kernel
theorem dX6_shift_134 : decode cX6_shift 134 = .ok (.iconst 5, 1) := by decide +kernel
theorem dX6_shift_135 : decode cX6_shift 135 = .ok (.iaload, 1) := by decide +kernel
theorem dX6_shift_136 : decode cX6_shift 136 = .ok (.ireturn, 1) := by decide +kernel
theorem dX6_setProducts_0 : decode cX6_setProducts 0 = .ok (.aload_n 0, 1) := by decide +kernel
theorem dX6_setProducts_1 : decode cX6_setProducts 1 = .ok (.iload_n 1, 1) := by decide +kernel
theorem dX6_setProducts_2 : decode cX6_setProducts 2 = .ok (.iconst 0, 1) := by decide +kernel
theorem dX6_setProducts_3 : decode cX6_setProducts 3 = .ok (.bipush 7, 2) := by decide +kernel
theorem dX6_setProducts_5 : decode cX6_setProducts 5 = .ok (.invokestatic 53, 3) := by decide +kernel
theorem dX6_setProducts_8 : decode cX6_setProducts 8 = .ok (.ifCond .eq 29, 3) := by decide +kernel
theorem dX6_setProducts_11 : decode cX6_setProducts 11 = .ok (.iload_n 2, 1) := by decide +kernel
theorem dX6_setProducts_12 : decode cX6_setProducts 12 = .ok (.iconst 0, 1) := by decide +kernel
theorem dX6_setProducts_13 : decode cX6_setProducts 13 = .ok (.sipush 300, 3) := by decide +kernel
theorem dX6_setProducts_16 : decode cX6_setProducts 16 = .ok (.invokestatic 53, 3) := by decide +kernel
theorem dX6_setProducts_19 : decode cX6_setProducts 19 = .ok (.ifCond .eq 18, 3) := by decide +kernel
theorem dX6_setProducts_22 : decode cX6_setProducts 22 = .ok (.iload_n 3, 1) := by decide +kernel
theorem dX6_setProducts_23 : decode cX6_setProducts 23 = .ok (.iconst 0, 1) := by decide +kernel
theorem dX6_setProducts_24 : decode cX6_setProducts 24 = .ok (.sipush 300, 3) := by decide +kernel
theorem dX6_setProducts_27 : decode cX6_setProducts 27 = .ok (.invokestatic 53, 3) := by decide +kernel
theorem dX6_setProducts_30 : decode cX6_setProducts 30 = .ok (.ifCond .eq 7, 3) := by decide +kernel
theorem dX6_setProducts_33 : decode cX6_setProducts 33 = .ok (.iconst 0, 1) := by decide +kernel
theorem dX6_setProducts_34 : decode cX6_setProducts 34 = .ok (.goto 4, 3) := by decide +kernel
theorem dX6_setProducts_37 : decode cX6_setProducts 37 = .ok (.iconst 1, 1) := by decide +kernel
theorem dX6_setProducts_38 : decode cX6_setProducts 38 = .ok (.putfield 43, 3) := by decide +kernel
theorem dX6_setProducts_41 : decode cX6_setProducts 41 = .ok (.aload_n 0, 1) := by decide +kernel
theorem dX6_setProducts_42 : decode cX6_setProducts 42 = .ok (.getfield 43, 3) := by decide +kernel
theorem dX6_setProducts_45 : decode cX6_setProducts 45 = .ok (.ifCond .eq 5, 3) := by decide +kernel
theorem dX6_setProducts_48 : decode cX6_setProducts 48 = .ok (.iconst 0, 1) := by decide +kernel
theorem dX6_setProducts_49 : decode cX6_setProducts 49 = .ok (.ireturn, 1) := by decide +kernel
theorem dX6_setProducts_50 : decode cX6_setProducts 50 = .ok (.aload_n 0, 1) := by decide +kernel
theorem dX6_setProducts_51 : decode cX6_setProducts 51 = .ok (.invokevirtual 72, 3) := by decide +kernel
theorem dX6_setProducts_54 : decode cX6_setProducts 54 = .ok (.aload_n 0, 1) := by decide +kernel
theorem dX6_setProducts_55 : decode cX6_setProducts 55 = .ok (.getfield 7, 3) := by decide +kernel
theorem dX6_setProducts_58 : decode cX6_setProducts 58 = .ok (.iconst 0, 1) := by decide +kernel
theorem dX6_setProducts_59 : decode cX6_setProducts 59 = .ok (.iaload, 1) := by decide +kernel
theorem dX6_setProducts_60 : decode cX6_setProducts 60 = .ok (.istore 4, 2) := by decide +kernel
theorem dX6_setProducts_62 : decode cX6_setProducts 62 = .ok (.aload_n 0, 1) := by decide +kernel
theorem dX6_setProducts_63 : decode cX6_setProducts 63 = .ok (.getfield 7, 3) := by decide +kernel
theorem dX6_setProducts_66 : decode cX6_setProducts 66 = .ok (.iconst 0, 1) := by decide +kernel
theorem dX6_setProducts_67 : decode cX6_setProducts 67 = .ok (.iload_n 1, 1) := by decide +kernel
theorem dX6_setProducts_68 : decode cX6_setProducts 68 = .ok (.iastore, 1) := by decide +kernel
theorem dX6_setProducts_69 : decode cX6_setProducts 69 = .ok (.aload_n 0, 1) := by decide +kernel
theorem dX6_setProducts_70 : decode cX6_setProducts 70 = .ok (.getfield 7, 3) := by decide +kernel
theorem dX6_setProducts_73 : decode cX6_setProducts 73 = .ok (.iconst 1, 1) := by decide +kernel
theorem dX6_setProducts_74 : decode cX6_setProducts 74 = .ok (.iload_n 2, 1) := by decide +kernel
theorem dX6_setProducts_75 : decode cX6_setProducts 75 = .ok (.iastore, 1) := by decide +kernel
theorem dX6_setProducts_76 : decode cX6_setProducts 76 = .ok (.aload_n 0, 1) := by decide +kernel
theorem dX6_setProducts_77 : decode cX6_setProducts 77 = .ok (.getfield 7, 3) := by decide +kernel
theorem dX6_setProducts_80 : decode cX6_setProducts 80 = .ok (.iconst 2, 1) := by decide +kernel
theorem dX6_setProducts_81 : decode cX6_setProducts 81 = .ok (.iload_n 3, 1) := by decide +kernel
theorem dX6_setProducts_82 : decode cX6_setProducts 82 = .ok (.iastore, 1) := by decide +kernel
theorem dX6_setProducts_83 : decode cX6_setProducts 83 = .ok (.iload 4, 2) := by decide +kernel
theorem dX6_setProducts_85 : decode cX6_setProducts 85 = .ok (.ireturn, 1) := by decide +kernel
theorem dX6_setSpacing_0 : decode cX6_setSpacing 0 = .ok (.aload_n 0, 1) := by decide +kernel
theorem dX6_setSpacing_1 : decode cX6_setSpacing 1 = .ok (.iload_n 1, 1) := by decide +kernel
theorem dX6_setSpacing_2 : decode cX6_setSpacing 2 = .ok (.iconst 0, 1) := by decide +kernel
theorem dX6_setSpacing_3 : decode cX6_setSpacing 3 = .ok (.iconst 5, 1) := by decide +kernel
theorem dX6_setSpacing_4 : decode cX6_setSpacing 4 = .ok (.invokestatic 53, 3) := by decide +kernel
theorem dX6_setSpacing_7 : decode cX6_setSpacing 7 = .ok (.ifCond .eq 17, 3) := by decide +kernel
theorem dX6_setSpacing_10 : decode cX6_setSpacing 10 = .ok (.iload_n 2, 1) := by decide +kernel
theorem dX6_setSpacing_11 : decode cX6_setSpacing 11 = .ok (.iconst 1, 1) := by decide +kernel
theorem dX6_setSpacing_12 : decode cX6_setSpacing 12 = .ok (.bipush 10, 2) := by decide +kernel
theorem dX6_setSpacing_14 : decode cX6_setSpacing 14 = .ok (.invokestatic 53, 3) := by decide +kernel
theorem dX6_setSpacing_17 : decode cX6_setSpacing 17 = .ok (.ifCond .eq 7, 3) := by decide +kernel
theorem dX6_setSpacing_20 : decode cX6_setSpacing 20 = .ok (.iconst 0, 1) := by decide +kernel
theorem dX6_setSpacing_21 : decode cX6_setSpacing 21 = .ok (.goto 4, 3) := by decide +kernel
theorem dX6_setSpacing_24 : decode cX6_setSpacing 24 = .ok (.iconst 1, 1) := by decide +kernel
theorem dX6_setSpacing_25 : decode cX6_setSpacing 25 = .ok (.putfield 43, 3) := by decide +kernel
theorem dX6_setSpacing_28 : decode cX6_setSpacing 28 = .ok (.aload_n 0, 1) := by decide +kernel
theorem dX6_setSpacing_29 : decode cX6_setSpacing 29 = .ok (.getfield 43, 3) := by decide +kernel
theorem dX6_setSpacing_32 : decode cX6_setSpacing 32 = .ok (.ifCond .eq 5, 3) := by decide +kernel
theorem dX6_setSpacing_35 : decode cX6_setSpacing 35 = .ok (.iconst 0, 1) := by decide +kernel
theorem dX6_setSpacing_36 : decode cX6_setSpacing 36 = .ok (.ireturn, 1) := by decide +kernel
theorem dX6_setSpacing_37 : decode cX6_setSpacing 37 = .ok (.aload_n 0, 1) := by decide +kernel
theorem dX6_setSpacing_38 : decode cX6_setSpacing 38 = .ok (.invokevirtual 72, 3) := by decide +kernel
theorem dX6_setSpacing_41 : decode cX6_setSpacing 41 = .ok (.aload_n 0, 1) := by decide +kernel
theorem dX6_setSpacing_42 : decode cX6_setSpacing 42 = .ok (.getfield 7, 3) := by decide +kernel
theorem dX6_setSpacing_45 : decode cX6_setSpacing 45 = .ok (.iconst 3, 1) := by decide +kernel
theorem dX6_setSpacing_46 : decode cX6_setSpacing 46 = .ok (.iaload, 1) := by decide +kernel
theorem dX6_setSpacing_47 : decode cX6_setSpacing 47 = .ok (.istore_n 3, 1) := by decide +kernel
theorem dX6_setSpacing_48 : decode cX6_setSpacing 48 = .ok (.aload_n 0, 1) := by decide +kernel
theorem dX6_setSpacing_49 : decode cX6_setSpacing 49 = .ok (.getfield 7, 3) := by decide +kernel
theorem dX6_setSpacing_52 : decode cX6_setSpacing 52 = .ok (.iconst 3, 1) := by decide +kernel
theorem dX6_setSpacing_53 : decode cX6_setSpacing 53 = .ok (.iload_n 1, 1) := by decide +kernel
theorem dX6_setSpacing_54 : decode cX6_setSpacing 54 = .ok (.iastore, 1) := by decide +kernel
theorem dX6_setSpacing_55 : decode cX6_setSpacing 55 = .ok (.aload_n 0, 1) := by decide +kernel
theorem dX6_setSpacing_56 : decode cX6_setSpacing 56 = .ok (.getfield 7, 3) := by decide +kernel
theorem dX6_setSpacing_59 : decode cX6_setSpacing 59 = .ok (.iconst 4, 1) := by decide +kernel
theorem dX6_setSpacing_60 : decode cX6_setSpacing 60 = .ok (.iload_n 2, 1) := by decide +kernel
theorem dX6_setSpacing_61 : decode cX6_setSpacing 61 = .ok (.iastore, 1) := by decide +kernel
theorem dX6_setSpacing_62 : decode cX6_setSpacing 62 = .ok (.iload_n 3, 1) := by decide +kernel
theorem dX6_setSpacing_63 : decode cX6_setSpacing 63 = .ok (.ireturn, 1) := by decide +kernel
theorem dX6_size_0 : decode cX6_size 0 = .ok (.aload_n 0, 1) := by decide +kernel
theorem dX6_size_1 : decode cX6_size 1 = .ok (.iload_n 1, 1) := by decide +kernel
theorem dX6_size_2 : decode cX6_size 2 = .ok (.iconst 0, 1) := by decide +kernel
theorem dX6_size_3 : decode cX6_size 3 = .ok (.iconst 2, 1) := by decide +kernel
theorem dX6_size_4 : decode cX6_size 4 = .ok (.invokestatic 53, 3) := by decide +kernel
theorem dX6_size_7 : decode cX6_size 7 = .ok (.ifCond .eq 7, 3) := by decide +kernel
theorem dX6_size_10 : decode cX6_size 10 = .ok (.iconst 0, 1) := by decide +kernel
theorem dX6_size_11 : decode cX6_size 11 = .ok (.goto 4, 3) := by decide +kernel
theorem dX6_size_14 : decode cX6_size 14 = .ok (.iconst 1, 1) := by decide +kernel
theorem dX6_size_15 : decode cX6_size 15 = .ok (.putfield 43, 3) := by decide +kernel
theorem dX6_size_18 : decode cX6_size 18 = .ok (.aload_n 0, 1) := by decide +kernel
theorem dX6_size_19 : decode cX6_size 19 = .ok (.getfield 43, 3) := by decide +kernel
theorem dX6_size_22 : decode cX6_size 22 = .ok (.ifCond .eq 5, 3) := by decide +kernel
theorem dX6_size_25 : decode cX6_size 25 = .ok (.iconst 0, 1) := by decide +kernel
theorem dX6_size_26 : decode cX6_size 26 = .ok (.ireturn, 1) := by decide +kernel
theorem dX6_size_27 : decode cX6_size 27 = .ok (.iload_n 1, 1) := by decide +kernel
theorem dX6_size_28 : decode cX6_size 28 = .ok (.ifCond .ne 12, 3) := by decide +kernel
theorem dX6_size_31 : decode cX6_size 31 = .ok (.aload_n 0, 1) := by decide +kernel
theorem dX6_size_32 : decode cX6_size 32 = .ok (.getfield 7, 3) := by decide +kernel
theorem dX6_size_35 : decode cX6_size 35 = .ok (.iconst 5, 1) := by decide +kernel
theorem dX6_size_36 : decode cX6_size 36 = .ok (.iaload, 1) := by decide +kernel
theorem dX6_size_37 : decode cX6_size 37 = .ok (.goto 25, 3) := by decide +kernel
theorem dX6_size_40 : decode cX6_size 40 = .ok (.iload_n 1, 1) := by decide +kernel
theorem dX6_size_41 : decode cX6_size 41 = .ok (.iconst 1, 1) := by decide +kernel
theorem dX6_size_42 : decode cX6_size 42 = .ok (.if_icmp .ne 13, 3) := by decide +kernel
theorem dX6_size_45 : decode cX6_size 45 = .ok (.aload_n 0, 1) := by decide +kernel
theorem dX6_size_46 : decode cX6_size 46 = .ok (.getfield 7, 3) := by decide +kernel
theorem dX6_size_49 : decode cX6_size 49 = .ok (.bipush 26, 2) := by decide +kernel
theorem dX6_size_51 : decode cX6_size 51 = .ok (.iaload, 1) := by decide +kernel
theorem dX6_size_52 : decode cX6_size 52 = .ok (.goto 10, 3) := by decide +kernel
theorem dX6_size_55 : decode cX6_size 55 = .ok (.aload_n 0, 1) := by decide +kernel
theorem dX6_size_56 : decode cX6_size 56 = .ok (.getfield 7, 3) := by decide +kernel
theorem dX6_size_59 : decode cX6_size 59 = .ok (.bipush 32, 2) := by decide +kernel
theorem dX6_size_61 : decode cX6_size 61 = .ok (.iaload, 1) := by decide +kernel
theorem dX6_size_62 : decode cX6_size 62 = .ok (.ireturn, 1) := by decide +kernel
theorem dX6_carrier_0 : decode cX6_carrier 0 = .ok (.aload_n 0, 1) := by decide +kernel
theorem dX6_carrier_1 : decode cX6_carrier 1 = .ok (.aload_n 0, 1) := by decide +kernel
theorem dX6_carrier_2 : decode cX6_carrier 2 = .ok (.iload_n 1, 1) := by decide +kernel
theorem dX6_carrier_3 : decode cX6_carrier 3 = .ok (.invokevirtual 79, 3) := by decide +kernel
theorem dX6_carrier_6 : decode cX6_carrier 6 = .ok (.ifCond .eq 7, 3) := by decide +kernel
theorem dX6_carrier_9 : decode cX6_carrier 9 = .ok (.iconst 0, 1) := by decide +kernel
theorem dX6_carrier_10 : decode cX6_carrier 10 = .ok (.goto 4, 3) := by decide +kernel
theorem dX6_carrier_13 : decode cX6_carrier 13 = .ok (.iconst 1, 1) := by decide +kernel
theorem dX6_carrier_14 : decode cX6_carrier 14 = .ok (.putfield 43, 3) := by decide +kernel
theorem dX6_carrier_17 : decode cX6_carrier 17 = .ok (.aload_n 0, 1) := by decide +kernel
theorem dX6_carrier_18 : decode cX6_carrier 18 = .ok (.getfield 43, 3) := by decide +kernel
theorem dX6_carrier_21 : decode cX6_carrier 21 = .ok (.ifCond .eq 7, 3) := by decide +kernel
theorem dX6_carrier_24 : decode cX6_carrier 24 = .ok (.iconst 0, 1) := by decide +kernel
theorem dX6_carrier_25 : decode cX6_carrier 25 = .ok (.goto 20, 3) := by decide +kernel
theorem dX6_carrier_28 : decode cX6_carrier 28 = .ok (.iload_n 2, 1) := by decide +kernel
theorem dX6_carrier_29 : decode cX6_carrier 29 = .ok (.ifCond .eq 11, 3) := by decide +kernel
theorem dX6_carrier_32 : decode cX6_carrier 32 = .ok (.aload_n 0, 1) := by decide +kernel
theorem dX6_carrier_33 : decode cX6_carrier 33 = .ok (.iload_n 1, 1) := by decide +kernel
theorem dX6_carrier_34 : decode cX6_carrier 34 = .ok (.invokevirtual 82, 3) := by decide +kernel
theorem dX6_carrier_37 : decode cX6_carrier 37 = .ok (.goto 8, 3) := by decide +kernel
theorem dX6_carrier_40 : decode cX6_carrier 40 = .ok (.aload_n 0, 1) := by decide +kernel
theorem dX6_carrier_41 : decode cX6_carrier 41 = .ok (.iload_n 1, 1) := by decide +kernel
theorem dX6_carrier_42 : decode cX6_carrier 42 = .ok (.invokevirtual 57, 3) := by decide +kernel
theorem dX6_carrier_45 : decode cX6_carrier 45 = .ok (.ireturn, 1) := by decide +kernel
theorem dX6_channels_0 : decode cX6_channels 0 = .ok (.aload_n 0, 1) := by decide +kernel
theorem dX6_channels_1 : decode cX6_channels 1 = .ok (.iconst 0, 1) := by decide +kernel
theorem dX6_channels_2 : decode cX6_channels 2 = .ok (.putfield 43, 3) := by decide +kernel
theorem dX6_channels_5 : decode cX6_channels 5 = .ok (.lconst 0, 1) := by decide +kernel
theorem dX6_channels_6 : decode cX6_channels 6 = .ok (.lstore_n 1, 1) := by decide +kernel
theorem dX6_channels_7 : decode cX6_channels 7 = .ok (.iconst 0, 1) := by decide +kernel
theorem dX6_channels_8 : decode cX6_channels 8 = .ok (.istore_n 3, 1) := by decide +kernel
theorem dX6_channels_9 : decode cX6_channels 9 = .ok (.iload_n 3, 1) := by decide +kernel
theorem dX6_channels_10 : decode cX6_channels 10 = .ok (.aload_n 0, 1) := by decide +kernel
theorem dX6_channels_11 : decode cX6_channels 11 = .ok (.getfield 7, 3) := by decide +kernel
theorem dX6_channels_14 : decode cX6_channels 14 = .ok (.iconst 5, 1) := by decide +kernel
theorem dX6_channels_15 : decode cX6_channels 15 = .ok (.iaload, 1) := by decide +kernel
theorem dX6_channels_16 : decode cX6_channels 16 = .ok (.if_icmp .ge 19, 3) := by decide +kernel
theorem dX6_channels_19 : decode cX6_channels 19 = .ok (.lload_n 1, 1) := by decide +kernel
theorem dX6_channels_20 : decode cX6_channels 20 = .ok (.lconst 1, 1) := by decide +kernel
theorem dX6_channels_21 : decode cX6_channels 21 = .ok (.aload_n 0, 1) := by decide +kernel
theorem dX6_channels_22 : decode cX6_channels 22 = .ok (.iload_n 3, 1) := by decide +kernel
theorem dX6_channels_23 : decode cX6_channels 23 = .ok (.invokevirtual 57, 3) := by decide +kernel
theorem dX6_channels_26 : decode cX6_channels 26 = .ok (.lshl, 1) := by decide +kernel
theorem dX6_channels_27 : decode cX6_channels 27 = .ok (.lor, 1) := by decide +kernel
theorem dX6_channels_28 : decode cX6_channels 28 = .ok (.lstore_n 1, 1) := by decide +kernel
theorem dX6_channels_29 : decode cX6_channels 29 = .ok (.iinc 3 1, 3) := by decide +kernel
theorem dX6_channels_32 : decode cX6_channels 32 = .ok (.goto (-23), 3) := by decide +kernel
theorem dX6_channels_35 : decode cX6_channels 35 = .ok (.lload_n 1, 1) := by decide +kernel
theorem dX6_channels_36 : decode cX6_channels 36 = .ok (.lreturn, 1) := by decide +kernel
theorem dX6_falls_0 : decode cX6_falls 0 = .ok (.iload_n 1, 1) := by decide +kernel
theorem dX6_falls_1 : decode cX6_falls 1 = .ok (.ifCond .ne 21, 3) := by decide +kernel
theorem dX6_falls_4 : decode cX6_falls 4 = .ok (.iconst 2, 1) := by decide +kernel
theorem dX6_falls_5 : decode cX6_falls 5 = .ok (.aload_n 0, 1) := by decide +kernel
theorem dX6_falls_6 : decode cX6_falls 6 = .ok (.getfield 19, 3) := by decide +kernel
theorem dX6_falls_9 : decode cX6_falls 9 = .ok (.iload_n 2, 1) := by decide +kernel
theorem dX6_falls_10 : decode cX6_falls 10 = .ok (.iaload, 1) := by decide +kernel
theorem dX6_falls_11 : decode cX6_falls 11 = .ok (.imul, 1) := by decide +kernel
theorem dX6_falls_12 : decode cX6_falls 12 = .ok (.aload_n 0, 1) := by decide +kernel
theorem dX6_falls_13 : decode cX6_falls 13 = .ok (.getfield 19, 3) := by decide +kernel
theorem dX6_falls_16 : decode cX6_falls 16 = .ok (.iload_n 3, 1) := by decide +kernel
theorem dX6_falls_17 : decode cX6_falls 17 = .ok (.iaload, 1) := by decide +kernel
theorem dX6_falls_18 : decode cX6_falls 18 = .ok (.isub, 1) := by decide +kernel
theorem dX6_falls_19 : decode cX6_falls 19 = .ok (.goto 49, 3) := by decide +kernel
theorem dX6_falls_22 : decode cX6_falls 22 = .ok (.iload_n 1, 1) := by decide +kernel
theorem dX6_falls_23 : decode cX6_falls 23 = .ok (.iconst 1, 1) := by decide +kernel
theorem dX6_falls_24 : decode cX6_falls 24 = .ok (.if_icmp .ne 27, 3) := by decide +kernel
theorem dX6_falls_27 : decode cX6_falls 27 = .ok (.aload_n 0, 1) := by decide +kernel
theorem dX6_falls_28 : decode cX6_falls 28 = .ok (.getfield 19, 3) := by decide +kernel
theorem dX6_falls_31 : decode cX6_falls 31 = .ok (.iload_n 2, 1) := by decide +kernel
theorem dX6_falls_32 : decode cX6_falls 32 = .ok (.iaload, 1) := by decide +kernel
theorem dX6_falls_33 : decode cX6_falls 33 = .ok (.aload_n 0, 1) := by decide +kernel
theorem dX6_falls_34 : decode cX6_falls 34 = .ok (.getfield 19, 3) := by decide +kernel
theorem dX6_falls_37 : decode cX6_falls 37 = .ok (.iload_n 3, 1) := by decide +kernel
theorem dX6_falls_38 : decode cX6_falls 38 = .ok (.iaload, 1) := by decide +kernel
theorem dX6_falls_39 : decode cX6_falls 39 = .ok (.iadd, 1) := by decide +kernel
theorem dX6_falls_40 : decode cX6_falls 40 = .ok (.aload_n 0, 1) := by decide +kernel
theorem dX6_falls_41 : decode cX6_falls 41 = .ok (.getfield 19, 3) := by decide +kernel
theorem dX6_falls_44 : decode cX6_falls 44 = .ok (.iload 4, 2) := by decide +kernel
theorem dX6_falls_46 : decode cX6_falls 46 = .ok (.iaload, 1) := by decide +kernel
theorem dX6_falls_47 : decode cX6_falls 47 = .ok (.isub, 1) := by decide +kernel
theorem dX6_falls_48 : decode cX6_falls 48 = .ok (.goto 20, 3) := by decide +kernel
theorem dX6_falls_51 : decode cX6_falls 51 = .ok (.iconst 3, 1) := by decide +kernel
theorem dX6_falls_52 : decode cX6_falls 52 = .ok (.aload_n 0, 1) := by decide +kernel
theorem dX6_falls_53 : decode cX6_falls 53 = .ok (.getfield 19, 3) := by decide +kernel
theorem dX6_falls_56 : decode cX6_falls 56 = .ok (.iload_n 2, 1) := by decide +kernel
theorem dX6_falls_57 : decode cX6_falls 57 = .ok (.iaload, 1) := by decide +kernel
theorem dX6_falls_58 : decode cX6_falls 58 = .ok (.imul, 1) := by decide +kernel
theorem dX6_falls_59 : decode cX6_falls 59 = .ok (.iconst 2, 1) := by decide +kernel
theorem dX6_falls_60 : decode cX6_falls 60 = .ok (.aload_n 0, 1) := by decide +kernel
theorem dX6_falls_61 : decode cX6_falls 61 = .ok (.getfield 19, 3) := by decide +kernel
theorem dX6_falls_64 : decode cX6_falls 64 = .ok (.iload_n 3, 1) := by decide +kernel
theorem dX6_falls_65 : decode cX6_falls 65 = .ok (.iaload, 1) := by decide +kernel
theorem dX6_falls_66 : decode cX6_falls 66 = .ok (.imul, 1) := by decide +kernel
theorem dX6_falls_67 : decode cX6_falls 67 = .ok (.isub, 1) := by decide +kernel
theorem dX6_falls_68 : decode cX6_falls 68 = .ok (.istore 5, 2) := by decide +kernel
theorem dX6_falls_70 : decode cX6_falls 70 = .ok (.iload 5, 2) := by decide +kernel
theorem dX6_falls_72 : decode cX6_falls 72 = .ok (.invokestatic 61, 3) := by decide +kernel
theorem dX6_falls_75 : decode cX6_falls 75 = .ok (.ifCond .eq 33, 3) := by decide +kernel
theorem dX6_falls_78 : decode cX6_falls 78 = .ok (.aload_n 0, 1) := by decide +kernel
theorem dX6_falls_79 : decode cX6_falls 79 = .ok (.getfield 7, 3) := by decide +kernel
theorem dX6_falls_82 : decode cX6_falls 82 = .ok (.iconst 0, 1) := by decide +kernel
theorem dX6_falls_83 : decode cX6_falls 83 = .ok (.iaload, 1) := by decide +kernel
theorem dX6_falls_84 : decode cX6_falls 84 = .ok (.iload_n 1, 1) := by decide +kernel
theorem dX6_falls_85 : decode cX6_falls 85 = .ok (.invokestatic 85, 3) := by decide +kernel
theorem dX6_falls_88 : decode cX6_falls 88 = .ok (.ifCond .eq 20, 3) := by decide +kernel
theorem dX6_falls_91 : decode cX6_falls 91 = .ok (.aload_n 0, 1) := by decide +kernel
theorem dX6_falls_92 : decode cX6_falls 92 = .ok (.iload_n 1, 1) := by decide +kernel
theorem dX6_falls_93 : decode cX6_falls 93 = .ok (.iload_n 2, 1) := by decide +kernel
theorem dX6_falls_94 : decode cX6_falls 94 = .ok (.iload_n 3, 1) := by decide +kernel
theorem dX6_falls_95 : decode cX6_falls 95 = .ok (.iload 4, 2) := by decide +kernel
theorem dX6_falls_97 : decode cX6_falls 97 = .ok (.invokevirtual 88, 3) := by decide +kernel
theorem dX6_falls_100 : decode cX6_falls 100 = .ok (.ifCond .lt 8, 3) := by decide +kernel
theorem dX6_falls_103 : decode cX6_falls 103 = .ok (.iload 5, 2) := by decide +kernel
theorem dX6_falls_105 : decode cX6_falls 105 = .ok (.goto 4, 3) := by decide +kernel
theorem dX6_falls_108 : decode cX6_falls 108 = .ok (.iconst (-1), 1) := by decide +kernel
theorem dX6_falls_109 : decode cX6_falls 109 = .ok (.ireturn, 1) := by decide +kernel
theorem dX6_level_0 : decode cX6_level 0 = .ok (.iload_n 1, 1) := by decide +kernel
