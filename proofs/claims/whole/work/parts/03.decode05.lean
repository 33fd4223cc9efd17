theorem dX10_sharesOf_23 : decode cX10_sharesOf 23 = .ok (.iinc 3 1, 3) := by decide +kernel
theorem dX10_sharesOf_26 : decode cX10_sharesOf 26 = .ok (.goto (-22), 3) := by decide +kernel
theorem dX10_sharesOf_29 : decode cX10_sharesOf 29 = .ok (.iload_n 2, 1) := by decide +kernel
theorem dX10_sharesOf_30 : decode cX10_sharesOf 30 = .ok (.ireturn, 1) := by decide +kernel
theorem dX10_assist_0 : decode cX10_assist 0 = .ok (.aload_n 0, 1) := by decide +kernel
theorem dX10_assist_1 : decode cX10_assist 1 = .ok (.iconst 0, 1) := by decide +kernel
theorem dX10_assist_2 : decode cX10_assist 2 = .ok (.putfield 1, 3) := by decide +kernel
theorem dX10_assist_5 : decode cX10_assist 5 = .ok (.aload_n 0, 1) := by decide +kernel
theorem dX10_assist_6 : decode cX10_assist 6 = .ok (.getfield 13, 3) := by decide +kernel
theorem dX10_assist_9 : decode cX10_assist 9 = .ok (.iconst 2, 1) := by decide +kernel
theorem dX10_assist_10 : decode cX10_assist 10 = .ok (.iaload, 1) := by decide +kernel
theorem dX10_assist_11 : decode cX10_assist 11 = .ok (.iload_n 1, 1) := by decide +kernel
theorem dX10_assist_12 : decode cX10_assist 12 = .ok (.invokestatic 278, 3) := by decide +kernel
theorem dX10_assist_15 : decode cX10_assist 15 = .ok (.ifCond .eq 22, 3) := by decide +kernel
theorem dX10_assist_18 : decode cX10_assist 18 = .ok (.iload_n 2, 1) := by decide +kernel
theorem dX10_assist_19 : decode cX10_assist 19 = .ok (.i2l, 1) := by decide +kernel
theorem dX10_assist_20 : decode cX10_assist 20 = .ok (.lconst 0, 1) := by decide +kernel
theorem dX10_assist_21 : decode cX10_assist 21 = .ok (.lconst 1, 1) := by decide +kernel
theorem dX10_assist_22 : decode cX10_assist 22 = .ok (.invokestatic 97, 3) := by decide +kernel
theorem dX10_assist_25 : decode cX10_assist 25 = .ok (.ifCond .eq 12, 3) := by decide +kernel
theorem dX10_assist_28 : decode cX10_assist 28 = .ok (.aload_n 0, 1) := by decide +kernel
theorem dX10_assist_29 : decode cX10_assist 29 = .ok (.iload_n 1, 1) := by decide +kernel
theorem dX10_assist_30 : decode cX10_assist 30 = .ok (.iload_n 2, 1) := by decide +kernel
theorem dX10_assist_31 : decode cX10_assist 31 = .ok (.invokevirtual 320, 3) := by decide +kernel
theorem dX10_assist_34 : decode cX10_assist 34 = .ok (.goto 4, 3) := by decide +kernel
theorem dX10_assist_37 : decode cX10_assist 37 = .ok (.iconst (-1), 1) := by decide +kernel
theorem dX10_assist_38 : decode cX10_assist 38 = .ok (.ireturn, 1) := by decide +kernel
theorem dX10_share_0 : decode cX10_share 0 = .ok (.aload_n 0, 1) := by decide +kernel
theorem dX10_share_1 : decode cX10_share 1 = .ok (.iconst 0, 1) := by decide +kernel
theorem dX10_share_2 : decode cX10_share 2 = .ok (.putfield 1, 3) := by decide +kernel
theorem dX10_share_5 : decode cX10_share 5 = .ok (.aload_n 0, 1) := by decide +kernel
theorem dX10_share_6 : decode cX10_share 6 = .ok (.getfield 13, 3) := by decide +kernel
theorem dX10_share_9 : decode cX10_share 9 = .ok (.iconst 2, 1) := by decide +kernel
theorem dX10_share_10 : decode cX10_share 10 = .ok (.iaload, 1) := by decide +kernel
theorem dX10_share_11 : decode cX10_share 11 = .ok (.iload_n 1, 1) := by decide +kernel
theorem dX10_share_12 : decode cX10_share 12 = .ok (.invokestatic 278, 3) := by decide +kernel
theorem dX10_share_15 : decode cX10_share 15 = .ok (.ifCond .eq 20, 3) := by decide +kernel
theorem dX10_share_18 : decode cX10_share 18 = .ok (.aload_n 0, 1) := by decide +kernel
theorem dX10_share_19 : decode cX10_share 19 = .ok (.iload_n 2, 1) := by decide +kernel
theorem dX10_share_20 : decode cX10_share 20 = .ok (.invokevirtual 288, 3) := by decide +kernel
theorem dX10_share_23 : decode cX10_share 23 = .ok (.ifCond .eq 12, 3) := by decide +kernel
theorem dX10_share_26 : decode cX10_share 26 = .ok (.aload_n 0, 1) := by decide +kernel
theorem dX10_share_27 : decode cX10_share 27 = .ok (.iload_n 1, 1) := by decide +kernel
theorem dX10_share_28 : decode cX10_share 28 = .ok (.iload_n 2, 1) := by decide +kernel
theorem dX10_share_29 : decode cX10_share 29 = .ok (.invokevirtual 323, 3) := by decide +kernel
theorem dX10_share_32 : decode cX10_share 32 = .ok (.goto 4, 3) := by decide +kernel
theorem dX10_share_35 : decode cX10_share 35 = .ok (.iconst (-1), 1) := by decide +kernel
theorem dX10_share_36 : decode cX10_share 36 = .ok (.ireturn, 1) := by decide +kernel
theorem dX10_rest_0 : decode cX10_rest 0 = .ok (.aload_n 0, 1) := by decide +kernel
theorem dX10_rest_1 : decode cX10_rest 1 = .ok (.iconst 0, 1) := by decide +kernel
theorem dX10_rest_2 : decode cX10_rest 2 = .ok (.putfield 1, 3) := by decide +kernel
theorem dX10_rest_5 : decode cX10_rest 5 = .ok (.aload_n 0, 1) := by decide +kernel
theorem dX10_rest_6 : decode cX10_rest 6 = .ok (.getfield 13, 3) := by decide +kernel
theorem dX10_rest_9 : decode cX10_rest 9 = .ok (.iconst 2, 1) := by decide +kernel
theorem dX10_rest_10 : decode cX10_rest 10 = .ok (.iaload, 1) := by decide +kernel
theorem dX10_rest_11 : decode cX10_rest 11 = .ok (.iload_n 1, 1) := by decide +kernel
theorem dX10_rest_12 : decode cX10_rest 12 = .ok (.invokestatic 278, 3) := by decide +kernel
theorem dX10_rest_15 : decode cX10_rest 15 = .ok (.ifCond .ne 5, 3) := by decide +kernel
theorem dX10_rest_18 : decode cX10_rest 18 = .ok (.iconst (-1), 1) := by decide +kernel
theorem dX10_rest_19 : decode cX10_rest 19 = .ok (.ireturn, 1) := by decide +kernel
theorem dX10_rest_20 : decode cX10_rest 20 = .ok (.aload_n 0, 1) := by decide +kernel
theorem dX10_rest_21 : decode cX10_rest 21 = .ok (.iload_n 1, 1) := by decide +kernel
theorem dX10_rest_22 : decode cX10_rest 22 = .ok (.iconst 0, 1) := by decide +kernel
theorem dX10_rest_23 : decode cX10_rest 23 = .ok (.invokevirtual 320, 3) := by decide +kernel
theorem dX10_rest_26 : decode cX10_rest 26 = .ok (.istore_n 2, 1) := by decide +kernel
theorem dX10_rest_27 : decode cX10_rest 27 = .ok (.iconst 0, 1) := by decide +kernel
theorem dX10_rest_28 : decode cX10_rest 28 = .ok (.istore_n 3, 1) := by decide +kernel
theorem dX10_rest_29 : decode cX10_rest 29 = .ok (.iload_n 3, 1) := by decide +kernel
theorem dX10_rest_30 : decode cX10_rest 30 = .ok (.aload_n 0, 1) := by decide +kernel
theorem dX10_rest_31 : decode cX10_rest 31 = .ok (.getfield 13, 3) := by decide +kernel
theorem dX10_rest_34 : decode cX10_rest 34 = .ok (.iconst 3, 1) := by decide +kernel
theorem dX10_rest_35 : decode cX10_rest 35 = .ok (.iaload, 1) := by decide +kernel
theorem dX10_rest_36 : decode cX10_rest 36 = .ok (.if_icmp .ge 18, 3) := by decide +kernel
theorem dX10_rest_39 : decode cX10_rest 39 = .ok (.iload_n 2, 1) := by decide +kernel
theorem dX10_rest_40 : decode cX10_rest 40 = .ok (.aload_n 0, 1) := by decide +kernel
theorem dX10_rest_41 : decode cX10_rest 41 = .ok (.iload_n 1, 1) := by decide +kernel
theorem dX10_rest_42 : decode cX10_rest 42 = .ok (.iload_n 3, 1) := by decide +kernel
theorem dX10_rest_43 : decode cX10_rest 43 = .ok (.invokevirtual 323, 3) := by decide +kernel
theorem dX10_rest_46 : decode cX10_rest 46 = .ok (.isub, 1) := by decide +kernel
theorem dX10_rest_47 : decode cX10_rest 47 = .ok (.istore_n 2, 1) := by decide +kernel
theorem dX10_rest_48 : decode cX10_rest 48 = .ok (.iinc 3 1, 3) := by decide +kernel
theorem dX10_rest_51 : decode cX10_rest 51 = .ok (.goto (-22), 3) := by decide +kernel
theorem dX10_rest_54 : decode cX10_rest 54 = .ok (.iload_n 2, 1) := by decide +kernel
theorem dX10_rest_55 : decode cX10_rest 55 = .ok (.ireturn, 1) := by decide +kernel
theorem dX10_ownAt_0 : decode cX10_ownAt 0 = .ok (.iload_n 2, 1) := by decide +kernel
theorem dX10_ownAt_1 : decode cX10_ownAt 1 = .ok (.i2l, 1) := by decide +kernel
theorem dX10_ownAt_2 : decode cX10_ownAt 2 = .ok (.aload_n 0, 1) := by decide +kernel
theorem dX10_ownAt_3 : decode cX10_ownAt 3 = .ok (.iload_n 1, 1) := by decide +kernel
theorem dX10_ownAt_4 : decode cX10_ownAt 4 = .ok (.iconst 3, 1) := by decide +kernel
theorem dX10_ownAt_5 : decode cX10_ownAt 5 = .ok (.invokevirtual 281, 3) := by decide +kernel
theorem dX10_ownAt_8 : decode cX10_ownAt 8 = .ok (.i2l, 1) := by decide +kernel
theorem dX10_ownAt_9 : decode cX10_ownAt 9 = .ok (.lmul, 1) := by decide +kernel
theorem dX10_ownAt_10 : decode cX10_ownAt 10 = .ok (.lstore_n 3, 1) := by decide +kernel
theorem dX10_ownAt_11 : decode cX10_ownAt 11 = .ok (.lload_n 3, 1) := by decide +kernel
theorem dX10_ownAt_12 : decode cX10_ownAt 12 = .ok (.lload_n 3, 1) := by decide +kernel
theorem dX10_ownAt_13 : decode cX10_ownAt 13 = .ok (.aload_n 0, 1) := by decide +kernel
theorem dX10_ownAt_14 : decode cX10_ownAt 14 = .ok (.iload_n 1, 1) := by decide +kernel
theorem dX10_ownAt_15 : decode cX10_ownAt 15 = .ok (.bipush 7, 2) := by decide +kernel
theorem dX10_ownAt_17 : decode cX10_ownAt 17 = .ok (.invokevirtual 281, 3) := by decide +kernel
theorem dX10_ownAt_20 : decode cX10_ownAt 20 = .ok (.i2l, 1) := by decide +kernel
theorem dX10_ownAt_21 : decode cX10_ownAt 21 = .ok (.lmul, 1) := by decide +kernel
theorem dX10_ownAt_22 : decode cX10_ownAt 22 = .ok (.ldc2_w 326, 3) := by decide +kernel
theorem dX10_ownAt_25 : decode cX10_ownAt 25 = .ok (.ldiv, 1) := by decide +kernel
theorem dX10_ownAt_26 : decode cX10_ownAt 26 = .ok (.ladd, 1) := by decide +kernel
theorem dX10_ownAt_27 : decode cX10_ownAt 27 = .ok (.aload_n 0, 1) := by decide +kernel
theorem dX10_ownAt_28 : decode cX10_ownAt 28 = .ok (.iload_n 1, 1) := by decide +kernel
theorem dX10_ownAt_29 : decode cX10_ownAt 29 = .ok (.bipush 8, 2) := by decide +kernel
theorem dX10_ownAt_31 : decode cX10_ownAt 31 = .ok (.invokevirtual 281, 3) := by decide +kernel
theorem dX10_ownAt_34 : decode cX10_ownAt 34 = .ok (.i2l, 1) := by decide +kernel
theorem dX10_ownAt_35 : decode cX10_ownAt 35 = .ok (.ladd, 1) := by decide +kernel
theorem dX10_ownAt_36 : decode cX10_ownAt 36 = .ok (.aload_n 0, 1) := by decide +kernel
theorem dX10_ownAt_37 : decode cX10_ownAt 37 = .ok (.iload_n 1, 1) := by decide +kernel
theorem dX10_ownAt_38 : decode cX10_ownAt 38 = .ok (.bipush 9, 2) := by decide +kernel
theorem dX10_ownAt_40 : decode cX10_ownAt 40 = .ok (.invokevirtual 281, 3) := by decide +kernel
theorem dX10_ownAt_43 : decode cX10_ownAt 43 = .ok (.i2l, 1) := by decide +kernel
theorem dX10_ownAt_44 : decode cX10_ownAt 44 = .ok (.ladd, 1) := by decide +kernel
theorem dX10_ownAt_45 : decode cX10_ownAt 45 = .ok (.aload_n 0, 1) := by decide +kernel
theorem dX10_ownAt_46 : decode cX10_ownAt 46 = .ok (.iload_n 1, 1) := by decide +kernel
theorem dX10_ownAt_47 : decode cX10_ownAt 47 = .ok (.bipush 10, 2) := by decide +kernel
theorem dX10_ownAt_49 : decode cX10_ownAt 49 = .ok (.invokevirtual 281, 3) := by decide +kernel
theorem dX10_ownAt_52 : decode cX10_ownAt 52 = .ok (.i2l, 1) := by decide +kernel
theorem dX10_ownAt_53 : decode cX10_ownAt 53 = .ok (.ladd, 1) := by decide +kernel
theorem dX10_ownAt_54 : decode cX10_ownAt 54 = .ok (.aload_n 0, 1) := by decide +kernel
theorem dX10_ownAt_55 : decode cX10_ownAt 55 = .ok (.iload_n 1, 1) := by decide +kernel
theorem dX10_ownAt_56 : decode cX10_ownAt 56 = .ok (.invokevirtual 328, 3) := by decide +kernel
theorem dX10_ownAt_59 : decode cX10_ownAt 59 = .ok (.i2l, 1) := by decide +kernel
theorem dX10_ownAt_60 : decode cX10_ownAt 60 = .ok (.ladd, 1) := by decide +kernel
theorem dX10_ownAt_61 : decode cX10_ownAt 61 = .ok (.lreturn, 1) := by decide +kernel
theorem dX10_ownOf_0 : decode cX10_ownOf 0 = .ok (.aload_n 0, 1) := by decide +kernel
theorem dX10_ownOf_1 : decode cX10_ownOf 1 = .ok (.iload_n 1, 1) := by decide +kernel
theorem dX10_ownOf_2 : decode cX10_ownOf 2 = .ok (.aload_n 0, 1) := by decide +kernel
theorem dX10_ownOf_3 : decode cX10_ownOf 3 = .ok (.iload_n 1, 1) := by decide +kernel
theorem dX10_ownOf_4 : decode cX10_ownOf 4 = .ok (.iconst 4, 1) := by decide +kernel
theorem dX10_ownOf_5 : decode cX10_ownOf 5 = .ok (.invokevirtual 281, 3) := by decide +kernel
theorem dX10_ownOf_8 : decode cX10_ownOf 8 = .ok (.invokevirtual 331, 3) := by decide +kernel
theorem dX10_ownOf_11 : decode cX10_ownOf 11 = .ok (.lreturn, 1) := by decide +kernel
theorem dX10_own_0 : decode cX10_own 0 = .ok (.aload_n 0, 1) := by decide +kernel
theorem dX10_own_1 : decode cX10_own 1 = .ok (.iconst 0, 1) := by decide +kernel
theorem dX10_own_2 : decode cX10_own 2 = .ok (.putfield 1, 3) := by decide +kernel
theorem dX10_own_5 : decode cX10_own 5 = .ok (.aload_n 0, 1) := by decide +kernel
theorem dX10_own_6 : decode cX10_own 6 = .ok (.iload_n 1, 1) := by decide +kernel
theorem dX10_own_7 : decode cX10_own 7 = .ok (.invokevirtual 288, 3) := by decide +kernel
theorem dX10_own_10 : decode cX10_own 10 = .ok (.ifCond .eq 11, 3) := by decide +kernel
theorem dX10_own_13 : decode cX10_own 13 = .ok (.aload_n 0, 1) := by decide +kernel
theorem dX10_own_14 : decode cX10_own 14 = .ok (.iload_n 1, 1) := by decide +kernel
theorem dX10_own_15 : decode cX10_own 15 = .ok (.invokevirtual 335, 3) := by decide +kernel
theorem dX10_own_18 : decode cX10_own 18 = .ok (.goto 6, 3) := by decide +kernel
theorem dX10_own_21 : decode cX10_own 21 = .ok (.ldc2_w 339, 3) := by decide +kernel
theorem dX10_own_24 : decode cX10_own 24 = .ok (.lreturn, 1) := by decide +kernel
theorem dX10_isBetweenKin_0 : decode cX10_isBetweenKin 0 = .ok (.aload_n 0, 1) := by decide +kernel
theorem dX10_isBetweenKin_1 : decode cX10_isBetweenKin 1 = .ok (.aload_n 0, 1) := by decide +kernel
theorem dX10_isBetweenKin_2 : decode cX10_isBetweenKin 2 = .ok (.iload_n 1, 1) := by decide +kernel
theorem dX10_isBetweenKin_3 : decode cX10_isBetweenKin 3 = .ok (.iconst 1, 1) := by decide +kernel
theorem dX10_isBetweenKin_4 : decode cX10_isBetweenKin 4 = .ok (.invokevirtual 281, 3) := by decide +kernel
theorem dX10_isBetweenKin_7 : decode cX10_isBetweenKin 7 = .ok (.aload_n 0, 1) := by decide +kernel
theorem dX10_isBetweenKin_8 : decode cX10_isBetweenKin 8 = .ok (.iload_n 1, 1) := by decide +kernel
theorem dX10_isBetweenKin_9 : decode cX10_isBetweenKin 9 = .ok (.iconst 2, 1) := by decide +kernel
theorem dX10_isBetweenKin_10 : decode cX10_isBetweenKin 10 = .ok (.invokevirtual 281, 3) := by decide +kernel
theorem dX10_isBetweenKin_13 : decode cX10_isBetweenKin 13 = .ok (.invokevirtual 295, 3) := by decide +kernel
theorem dX10_isBetweenKin_16 : decode cX10_isBetweenKin 16 = .ok (.ireturn, 1) := by decide +kernel
theorem dX10_isNearDay_0 : decode cX10_isNearDay 0 = .ok (.aload_n 0, 1) := by decide +kernel
theorem dX10_isNearDay_1 : decode cX10_isNearDay 1 = .ok (.iload_n 1, 1) := by decide +kernel
theorem dX10_isNearDay_2 : decode cX10_isNearDay 2 = .ok (.iconst 5, 1) := by decide +kernel
theorem dX10_isNearDay_3 : decode cX10_isNearDay 3 = .ok (.invokevirtual 281, 3) := by decide +kernel
theorem dX10_isNearDay_6 : decode cX10_isNearDay 6 = .ok (.aload_n 0, 1) := by decide +kernel
theorem dX10_isNearDay_7 : decode cX10_isNearDay 7 = .ok (.iload_n 2, 1) := by decide +kernel
theorem dX10_isNearDay_8 : decode cX10_isNearDay 8 = .ok (.iconst 5, 1) := by decide +kernel
theorem dX10_isNearDay_9 : decode cX10_isNearDay 9 = .ok (.invokevirtual 281, 3) := by decide +kernel
theorem dX10_isNearDay_12 : decode cX10_isNearDay 12 = .ok (.isub, 1) := by decide +kernel
theorem dX10_isNearDay_13 : decode cX10_isNearDay 13 = .ok (.istore_n 3, 1) := by decide +kernel
theorem dX10_isNearDay_14 : decode cX10_isNearDay 14 = .ok (.iload_n 3, 1) := by decide +kernel
theorem dX10_isNearDay_15 : decode cX10_isNearDay 15 = .ok (.aload_n 0, 1) := by decide +kernel
theorem dX10_isNearDay_16 : decode cX10_isNearDay 16 = .ok (.getfield 13, 3) := by decide +kernel
theorem dX10_isNearDay_19 : decode cX10_isNearDay 19 = .ok (.bipush 7, 2) := by decide +kernel
theorem dX10_isNearDay_21 : decode cX10_isNearDay 21 = .ok (.iaload, 1) := by decide +kernel
theorem dX10_isNearDay_22 : decode cX10_isNearDay 22 = .ok (.if_icmp .gt 19, 3) := by decide +kernel
theorem dX10_isNearDay_25 : decode cX10_isNearDay 25 = .ok (.iload_n 3, 1) := by decide +kernel
theorem dX10_isNearDay_26 : decode cX10_isNearDay 26 = .ok (.ineg, 1) := by decide +kernel
theorem dX10_isNearDay_27 : decode cX10_isNearDay 27 = .ok (.aload_n 0, 1) := by decide +kernel
theorem dX10_isNearDay_28 : decode cX10_isNearDay 28 = .ok (.getfield 13, 3) := by decide +kernel
theorem dX10_isNearDay_31 : decode cX10_isNearDay 31 = .ok (.bipush 7, 2) := by decide +kernel
theorem dX10_isNearDay_33 : decode cX10_isNearDay 33 = .ok (.iaload, 1) := by decide +kernel
theorem dX10_isNearDay_34 : decode cX10_isNearDay 34 = .ok (.if_icmp .gt 7, 3) := by decide +kernel
theorem dX10_isNearDay_37 : decode cX10_isNearDay 37 = .ok (.iconst 1, 1) := by decide +kernel
theorem dX10_isNearDay_38 : decode cX10_isNearDay 38 = .ok (.goto 4, 3) := by decide +kernel
theorem dX10_isNearDay_41 : decode cX10_isNearDay 41 = .ok (.iconst 0, 1) := by decide +kernel
theorem dX10_isNearDay_42 : decode cX10_isNearDay 42 = .ok (.ireturn, 1) := by decide +kernel
theorem dX10_likeSales_0 : decode cX10_likeSales 0 = .ok (.aload_n 0, 1) := by decide +kernel
theorem dX10_likeSales_1 : decode cX10_likeSales 1 = .ok (.aload_n 0, 1) := by decide +kernel
theorem dX10_likeSales_2 : decode cX10_likeSales 2 = .ok (.iload_n 1, 1) := by decide +kernel
theorem dX10_likeSales_3 : decode cX10_likeSales 3 = .ok (.iconst 0, 1) := by decide +kernel
theorem dX10_likeSales_4 : decode cX10_likeSales 4 = .ok (.invokevirtual 281, 3) := by decide +kernel
theorem dX10_likeSales_7 : decode cX10_likeSales 7 = .ok (.aload_n 0, 1) := by decide +kernel
theorem dX10_likeSales_8 : decode cX10_likeSales 8 = .ok (.iload_n 2, 1) := by decide +kernel
theorem dX10_likeSales_9 : decode cX10_likeSales 9 = .ok (.iconst 0, 1) := by decide +kernel
theorem dX10_likeSales_10 : decode cX10_likeSales 10 = .ok (.invokevirtual 281, 3) := by decide +kernel
theorem dX10_likeSales_13 : decode cX10_likeSales 13 = .ok (.invokevirtual 301, 3) := by decide +kernel
theorem dX10_likeSales_16 : decode cX10_likeSales 16 = .ok (.ireturn, 1) := by decide +kernel
theorem dX10_brought_0 : decode cX10_brought 0 = .ok (.aload_n 0, 1) := by decide +kernel
theorem dX10_brought_1 : decode cX10_brought 1 = .ok (.iload_n 2, 1) := by decide +kernel
theorem dX10_brought_2 : decode cX10_brought 2 = .ok (.invokevirtual 335, 3) := by decide +kernel
theorem dX10_brought_5 : decode cX10_brought 5 = .ok (.aload_n 0, 1) := by decide +kernel
theorem dX10_brought_6 : decode cX10_brought 6 = .ok (.iload_n 1, 1) := by decide +kernel
theorem dX10_brought_7 : decode cX10_brought 7 = .ok (.iconst 3, 1) := by decide +kernel
theorem dX10_brought_8 : decode cX10_brought 8 = .ok (.invokevirtual 281, 3) := by decide +kernel
theorem dX10_brought_11 : decode cX10_brought 11 = .ok (.i2l, 1) := by decide +kernel
theorem dX10_brought_12 : decode cX10_brought 12 = .ok (.lmul, 1) := by decide +kernel
theorem dX10_brought_13 : decode cX10_brought 13 = .ok (.bipush 100, 2) := by decide +kernel
theorem dX10_brought_15 : decode cX10_brought 15 = .ok (.aload_n 0, 1) := by decide +kernel
theorem dX10_brought_16 : decode cX10_brought 16 = .ok (.iload_n 1, 1) := by decide +kernel
theorem dX10_brought_17 : decode cX10_brought 17 = .ok (.invokevirtual 341, 3) := by decide +kernel
theorem dX10_brought_20 : decode cX10_brought 20 = .ok (.isub, 1) := by decide +kernel
theorem dX10_brought_21 : decode cX10_brought 21 = .ok (.i2l, 1) := by decide +kernel
theorem dX10_brought_22 : decode cX10_brought 22 = .ok (.lmul, 1) := by decide +kernel
theorem dX10_brought_23 : decode cX10_brought 23 = .ok (.aload_n 0, 1) := by decide +kernel
theorem dX10_brought_24 : decode cX10_brought 24 = .ok (.iload_n 2, 1) := by decide +kernel
theorem dX10_brought_25 : decode cX10_brought 25 = .ok (.iconst 3, 1) := by decide +kernel
theorem dX10_brought_26 : decode cX10_brought 26 = .ok (.invokevirtual 281, 3) := by decide +kernel
theorem dX10_brought_29 : decode cX10_brought 29 = .ok (.i2l, 1) := by decide +kernel
theorem dX10_brought_30 : decode cX10_brought 30 = .ok (.bipush 100, 2) := by decide +kernel
theorem dX10_brought_32 : decode cX10_brought 32 = .ok (.aload_n 0, 1) := by decide +kernel
theorem dX10_brought_33 : decode cX10_brought 33 = .ok (.iload_n 2, 1) := by decide +kernel
theorem dX10_brought_34 : decode cX10_brought 34 = .ok (.invokevirtual 341, 3) := by decide +kernel
theorem dX10_brought_37 : decode cX10_brought 37 = .ok (.isub, 1) := by decide +kernel
theorem dX10_brought_38 : decode cX10_brought 38 = .ok (.i2l, 1) := by decide +kernel
theorem dX10_brought_39 : decode cX10_brought 39 = .ok (.lmul, 1) := by decide +kernel
theorem dX10_brought_40 : decode cX10_brought 40 = .ok (.ldiv, 1) := by decide +kernel
theorem dX10_brought_41 : decode cX10_brought 41 = .ok (.lreturn, 1) := by decide +kernel
theorem dX10_adds_0 : decode cX10_adds 0 = .ok (.lload_n 1, 1) := by decide +kernel
theorem dX10_adds_1 : decode cX10_adds 1 = .ok (.lconst 0, 1) := by decide +kernel
theorem dX10_adds_2 : decode cX10_adds 2 = .ok (.lcmp, 1) := by decide +kernel
theorem dX10_adds_3 : decode cX10_adds 3 = .ok (.ifCond .lt 23, 3) := by decide +kernel
theorem dX10_adds_6 : decode cX10_adds 6 = .ok (.aload_n 0, 1) := by decide +kernel
theorem dX10_adds_7 : decode cX10_adds 7 = .ok (.getfield 50, 3) := by decide +kernel
theorem dX10_adds_10 : decode cX10_adds 10 = .ok (.aload_n 0, 1) := by decide +kernel
theorem dX10_adds_11 : decode cX10_adds 11 = .ok (.getfield 344, 3) := by decide +kernel
theorem dX10_adds_14 : decode cX10_adds 14 = .ok (.lload_n 1, 1) := by decide +kernel
theorem dX10_adds_15 : decode cX10_adds 15 = .ok (.lastore, 1) := by decide +kernel
theorem dX10_adds_16 : decode cX10_adds 16 = .ok (.aload_n 0, 1) := by decide +kernel
theorem dX10_adds_17 : decode cX10_adds 17 = .ok (.dup, 1) := by decide +kernel
theorem dX10_adds_18 : decode cX10_adds 18 = .ok (.getfield 344, 3) := by decide +kernel
theorem dX10_adds_21 : decode cX10_adds 21 = .ok (.iconst 1, 1) := by decide +kernel
theorem dX10_adds_22 : decode cX10_adds 22 = .ok (.iadd, 1) := by decide +kernel
theorem dX10_adds_23 : decode cX10_adds 23 = .ok (.putfield 344, 3) := by decide +kernel
theorem dX10_adds_26 : decode cX10_adds 26 = .ok (.return_, 1) := by decide +kernel
theorem dX10_laysTests_0 : decode cX10_laysTests 0 = .ok (.aload_n 0, 1) := by decide +kernel
theorem dX10_laysTests_1 : decode cX10_laysTests 1 = .ok (.iconst 0, 1) := by decide +kernel
theorem dX10_laysTests_2 : decode cX10_laysTests 2 = .ok (.putfield 344, 3) := by decide +kernel
theorem dX10_laysTests_5 : decode cX10_laysTests 5 = .ok (.iconst 0, 1) := by decide +kernel
theorem dX10_laysTests_6 : decode cX10_laysTests 6 = .ok (.istore_n 2, 1) := by decide +kernel
theorem dX10_laysTests_7 : decode cX10_laysTests 7 = .ok (.iload_n 2, 1) := by decide +kernel
theorem dX10_laysTests_8 : decode cX10_laysTests 8 = .ok (.aload_n 0, 1) := by decide +kernel
theorem dX10_laysTests_9 : decode cX10_laysTests 9 = .ok (.getfield 13, 3) := by decide +kernel
theorem dX10_laysTests_12 : decode cX10_laysTests 12 = .ok (.iconst 3, 1) := by decide +kernel
theorem dX10_laysTests_13 : decode cX10_laysTests 13 = .ok (.iaload, 1) := by decide +kernel
theorem dX10_laysTests_14 : decode cX10_laysTests 14 = .ok (.if_icmp .ge 68, 3) := by decide +kernel
theorem dX10_laysTests_17 : decode cX10_laysTests 17 = .ok (.iload_n 2, 1) := by decide +kernel
theorem dX10_laysTests_18 : decode cX10_laysTests 18 = .ok (.iload_n 1, 1) := by decide +kernel
theorem dX10_laysTests_19 : decode cX10_laysTests 19 = .ok (.if_icmp .eq 57, 3) := by decide +kernel
theorem dX10_laysTests_22 : decode cX10_laysTests 22 = .ok (.aload_n 0, 1) := by decide +kernel
theorem dX10_laysTests_23 : decode cX10_laysTests 23 = .ok (.iload_n 2, 1) := by decide +kernel
theorem dX10_laysTests_24 : decode cX10_laysTests 24 = .ok (.invokevirtual 304, 3) := by decide +kernel
theorem dX10_laysTests_27 : decode cX10_laysTests 27 = .ok (.ifCond .eq 49, 3) := by decide +kernel
theorem dX10_laysTests_30 : decode cX10_laysTests 30 = .ok (.aload_n 0, 1) := by decide +kernel
theorem dX10_laysTests_31 : decode cX10_laysTests 31 = .ok (.iload_n 2, 1) := by decide +kernel
theorem dX10_laysTests_32 : decode cX10_laysTests 32 = .ok (.bipush 6, 2) := by decide +kernel
theorem dX10_laysTests_34 : decode cX10_laysTests 34 = .ok (.invokevirtual 281, 3) := by decide +kernel
theorem dX10_laysTests_37 : decode cX10_laysTests 37 = .ok (.ifCond .ne 39, 3) := by decide +kernel
theorem dX10_laysTests_40 : decode cX10_laysTests 40 = .ok (.aload_n 0, 1) := by decide +kernel
theorem dX10_laysTests_41 : decode cX10_laysTests 41 = .ok (.iload_n 2, 1) := by decide +kernel
theorem dX10_laysTests_42 : decode cX10_laysTests 42 = .ok (.invokevirtual 347, 3) := by decide +kernel
theorem dX10_laysTests_45 : decode cX10_laysTests 45 = .ok (.ifCond .ne 31, 3) := by decide +kernel
theorem dX10_laysTests_48 : decode cX10_laysTests 48 = .ok (.aload_n 0, 1) := by decide +kernel
theorem dX10_laysTests_49 : decode cX10_laysTests 49 = .ok (.iload_n 1, 1) := by decide +kernel
theorem dX10_laysTests_50 : decode cX10_laysTests 50 = .ok (.iload_n 2, 1) := by decide +kernel
theorem dX10_laysTests_51 : decode cX10_laysTests 51 = .ok (.invokevirtual 350, 3) := by decide +kernel
theorem dX10_laysTests_54 : decode cX10_laysTests 54 = .ok (.ifCond .le 22, 3) := by decide +kernel
theorem dX10_laysTests_57 : decode cX10_laysTests 57 = .ok (.aload_n 0, 1) := by decide +kernel
theorem dX10_laysTests_58 : decode cX10_laysTests 58 = .ok (.iload_n 1, 1) := by decide +kernel
theorem dX10_laysTests_59 : decode cX10_laysTests 59 = .ok (.iload_n 2, 1) := by decide +kernel
theorem dX10_laysTests_60 : decode cX10_laysTests 60 = .ok (.invokevirtual 353, 3) := by decide +kernel
theorem dX10_laysTests_63 : decode cX10_laysTests 63 = .ok (.ifCond .eq 13, 3) := by decide +kernel
theorem dX10_laysTests_66 : decode cX10_laysTests 66 = .ok (.aload_n 0, 1) := by decide +kernel
theorem dX10_laysTests_67 : decode cX10_laysTests 67 = .ok (.aload_n 0, 1) := by decide +kernel
theorem dX10_laysTests_68 : decode cX10_laysTests 68 = .ok (.iload_n 1, 1) := by decide +kernel
theorem dX10_laysTests_69 : decode cX10_laysTests 69 = .ok (.iload_n 2, 1) := by decide +kernel
theorem dX10_laysTests_70 : decode cX10_laysTests 70 = .ok (.invokevirtual 356, 3) := by decide +kernel
theorem dX10_laysTests_73 : decode cX10_laysTests 73 = .ok (.invokevirtual 359, 3) := by decide +kernel
theorem dX10_laysTests_76 : decode cX10_laysTests 76 = .ok (.iinc 2 1, 3) := by decide +kernel
theorem dX10_laysTests_79 : decode cX10_laysTests 79 = .ok (.goto (-72), 3) := by decide +kernel
theorem dX10_laysTests_82 : decode cX10_laysTests 82 = .ok (.aload_n 0, 1) := by decide +kernel
theorem dX10_laysTests_83 : decode cX10_laysTests 83 = .ok (.aload_n 0, 1) := by decide +kernel
theorem dX10_laysTests_84 : decode cX10_laysTests 84 = .ok (.iload_n 1, 1) := by decide +kernel
theorem dX10_laysTests_85 : decode cX10_laysTests 85 = .ok (.invokevirtual 363, 3) := by decide +kernel
theorem dX10_laysTests_88 : decode cX10_laysTests 88 = .ok (.invokevirtual 359, 3) := by decide +kernel
theorem dX10_laysTests_91 : decode cX10_laysTests 91 = .ok (.aload_n 0, 1) := by decide +kernel
theorem dX10_laysTests_92 : decode cX10_laysTests 92 = .ok (.aload_n 0, 1) := by decide +kernel
theorem dX10_laysTests_93 : decode cX10_laysTests 93 = .ok (.iload_n 1, 1) := by decide +kernel
theorem dX10_laysTests_94 : decode cX10_laysTests 94 = .ok (.invokevirtual 366, 3) := by decide +kernel
theorem dX10_laysTests_97 : decode cX10_laysTests 97 = .ok (.invokevirtual 359, 3) := by decide +kernel
theorem dX10_laysTests_100 : decode cX10_laysTests 100 = .ok (.return_, 1) := by decide +kernel
theorem dX10_isNear_0 : decode cX10_isNear 0 = .ok (.iconst 0, 1) := by decide +kernel
theorem dX10_isNear_1 : decode cX10_isNear 1 = .ok (.istore 4, 2) := by decide +kernel
theorem dX10_isNear_3 : decode cX10_isNear 3 = .ok (.iload 4, 2) := by decide +kernel
theorem dX10_isNear_5 : decode cX10_isNear 5 = .ok (.aload_n 0, 1) := by decide +kernel
theorem dX10_isNear_6 : decode cX10_isNear 6 = .ok (.getfield 344, 3) := by decide +kernel
theorem dX10_isNear_9 : decode cX10_isNear 9 = .ok (.if_icmp .ge 66, 3) := by decide +kernel
theorem dX10_isNear_12 : decode cX10_isNear 12 = .ok (.lload_n 1, 1) := by decide +kernel
theorem dX10_isNear_13 : decode cX10_isNear 13 = .ok (.aload_n 0, 1) := by decide +kernel
theorem dX10_isNear_14 : decode cX10_isNear 14 = .ok (.getfield 50, 3) := by decide +kernel
theorem dX10_isNear_17 : decode cX10_isNear 17 = .ok (.iload 4, 2) := by decide +kernel
theorem dX10_isNear_19 : decode cX10_isNear 19 = .ok (.laload, 1) := by decide +kernel
theorem dX10_isNear_20 : decode cX10_isNear 20 = .ok (.lcmp, 1) := by decide +kernel
theorem dX10_isNear_21 : decode cX10_isNear 21 = .ok (.ifCond .le 15, 3) := by decide +kernel
theorem dX10_isNear_24 : decode cX10_isNear 24 = .ok (.lload_n 1, 1) := by decide +kernel
theorem dX10_isNear_25 : decode cX10_isNear 25 = .ok (.aload_n 0, 1) := by decide +kernel
theorem dX10_isNear_26 : decode cX10_isNear 26 = .ok (.getfield 50, 3) := by decide +kernel
theorem dX10_isNear_29 : decode cX10_isNear 29 = .ok (.iload 4, 2) := by decide +kernel
theorem dX10_isNear_31 : decode cX10_isNear 31 = .ok (.laload, 1) := by decide +kernel
theorem dX10_isNear_32 : decode cX10_isNear 32 = .ok (.lsub, 1) := by decide +kernel
theorem dX10_isNear_33 : decode cX10_isNear 33 = .ok (.goto 12, 3) := by decide +kernel
theorem dX10_isNear_36 : decode cX10_isNear 36 = .ok (.aload_n 0, 1) := by decide +kernel
theorem dX10_isNear_37 : decode cX10_isNear 37 = .ok (.getfield 50, 3) := by decide +kernel
theorem dX10_isNear_40 : decode cX10_isNear 40 = .ok (.iload 4, 2) := by decide +kernel
theorem dX10_isNear_42 : decode cX10_isNear 42 = .ok (.laload, 1) := by decide +kernel
theorem dX10_isNear_43 : decode cX10_isNear 43 = .ok (.lload_n 1, 1) := by decide +kernel
theorem dX10_isNear_44 : decode cX10_isNear 44 = .ok (.lsub, 1) := by decide +kernel
theorem dX10_isNear_45 : decode cX10_isNear 45 = .ok (.lstore 5, 2) := by decide +kernel
theorem dX10_isNear_47 : decode cX10_isNear 47 = .ok (.ldc2_w 326, 3) := by decide +kernel
theorem dX10_isNear_50 : decode cX10_isNear 50 = .ok (.lload 5, 2) := by decide +kernel
theorem dX10_isNear_52 : decode cX10_isNear 52 = .ok (.lmul, 1) := by decide +kernel
theorem dX10_isNear_53 : decode cX10_isNear 53 = .ok (.iload_n 3, 1) := by decide +kernel
theorem dX10_isNear_54 : decode cX10_isNear 54 = .ok (.i2l, 1) := by decide +kernel
theorem dX10_isNear_55 : decode cX10_isNear 55 = .ok (.aload_n 0, 1) := by decide +kernel
theorem dX10_isNear_56 : decode cX10_isNear 56 = .ok (.getfield 50, 3) := by decide +kernel
theorem dX10_isNear_59 : decode cX10_isNear 59 = .ok (.iload 4, 2) := by decide +kernel
theorem dX10_isNear_61 : decode cX10_isNear 61 = .ok (.laload, 1) := by decide +kernel
theorem dX10_isNear_62 : decode cX10_isNear 62 = .ok (.lmul, 1) := by decide +kernel
theorem dX10_isNear_63 : decode cX10_isNear 63 = .ok (.lcmp, 1) := by decide +kernel
theorem dX10_isNear_64 : decode cX10_isNear 64 = .ok (.ifCond .gt 5, 3) := by decide +kernel
theorem dX10_isNear_67 : decode cX10_isNear 67 = .ok (.iconst 1, 1) := by decide +kernel
theorem dX10_isNear_68 : decode cX10_isNear 68 = .ok (.ireturn, 1) := by decide +kernel
theorem dX10_isNear_69 : decode cX10_isNear 69 = .ok (.iinc 4 1, 3) := by decide +kernel
theorem dX10_isNear_72 : decode cX10_isNear 72 = .ok (.goto (-69), 3) := by decide +kernel
theorem dX10_isNear_75 : decode cX10_isNear 75 = .ok (.iconst 0, 1) := by decide +kernel
theorem dX10_isNear_76 : decode cX10_isNear 76 = .ok (.ireturn, 1) := by decide +kernel
theorem dX10_doesPass_0 : decode cX10_doesPass 0 = .ok (.aload_n 0, 1) := by decide +kernel
theorem dX10_doesPass_1 : decode cX10_doesPass 1 = .ok (.iload_n 1, 1) := by decide +kernel
theorem dX10_doesPass_2 : decode cX10_doesPass 2 = .ok (.invokevirtual 369, 3) := by decide +kernel
theorem dX10_doesPass_5 : decode cX10_doesPass 5 = .ok (.aload_n 0, 1) := by decide +kernel
theorem dX10_doesPass_6 : decode cX10_doesPass 6 = .ok (.aload_n 0, 1) := by decide +kernel
theorem dX10_doesPass_7 : decode cX10_doesPass 7 = .ok (.iload_n 1, 1) := by decide +kernel
theorem dX10_doesPass_8 : decode cX10_doesPass 8 = .ok (.invokevirtual 335, 3) := by decide +kernel
theorem dX10_doesPass_11 : decode cX10_doesPass 11 = .ok (.aload_n 0, 1) := by decide +kernel
theorem dX10_doesPass_12 : decode cX10_doesPass 12 = .ok (.getfield 13, 3) := by decide +kernel
theorem dX10_doesPass_15 : decode cX10_doesPass 15 = .ok (.bipush 6, 2) := by decide +kernel
theorem dX10_doesPass_17 : decode cX10_doesPass 17 = .ok (.iaload, 1) := by decide +kernel
theorem dX10_doesPass_18 : decode cX10_doesPass 18 = .ok (.invokevirtual 372, 3) := by decide +kernel
theorem dX10_doesPass_21 : decode cX10_doesPass 21 = .ok (.ireturn, 1) := by decide +kernel
theorem dX10_fails_0 : decode cX10_fails 0 = .ok (.bipush (-2), 2) := by decide +kernel
theorem dX10_fails_2 : decode cX10_fails 2 = .ok (.iload_n 0, 1) := by decide +kernel
theorem dX10_fails_3 : decode cX10_fails 3 = .ok (.isub, 1) := by decide +kernel
theorem dX10_fails_4 : decode cX10_fails 4 = .ok (.i2l, 1) := by decide +kernel
theorem dX10_fails_5 : decode cX10_fails 5 = .ok (.lreturn, 1) := by decide +kernel
theorem dX10_byOwn_0 : decode cX10_byOwn 0 = .ok (.aload_n 0, 1) := by decide +kernel
theorem dX10_byOwn_1 : decode cX10_byOwn 1 = .ok (.iload_n 1, 1) := by decide +kernel
theorem dX10_byOwn_2 : decode cX10_byOwn 2 = .ok (.bipush 6, 2) := by decide +kernel
theorem dX10_byOwn_4 : decode cX10_byOwn 4 = .ok (.invokevirtual 281, 3) := by decide +kernel
theorem dX10_byOwn_7 : decode cX10_byOwn 7 = .ok (.iconst 1, 1) := by decide +kernel
theorem dX10_byOwn_8 : decode cX10_byOwn 8 = .ok (.if_icmp .ne 9, 3) := by decide +kernel
theorem dX10_byOwn_11 : decode cX10_byOwn 11 = .ok (.bipush 11, 2) := by decide +kernel
theorem dX10_byOwn_13 : decode cX10_byOwn 13 = .ok (.invokestatic 376, 3) := by decide +kernel
theorem dX10_byOwn_16 : decode cX10_byOwn 16 = .ok (.lreturn, 1) := by decide +kernel
theorem dX10_byOwn_17 : decode cX10_byOwn 17 = .ok (.aload_n 0, 1) := by decide +kernel
theorem dX10_byOwn_18 : decode cX10_byOwn 18 = .ok (.iload_n 1, 1) := by decide +kernel
theorem dX10_byOwn_19 : decode cX10_byOwn 19 = .ok (.invokevirtual 347, 3) := by decide +kernel
theorem dX10_byOwn_22 : decode cX10_byOwn 22 = .ok (.ifCond .eq 11, 3) := by decide +kernel
theorem dX10_byOwn_25 : decode cX10_byOwn 25 = .ok (.aload_n 0, 1) := by decide +kernel
theorem dX10_byOwn_26 : decode cX10_byOwn 26 = .ok (.iload_n 1, 1) := by decide +kernel
theorem dX10_byOwn_27 : decode cX10_byOwn 27 = .ok (.invokevirtual 379, 3) := by decide +kernel
theorem dX10_byOwn_30 : decode cX10_byOwn 30 = .ok (.ifCond .eq 9, 3) := by decide +kernel
theorem dX10_byOwn_33 : decode cX10_byOwn 33 = .ok (.aload_n 0, 1) := by decide +kernel
theorem dX10_byOwn_34 : decode cX10_byOwn 34 = .ok (.iload_n 1, 1) := by decide +kernel
theorem dX10_byOwn_35 : decode cX10_byOwn 35 = .ok (.invokevirtual 335, 3) := by decide +kernel
theorem dX10_byOwn_38 : decode cX10_byOwn 38 = .ok (.lreturn, 1) := by decide +kernel
theorem dX10_byOwn_39 : decode cX10_byOwn 39 = .ok (.aload_n 0, 1) := by decide +kernel
theorem dX10_byOwn_40 : decode cX10_byOwn 40 = .ok (.getfield 344, 3) := by decide +kernel
theorem dX10_byOwn_43 : decode cX10_byOwn 43 = .ok (.ifCond .ne 8, 3) := by decide +kernel
theorem dX10_byOwn_46 : decode cX10_byOwn 46 = .ok (.bipush 12, 2) := by decide +kernel
theorem dX10_byOwn_48 : decode cX10_byOwn 48 = .ok (.goto 5, 3) := by decide +kernel
theorem dX10_byOwn_51 : decode cX10_byOwn 51 = .ok (.bipush 13, 2) := by decide +kernel
theorem dX10_byOwn_53 : decode cX10_byOwn 53 = .ok (.invokestatic 376, 3) := by decide +kernel
theorem dX10_byOwn_56 : decode cX10_byOwn 56 = .ok (.lreturn, 1) := by decide +kernel
theorem dX10_byOthers_0 : decode cX10_byOthers 0 = .ok (.iconst 0, 1) := by decide +kernel
theorem dX10_byOthers_1 : decode cX10_byOthers 1 = .ok (.istore_n 3, 1) := by decide +kernel
theorem dX10_byOthers_2 : decode cX10_byOthers 2 = .ok (.ldc2_w 382, 3) := by decide +kernel
theorem dX10_byOthers_5 : decode cX10_byOthers 5 = .ok (.lstore 4, 2) := by decide +kernel
theorem dX10_byOthers_7 : decode cX10_byOthers 7 = .ok (.iconst (-1), 1) := by decide +kernel
theorem dX10_byOthers_8 : decode cX10_byOthers 8 = .ok (.istore 6, 2) := by decide +kernel
theorem dX10_byOthers_10 : decode cX10_byOthers 10 = .ok (.iconst 0, 1) := by decide +kernel
theorem dX10_byOthers_11 : decode cX10_byOthers 11 = .ok (.istore 7, 2) := by decide +kernel
theorem dX10_byOthers_13 : decode cX10_byOthers 13 = .ok (.iload 7, 2) := by decide +kernel
theorem dX10_byOthers_15 : decode cX10_byOthers 15 = .ok (.aload_n 0, 1) := by decide +kernel
theorem dX10_byOthers_16 : decode cX10_byOthers 16 = .ok (.getfield 13, 3) := by decide +kernel
theorem dX10_byOthers_19 : decode cX10_byOthers 19 = .ok (.iconst 3, 1) := by decide +kernel
theorem dX10_byOthers_20 : decode cX10_byOthers 20 = .ok (.iaload, 1) := by decide +kernel
theorem dX10_byOthers_21 : decode cX10_byOthers 21 = .ok (.if_icmp .ge 142, 3) := by decide +kernel
theorem dX10_byOthers_24 : decode cX10_byOthers 24 = .ok (.iload 7, 2) := by decide +kernel
theorem dX10_byOthers_26 : decode cX10_byOthers 26 = .ok (.iload_n 1, 1) := by decide +kernel
theorem dX10_byOthers_27 : decode cX10_byOthers 27 = .ok (.if_icmp .eq 130, 3) := by decide +kernel
theorem dX10_byOthers_30 : decode cX10_byOthers 30 = .ok (.aload_n 0, 1) := by decide +kernel
theorem dX10_byOthers_31 : decode cX10_byOthers 31 = .ok (.iload 7, 2) := by decide +kernel
theorem dX10_byOthers_33 : decode cX10_byOthers 33 = .ok (.invokevirtual 304, 3) := by decide +kernel
theorem dX10_byOthers_36 : decode cX10_byOthers 36 = .ok (.ifCond .eq 121, 3) := by decide +kernel
theorem dX10_byOthers_39 : decode cX10_byOthers 39 = .ok (.aload_n 0, 1) := by decide +kernel
theorem dX10_byOthers_40 : decode cX10_byOthers 40 = .ok (.iload_n 1, 1) := by decide +kernel
theorem dX10_byOthers_41 : decode cX10_byOthers 41 = .ok (.iload 7, 2) := by decide +kernel
theorem dX10_byOthers_43 : decode cX10_byOthers 43 = .ok (.iload_n 2, 1) := by decide +kernel
theorem dX10_byOthers_44 : decode cX10_byOthers 44 = .ok (.invokevirtual 384, 3) := by decide +kernel
theorem dX10_byOthers_47 : decode cX10_byOthers 47 = .ok (.ifCond .eq 110, 3) := by decide +kernel
theorem dX10_byOthers_50 : decode cX10_byOthers 50 = .ok (.aload_n 0, 1) := by decide +kernel
theorem dX10_byOthers_51 : decode cX10_byOthers 51 = .ok (.iload 7, 2) := by decide +kernel
theorem dX10_byOthers_53 : decode cX10_byOthers 53 = .ok (.invokevirtual 388, 3) := by decide +kernel
theorem dX10_byOthers_56 : decode cX10_byOthers 56 = .ok (.lconst 0, 1) := by decide +kernel
theorem dX10_byOthers_57 : decode cX10_byOthers 57 = .ok (.lcmp, 1) := by decide +kernel
theorem dX10_byOthers_58 : decode cX10_byOthers 58 = .ok (.ifCond .ge 6, 3) := by decide +kernel
theorem dX10_byOthers_61 : decode cX10_byOthers 61 = .ok (.goto 96, 3) := by decide +kernel
theorem dX10_byOthers_64 : decode cX10_byOthers 64 = .ok (.iload_n 2, 1) := by decide +kernel
theorem dX10_byOthers_65 : decode cX10_byOthers 65 = .ok (.iconst 3, 1) := by decide +kernel
theorem dX10_byOthers_66 : decode cX10_byOthers 66 = .ok (.if_icmp .ge 21, 3) := by decide +kernel
theorem dX10_byOthers_69 : decode cX10_byOthers 69 = .ok (.aload_n 0, 1) := by decide +kernel
theorem dX10_byOthers_70 : decode cX10_byOthers 70 = .ok (.iload_n 1, 1) := by decide +kernel
theorem dX10_byOthers_71 : decode cX10_byOthers 71 = .ok (.invokevirtual 285, 3) := by decide +kernel
theorem dX10_byOthers_74 : decode cX10_byOthers 74 = .ok (.aload_n 0, 1) := by decide +kernel
theorem dX10_byOthers_75 : decode cX10_byOthers 75 = .ok (.iload 7, 2) := by decide +kernel
theorem dX10_byOthers_77 : decode cX10_byOthers 77 = .ok (.invokevirtual 285, 3) := by decide +kernel
theorem dX10_byOthers_80 : decode cX10_byOthers 80 = .ok (.if_icmp .ne 7, 3) := by decide +kernel
theorem dX10_byOthers_83 : decode cX10_byOthers 83 = .ok (.iconst 1, 1) := by decide +kernel
theorem dX10_byOthers_84 : decode cX10_byOthers 84 = .ok (.goto 4, 3) := by decide +kernel
theorem dX10_byOthers_87 : decode cX10_byOthers 87 = .ok (.iconst 0, 1) := by decide +kernel
theorem dX10_byOthers_88 : decode cX10_byOthers 88 = .ok (.istore 8, 2) := by decide +kernel
theorem dX10_byOthers_90 : decode cX10_byOthers 90 = .ok (.iload_n 3, 1) := by decide +kernel
theorem dX10_byOthers_91 : decode cX10_byOthers 91 = .ok (.ifCond .eq 11, 3) := by decide +kernel
theorem dX10_byOthers_94 : decode cX10_byOthers 94 = .ok (.iload 8, 2) := by decide +kernel
theorem dX10_byOthers_96 : decode cX10_byOthers 96 = .ok (.ifCond .ne 6, 3) := by decide +kernel
theorem dX10_byOthers_99 : decode cX10_byOthers 99 = .ok (.goto 58, 3) := by decide +kernel
theorem dX10_byOthers_102 : decode cX10_byOthers 102 = .ok (.aload_n 0, 1) := by decide +kernel
theorem dX10_byOthers_103 : decode cX10_byOthers 103 = .ok (.iload_n 1, 1) := by decide +kernel
theorem dX10_byOthers_104 : decode cX10_byOthers 104 = .ok (.iload 7, 2) := by decide +kernel
theorem dX10_byOthers_106 : decode cX10_byOthers 106 = .ok (.invokevirtual 356, 3) := by decide +kernel
theorem dX10_byOthers_109 : decode cX10_byOthers 109 = .ok (.lstore 9, 2) := by decide +kernel
theorem dX10_byOthers_111 : decode cX10_byOthers 111 = .ok (.iload 6, 2) := by decide +kernel
theorem dX10_byOthers_113 : decode cX10_byOthers 113 = .ok (.iconst (-1), 1) := by decide +kernel
theorem dX10_byOthers_114 : decode cX10_byOthers 114 = .ok (.if_icmp .eq 20, 3) := by decide +kernel
theorem dX10_byOthers_117 : decode cX10_byOthers 117 = .ok (.iload 8, 2) := by decide +kernel
theorem dX10_byOthers_119 : decode cX10_byOthers 119 = .ok (.ifCond .eq 7, 3) := by decide +kernel
theorem dX10_byOthers_122 : decode cX10_byOthers 122 = .ok (.iload_n 3, 1) := by decide +kernel
theorem dX10_byOthers_123 : decode cX10_byOthers 123 = .ok (.ifCond .eq 11, 3) := by decide +kernel
theorem dX10_byOthers_126 : decode cX10_byOthers 126 = .ok (.lload 9, 2) := by decide +kernel
theorem dX10_byOthers_128 : decode cX10_byOthers 128 = .ok (.lload 4, 2) := by decide +kernel
theorem dX10_byOthers_130 : decode cX10_byOthers 130 = .ok (.lcmp, 1) := by decide +kernel
theorem dX10_byOthers_131 : decode cX10_byOthers 131 = .ok (.ifCond .ge 11, 3) := by decide +kernel
theorem dX10_byOthers_134 : decode cX10_byOthers 134 = .ok (.lload 9, 2) := by decide +kernel
theorem dX10_byOthers_136 : decode cX10_byOthers 136 = .ok (.lstore 4, 2) := by decide +kernel
theorem dX10_byOthers_138 : decode cX10_byOthers 138 = .ok (.iload 7, 2) := by decide +kernel
theorem dX10_byOthers_140 : decode cX10_byOthers 140 = .ok (.istore 6, 2) := by decide +kernel
theorem dX10_byOthers_142 : decode cX10_byOthers 142 = .ok (.iload_n 3, 1) := by decide +kernel
theorem dX10_byOthers_143 : decode cX10_byOthers 143 = .ok (.ifCond .ne 8, 3) := by decide +kernel
theorem dX10_byOthers_146 : decode cX10_byOthers 146 = .ok (.iload 8, 2) := by decide +kernel
theorem dX10_byOthers_148 : decode cX10_byOthers 148 = .ok (.ifCond .eq 7, 3) := by decide +kernel
theorem dX10_byOthers_151 : decode cX10_byOthers 151 = .ok (.iconst 1, 1) := by decide +kernel
theorem dX10_byOthers_152 : decode cX10_byOthers 152 = .ok (.goto 4, 3) := by decide +kernel
theorem dX10_byOthers_155 : decode cX10_byOthers 155 = .ok (.iconst 0, 1) := by decide +kernel
theorem dX10_byOthers_156 : decode cX10_byOthers 156 = .ok (.istore_n 3, 1) := by decide +kernel
theorem dX10_byOthers_157 : decode cX10_byOthers 157 = .ok (.iinc 7 1, 3) := by decide +kernel
theorem dX10_byOthers_160 : decode cX10_byOthers 160 = .ok (.goto (-147), 3) := by decide +kernel
theorem dX10_byOthers_163 : decode cX10_byOthers 163 = .ok (.aload_n 0, 1) := by decide +kernel
theorem dX10_byOthers_164 : decode cX10_byOthers 164 = .ok (.iload 6, 2) := by decide +kernel
theorem dX10_byOthers_166 : decode cX10_byOthers 166 = .ok (.putfield 391, 3) := by decide +kernel
theorem dX10_byOthers_169 : decode cX10_byOthers 169 = .ok (.iload 6, 2) := by decide +kernel
theorem dX10_byOthers_171 : decode cX10_byOthers 171 = .ok (.iconst (-1), 1) := by decide +kernel
theorem dX10_byOthers_172 : decode cX10_byOthers 172 = .ok (.if_icmp .ne 26, 3) := by decide +kernel
theorem dX10_byOthers_175 : decode cX10_byOthers 175 = .ok (.iload_n 2, 1) := by decide +kernel
theorem dX10_byOthers_176 : decode cX10_byOthers 176 = .ok (.iconst 3, 1) := by decide +kernel
theorem dX10_byOthers_177 : decode cX10_byOthers 177 = .ok (.if_icmp .ne 8, 3) := by decide +kernel
theorem dX10_byOthers_180 : decode cX10_byOthers 180 = .ok (.bipush 61, 2) := by decide +kernel
theorem dX10_byOthers_182 : decode cX10_byOthers 182 = .ok (.goto 10, 3) := by decide +kernel
theorem dX10_byOthers_185 : decode cX10_byOthers 185 = .ok (.bipush 10, 2) := by decide +kernel
theorem dX10_byOthers_187 : decode cX10_byOthers 187 = .ok (.iload_n 2, 1) := by decide +kernel
theorem dX10_byOthers_188 : decode cX10_byOthers 188 = .ok (.imul, 1) := by decide +kernel
theorem dX10_byOthers_189 : decode cX10_byOthers 189 = .ok (.bipush 11, 2) := by decide +kernel
theorem dX10_byOthers_191 : decode cX10_byOthers 191 = .ok (.iadd, 1) := by decide +kernel
theorem dX10_byOthers_192 : decode cX10_byOthers 192 = .ok (.invokestatic 376, 3) := by decide +kernel
theorem dX10_byOthers_195 : decode cX10_byOthers 195 = .ok (.goto 5, 3) := by decide +kernel
theorem dX10_byOthers_198 : decode cX10_byOthers 198 = .ok (.lload 4, 2) := by decide +kernel
theorem dX10_byOthers_200 : decode cX10_byOthers 200 = .ok (.lreturn, 1) := by decide +kernel
theorem dX10_isOf_0 : decode cX10_isOf 0 = .ok (.iload_n 3, 1) := by decide +kernel
theorem dX10_isOf_1 : decode cX10_isOf 1 = .ok (.iconst 3, 1) := by decide +kernel
theorem dX10_isOf_2 : decode cX10_isOf 2 = .ok (.if_icmp .ne 36, 3) := by decide +kernel
theorem dX10_isOf_5 : decode cX10_isOf 5 = .ok (.aload_n 0, 1) := by decide +kernel
theorem dX10_isOf_6 : decode cX10_isOf 6 = .ok (.aload_n 0, 1) := by decide +kernel
theorem dX10_isOf_7 : decode cX10_isOf 7 = .ok (.iload_n 1, 1) := by decide +kernel
theorem dX10_isOf_8 : decode cX10_isOf 8 = .ok (.iconst 0, 1) := by decide +kernel
theorem dX10_isOf_9 : decode cX10_isOf 9 = .ok (.invokevirtual 281, 3) := by decide +kernel
theorem dX10_isOf_12 : decode cX10_isOf 12 = .ok (.iconst 0, 1) := by decide +kernel
theorem dX10_isOf_13 : decode cX10_isOf 13 = .ok (.invokevirtual 298, 3) := by decide +kernel
theorem dX10_isOf_16 : decode cX10_isOf 16 = .ok (.aload_n 0, 1) := by decide +kernel
theorem dX10_isOf_17 : decode cX10_isOf 17 = .ok (.aload_n 0, 1) := by decide +kernel
theorem dX10_isOf_18 : decode cX10_isOf 18 = .ok (.iload_n 2, 1) := by decide +kernel
theorem dX10_isOf_19 : decode cX10_isOf 19 = .ok (.iconst 0, 1) := by decide +kernel
theorem dX10_isOf_20 : decode cX10_isOf 20 = .ok (.invokevirtual 281, 3) := by decide +kernel
theorem dX10_isOf_23 : decode cX10_isOf 23 = .ok (.iconst 0, 1) := by decide +kernel
theorem dX10_isOf_24 : decode cX10_isOf 24 = .ok (.invokevirtual 298, 3) := by decide +kernel
theorem dX10_isOf_27 : decode cX10_isOf 27 = .ok (.if_icmp .ne 7, 3) := by decide +kernel
theorem dX10_isOf_30 : decode cX10_isOf 30 = .ok (.iconst 1, 1) := by decide +kernel
theorem dX10_isOf_31 : decode cX10_isOf 31 = .ok (.goto 31, 3) := by decide +kernel
theorem dX10_isOf_34 : decode cX10_isOf 34 = .ok (.iconst 0, 1) := by decide +kernel
theorem dX10_isOf_35 : decode cX10_isOf 35 = .ok (.goto 27, 3) := by decide +kernel
theorem dX10_isOf_38 : decode cX10_isOf 38 = .ok (.aload_n 0, 1) := by decide +kernel
theorem dX10_isOf_39 : decode cX10_isOf 39 = .ok (.iload_n 1, 1) := by decide +kernel
theorem dX10_isOf_40 : decode cX10_isOf 40 = .ok (.iload_n 2, 1) := by decide +kernel
theorem dX10_isOf_41 : decode cX10_isOf 41 = .ok (.invokevirtual 350, 3) := by decide +kernel
theorem dX10_isOf_44 : decode cX10_isOf 44 = .ok (.iload_n 3, 1) := by decide +kernel
theorem dX10_isOf_45 : decode cX10_isOf 45 = .ok (.if_icmp .ne 16, 3) := by decide +kernel
theorem dX10_isOf_48 : decode cX10_isOf 48 = .ok (.aload_n 0, 1) := by decide +kernel
theorem dX10_isOf_49 : decode cX10_isOf 49 = .ok (.iload_n 1, 1) := by decide +kernel
theorem dX10_isOf_50 : decode cX10_isOf 50 = .ok (.iload_n 2, 1) := by decide +kernel
theorem dX10_isOf_51 : decode cX10_isOf 51 = .ok (.invokevirtual 353, 3) := by decide +kernel
theorem dX10_isOf_54 : decode cX10_isOf 54 = .ok (.ifCond .eq 7, 3) := by decide +kernel
theorem dX10_isOf_57 : decode cX10_isOf 57 = .ok (.iconst 1, 1) := by decide +kernel
theorem dX10_isOf_58 : decode cX10_isOf 58 = .ok (.goto 4, 3) := by decide +kernel
theorem dX10_isOf_61 : decode cX10_isOf 61 = .ok (.iconst 0, 1) := by decide +kernel
theorem dX10_isOf_62 : decode cX10_isOf 62 = .ok (.ireturn, 1) := by decide +kernel
theorem dX10_row_0 : decode cX10_row 0 = .ok (.aload_n 0, 1) := by decide +kernel
theorem dX10_row_1 : decode cX10_row 1 = .ok (.getfield 13, 3) := by decide +kernel
theorem dX10_row_4 : decode cX10_row 4 = .ok (.sipush 176, 3) := by decide +kernel
theorem dX10_row_7 : decode cX10_row 7 = .ok (.iconst 4, 1) := by decide +kernel
theorem dX10_row_8 : decode cX10_row 8 = .ok (.iload_n 1, 1) := by decide +kernel
theorem dX10_row_9 : decode cX10_row 9 = .ok (.imul, 1) := by decide +kernel
theorem dX10_row_10 : decode cX10_row 10 = .ok (.iadd, 1) := by decide +kernel
theorem dX10_row_11 : decode cX10_row 11 = .ok (.iload_n 2, 1) := by decide +kernel
theorem dX10_row_12 : decode cX10_row 12 = .ok (.iadd, 1) := by decide +kernel
theorem dX10_row_13 : decode cX10_row 13 = .ok (.iaload, 1) := by decide +kernel
theorem dX10_row_14 : decode cX10_row 14 = .ok (.ireturn, 1) := by decide +kernel
theorem dX10_isRowFor_0 : decode cX10_isRowFor 0 = .ok (.aload_n 0, 1) := by decide +kernel
theorem dX10_isRowFor_1 : decode cX10_isRowFor 1 = .ok (.iload_n 2, 1) := by decide +kernel
theorem dX10_isRowFor_2 : decode cX10_isRowFor 2 = .ok (.iconst 3, 1) := by decide +kernel
theorem dX10_isRowFor_3 : decode cX10_isRowFor 3 = .ok (.invokevirtual 394, 3) := by decide +kernel
theorem dX10_isRowFor_6 : decode cX10_isRowFor 6 = .ok (.aload_n 0, 1) := by decide +kernel
theorem dX10_isRowFor_7 : decode cX10_isRowFor 7 = .ok (.iload_n 1, 1) := by decide +kernel
theorem dX10_isRowFor_8 : decode cX10_isRowFor 8 = .ok (.iconst 5, 1) := by decide +kernel
theorem dX10_isRowFor_9 : decode cX10_isRowFor 9 = .ok (.invokevirtual 281, 3) := by decide +kernel
theorem dX10_isRowFor_12 : decode cX10_isRowFor 12 = .ok (.isub, 1) := by decide +kernel
theorem dX10_isRowFor_13 : decode cX10_isRowFor 13 = .ok (.istore 4, 2) := by decide +kernel
theorem dX10_isRowFor_15 : decode cX10_isRowFor 15 = .ok (.aload_n 0, 1) := by decide +kernel
theorem dX10_isRowFor_16 : decode cX10_isRowFor 16 = .ok (.aload_n 0, 1) := by decide +kernel
theorem dX10_isRowFor_17 : decode cX10_isRowFor 17 = .ok (.iload_n 1, 1) := by decide +kernel
theorem dX10_isRowFor_18 : decode cX10_isRowFor 18 = .ok (.iconst 0, 1) := by decide +kernel
theorem dX10_isRowFor_19 : decode cX10_isRowFor 19 = .ok (.invokevirtual 281, 3) := by decide +kernel
theorem dX10_isRowFor_22 : decode cX10_isRowFor 22 = .ok (.aload_n 0, 1) := by decide +kernel
theorem dX10_isRowFor_23 : decode cX10_isRowFor 23 = .ok (.iload_n 2, 1) := by decide +kernel
theorem dX10_isRowFor_24 : decode cX10_isRowFor 24 = .ok (.iconst 0, 1) := by decide +kernel
theorem dX10_isRowFor_25 : decode cX10_isRowFor 25 = .ok (.invokevirtual 394, 3) := by decide +kernel
theorem dX10_isRowFor_28 : decode cX10_isRowFor 28 = .ok (.invokevirtual 301, 3) := by decide +kernel
theorem dX10_isRowFor_31 : decode cX10_isRowFor 31 = .ok (.iload_n 3, 1) := by decide +kernel
theorem dX10_isRowFor_32 : decode cX10_isRowFor 32 = .ok (.if_icmp .ne 26, 3) := by decide +kernel
theorem dX10_isRowFor_35 : decode cX10_isRowFor 35 = .ok (.iload 4, 2) := by decide +kernel
theorem dX10_isRowFor_37 : decode cX10_isRowFor 37 = .ok (.ifCond .lt 21, 3) := by decide +kernel
theorem dX10_isRowFor_40 : decode cX10_isRowFor 40 = .ok (.iload 4, 2) := by decide +kernel
theorem dX10_isRowFor_42 : decode cX10_isRowFor 42 = .ok (.iconst 3, 1) := by decide +kernel
theorem dX10_isRowFor_43 : decode cX10_isRowFor 43 = .ok (.aload_n 0, 1) := by decide +kernel
theorem dX10_isRowFor_44 : decode cX10_isRowFor 44 = .ok (.getfield 13, 3) := by decide +kernel
theorem dX10_isRowFor_47 : decode cX10_isRowFor 47 = .ok (.bipush 7, 2) := by decide +kernel
theorem dX10_isRowFor_49 : decode cX10_isRowFor 49 = .ok (.iaload, 1) := by decide +kernel
theorem dX10_isRowFor_50 : decode cX10_isRowFor 50 = .ok (.imul, 1) := by decide +kernel
theorem dX10_isRowFor_51 : decode cX10_isRowFor 51 = .ok (.if_icmp .gt 7, 3) := by decide +kernel
theorem dX10_isRowFor_54 : decode cX10_isRowFor 54 = .ok (.iconst 1, 1) := by decide +kernel
theorem dX10_isRowFor_55 : decode cX10_isRowFor 55 = .ok (.goto 4, 3) := by decide +kernel
theorem dX10_isRowFor_58 : decode cX10_isRowFor 58 = .ok (.iconst 0, 1) := by decide +kernel
theorem dX10_isRowFor_59 : decode cX10_isRowFor 59 = .ok (.ireturn, 1) := by decide +kernel
theorem dX10_piecesAt_0 : decode cX10_piecesAt 0 = .ok (.iconst 0, 1) := by decide +kernel
theorem dX10_piecesAt_1 : decode cX10_piecesAt 1 = .ok (.istore 4, 2) := by decide +kernel
theorem dX10_piecesAt_3 : decode cX10_piecesAt 3 = .ok (.iconst 0, 1) := by decide +kernel
theorem dX10_piecesAt_4 : decode cX10_piecesAt 4 = .ok (.istore 5, 2) := by decide +kernel
theorem dX10_piecesAt_6 : decode cX10_piecesAt 6 = .ok (.iload 5, 2) := by decide +kernel
theorem dX10_piecesAt_8 : decode cX10_piecesAt 8 = .ok (.aload_n 0, 1) := by decide +kernel
theorem dX10_piecesAt_9 : decode cX10_piecesAt 9 = .ok (.getfield 13, 3) := by decide +kernel
theorem dX10_piecesAt_12 : decode cX10_piecesAt 12 = .ok (.iconst 4, 1) := by decide +kernel
theorem dX10_piecesAt_13 : decode cX10_piecesAt 13 = .ok (.iaload, 1) := by decide +kernel
theorem dX10_piecesAt_14 : decode cX10_piecesAt 14 = .ok (.if_icmp .ge 47, 3) := by decide +kernel
theorem dX10_piecesAt_17 : decode cX10_piecesAt 17 = .ok (.iload 4, 2) := by decide +kernel
theorem dX10_piecesAt_19 : decode cX10_piecesAt 19 = .ok (.aload_n 0, 1) := by decide +kernel
theorem dX10_piecesAt_20 : decode cX10_piecesAt 20 = .ok (.iload_n 1, 1) := by decide +kernel
theorem dX10_piecesAt_21 : decode cX10_piecesAt 21 = .ok (.iload 5, 2) := by decide +kernel
theorem dX10_piecesAt_23 : decode cX10_piecesAt 23 = .ok (.iload_n 3, 1) := by decide +kernel
theorem dX10_piecesAt_24 : decode cX10_piecesAt 24 = .ok (.invokevirtual 397, 3) := by decide +kernel
theorem dX10_piecesAt_27 : decode cX10_piecesAt 27 = .ok (.ifCond .eq 24, 3) := by decide +kernel
theorem dX10_piecesAt_30 : decode cX10_piecesAt 30 = .ok (.aload_n 0, 1) := by decide +kernel
theorem dX10_piecesAt_31 : decode cX10_piecesAt 31 = .ok (.iload 5, 2) := by decide +kernel
theorem dX10_piecesAt_33 : decode cX10_piecesAt 33 = .ok (.iconst 2, 1) := by decide +kernel
theorem dX10_piecesAt_34 : decode cX10_piecesAt 34 = .ok (.invokevirtual 394, 3) := by decide +kernel
theorem dX10_piecesAt_37 : decode cX10_piecesAt 37 = .ok (.iload_n 2, 1) := by decide +kernel
theorem dX10_piecesAt_38 : decode cX10_piecesAt 38 = .ok (.if_icmp .ne 13, 3) := by decide +kernel
theorem dX10_piecesAt_41 : decode cX10_piecesAt 41 = .ok (.aload_n 0, 1) := by decide +kernel
theorem dX10_piecesAt_42 : decode cX10_piecesAt 42 = .ok (.iload 5, 2) := by decide +kernel
theorem dX10_piecesAt_44 : decode cX10_piecesAt 44 = .ok (.iconst 1, 1) := by decide +kernel
theorem dX10_piecesAt_45 : decode cX10_piecesAt 45 = .ok (.invokevirtual 394, 3) := by decide +kernel
theorem dX10_piecesAt_48 : decode cX10_piecesAt 48 = .ok (.goto 4, 3) := by decide +kernel
theorem dX10_piecesAt_51 : decode cX10_piecesAt 51 = .ok (.iconst 0, 1) := by decide +kernel
theorem dX10_piecesAt_52 : decode cX10_piecesAt 52 = .ok (.iadd, 1) := by decide +kernel
theorem dX10_piecesAt_53 : decode cX10_piecesAt 53 = .ok (.istore 4, 2) := by decide +kernel
theorem dX10_piecesAt_55 : decode cX10_piecesAt 55 = .ok (.iinc 5 1, 3) := by decide +kernel
theorem dX10_piecesAt_58 : decode cX10_piecesAt 58 = .ok (.goto (-52), 3) := by decide +kernel
theorem dX10_piecesAt_61 : decode cX10_piecesAt 61 = .ok (.iload 4, 2) := by decide +kernel
theorem dX10_piecesAt_63 : decode cX10_piecesAt 63 = .ok (.ireturn, 1) := by decide +kernel
theorem dX10_bestPrice_0 : decode cX10_bestPrice 0 = .ok (.iconst (-1), 1) := by decide +kernel
theorem dX10_bestPrice_1 : decode cX10_bestPrice 1 = .ok (.istore_n 3, 1) := by decide +kernel
theorem dX10_bestPrice_2 : decode cX10_bestPrice 2 = .ok (.iconst 0, 1) := by decide +kernel
theorem dX10_bestPrice_3 : decode cX10_bestPrice 3 = .ok (.istore 4, 2) := by decide +kernel
theorem dX10_bestPrice_5 : decode cX10_bestPrice 5 = .ok (.iconst 0, 1) := by decide +kernel
theorem dX10_bestPrice_6 : decode cX10_bestPrice 6 = .ok (.istore 5, 2) := by decide +kernel
theorem dX10_bestPrice_8 : decode cX10_bestPrice 8 = .ok (.iload 5, 2) := by decide +kernel
theorem dX10_bestPrice_10 : decode cX10_bestPrice 10 = .ok (.aload_n 0, 1) := by decide +kernel
theorem dX10_bestPrice_11 : decode cX10_bestPrice 11 = .ok (.getfield 13, 3) := by decide +kernel
theorem dX10_bestPrice_14 : decode cX10_bestPrice 14 = .ok (.iconst 4, 1) := by decide +kernel
theorem dX10_bestPrice_15 : decode cX10_bestPrice 15 = .ok (.iaload, 1) := by decide +kernel
theorem dX10_bestPrice_16 : decode cX10_bestPrice 16 = .ok (.if_icmp .ge 74, 3) := by decide +kernel
theorem dX10_bestPrice_19 : decode cX10_bestPrice 19 = .ok (.aload_n 0, 1) := by decide +kernel
theorem dX10_bestPrice_20 : decode cX10_bestPrice 20 = .ok (.iload_n 1, 1) := by decide +kernel
theorem dX10_bestPrice_21 : decode cX10_bestPrice 21 = .ok (.iload 5, 2) := by decide +kernel
theorem dX10_bestPrice_23 : decode cX10_bestPrice 23 = .ok (.iload_n 2, 1) := by decide +kernel
theorem dX10_bestPrice_24 : decode cX10_bestPrice 24 = .ok (.invokevirtual 397, 3) := by decide +kernel
theorem dX10_bestPrice_27 : decode cX10_bestPrice 27 = .ok (.ifCond .ne 6, 3) := by decide +kernel
theorem dX10_bestPrice_30 : decode cX10_bestPrice 30 = .ok (.goto 54, 3) := by decide +kernel
theorem dX10_bestPrice_33 : decode cX10_bestPrice 33 = .ok (.aload_n 0, 1) := by decide +kernel
theorem dX10_bestPrice_34 : decode cX10_bestPrice 34 = .ok (.iload 5, 2) := by decide +kernel
theorem dX10_bestPrice_36 : decode cX10_bestPrice 36 = .ok (.iconst 2, 1) := by decide +kernel
theorem dX10_bestPrice_37 : decode cX10_bestPrice 37 = .ok (.invokevirtual 394, 3) := by decide +kernel
theorem dX10_bestPrice_40 : decode cX10_bestPrice 40 = .ok (.istore 6, 2) := by decide +kernel
theorem dX10_bestPrice_42 : decode cX10_bestPrice 42 = .ok (.aload_n 0, 1) := by decide +kernel
theorem dX10_bestPrice_43 : decode cX10_bestPrice 43 = .ok (.iload_n 1, 1) := by decide +kernel
theorem dX10_bestPrice_44 : decode cX10_bestPrice 44 = .ok (.iload 6, 2) := by decide +kernel
theorem dX10_bestPrice_46 : decode cX10_bestPrice 46 = .ok (.iload_n 2, 1) := by decide +kernel
theorem dX10_bestPrice_47 : decode cX10_bestPrice 47 = .ok (.invokevirtual 400, 3) := by decide +kernel
theorem dX10_bestPrice_50 : decode cX10_bestPrice 50 = .ok (.istore 7, 2) := by decide +kernel
theorem dX10_bestPrice_52 : decode cX10_bestPrice 52 = .ok (.iload_n 3, 1) := by decide +kernel
theorem dX10_bestPrice_53 : decode cX10_bestPrice 53 = .ok (.iconst (-1), 1) := by decide +kernel
theorem dX10_bestPrice_54 : decode cX10_bestPrice 54 = .ok (.if_icmp .eq 23, 3) := by decide +kernel
theorem dX10_bestPrice_57 : decode cX10_bestPrice 57 = .ok (.iload 7, 2) := by decide +kernel
theorem dX10_bestPrice_59 : decode cX10_bestPrice 59 = .ok (.iload 4, 2) := by decide +kernel
theorem dX10_bestPrice_61 : decode cX10_bestPrice 61 = .ok (.if_icmp .gt 16, 3) := by decide +kernel
theorem dX10_bestPrice_64 : decode cX10_bestPrice 64 = .ok (.iload 7, 2) := by decide +kernel
theorem dX10_bestPrice_66 : decode cX10_bestPrice 66 = .ok (.iload 4, 2) := by decide +kernel
theorem dX10_bestPrice_68 : decode cX10_bestPrice 68 = .ok (.if_icmp .ne 16, 3) := by decide +kernel
theorem dX10_bestPrice_71 : decode cX10_bestPrice 71 = .ok (.iload 6, 2) := by decide +kernel
theorem dX10_bestPrice_73 : decode cX10_bestPrice 73 = .ok (.iload_n 3, 1) := by decide +kernel
theorem dX10_bestPrice_74 : decode cX10_bestPrice 74 = .ok (.if_icmp .ge 10, 3) := by decide +kernel
theorem dX10_bestPrice_77 : decode cX10_bestPrice 77 = .ok (.iload 6, 2) := by decide +kernel
theorem dX10_bestPrice_79 : decode cX10_bestPrice 79 = .ok (.istore_n 3, 1) := by decide +kernel
theorem dX10_bestPrice_80 : decode cX10_bestPrice 80 = .ok (.iload 7, 2) := by decide +kernel
theorem dX10_bestPrice_82 : decode cX10_bestPrice 82 = .ok (.istore 4, 2) := by decide +kernel
theorem dX10_bestPrice_84 : decode cX10_bestPrice 84 = .ok (.iinc 5 1, 3) := by decide +kernel
theorem dX10_bestPrice_87 : decode cX10_bestPrice 87 = .ok (.goto (-79), 3) := by decide +kernel
theorem dX10_bestPrice_90 : decode cX10_bestPrice 90 = .ok (.iload_n 3, 1) := by decide +kernel
theorem dX10_bestPrice_91 : decode cX10_bestPrice 91 = .ok (.ireturn, 1) := by decide +kernel
theorem dX10_byResold_0 : decode cX10_byResold 0 = .ok (.aload_n 0, 1) := by decide +kernel
theorem dX10_byResold_1 : decode cX10_byResold 1 = .ok (.iload_n 1, 1) := by decide +kernel
theorem dX10_byResold_2 : decode cX10_byResold 2 = .ok (.iconst 1, 1) := by decide +kernel
theorem dX10_byResold_3 : decode cX10_byResold 3 = .ok (.invokevirtual 404, 3) := by decide +kernel
theorem dX10_byResold_6 : decode cX10_byResold 6 = .ok (.istore_n 2, 1) := by decide +kernel
theorem dX10_byResold_7 : decode cX10_byResold 7 = .ok (.iload_n 2, 1) := by decide +kernel
theorem dX10_byResold_8 : decode cX10_byResold 8 = .ok (.iconst (-1), 1) := by decide +kernel
theorem dX10_byResold_9 : decode cX10_byResold 9 = .ok (.if_icmp .ne 12, 3) := by decide +kernel
theorem dX10_byResold_12 : decode cX10_byResold 12 = .ok (.aload_n 0, 1) := by decide +kernel
theorem dX10_byResold_13 : decode cX10_byResold 13 = .ok (.iload_n 1, 1) := by decide +kernel
theorem dX10_byResold_14 : decode cX10_byResold 14 = .ok (.iconst 2, 1) := by decide +kernel
theorem dX10_byResold_15 : decode cX10_byResold 15 = .ok (.invokevirtual 404, 3) := by decide +kernel
theorem dX10_byResold_18 : decode cX10_byResold 18 = .ok (.goto 4, 3) := by decide +kernel
theorem dX10_byResold_21 : decode cX10_byResold 21 = .ok (.iload_n 2, 1) := by decide +kernel
theorem dX10_byResold_22 : decode cX10_byResold 22 = .ok (.istore_n 2, 1) := by decide +kernel
theorem dX10_byResold_23 : decode cX10_byResold 23 = .ok (.aload_n 0, 1) := by decide +kernel
theorem dX10_byResold_24 : decode cX10_byResold 24 = .ok (.iload_n 2, 1) := by decide +kernel
theorem dX10_byResold_25 : decode cX10_byResold 25 = .ok (.putfield 391, 3) := by decide +kernel
theorem dX10_byResold_28 : decode cX10_byResold 28 = .ok (.iload_n 2, 1) := by decide +kernel
theorem dX10_byResold_29 : decode cX10_byResold 29 = .ok (.iconst (-1), 1) := by decide +kernel
theorem dX10_byResold_30 : decode cX10_byResold 30 = .ok (.if_icmp .ne 11, 3) := by decide +kernel
theorem dX10_byResold_33 : decode cX10_byResold 33 = .ok (.bipush 41, 2) := by decide +kernel
theorem dX10_byResold_35 : decode cX10_byResold 35 = .ok (.invokestatic 376, 3) := by decide +kernel
theorem dX10_byResold_38 : decode cX10_byResold 38 = .ok (.goto 37, 3) := by decide +kernel
theorem dX10_byResold_41 : decode cX10_byResold 41 = .ok (.aload_n 0, 1) := by decide +kernel
theorem dX10_byResold_42 : decode cX10_byResold 42 = .ok (.iload_n 1, 1) := by decide +kernel
theorem dX10_byResold_43 : decode cX10_byResold 43 = .ok (.iconst 3, 1) := by decide +kernel
theorem dX10_byResold_44 : decode cX10_byResold 44 = .ok (.invokevirtual 281, 3) := by decide +kernel
theorem dX10_byResold_47 : decode cX10_byResold 47 = .ok (.i2l, 1) := by decide +kernel
theorem dX10_byResold_48 : decode cX10_byResold 48 = .ok (.iload_n 2, 1) := by decide +kernel
theorem dX10_byResold_49 : decode cX10_byResold 49 = .ok (.i2l, 1) := by decide +kernel
theorem dX10_byResold_50 : decode cX10_byResold 50 = .ok (.lmul, 1) := by decide +kernel
theorem dX10_byResold_51 : decode cX10_byResold 51 = .ok (.bipush 100, 2) := by decide +kernel
theorem dX10_byResold_53 : decode cX10_byResold 53 = .ok (.aload_n 0, 1) := by decide +kernel
theorem dX10_byResold_54 : decode cX10_byResold 54 = .ok (.getfield 13, 3) := by decide +kernel
theorem dX10_byResold_57 : decode cX10_byResold 57 = .ok (.bipush 8, 2) := by decide +kernel
theorem dX10_byResold_59 : decode cX10_byResold 59 = .ok (.iaload, 1) := by decide +kernel
theorem dX10_byResold_60 : decode cX10_byResold 60 = .ok (.isub, 1) := by decide +kernel
theorem dX10_byResold_61 : decode cX10_byResold 61 = .ok (.i2l, 1) := by decide +kernel
theorem dX10_byResold_62 : decode cX10_byResold 62 = .ok (.lmul, 1) := by decide +kernel
theorem dX10_byResold_63 : decode cX10_byResold 63 = .ok (.bipush 100, 2) := by decide +kernel
theorem dX10_byResold_65 : decode cX10_byResold 65 = .ok (.aload_n 0, 1) := by decide +kernel
theorem dX10_byResold_66 : decode cX10_byResold 66 = .ok (.getfield 13, 3) := by decide +kernel
theorem dX10_byResold_69 : decode cX10_byResold 69 = .ok (.bipush 9, 2) := by decide +kernel
theorem dX10_byResold_71 : decode cX10_byResold 71 = .ok (.iaload, 1) := by decide +kernel
theorem dX10_byResold_72 : decode cX10_byResold 72 = .ok (.iadd, 1) := by decide +kernel
theorem dX10_byResold_73 : decode cX10_byResold 73 = .ok (.i2l, 1) := by decide +kernel
theorem dX10_byResold_74 : decode cX10_byResold 74 = .ok (.ldiv, 1) := by decide +kernel
theorem dX10_byResold_75 : decode cX10_byResold 75 = .ok (.lreturn, 1) := by decide +kernel
theorem dX10_byMaking_0 : decode cX10_byMaking 0 = .ok (.aload_n 0, 1) := by decide +kernel
theorem dX10_byMaking_1 : decode cX10_byMaking 1 = .ok (.aload_n 0, 1) := by decide +kernel
theorem dX10_byMaking_2 : decode cX10_byMaking 2 = .ok (.iload_n 1, 1) := by decide +kernel
theorem dX10_byMaking_3 : decode cX10_byMaking 3 = .ok (.iconst 0, 1) := by decide +kernel
theorem dX10_byMaking_4 : decode cX10_byMaking 4 = .ok (.invokevirtual 281, 3) := by decide +kernel
theorem dX10_byMaking_7 : decode cX10_byMaking 7 = .ok (.iconst 2, 1) := by decide +kernel
theorem dX10_byMaking_8 : decode cX10_byMaking 8 = .ok (.invokevirtual 298, 3) := by decide +kernel
theorem dX10_byMaking_11 : decode cX10_byMaking 11 = .ok (.istore_n 2, 1) := by decide +kernel
theorem dX10_byMaking_12 : decode cX10_byMaking 12 = .ok (.iload_n 2, 1) := by decide +kernel
theorem dX10_byMaking_13 : decode cX10_byMaking 13 = .ok (.ifCond .ne 9, 3) := by decide +kernel
theorem dX10_byMaking_16 : decode cX10_byMaking 16 = .ok (.bipush 51, 2) := by decide +kernel
theorem dX10_byMaking_18 : decode cX10_byMaking 18 = .ok (.invokestatic 376, 3) := by decide +kernel
theorem dX10_byMaking_21 : decode cX10_byMaking 21 = .ok (.lreturn, 1) := by decide +kernel
theorem dX10_byMaking_22 : decode cX10_byMaking 22 = .ok (.aload_n 0, 1) := by decide +kernel
theorem dX10_byMaking_23 : decode cX10_byMaking 23 = .ok (.iload_n 1, 1) := by decide +kernel
theorem dX10_byMaking_24 : decode cX10_byMaking 24 = .ok (.iconst 3, 1) := by decide +kernel
theorem dX10_byMaking_25 : decode cX10_byMaking 25 = .ok (.invokevirtual 281, 3) := by decide +kernel
theorem dX10_byMaking_28 : decode cX10_byMaking 28 = .ok (.i2l, 1) := by decide +kernel
theorem dX10_byMaking_29 : decode cX10_byMaking 29 = .ok (.iload_n 2, 1) := by decide +kernel
theorem dX10_byMaking_30 : decode cX10_byMaking 30 = .ok (.i2l, 1) := by decide +kernel
theorem dX10_byMaking_31 : decode cX10_byMaking 31 = .ok (.lmul, 1) := by decide +kernel
theorem dX10_byMaking_32 : decode cX10_byMaking 32 = .ok (.bipush 100, 2) := by decide +kernel
theorem dX10_byMaking_34 : decode cX10_byMaking 34 = .ok (.aload_n 0, 1) := by decide +kernel
theorem dX10_byMaking_35 : decode cX10_byMaking 35 = .ok (.aload_n 0, 1) := by decide +kernel
theorem dX10_byMaking_36 : decode cX10_byMaking 36 = .ok (.iload_n 1, 1) := by decide +kernel
theorem dX10_byMaking_37 : decode cX10_byMaking 37 = .ok (.iconst 0, 1) := by decide +kernel
theorem dX10_byMaking_38 : decode cX10_byMaking 38 = .ok (.invokevirtual 281, 3) := by decide +kernel
theorem dX10_byMaking_41 : decode cX10_byMaking 41 = .ok (.iconst 3, 1) := by decide +kernel
theorem dX10_byMaking_42 : decode cX10_byMaking 42 = .ok (.invokevirtual 298, 3) := by decide +kernel
theorem dX10_byMaking_45 : decode cX10_byMaking 45 = .ok (.iadd, 1) := by decide +kernel
theorem dX10_byMaking_46 : decode cX10_byMaking 46 = .ok (.i2l, 1) := by decide +kernel
theorem dX10_byMaking_47 : decode cX10_byMaking 47 = .ok (.lmul, 1) := by decide +kernel
theorem dX10_byMaking_48 : decode cX10_byMaking 48 = .ok (.ldc2_w 326, 3) := by decide +kernel
theorem dX10_byMaking_51 : decode cX10_byMaking 51 = .ok (.ldiv, 1) := by decide +kernel
theorem dX10_byMaking_52 : decode cX10_byMaking 52 = .ok (.aload_n 0, 1) := by decide +kernel
theorem dX10_byMaking_53 : decode cX10_byMaking 53 = .ok (.iload_n 1, 1) := by decide +kernel
theorem dX10_byMaking_54 : decode cX10_byMaking 54 = .ok (.bipush 9, 2) := by decide +kernel
theorem dX10_byMaking_56 : decode cX10_byMaking 56 = .ok (.invokevirtual 281, 3) := by decide +kernel
theorem dX10_byMaking_59 : decode cX10_byMaking 59 = .ok (.i2l, 1) := by decide +kernel
theorem dX10_byMaking_60 : decode cX10_byMaking 60 = .ok (.ladd, 1) := by decide +kernel
theorem dX10_byMaking_61 : decode cX10_byMaking 61 = .ok (.aload_n 0, 1) := by decide +kernel
theorem dX10_byMaking_62 : decode cX10_byMaking 62 = .ok (.iload_n 1, 1) := by decide +kernel
theorem dX10_byMaking_63 : decode cX10_byMaking 63 = .ok (.bipush 10, 2) := by decide +kernel
theorem dX10_byMaking_65 : decode cX10_byMaking 65 = .ok (.invokevirtual 281, 3) := by decide +kernel
theorem dX10_byMaking_68 : decode cX10_byMaking 68 = .ok (.i2l, 1) := by decide +kernel
theorem dX10_byMaking_69 : decode cX10_byMaking 69 = .ok (.ladd, 1) := by decide +kernel
theorem dX10_byMaking_70 : decode cX10_byMaking 70 = .ok (.aload_n 0, 1) := by decide +kernel
theorem dX10_byMaking_71 : decode cX10_byMaking 71 = .ok (.iload_n 1, 1) := by decide +kernel
theorem dX10_byMaking_72 : decode cX10_byMaking 72 = .ok (.invokevirtual 328, 3) := by decide +kernel
theorem dX10_byMaking_75 : decode cX10_byMaking 75 = .ok (.i2l, 1) := by decide +kernel
theorem dX10_byMaking_76 : decode cX10_byMaking 76 = .ok (.ladd, 1) := by decide +kernel
theorem dX10_byMaking_77 : decode cX10_byMaking 77 = .ok (.lreturn, 1) := by decide +kernel
theorem dX10_byMethod_0 : decode cX10_byMethod 0 = .ok (.iload_n 2, 1) := by decide +kernel
theorem dX10_byMethod_1 : decode cX10_byMethod 1 = .ok (.tableswitch 67 1 5 #[35, 41, 48, 55, 61], 35) := by decide +kernel
theorem dX10_byMethod_36 : decode cX10_byMethod 36 = .ok (.aload_n 0, 1) := by decide +kernel
theorem dX10_byMethod_37 : decode cX10_byMethod 37 = .ok (.iload_n 1, 1) := by decide +kernel
theorem dX10_byMethod_38 : decode cX10_byMethod 38 = .ok (.invokevirtual 388, 3) := by decide +kernel
theorem dX10_byMethod_41 : decode cX10_byMethod 41 = .ok (.lreturn, 1) := by decide +kernel
theorem dX10_byMethod_42 : decode cX10_byMethod 42 = .ok (.aload_n 0, 1) := by decide +kernel
theorem dX10_byMethod_43 : decode cX10_byMethod 43 = .ok (.iload_n 1, 1) := by decide +kernel
theorem dX10_byMethod_44 : decode cX10_byMethod 44 = .ok (.iconst 1, 1) := by decide +kernel
theorem dX10_byMethod_45 : decode cX10_byMethod 45 = .ok (.invokevirtual 407, 3) := by decide +kernel
theorem dX10_byMethod_48 : decode cX10_byMethod 48 = .ok (.lreturn, 1) := by decide +kernel
theorem dX10_byMethod_49 : decode cX10_byMethod 49 = .ok (.aload_n 0, 1) := by decide +kernel
theorem dX10_byMethod_50 : decode cX10_byMethod 50 = .ok (.iload_n 1, 1) := by decide +kernel
theorem dX10_byMethod_51 : decode cX10_byMethod 51 = .ok (.iconst 2, 1) := by decide +kernel
theorem dX10_byMethod_52 : decode cX10_byMethod 52 = .ok (.invokevirtual 407, 3) := by decide +kernel
theorem dX10_byMethod_55 : decode cX10_byMethod 55 = .ok (.lreturn, 1) := by decide +kernel
theorem dX10_byMethod_56 : decode cX10_byMethod 56 = .ok (.aload_n 0, 1) := by decide +kernel
theorem dX10_byMethod_57 : decode cX10_byMethod 57 = .ok (.iload_n 1, 1) := by decide +kernel
theorem dX10_byMethod_58 : decode cX10_byMethod 58 = .ok (.invokevirtual 363, 3) := by decide +kernel
theorem dX10_byMethod_61 : decode cX10_byMethod 61 = .ok (.lreturn, 1) := by decide +kernel
theorem dX10_byMethod_62 : decode cX10_byMethod 62 = .ok (.aload_n 0, 1) := by decide +kernel
theorem dX10_byMethod_63 : decode cX10_byMethod 63 = .ok (.iload_n 1, 1) := by decide +kernel
theorem dX10_byMethod_64 : decode cX10_byMethod 64 = .ok (.invokevirtual 366, 3) := by decide +kernel
theorem dX10_byMethod_67 : decode cX10_byMethod 67 = .ok (.lreturn, 1) := by decide +kernel
theorem dX10_byMethod_68 : decode cX10_byMethod 68 = .ok (.aload_n 0, 1) := by decide +kernel
theorem dX10_byMethod_69 : decode cX10_byMethod 69 = .ok (.iload_n 1, 1) := by decide +kernel
theorem dX10_byMethod_70 : decode cX10_byMethod 70 = .ok (.iconst 3, 1) := by decide +kernel
theorem dX10_byMethod_71 : decode cX10_byMethod 71 = .ok (.invokevirtual 407, 3) := by decide +kernel
theorem dX10_byMethod_74 : decode cX10_byMethod 74 = .ok (.lreturn, 1) := by decide +kernel
theorem dX10_by_0 : decode cX10_by 0 = .ok (.aload_n 0, 1) := by decide +kernel
theorem dX10_by_1 : decode cX10_by 1 = .ok (.iconst 0, 1) := by decide +kernel
theorem dX10_by_2 : decode cX10_by 2 = .ok (.putfield 1, 3) := by decide +kernel
theorem dX10_by_5 : decode cX10_by 5 = .ok (.aload_n 0, 1) := by decide +kernel
theorem dX10_by_6 : decode cX10_by 6 = .ok (.iload_n 1, 1) := by decide +kernel
theorem dX10_by_7 : decode cX10_by 7 = .ok (.invokevirtual 288, 3) := by decide +kernel
theorem dX10_by_10 : decode cX10_by 10 = .ok (.ifCond .eq 24, 3) := by decide +kernel
theorem dX10_by_13 : decode cX10_by 13 = .ok (.iload_n 2, 1) := by decide +kernel
theorem dX10_by_14 : decode cX10_by 14 = .ok (.i2l, 1) := by decide +kernel
theorem dX10_by_15 : decode cX10_by 15 = .ok (.lconst 1, 1) := by decide +kernel
theorem dX10_by_16 : decode cX10_by 16 = .ok (.ldc2_w 410, 3) := by decide +kernel
theorem dX10_by_19 : decode cX10_by 19 = .ok (.invokestatic 97, 3) := by decide +kernel
theorem dX10_by_22 : decode cX10_by 22 = .ok (.ifCond .eq 12, 3) := by decide +kernel
theorem dX10_by_25 : decode cX10_by 25 = .ok (.aload_n 0, 1) := by decide +kernel
theorem dX10_by_26 : decode cX10_by 26 = .ok (.iload_n 1, 1) := by decide +kernel
theorem dX10_by_27 : decode cX10_by 27 = .ok (.iload_n 2, 1) := by decide +kernel
theorem dX10_by_28 : decode cX10_by 28 = .ok (.invokevirtual 412, 3) := by decide +kernel
theorem dX10_by_31 : decode cX10_by 31 = .ok (.goto 6, 3) := by decide +kernel
theorem dX10_by_34 : decode cX10_by 34 = .ok (.ldc2_w 339, 3) := by decide +kernel
theorem dX10_by_37 : decode cX10_by 37 = .ok (.lreturn, 1) := by decide +kernel
theorem dX10_base_0 : decode cX10_base 0 = .ok (.aload_n 0, 1) := by decide +kernel
theorem dX10_base_1 : decode cX10_base 1 = .ok (.iconst 0, 1) := by decide +kernel
theorem dX10_base_2 : decode cX10_base 2 = .ok (.putfield 1, 3) := by decide +kernel
theorem dX10_base_5 : decode cX10_base 5 = .ok (.aload_n 0, 1) := by decide +kernel
theorem dX10_base_6 : decode cX10_base 6 = .ok (.iload_n 1, 1) := by decide +kernel
theorem dX10_base_7 : decode cX10_base 7 = .ok (.invokevirtual 288, 3) := by decide +kernel
theorem dX10_base_10 : decode cX10_base 10 = .ok (.ifCond .eq 22, 3) := by decide +kernel
theorem dX10_base_13 : decode cX10_base 13 = .ok (.iload_n 2, 1) := by decide +kernel
theorem dX10_base_14 : decode cX10_base 14 = .ok (.i2l, 1) := by decide +kernel
theorem dX10_base_15 : decode cX10_base 15 = .ok (.ldc2_w 415, 3) := by decide +kernel
theorem dX10_base_18 : decode cX10_base 18 = .ok (.ldc2_w 410, 3) := by decide +kernel
theorem dX10_base_21 : decode cX10_base 21 = .ok (.invokestatic 97, 3) := by decide +kernel
theorem dX10_base_24 : decode cX10_base 24 = .ok (.ifCond .eq 8, 3) := by decide +kernel
theorem dX10_base_27 : decode cX10_base 27 = .ok (.iload_n 2, 1) := by decide +kernel
theorem dX10_base_28 : decode cX10_base 28 = .ok (.iconst 5, 1) := by decide +kernel
theorem dX10_base_29 : decode cX10_base 29 = .ok (.if_icmp .ne 5, 3) := by decide +kernel
theorem dX10_base_32 : decode cX10_base 32 = .ok (.iconst (-1), 1) := by decide +kernel
theorem dX10_base_33 : decode cX10_base 33 = .ok (.ireturn, 1) := by decide +kernel
theorem dX10_base_34 : decode cX10_base 34 = .ok (.aload_n 0, 1) := by decide +kernel
theorem dX10_base_35 : decode cX10_base 35 = .ok (.iload_n 1, 1) := by decide +kernel
theorem dX10_base_36 : decode cX10_base 36 = .ok (.iload_n 2, 1) := by decide +kernel
theorem dX10_base_37 : decode cX10_base 37 = .ok (.invokevirtual 412, 3) := by decide +kernel
theorem dX10_base_40 : decode cX10_base 40 = .ok (.lstore_n 3, 1) := by decide +kernel
theorem dX10_base_41 : decode cX10_base 41 = .ok (.lload_n 3, 1) := by decide +kernel
theorem dX10_base_42 : decode cX10_base 42 = .ok (.lconst 0, 1) := by decide +kernel
theorem dX10_base_43 : decode cX10_base 43 = .ok (.lcmp, 1) := by decide +kernel
theorem dX10_base_44 : decode cX10_base 44 = .ok (.ifCond .ge 8, 3) := by decide +kernel
theorem dX10_base_47 : decode cX10_base 47 = .ok (.lload_n 3, 1) := by decide +kernel
theorem dX10_base_48 : decode cX10_base 48 = .ok (.l2i, 1) := by decide +kernel
theorem dX10_base_49 : decode cX10_base 49 = .ok (.goto 7, 3) := by decide +kernel
theorem dX10_base_52 : decode cX10_base 52 = .ok (.aload_n 0, 1) := by decide +kernel
theorem dX10_base_53 : decode cX10_base 53 = .ok (.getfield 391, 3) := by decide +kernel
theorem dX10_base_56 : decode cX10_base 56 = .ok (.ireturn, 1) := by decide +kernel
theorem dX10_methodAt_0 : decode cX10_methodAt 0 = .ok (.iload_n 1, 1) := by decide +kernel
theorem dX10_methodAt_1 : decode cX10_methodAt 1 = .ok (.iconst 1, 1) := by decide +kernel
theorem dX10_methodAt_2 : decode cX10_methodAt 2 = .ok (.if_icmp .ne 12, 3) := by decide +kernel
theorem dX10_methodAt_5 : decode cX10_methodAt 5 = .ok (.iload_n 0, 1) := by decide +kernel
theorem dX10_methodAt_6 : decode cX10_methodAt 6 = .ok (.iconst 3, 1) := by decide +kernel
theorem dX10_methodAt_7 : decode cX10_methodAt 7 = .ok (.if_icmp .ne 7, 3) := by decide +kernel
theorem dX10_methodAt_10 : decode cX10_methodAt 10 = .ok (.iconst 5, 1) := by decide +kernel
theorem dX10_methodAt_11 : decode cX10_methodAt 11 = .ok (.goto 20, 3) := by decide +kernel
theorem dX10_methodAt_14 : decode cX10_methodAt 14 = .ok (.iload_n 1, 1) := by decide +kernel
theorem dX10_methodAt_15 : decode cX10_methodAt 15 = .ok (.iconst 1, 1) := by decide +kernel
theorem dX10_methodAt_16 : decode cX10_methodAt 16 = .ok (.if_icmp .ne 12, 3) := by decide +kernel
theorem dX10_methodAt_19 : decode cX10_methodAt 19 = .ok (.iload_n 0, 1) := by decide +kernel
theorem dX10_methodAt_20 : decode cX10_methodAt 20 = .ok (.iconst 4, 1) := by decide +kernel
theorem dX10_methodAt_21 : decode cX10_methodAt 21 = .ok (.if_icmp .ne 7, 3) := by decide +kernel
theorem dX10_methodAt_24 : decode cX10_methodAt 24 = .ok (.iconst 4, 1) := by decide +kernel
theorem dX10_methodAt_25 : decode cX10_methodAt 25 = .ok (.goto 6, 3) := by decide +kernel
theorem dX10_methodAt_28 : decode cX10_methodAt 28 = .ok (.iload_n 0, 1) := by decide +kernel
theorem dX10_methodAt_29 : decode cX10_methodAt 29 = .ok (.iconst 1, 1) := by decide +kernel
theorem dX10_methodAt_30 : decode cX10_methodAt 30 = .ok (.iadd, 1) := by decide +kernel
theorem dX10_methodAt_31 : decode cX10_methodAt 31 = .ok (.ireturn, 1) := by decide +kernel
theorem dX10_worthBy_0 : decode cX10_worthBy 0 = .ok (.aload_n 0, 1) := by decide +kernel
theorem dX10_worthBy_1 : decode cX10_worthBy 1 = .ok (.iconst 0, 1) := by decide +kernel
theorem dX10_worthBy_2 : decode cX10_worthBy 2 = .ok (.putfield 417, 3) := by decide +kernel
theorem dX10_worthBy_5 : decode cX10_worthBy 5 = .ok (.aload_n 0, 1) := by decide +kernel
theorem dX10_worthBy_6 : decode cX10_worthBy 6 = .ok (.bipush (-2), 2) := by decide +kernel
theorem dX10_worthBy_8 : decode cX10_worthBy 8 = .ok (.putfield 420, 3) := by decide +kernel
theorem dX10_worthBy_11 : decode cX10_worthBy 11 = .ok (.iconst 0, 1) := by decide +kernel
theorem dX10_worthBy_12 : decode cX10_worthBy 12 = .ok (.istore_n 3, 1) := by decide +kernel
theorem dX10_worthBy_13 : decode cX10_worthBy 13 = .ok (.iload_n 3, 1) := by decide +kernel
theorem dX10_worthBy_14 : decode cX10_worthBy 14 = .ok (.bipush 6, 2) := by decide +kernel
theorem dX10_worthBy_16 : decode cX10_worthBy 16 = .ok (.if_icmp .ge 67, 3) := by decide +kernel
theorem dX10_worthBy_19 : decode cX10_worthBy 19 = .ok (.iload_n 3, 1) := by decide +kernel
theorem dX10_worthBy_20 : decode cX10_worthBy 20 = .ok (.iload_n 2, 1) := by decide +kernel
theorem dX10_worthBy_21 : decode cX10_worthBy 21 = .ok (.invokestatic 423, 3) := by decide +kernel
theorem dX10_worthBy_24 : decode cX10_worthBy 24 = .ok (.istore 4, 2) := by decide +kernel
theorem dX10_worthBy_26 : decode cX10_worthBy 26 = .ok (.aload_n 0, 1) := by decide +kernel
theorem dX10_worthBy_27 : decode cX10_worthBy 27 = .ok (.iload_n 1, 1) := by decide +kernel
theorem dX10_worthBy_28 : decode cX10_worthBy 28 = .ok (.iload 4, 2) := by decide +kernel
theorem dX10_worthBy_30 : decode cX10_worthBy 30 = .ok (.invokevirtual 412, 3) := by decide +kernel
theorem dX10_worthBy_33 : decode cX10_worthBy 33 = .ok (.lstore 5, 2) := by decide +kernel
theorem dX10_worthBy_35 : decode cX10_worthBy 35 = .ok (.lload 5, 2) := by decide +kernel
theorem dX10_worthBy_37 : decode cX10_worthBy 37 = .ok (.lconst 0, 1) := by decide +kernel
theorem dX10_worthBy_38 : decode cX10_worthBy 38 = .ok (.lcmp, 1) := by decide +kernel
theorem dX10_worthBy_39 : decode cX10_worthBy 39 = .ok (.ifCond .lt 12, 3) := by decide +kernel
theorem dX10_worthBy_42 : decode cX10_worthBy 42 = .ok (.aload_n 0, 1) := by decide +kernel
theorem dX10_worthBy_43 : decode cX10_worthBy 43 = .ok (.iload 4, 2) := by decide +kernel
theorem dX10_worthBy_45 : decode cX10_worthBy 45 = .ok (.putfield 420, 3) := by decide +kernel
theorem dX10_worthBy_48 : decode cX10_worthBy 48 = .ok (.lload 5, 2) := by decide +kernel
theorem dX10_worthBy_50 : decode cX10_worthBy 50 = .ok (.lreturn, 1) := by decide +kernel
theorem dX10_worthBy_51 : decode cX10_worthBy 51 = .ok (.aload_n 0, 1) := by decide +kernel
theorem dX10_worthBy_52 : decode cX10_worthBy 52 = .ok (.getfield 53, 3) := by decide +kernel
theorem dX10_worthBy_55 : decode cX10_worthBy 55 = .ok (.aload_n 0, 1) := by decide +kernel
theorem dX10_worthBy_56 : decode cX10_worthBy 56 = .ok (.getfield 417, 3) := by decide +kernel
theorem dX10_worthBy_59 : decode cX10_worthBy 59 = .ok (.ldc2_w 382, 3) := by decide +kernel
theorem dX10_worthBy_62 : decode cX10_worthBy 62 = .ok (.lload 5, 2) := by decide +kernel
theorem dX10_worthBy_64 : decode cX10_worthBy 64 = .ok (.lsub, 1) := by decide +kernel
theorem dX10_worthBy_65 : decode cX10_worthBy 65 = .ok (.l2i, 1) := by decide +kernel
theorem dX10_worthBy_66 : decode cX10_worthBy 66 = .ok (.iastore, 1) := by decide +kernel
theorem dX10_worthBy_67 : decode cX10_worthBy 67 = .ok (.aload_n 0, 1) := by decide +kernel
theorem dX10_worthBy_68 : decode cX10_worthBy 68 = .ok (.dup, 1) := by decide +kernel
theorem dX10_worthBy_69 : decode cX10_worthBy 69 = .ok (.getfield 417, 3) := by decide +kernel
theorem dX10_worthBy_72 : decode cX10_worthBy 72 = .ok (.iconst 1, 1) := by decide +kernel
theorem dX10_worthBy_73 : decode cX10_worthBy 73 = .ok (.iadd, 1) := by decide +kernel
theorem dX10_worthBy_74 : decode cX10_worthBy 74 = .ok (.putfield 417, 3) := by decide +kernel
theorem dX10_worthBy_77 : decode cX10_worthBy 77 = .ok (.iinc 3 1, 3) := by decide +kernel
theorem dX10_worthBy_80 : decode cX10_worthBy 80 = .ok (.goto (-67), 3) := by decide +kernel
theorem dX10_worthBy_83 : decode cX10_worthBy 83 = .ok (.ldc2_w 382, 3) := by decide +kernel
theorem dX10_worthBy_86 : decode cX10_worthBy 86 = .ok (.lreturn, 1) := by decide +kernel
theorem dX10_worthOf_0 : decode cX10_worthOf 0 = .ok (.aload_n 0, 1) := by decide +kernel
theorem dX10_worthOf_1 : decode cX10_worthOf 1 = .ok (.iload_n 1, 1) := by decide +kernel
theorem dX10_worthOf_2 : decode cX10_worthOf 2 = .ok (.aload_n 0, 1) := by decide +kernel
theorem dX10_worthOf_3 : decode cX10_worthOf 3 = .ok (.getfield 13, 3) := by decide +kernel
theorem dX10_worthOf_6 : decode cX10_worthOf 6 = .ok (.bipush 10, 2) := by decide +kernel
theorem dX10_worthOf_8 : decode cX10_worthOf 8 = .ok (.iaload, 1) := by decide +kernel
theorem dX10_worthOf_9 : decode cX10_worthOf 9 = .ok (.invokevirtual 426, 3) := by decide +kernel
theorem dX10_worthOf_12 : decode cX10_worthOf 12 = .ok (.lreturn, 1) := by decide +kernel
theorem dX10_worth_0 : decode cX10_worth 0 = .ok (.aload_n 0, 1) := by decide +kernel
theorem dX10_worth_1 : decode cX10_worth 1 = .ok (.iconst 0, 1) := by decide +kernel
theorem dX10_worth_2 : decode cX10_worth 2 = .ok (.putfield 1, 3) := by decide +kernel
theorem dX10_worth_5 : decode cX10_worth 5 = .ok (.aload_n 0, 1) := by decide +kernel
theorem dX10_worth_6 : decode cX10_worth 6 = .ok (.iload_n 1, 1) := by decide +kernel
theorem dX10_worth_7 : decode cX10_worth 7 = .ok (.invokevirtual 288, 3) := by decide +kernel
theorem dX10_worth_10 : decode cX10_worth 10 = .ok (.ifCond .eq 11, 3) := by decide +kernel
theorem dX10_worth_13 : decode cX10_worth 13 = .ok (.aload_n 0, 1) := by decide +kernel
theorem dX10_worth_14 : decode cX10_worth 14 = .ok (.iload_n 1, 1) := by decide +kernel
theorem dX10_worth_15 : decode cX10_worth 15 = .ok (.invokevirtual 429, 3) := by decide +kernel
theorem dX10_worth_18 : decode cX10_worth 18 = .ok (.goto 6, 3) := by decide +kernel
theorem dX10_worth_21 : decode cX10_worth 21 = .ok (.ldc2_w 339, 3) := by decide +kernel
theorem dX10_worth_24 : decode cX10_worth 24 = .ok (.lreturn, 1) := by decide +kernel
theorem dX10_method_0 : decode cX10_method 0 = .ok (.aload_n 0, 1) := by decide +kernel
theorem dX10_method_1 : decode cX10_method 1 = .ok (.iconst 0, 1) := by decide +kernel
theorem dX10_method_2 : decode cX10_method 2 = .ok (.putfield 1, 3) := by decide +kernel
theorem dX10_method_5 : decode cX10_method 5 = .ok (.aload_n 0, 1) := by decide +kernel
theorem dX10_method_6 : decode cX10_method 6 = .ok (.iload_n 1, 1) := by decide +kernel
theorem dX10_method_7 : decode cX10_method 7 = .ok (.invokevirtual 288, 3) := by decide +kernel
theorem dX10_method_10 : decode cX10_method 10 = .ok (.ifCond .ne 5, 3) := by decide +kernel
theorem dX10_method_13 : decode cX10_method 13 = .ok (.iconst (-1), 1) := by decide +kernel
theorem dX10_method_14 : decode cX10_method 14 = .ok (.ireturn, 1) := by decide +kernel
theorem dX10_method_15 : decode cX10_method 15 = .ok (.aload_n 0, 1) := by decide +kernel
theorem dX10_method_16 : decode cX10_method 16 = .ok (.iload_n 1, 1) := by decide +kernel
theorem dX10_method_17 : decode cX10_method 17 = .ok (.invokevirtual 429, 3) := by decide +kernel
theorem dX10_method_20 : decode cX10_method 20 = .ok (.lstore_n 2, 1) := by decide +kernel
theorem dX10_method_21 : decode cX10_method 21 = .ok (.lload_n 2, 1) := by decide +kernel
theorem dX10_method_22 : decode cX10_method 22 = .ok (.lconst 0, 1) := by decide +kernel
theorem dX10_method_23 : decode cX10_method 23 = .ok (.lcmp, 1) := by decide +kernel
theorem dX10_method_24 : decode cX10_method 24 = .ok (.ifCond .ge 8, 3) := by decide +kernel
theorem dX10_method_27 : decode cX10_method 27 = .ok (.bipush (-2), 2) := by decide +kernel
theorem dX10_method_29 : decode cX10_method 29 = .ok (.goto 7, 3) := by decide +kernel
theorem dX10_method_32 : decode cX10_method 32 = .ok (.aload_n 0, 1) := by decide +kernel
theorem dX10_method_33 : decode cX10_method 33 = .ok (.getfield 420, 3) := by decide +kernel
theorem dX10_method_36 : decode cX10_method 36 = .ok (.ireturn, 1) := by decide +kernel
theorem dX10_why_0 : decode cX10_why 0 = .ok (.aload_n 0, 1) := by decide +kernel
theorem dX10_why_1 : decode cX10_why 1 = .ok (.iconst 0, 1) := by decide +kernel
theorem dX10_why_2 : decode cX10_why 2 = .ok (.putfield 1, 3) := by decide +kernel
theorem dX10_why_5 : decode cX10_why 5 = .ok (.aload_n 0, 1) := by decide +kernel
theorem dX10_why_6 : decode cX10_why 6 = .ok (.iload_n 1, 1) := by decide +kernel
theorem dX10_why_7 : decode cX10_why 7 = .ok (.invokevirtual 288, 3) := by decide +kernel
theorem dX10_why_10 : decode cX10_why 10 = .ok (.ifCond .eq 8, 3) := by decide +kernel
theorem dX10_why_13 : decode cX10_why 13 = .ok (.iload_n 2, 1) := by decide +kernel
theorem dX10_why_14 : decode cX10_why 14 = .ok (.iconst (-1), 1) := by decide +kernel
theorem dX10_why_15 : decode cX10_why 15 = .ok (.if_icmp .ge 5, 3) := by decide +kernel
theorem dX10_why_18 : decode cX10_why 18 = .ok (.iconst (-1), 1) := by decide +kernel
theorem dX10_why_19 : decode cX10_why 19 = .ok (.ireturn, 1) := by decide +kernel
theorem dX10_why_20 : decode cX10_why 20 = .ok (.aload_n 0, 1) := by decide +kernel
theorem dX10_why_21 : decode cX10_why 21 = .ok (.iload_n 1, 1) := by decide +kernel
theorem dX10_why_22 : decode cX10_why 22 = .ok (.invokevirtual 429, 3) := by decide +kernel
theorem dX10_why_25 : decode cX10_why 25 = .ok (.lstore_n 3, 1) := by decide +kernel
theorem dX10_why_26 : decode cX10_why 26 = .ok (.aload_n 0, 1) := by decide +kernel
theorem dX10_why_27 : decode cX10_why 27 = .ok (.lload_n 3, 1) := by decide +kernel
theorem dX10_why_28 : decode cX10_why 28 = .ok (.ldc2_w 382, 3) := by decide +kernel
theorem dX10_why_31 : decode cX10_why 31 = .ok (.lcmp, 1) := by decide +kernel
theorem dX10_why_32 : decode cX10_why 32 = .ok (.ifCond .ne 8, 3) := by decide +kernel
theorem dX10_why_35 : decode cX10_why 35 = .ok (.bipush 6, 2) := by decide +kernel
theorem dX10_why_37 : decode cX10_why 37 = .ok (.goto 7, 3) := by decide +kernel
theorem dX10_why_40 : decode cX10_why 40 = .ok (.aload_n 0, 1) := by decide +kernel
theorem dX10_why_41 : decode cX10_why 41 = .ok (.getfield 417, 3) := by decide +kernel
theorem dX10_why_44 : decode cX10_why 44 = .ok (.putfield 417, 3) := by decide +kernel
theorem dX10_why_47 : decode cX10_why 47 = .ok (.iload_n 2, 1) := by decide +kernel
theorem dX10_why_48 : decode cX10_why 48 = .ok (.iconst (-1), 1) := by decide +kernel
theorem dX10_why_49 : decode cX10_why 49 = .ok (.if_icmp .ne 10, 3) := by decide +kernel
theorem dX10_why_52 : decode cX10_why 52 = .ok (.aload_n 0, 1) := by decide +kernel
theorem dX10_why_53 : decode cX10_why 53 = .ok (.getfield 417, 3) := by decide +kernel
theorem dX10_why_56 : decode cX10_why 56 = .ok (.goto 22, 3) := by decide +kernel
theorem dX10_why_59 : decode cX10_why 59 = .ok (.iload_n 2, 1) := by decide +kernel
theorem dX10_why_60 : decode cX10_why 60 = .ok (.aload_n 0, 1) := by decide +kernel
theorem dX10_why_61 : decode cX10_why 61 = .ok (.getfield 417, 3) := by decide +kernel
theorem dX10_why_64 : decode cX10_why 64 = .ok (.if_icmp .ge 12, 3) := by decide +kernel
theorem dX10_why_67 : decode cX10_why 67 = .ok (.aload_n 0, 1) := by decide +kernel
theorem dX10_why_68 : decode cX10_why 68 = .ok (.getfield 53, 3) := by decide +kernel
theorem dX10_why_71 : decode cX10_why 71 = .ok (.iload_n 2, 1) := by decide +kernel
theorem dX10_why_72 : decode cX10_why 72 = .ok (.iaload, 1) := by decide +kernel
theorem dX10_why_73 : decode cX10_why 73 = .ok (.goto 5, 3) := by decide +kernel
theorem dX10_why_76 : decode cX10_why 76 = .ok (.bipush (-2), 2) := by decide +kernel
theorem dX10_why_78 : decode cX10_why 78 = .ok (.ireturn, 1) := by decide +kernel
theorem dX10_test_0 : decode cX10_test 0 = .ok (.aload_n 0, 1) := by decide +kernel
theorem dX10_test_1 : decode cX10_test 1 = .ok (.iconst 0, 1) := by decide +kernel
theorem dX10_test_2 : decode cX10_test 2 = .ok (.putfield 1, 3) := by decide +kernel
theorem dX10_test_5 : decode cX10_test 5 = .ok (.aload_n 0, 1) := by decide +kernel
theorem dX10_test_6 : decode cX10_test 6 = .ok (.iload_n 1, 1) := by decide +kernel
theorem dX10_test_7 : decode cX10_test 7 = .ok (.invokevirtual 288, 3) := by decide +kernel
theorem dX10_test_10 : decode cX10_test 10 = .ok (.ifCond .eq 8, 3) := by decide +kernel
theorem dX10_test_13 : decode cX10_test 13 = .ok (.iload_n 2, 1) := by decide +kernel
theorem dX10_test_14 : decode cX10_test 14 = .ok (.iconst (-1), 1) := by decide +kernel
theorem dX10_test_15 : decode cX10_test 15 = .ok (.if_icmp .ge 7, 3) := by decide +kernel
theorem dX10_test_18 : decode cX10_test 18 = .ok (.ldc2_w 339, 3) := by decide +kernel
theorem dX10_test_21 : decode cX10_test 21 = .ok (.lreturn, 1) := by decide +kernel
theorem dX10_test_22 : decode cX10_test 22 = .ok (.aload_n 0, 1) := by decide +kernel
theorem dX10_test_23 : decode cX10_test 23 = .ok (.iload_n 1, 1) := by decide +kernel
theorem dX10_test_24 : decode cX10_test 24 = .ok (.invokevirtual 369, 3) := by decide +kernel
theorem dX10_test_27 : decode cX10_test 27 = .ok (.iload_n 2, 1) := by decide +kernel
theorem dX10_test_28 : decode cX10_test 28 = .ok (.iconst (-1), 1) := by decide +kernel
theorem dX10_test_29 : decode cX10_test 29 = .ok (.if_icmp .ne 11, 3) := by decide +kernel
theorem dX10_test_32 : decode cX10_test 32 = .ok (.aload_n 0, 1) := by decide +kernel
theorem dX10_test_33 : decode cX10_test 33 = .ok (.getfield 344, 3) := by decide +kernel
theorem dX10_test_36 : decode cX10_test 36 = .ok (.i2l, 1) := by decide +kernel
theorem dX10_test_37 : decode cX10_test 37 = .ok (.goto 23, 3) := by decide +kernel
theorem dX10_test_40 : decode cX10_test 40 = .ok (.iload_n 2, 1) := by decide +kernel
theorem dX10_test_41 : decode cX10_test 41 = .ok (.aload_n 0, 1) := by decide +kernel
theorem dX10_test_42 : decode cX10_test 42 = .ok (.getfield 344, 3) := by decide +kernel
theorem dX10_test_45 : decode cX10_test 45 = .ok (.if_icmp .ge 12, 3) := by decide +kernel
theorem dX10_test_48 : decode cX10_test 48 = .ok (.aload_n 0, 1) := by decide +kernel
theorem dX10_test_49 : decode cX10_test 49 = .ok (.getfield 50, 3) := by decide +kernel
theorem dX10_test_52 : decode cX10_test 52 = .ok (.iload_n 2, 1) := by decide +kernel
theorem dX10_test_53 : decode cX10_test 53 = .ok (.laload, 1) := by decide +kernel
theorem dX10_test_54 : decode cX10_test 54 = .ok (.goto 6, 3) := by decide +kernel
theorem dX10_test_57 : decode cX10_test 57 = .ok (.ldc2_w 382, 3) := by decide +kernel
theorem dX10_test_60 : decode cX10_test 60 = .ok (.lreturn, 1) := by decide +kernel
theorem dX10_passes_0 : decode cX10_passes 0 = .ok (.aload_n 0, 1) := by decide +kernel
theorem dX10_passes_1 : decode cX10_passes 1 = .ok (.iconst 0, 1) := by decide +kernel
theorem dX10_passes_2 : decode cX10_passes 2 = .ok (.putfield 1, 3) := by decide +kernel
theorem dX10_passes_5 : decode cX10_passes 5 = .ok (.aload_n 0, 1) := by decide +kernel
theorem dX10_passes_6 : decode cX10_passes 6 = .ok (.iload_n 1, 1) := by decide +kernel
theorem dX10_passes_7 : decode cX10_passes 7 = .ok (.invokevirtual 288, 3) := by decide +kernel
theorem dX10_passes_10 : decode cX10_passes 10 = .ok (.ifCond .ne 7, 3) := by decide +kernel
theorem dX10_passes_13 : decode cX10_passes 13 = .ok (.iconst (-1), 1) := by decide +kernel
theorem dX10_passes_14 : decode cX10_passes 14 = .ok (.goto 16, 3) := by decide +kernel
theorem dX10_passes_17 : decode cX10_passes 17 = .ok (.aload_n 0, 1) := by decide +kernel
theorem dX10_passes_18 : decode cX10_passes 18 = .ok (.iload_n 1, 1) := by decide +kernel
theorem dX10_passes_19 : decode cX10_passes 19 = .ok (.invokevirtual 379, 3) := by decide +kernel
theorem dX10_passes_22 : decode cX10_passes 22 = .ok (.ifCond .eq 7, 3) := by decide +kernel
theorem dX10_passes_25 : decode cX10_passes 25 = .ok (.iconst 1, 1) := by decide +kernel
theorem dX10_passes_26 : decode cX10_passes 26 = .ok (.goto 4, 3) := by decide +kernel
theorem dX10_passes_29 : decode cX10_passes 29 = .ok (.iconst 0, 1) := by decide +kernel
theorem dX10_passes_30 : decode cX10_passes 30 = .ok (.ireturn, 1) := by decide +kernel
theorem dX10_prices_0 : decode cX10_prices 0 = .ok (.aload_n 0, 1) := by decide +kernel
theorem dX10_prices_1 : decode cX10_prices 1 = .ok (.iconst 0, 1) := by decide +kernel
theorem dX10_prices_2 : decode cX10_prices 2 = .ok (.putfield 1, 3) := by decide +kernel
theorem dX10_prices_5 : decode cX10_prices 5 = .ok (.aload_n 0, 1) := by decide +kernel
theorem dX10_prices_6 : decode cX10_prices 6 = .ok (.iload_n 1, 1) := by decide +kernel
theorem dX10_prices_7 : decode cX10_prices 7 = .ok (.invokevirtual 288, 3) := by decide +kernel
theorem dX10_prices_10 : decode cX10_prices 10 = .ok (.ifCond .eq 15, 3) := by decide +kernel
theorem dX10_prices_13 : decode cX10_prices 13 = .ok (.iload_n 2, 1) := by decide +kernel
theorem dX10_prices_14 : decode cX10_prices 14 = .ok (.i2l, 1) := by decide +kernel
theorem dX10_prices_15 : decode cX10_prices 15 = .ok (.lconst 0, 1) := by decide +kernel
theorem dX10_prices_16 : decode cX10_prices 16 = .ok (.ldc2_w 415, 3) := by decide +kernel
theorem dX10_prices_19 : decode cX10_prices 19 = .ok (.invokestatic 97, 3) := by decide +kernel
theorem dX10_prices_22 : decode cX10_prices 22 = .ok (.ifCond .ne 6, 3) := by decide +kernel
theorem dX10_prices_25 : decode cX10_prices 25 = .ok (.bipush (-2), 2) := by decide +kernel
theorem dX10_prices_27 : decode cX10_prices 27 = .ok (.ireturn, 1) := by decide +kernel
theorem dX10_prices_28 : decode cX10_prices 28 = .ok (.aload_n 0, 1) := by decide +kernel
theorem dX10_prices_29 : decode cX10_prices 29 = .ok (.iload_n 1, 1) := by decide +kernel
theorem dX10_prices_30 : decode cX10_prices 30 = .ok (.invokevirtual 369, 3) := by decide +kernel
theorem dX10_prices_33 : decode cX10_prices 33 = .ok (.iconst 0, 1) := by decide +kernel
theorem dX10_prices_34 : decode cX10_prices 34 = .ok (.istore_n 3, 1) := by decide +kernel
theorem dX10_prices_35 : decode cX10_prices 35 = .ok (.iconst (-1), 1) := by decide +kernel
theorem dX10_prices_36 : decode cX10_prices 36 = .ok (.istore 4, 2) := by decide +kernel
theorem dX10_prices_38 : decode cX10_prices 38 = .ok (.iconst (-1), 1) := by decide +kernel
theorem dX10_prices_39 : decode cX10_prices 39 = .ok (.istore 5, 2) := by decide +kernel
theorem dX10_prices_41 : decode cX10_prices 41 = .ok (.iconst 1, 1) := by decide +kernel
theorem dX10_prices_42 : decode cX10_prices 42 = .ok (.istore 6, 2) := by decide +kernel
theorem dX10_prices_44 : decode cX10_prices 44 = .ok (.iload 6, 2) := by decide +kernel
theorem dX10_prices_46 : decode cX10_prices 46 = .ok (.sipush 9999, 3) := by decide +kernel
theorem dX10_prices_49 : decode cX10_prices 49 = .ok (.if_icmp .gt 52, 3) := by decide +kernel
theorem dX10_prices_52 : decode cX10_prices 52 = .ok (.aload_n 0, 1) := by decide +kernel
theorem dX10_prices_53 : decode cX10_prices 53 = .ok (.aload_n 0, 1) := by decide +kernel
theorem dX10_prices_54 : decode cX10_prices 54 = .ok (.iload_n 1, 1) := by decide +kernel
theorem dX10_prices_55 : decode cX10_prices 55 = .ok (.iload 6, 2) := by decide +kernel
theorem dX10_prices_57 : decode cX10_prices 57 = .ok (.invokevirtual 331, 3) := by decide +kernel
theorem dX10_prices_60 : decode cX10_prices 60 = .ok (.aload_n 0, 1) := by decide +kernel
theorem dX10_prices_61 : decode cX10_prices 61 = .ok (.getfield 13, 3) := by decide +kernel
theorem dX10_prices_64 : decode cX10_prices 64 = .ok (.bipush 6, 2) := by decide +kernel
theorem dX10_prices_66 : decode cX10_prices 66 = .ok (.iaload, 1) := by decide +kernel
theorem dX10_prices_67 : decode cX10_prices 67 = .ok (.invokevirtual 372, 3) := by decide +kernel
theorem dX10_prices_70 : decode cX10_prices 70 = .ok (.ifCond .eq 25, 3) := by decide +kernel
theorem dX10_prices_73 : decode cX10_prices 73 = .ok (.iinc 3 1, 3) := by decide +kernel
theorem dX10_prices_76 : decode cX10_prices 76 = .ok (.iload 4, 2) := by decide +kernel
theorem dX10_prices_78 : decode cX10_prices 78 = .ok (.iconst (-1), 1) := by decide +kernel
theorem dX10_prices_79 : decode cX10_prices 79 = .ok (.if_icmp .ne 8, 3) := by decide +kernel
theorem dX10_prices_82 : decode cX10_prices 82 = .ok (.iload 6, 2) := by decide +kernel
theorem dX10_prices_84 : decode cX10_prices 84 = .ok (.goto 5, 3) := by decide +kernel
theorem dX10_prices_87 : decode cX10_prices 87 = .ok (.iload 4, 2) := by decide +kernel
theorem dX10_prices_89 : decode cX10_prices 89 = .ok (.istore 4, 2) := by decide +kernel
theorem dX10_prices_91 : decode cX10_prices 91 = .ok (.iload 6, 2) := by decide +kernel
theorem dX10_prices_93 : decode cX10_prices 93 = .ok (.istore 5, 2) := by decide +kernel
theorem dX10_prices_95 : decode cX10_prices 95 = .ok (.iinc 6 1, 3) := by decide +kernel
theorem dX10_prices_98 : decode cX10_prices 98 = .ok (.goto (-54), 3) := by decide +kernel
theorem dX10_prices_101 : decode cX10_prices 101 = .ok (.iload_n 2, 1) := by decide +kernel
theorem dX10_prices_102 : decode cX10_prices 102 = .ok (.ifCond .ne 7, 3) := by decide +kernel
theorem dX10_prices_105 : decode cX10_prices 105 = .ok (.iload_n 3, 1) := by decide +kernel
theorem dX10_prices_106 : decode cX10_prices 106 = .ok (.goto 15, 3) := by decide +kernel
theorem dX10_prices_109 : decode cX10_prices 109 = .ok (.iload_n 2, 1) := by decide +kernel
theorem dX10_prices_110 : decode cX10_prices 110 = .ok (.iconst 1, 1) := by decide +kernel
theorem dX10_prices_111 : decode cX10_prices 111 = .ok (.if_icmp .ne 8, 3) := by decide +kernel
theorem dX10_prices_114 : decode cX10_prices 114 = .ok (.iload 4, 2) := by decide +kernel
theorem dX10_prices_116 : decode cX10_prices 116 = .ok (.goto 5, 3) := by decide +kernel
theorem dX10_prices_119 : decode cX10_prices 119 = .ok (.iload 5, 2) := by decide +kernel
theorem dX10_prices_121 : decode cX10_prices 121 = .ok (.ireturn, 1) := by decide +kernel
theorem dX10_needs_0 : decode cX10_needs 0 = .ok (.aload_n 0, 1) := by decide +kernel
theorem dX10_needs_1 : decode cX10_needs 1 = .ok (.iconst 0, 1) := by decide +kernel
theorem dX10_needs_2 : decode cX10_needs 2 = .ok (.putfield 1, 3) := by decide +kernel
theorem dX10_needs_5 : decode cX10_needs 5 = .ok (.aload_n 0, 1) := by decide +kernel
theorem dX10_needs_6 : decode cX10_needs 6 = .ok (.iload_n 1, 1) := by decide +kernel
theorem dX10_needs_7 : decode cX10_needs 7 = .ok (.invokevirtual 288, 3) := by decide +kernel
theorem dX10_needs_10 : decode cX10_needs 10 = .ok (.ifCond .ne 5, 3) := by decide +kernel
theorem dX10_needs_13 : decode cX10_needs 13 = .ok (.iconst (-1), 1) := by decide +kernel
theorem dX10_needs_14 : decode cX10_needs 14 = .ok (.ireturn, 1) := by decide +kernel
theorem dX10_needs_15 : decode cX10_needs 15 = .ok (.aload_n 0, 1) := by decide +kernel
theorem dX10_needs_16 : decode cX10_needs 16 = .ok (.iload_n 1, 1) := by decide +kernel
theorem dX10_needs_17 : decode cX10_needs 17 = .ok (.invokevirtual 369, 3) := by decide +kernel
theorem dX10_needs_20 : decode cX10_needs 20 = .ok (.aload_n 0, 1) := by decide +kernel
theorem dX10_needs_21 : decode cX10_needs 21 = .ok (.iload_n 1, 1) := by decide +kernel
theorem dX10_needs_22 : decode cX10_needs 22 = .ok (.invokevirtual 335, 3) := by decide +kernel
theorem dX10_needs_25 : decode cX10_needs 25 = .ok (.lstore_n 2, 1) := by decide +kernel
theorem dX10_needs_26 : decode cX10_needs 26 = .ok (.iconst 0, 1) := by decide +kernel
theorem dX10_needs_27 : decode cX10_needs 27 = .ok (.istore 4, 2) := by decide +kernel
theorem dX10_needs_29 : decode cX10_needs 29 = .ok (.iload 4, 2) := by decide +kernel
theorem dX10_needs_31 : decode cX10_needs 31 = .ok (.bipush 50, 2) := by decide +kernel
theorem dX10_needs_33 : decode cX10_needs 33 = .ok (.if_icmp .gt 22, 3) := by decide +kernel
theorem dX10_needs_36 : decode cX10_needs 36 = .ok (.aload_n 0, 1) := by decide +kernel
theorem dX10_needs_37 : decode cX10_needs 37 = .ok (.lload_n 2, 1) := by decide +kernel
theorem dX10_needs_38 : decode cX10_needs 38 = .ok (.iload 4, 2) := by decide +kernel
theorem dX10_needs_40 : decode cX10_needs 40 = .ok (.invokevirtual 372, 3) := by decide +kernel
theorem dX10_needs_43 : decode cX10_needs 43 = .ok (.ifCond .eq 6, 3) := by decide +kernel
theorem dX10_needs_46 : decode cX10_needs 46 = .ok (.iload 4, 2) := by decide +kernel
theorem dX10_needs_48 : decode cX10_needs 48 = .ok (.ireturn, 1) := by decide +kernel
theorem dX10_needs_49 : decode cX10_needs 49 = .ok (.iinc 4 1, 3) := by decide +kernel
theorem dX10_needs_52 : decode cX10_needs 52 = .ok (.goto (-23), 3) := by decide +kernel
theorem dX10_needs_55 : decode cX10_needs 55 = .ok (.bipush (-2), 2) := by decide +kernel
theorem dX10_needs_57 : decode cX10_needs 57 = .ok (.ireturn, 1) := by decide +kernel
theorem dX10_rests_0 : decode cX10_rests 0 = .ok (.aload_n 0, 1) := by decide +kernel
theorem dX10_rests_1 : decode cX10_rests 1 = .ok (.iconst 0, 1) := by decide +kernel
theorem dX10_rests_2 : decode cX10_rests 2 = .ok (.putfield 1, 3) := by decide +kernel
theorem dX10_rests_5 : decode cX10_rests 5 = .ok (.aload_n 0, 1) := by decide +kernel
theorem dX10_rests_6 : decode cX10_rests 6 = .ok (.iload_n 1, 1) := by decide +kernel
theorem dX10_rests_7 : decode cX10_rests 7 = .ok (.invokevirtual 288, 3) := by decide +kernel
theorem dX10_rests_10 : decode cX10_rests 10 = .ok (.ifCond .ne 5, 3) := by decide +kernel
theorem dX10_rests_13 : decode cX10_rests 13 = .ok (.iconst (-1), 1) := by decide +kernel
theorem dX10_rests_14 : decode cX10_rests 14 = .ok (.ireturn, 1) := by decide +kernel
theorem dX10_rests_15 : decode cX10_rests 15 = .ok (.aload_n 0, 1) := by decide +kernel
theorem dX10_rests_16 : decode cX10_rests 16 = .ok (.iload_n 1, 1) := by decide +kernel
theorem dX10_rests_17 : decode cX10_rests 17 = .ok (.invokevirtual 429, 3) := by decide +kernel
theorem dX10_rests_20 : decode cX10_rests 20 = .ok (.lstore_n 2, 1) := by decide +kernel
theorem dX10_rests_21 : decode cX10_rests 21 = .ok (.iconst 0, 1) := by decide +kernel
theorem dX10_rests_22 : decode cX10_rests 22 = .ok (.istore 4, 2) := by decide +kernel
theorem dX10_rests_24 : decode cX10_rests 24 = .ok (.iconst 0, 1) := by decide +kernel
theorem dX10_rests_25 : decode cX10_rests 25 = .ok (.istore 5, 2) := by decide +kernel
theorem dX10_rests_27 : decode cX10_rests 27 = .ok (.iload 5, 2) := by decide +kernel
theorem dX10_rests_29 : decode cX10_rests 29 = .ok (.aload_n 0, 1) := by decide +kernel
theorem dX10_rests_30 : decode cX10_rests 30 = .ok (.getfield 13, 3) := by decide +kernel
theorem dX10_rests_33 : decode cX10_rests 33 = .ok (.iconst 3, 1) := by decide +kernel
theorem dX10_rests_34 : decode cX10_rests 34 = .ok (.iaload, 1) := by decide +kernel
theorem dX10_rests_35 : decode cX10_rests 35 = .ok (.if_icmp .ge 48, 3) := by decide +kernel
theorem dX10_rests_38 : decode cX10_rests 38 = .ok (.aload_n 0, 1) := by decide +kernel
theorem dX10_rests_39 : decode cX10_rests 39 = .ok (.iload 5, 2) := by decide +kernel
theorem dX10_rests_41 : decode cX10_rests 41 = .ok (.iload_n 1, 1) := by decide +kernel
theorem dX10_rests_42 : decode cX10_rests 42 = .ok (.if_icmp .ne 7, 3) := by decide +kernel
theorem dX10_rests_45 : decode cX10_rests 45 = .ok (.iconst (-1), 1) := by decide +kernel
theorem dX10_rests_46 : decode cX10_rests 46 = .ok (.goto 5, 3) := by decide +kernel
theorem dX10_rests_49 : decode cX10_rests 49 = .ok (.iload 5, 2) := by decide +kernel
theorem dX10_rests_51 : decode cX10_rests 51 = .ok (.putfield 47, 3) := by decide +kernel
theorem dX10_rests_54 : decode cX10_rests 54 = .ok (.iload 4, 2) := by decide +kernel
theorem dX10_rests_56 : decode cX10_rests 56 = .ok (.aload_n 0, 1) := by decide +kernel
theorem dX10_rests_57 : decode cX10_rests 57 = .ok (.iload_n 1, 1) := by decide +kernel
theorem dX10_rests_58 : decode cX10_rests 58 = .ok (.invokevirtual 429, 3) := by decide +kernel
theorem dX10_rests_61 : decode cX10_rests 61 = .ok (.lload_n 2, 1) := by decide +kernel
theorem dX10_rests_62 : decode cX10_rests 62 = .ok (.lcmp, 1) := by decide +kernel
theorem dX10_rests_63 : decode cX10_rests 63 = .ok (.ifCond .eq 10, 3) := by decide +kernel
theorem dX10_rests_66 : decode cX10_rests 66 = .ok (.iconst 1, 1) := by decide +kernel
theorem dX10_rests_67 : decode cX10_rests 67 = .ok (.iload 5, 2) := by decide +kernel
theorem dX10_rests_69 : decode cX10_rests 69 = .ok (.ishl, 1) := by decide +kernel
theorem dX10_rests_70 : decode cX10_rests 70 = .ok (.goto 4, 3) := by decide +kernel
theorem dX10_rests_73 : decode cX10_rests 73 = .ok (.iconst 0, 1) := by decide +kernel
theorem dX10_rests_74 : decode cX10_rests 74 = .ok (.ior, 1) := by decide +kernel
theorem dX10_rests_75 : decode cX10_rests 75 = .ok (.istore 4, 2) := by decide +kernel
theorem dX10_rests_77 : decode cX10_rests 77 = .ok (.iinc 5 1, 3) := by decide +kernel
theorem dX10_rests_80 : decode cX10_rests 80 = .ok (.goto (-53), 3) := by decide +kernel
theorem dX10_rests_83 : decode cX10_rests 83 = .ok (.aload_n 0, 1) := by decide +kernel
theorem dX10_rests_84 : decode cX10_rests 84 = .ok (.iconst (-1), 1) := by decide +kernel
theorem dX10_rests_85 : decode cX10_rests 85 = .ok (.putfield 47, 3) := by decide +kernel
theorem dX10_rests_88 : decode cX10_rests 88 = .ok (.iload 4, 2) := by decide +kernel
theorem dX10_rests_90 : decode cX10_rests 90 = .ok (.ireturn, 1) := by decide +kernel
theorem dX10_turned_0 : decode cX10_turned 0 = .ok (.aload_n 0, 1) := by decide +kernel
theorem dX10_turned_1 : decode cX10_turned 1 = .ok (.iconst 0, 1) := by decide +kernel
theorem dX10_turned_2 : decode cX10_turned 2 = .ok (.putfield 1, 3) := by decide +kernel
theorem dX10_turned_5 : decode cX10_turned 5 = .ok (.aload_n 0, 1) := by decide +kernel
theorem dX10_turned_6 : decode cX10_turned 6 = .ok (.iload_n 1, 1) := by decide +kernel
theorem dX10_turned_7 : decode cX10_turned 7 = .ok (.invokevirtual 288, 3) := by decide +kernel
theorem dX10_turned_10 : decode cX10_turned 10 = .ok (.ifCond .eq 20, 3) := by decide +kernel
theorem dX10_turned_13 : decode cX10_turned 13 = .ok (.aload_n 0, 1) := by decide +kernel
theorem dX10_turned_14 : decode cX10_turned 14 = .ok (.iload_n 1, 1) := by decide +kernel
theorem dX10_turned_15 : decode cX10_turned 15 = .ok (.iconst 1, 1) := by decide +kernel
theorem dX10_turned_16 : decode cX10_turned 16 = .ok (.aload_n 0, 1) := by decide +kernel
theorem dX10_turned_17 : decode cX10_turned 17 = .ok (.getfield 13, 3) := by decide +kernel
theorem dX10_turned_20 : decode cX10_turned 20 = .ok (.bipush 10, 2) := by decide +kernel
theorem dX10_turned_22 : decode cX10_turned 22 = .ok (.iaload, 1) := by decide +kernel
theorem dX10_turned_23 : decode cX10_turned 23 = .ok (.isub, 1) := by decide +kernel
theorem dX10_turned_24 : decode cX10_turned 24 = .ok (.invokevirtual 426, 3) := by decide +kernel
theorem dX10_turned_27 : decode cX10_turned 27 = .ok (.goto 6, 3) := by decide +kernel
theorem dX10_turned_30 : decode cX10_turned 30 = .ok (.ldc2_w 339, 3) := by decide +kernel
theorem dX10_turned_33 : decode cX10_turned 33 = .ok (.lreturn, 1) := by decide +kernel
theorem dX10_dueOf_0 : decode cX10_dueOf 0 = .ok (.aload_n 0, 1) := by decide +kernel
theorem dX10_dueOf_1 : decode cX10_dueOf 1 = .ok (.iload_n 1, 1) := by decide +kernel
theorem dX10_dueOf_2 : decode cX10_dueOf 2 = .ok (.invokevirtual 429, 3) := by decide +kernel
theorem dX10_dueOf_5 : decode cX10_dueOf 5 = .ok (.lstore_n 2, 1) := by decide +kernel
theorem dX10_dueOf_6 : decode cX10_dueOf 6 = .ok (.lload_n 2, 1) := by decide +kernel
theorem dX10_dueOf_7 : decode cX10_dueOf 7 = .ok (.lconst 0, 1) := by decide +kernel
theorem dX10_dueOf_8 : decode cX10_dueOf 8 = .ok (.lcmp, 1) := by decide +kernel
theorem dX10_dueOf_9 : decode cX10_dueOf 9 = .ok (.ifCond .ge 9, 3) := by decide +kernel
theorem dX10_dueOf_12 : decode cX10_dueOf 12 = .ok (.ldc2_w 382, 3) := by decide +kernel
theorem dX10_dueOf_15 : decode cX10_dueOf 15 = .ok (.goto 17, 3) := by decide +kernel
theorem dX10_dueOf_18 : decode cX10_dueOf 18 = .ok (.lload_n 2, 1) := by decide +kernel
theorem dX10_dueOf_19 : decode cX10_dueOf 19 = .ok (.aload_n 0, 1) := by decide +kernel
theorem dX10_dueOf_20 : decode cX10_dueOf 20 = .ok (.getfield 13, 3) := by decide +kernel
theorem dX10_dueOf_23 : decode cX10_dueOf 23 = .ok (.bipush 9, 2) := by decide +kernel
theorem dX10_dueOf_25 : decode cX10_dueOf 25 = .ok (.iaload, 1) := by decide +kernel
theorem dX10_dueOf_26 : decode cX10_dueOf 26 = .ok (.i2l, 1) := by decide +kernel
theorem dX10_dueOf_27 : decode cX10_dueOf 27 = .ok (.lmul, 1) := by decide +kernel
theorem dX10_dueOf_28 : decode cX10_dueOf 28 = .ok (.ldc2_w 326, 3) := by decide +kernel
theorem dX10_dueOf_31 : decode cX10_dueOf 31 = .ok (.ldiv, 1) := by decide +kernel
theorem dX10_dueOf_32 : decode cX10_dueOf 32 = .ok (.lreturn, 1) := by decide +kernel
theorem dX10_due_0 : decode cX10_due 0 = .ok (.aload_n 0, 1) := by decide +kernel
theorem dX10_due_1 : decode cX10_due 1 = .ok (.iconst 0, 1) := by decide +kernel
theorem dX10_due_2 : decode cX10_due 2 = .ok (.putfield 1, 3) := by decide +kernel
theorem dX10_due_5 : decode cX10_due 5 = .ok (.aload_n 0, 1) := by decide +kernel
theorem dX10_due_6 : decode cX10_due 6 = .ok (.iload_n 1, 1) := by decide +kernel
theorem dX10_due_7 : decode cX10_due 7 = .ok (.invokevirtual 288, 3) := by decide +kernel
theorem dX10_due_10 : decode cX10_due 10 = .ok (.ifCond .eq 11, 3) := by decide +kernel
theorem dX10_due_13 : decode cX10_due 13 = .ok (.aload_n 0, 1) := by decide +kernel
theorem dX10_due_14 : decode cX10_due 14 = .ok (.iload_n 1, 1) := by decide +kernel
theorem dX10_due_15 : decode cX10_due 15 = .ok (.invokevirtual 432, 3) := by decide +kernel
theorem dX10_due_18 : decode cX10_due 18 = .ok (.goto 6, 3) := by decide +kernel
theorem dX10_due_21 : decode cX10_due 21 = .ok (.ldc2_w 339, 3) := by decide +kernel
theorem dX10_due_24 : decode cX10_due 24 = .ok (.lreturn, 1) := by decide +kernel
theorem dX10_dues_0 : decode cX10_dues 0 = .ok (.aload_n 0, 1) := by decide +kernel
theorem dX10_dues_1 : decode cX10_dues 1 = .ok (.iconst 0, 1) := by decide +kernel
theorem dX10_dues_2 : decode cX10_dues 2 = .ok (.putfield 1, 3) := by decide +kernel
theorem dX10_dues_5 : decode cX10_dues 5 = .ok (.lconst 0, 1) := by decide +kernel
theorem dX10_dues_6 : decode cX10_dues 6 = .ok (.lstore_n 1, 1) := by decide +kernel
theorem dX10_dues_7 : decode cX10_dues 7 = .ok (.iconst 0, 1) := by decide +kernel
theorem dX10_dues_8 : decode cX10_dues 8 = .ok (.istore_n 3, 1) := by decide +kernel
theorem dX10_dues_9 : decode cX10_dues 9 = .ok (.iload_n 3, 1) := by decide +kernel
theorem dX10_dues_10 : decode cX10_dues 10 = .ok (.aload_n 0, 1) := by decide +kernel
theorem dX10_dues_11 : decode cX10_dues 11 = .ok (.getfield 13, 3) := by decide +kernel
theorem dX10_dues_14 : decode cX10_dues 14 = .ok (.iconst 3, 1) := by decide +kernel
theorem dX10_dues_15 : decode cX10_dues 15 = .ok (.iaload, 1) := by decide +kernel
theorem dX10_dues_16 : decode cX10_dues 16 = .ok (.if_icmp .ge 32, 3) := by decide +kernel
theorem dX10_dues_19 : decode cX10_dues 19 = .ok (.aload_n 0, 1) := by decide +kernel
theorem dX10_dues_20 : decode cX10_dues 20 = .ok (.iload_n 3, 1) := by decide +kernel
theorem dX10_dues_21 : decode cX10_dues 21 = .ok (.invokevirtual 432, 3) := by decide +kernel
theorem dX10_dues_24 : decode cX10_dues 24 = .ok (.lstore 4, 2) := by decide +kernel
theorem dX10_dues_26 : decode cX10_dues 26 = .ok (.lload_n 1, 1) := by decide +kernel
theorem dX10_dues_27 : decode cX10_dues 27 = .ok (.lload 4, 2) := by decide +kernel
theorem dX10_dues_29 : decode cX10_dues 29 = .ok (.lconst 0, 1) := by decide +kernel
theorem dX10_dues_30 : decode cX10_dues 30 = .ok (.lcmp, 1) := by decide +kernel
theorem dX10_dues_31 : decode cX10_dues 31 = .ok (.ifCond .ge 7, 3) := by decide +kernel
theorem dX10_dues_34 : decode cX10_dues 34 = .ok (.lconst 0, 1) := by decide +kernel
theorem dX10_dues_35 : decode cX10_dues 35 = .ok (.goto 5, 3) := by decide +kernel
theorem dX10_dues_38 : decode cX10_dues 38 = .ok (.lload 4, 2) := by decide +kernel
theorem dX10_dues_40 : decode cX10_dues 40 = .ok (.ladd, 1) := by decide +kernel
theorem dX10_dues_41 : decode cX10_dues 41 = .ok (.lstore_n 1, 1) := by decide +kernel
theorem dX10_dues_42 : decode cX10_dues 42 = .ok (.iinc 3 1, 3) := by decide +kernel
theorem dX10_dues_45 : decode cX10_dues 45 = .ok (.goto (-36), 3) := by decide +kernel
theorem dX10_dues_48 : decode cX10_dues 48 = .ok (.lload_n 1, 1) := by decide +kernel
theorem dX10_dues_49 : decode cX10_dues 49 = .ok (.lreturn, 1) := by decide +kernel
theorem dX10_all_0 : decode cX10_all 0 = .ok (.aload_n 0, 1) := by decide +kernel
theorem dX10_all_1 : decode cX10_all 1 = .ok (.iconst 0, 1) := by decide +kernel
theorem dX10_all_2 : decode cX10_all 2 = .ok (.putfield 1, 3) := by decide +kernel
theorem dX10_all_5 : decode cX10_all 5 = .ok (.iload_n 1, 1) := by decide +kernel
theorem dX10_all_6 : decode cX10_all 6 = .ok (.i2l, 1) := by decide +kernel
theorem dX10_all_7 : decode cX10_all 7 = .ok (.lconst 0, 1) := by decide +kernel
theorem dX10_all_8 : decode cX10_all 8 = .ok (.ldc2_w 410, 3) := by decide +kernel
theorem dX10_all_11 : decode cX10_all 11 = .ok (.invokestatic 97, 3) := by decide +kernel
theorem dX10_all_14 : decode cX10_all 14 = .ok (.ifCond .ne 5, 3) := by decide +kernel
theorem dX10_all_17 : decode cX10_all 17 = .ok (.iconst (-1), 1) := by decide +kernel
theorem dX10_all_18 : decode cX10_all 18 = .ok (.ireturn, 1) := by decide +kernel
theorem dX10_all_19 : decode cX10_all 19 = .ok (.iconst 0, 1) := by decide +kernel
theorem dX10_all_20 : decode cX10_all 20 = .ok (.istore_n 2, 1) := by decide +kernel
theorem dX10_all_21 : decode cX10_all 21 = .ok (.iconst 0, 1) := by decide +kernel
theorem dX10_all_22 : decode cX10_all 22 = .ok (.istore_n 3, 1) := by decide +kernel
theorem dX10_all_23 : decode cX10_all 23 = .ok (.iload_n 3, 1) := by decide +kernel
theorem dX10_all_24 : decode cX10_all 24 = .ok (.aload_n 0, 1) := by decide +kernel
theorem dX10_all_25 : decode cX10_all 25 = .ok (.getfield 13, 3) := by decide +kernel
theorem dX10_all_28 : decode cX10_all 28 = .ok (.iconst 3, 1) := by decide +kernel
theorem dX10_all_29 : decode cX10_all 29 = .ok (.iaload, 1) := by decide +kernel
theorem dX10_all_30 : decode cX10_all 30 = .ok (.if_icmp .ge 49, 3) := by decide +kernel
theorem dX10_all_33 : decode cX10_all 33 = .ok (.aload_n 0, 1) := by decide +kernel
theorem dX10_all_34 : decode cX10_all 34 = .ok (.iload_n 3, 1) := by decide +kernel
theorem dX10_all_35 : decode cX10_all 35 = .ok (.invokevirtual 429, 3) := by decide +kernel
theorem dX10_all_38 : decode cX10_all 38 = .ok (.lstore 4, 2) := by decide +kernel
theorem dX10_all_40 : decode cX10_all 40 = .ok (.lload 4, 2) := by decide +kernel
theorem dX10_all_42 : decode cX10_all 42 = .ok (.lconst 0, 1) := by decide +kernel
theorem dX10_all_43 : decode cX10_all 43 = .ok (.lcmp, 1) := by decide +kernel
theorem dX10_all_44 : decode cX10_all 44 = .ok (.ifCond .ge 7, 3) := by decide +kernel
theorem dX10_all_47 : decode cX10_all 47 = .ok (.iconst 0, 1) := by decide +kernel
theorem dX10_all_48 : decode cX10_all 48 = .ok (.goto 7, 3) := by decide +kernel
theorem dX10_all_51 : decode cX10_all 51 = .ok (.aload_n 0, 1) := by decide +kernel
theorem dX10_all_52 : decode cX10_all 52 = .ok (.getfield 420, 3) := by decide +kernel
theorem dX10_all_55 : decode cX10_all 55 = .ok (.istore 6, 2) := by decide +kernel
theorem dX10_all_57 : decode cX10_all 57 = .ok (.iload_n 2, 1) := by decide +kernel
theorem dX10_all_58 : decode cX10_all 58 = .ok (.iload 6, 2) := by decide +kernel
theorem dX10_all_60 : decode cX10_all 60 = .ok (.iload_n 1, 1) := by decide +kernel
theorem dX10_all_61 : decode cX10_all 61 = .ok (.if_icmp .ne 9, 3) := by decide +kernel
theorem dX10_all_64 : decode cX10_all 64 = .ok (.iconst 1, 1) := by decide +kernel
theorem dX10_all_65 : decode cX10_all 65 = .ok (.iload_n 3, 1) := by decide +kernel
theorem dX10_all_66 : decode cX10_all 66 = .ok (.ishl, 1) := by decide +kernel
theorem dX10_all_67 : decode cX10_all 67 = .ok (.goto 4, 3) := by decide +kernel
theorem dX10_all_70 : decode cX10_all 70 = .ok (.iconst 0, 1) := by decide +kernel
theorem dX10_all_71 : decode cX10_all 71 = .ok (.ior, 1) := by decide +kernel
theorem dX10_all_72 : decode cX10_all 72 = .ok (.istore_n 2, 1) := by decide +kernel
theorem dX10_all_73 : decode cX10_all 73 = .ok (.iinc 3 1, 3) := by decide +kernel
theorem dX10_all_76 : decode cX10_all 76 = .ok (.goto (-53), 3) := by decide +kernel
theorem dX10_all_79 : decode cX10_all 79 = .ok (.iload_n 2, 1) := by decide +kernel
theorem dX10_all_80 : decode cX10_all 80 = .ok (.ireturn, 1) := by decide +kernel
theorem dX10_says_0 : decode cX10_says 0 = .ok (.aload_n 0, 1) := by decide +kernel
theorem dX10_says_1 : decode cX10_says 1 = .ok (.getfield 56, 3) := by decide +kernel
theorem dX10_says_4 : decode cX10_says 4 = .ok (.aload_n 0, 1) := by decide +kernel
theorem dX10_says_5 : decode cX10_says 5 = .ok (.getfield 435, 3) := by decide +kernel
theorem dX10_says_8 : decode cX10_says 8 = .ok (.iload_n 1, 1) := by decide +kernel
theorem dX10_says_9 : decode cX10_says 9 = .ok (.iastore, 1) := by decide +kernel
theorem dX10_says_10 : decode cX10_says 10 = .ok (.aload_n 0, 1) := by decide +kernel
theorem dX10_says_11 : decode cX10_says 11 = .ok (.dup, 1) := by decide +kernel
theorem dX10_says_12 : decode cX10_says 12 = .ok (.getfield 435, 3) := by decide +kernel
theorem dX10_says_15 : decode cX10_says 15 = .ok (.iconst 1, 1) := by decide +kernel
theorem dX10_says_16 : decode cX10_says 16 = .ok (.iadd, 1) := by decide +kernel
theorem dX10_says_17 : decode cX10_says 17 = .ok (.putfield 435, 3) := by decide +kernel
theorem dX10_says_20 : decode cX10_says 20 = .ok (.return_, 1) := by decide +kernel
theorem dX10_saysWord_0 : decode cX10_saysWord 0 = .ok (.bipush 30, 2) := by decide +kernel
theorem dX10_saysWord_2 : decode cX10_saysWord 2 = .ok (.istore_n 3, 1) := by decide +kernel
theorem dX10_saysWord_3 : decode cX10_saysWord 3 = .ok (.iload_n 3, 1) := by decide +kernel
theorem dX10_saysWord_4 : decode cX10_saysWord 4 = .ok (.ifCond .lt 33, 3) := by decide +kernel
theorem dX10_saysWord_7 : decode cX10_saysWord 7 = .ok (.lload_n 1, 1) := by decide +kernel
theorem dX10_saysWord_8 : decode cX10_saysWord 8 = .ok (.iload_n 3, 1) := by decide +kernel
theorem dX10_saysWord_9 : decode cX10_saysWord 9 = .ok (.lshr, 1) := by decide +kernel
theorem dX10_saysWord_10 : decode cX10_saysWord 10 = .ok (.ldc2_w 438, 3) := by decide +kernel
theorem dX10_saysWord_13 : decode cX10_saysWord 13 = .ok (.land, 1) := by decide +kernel
theorem dX10_saysWord_14 : decode cX10_saysWord 14 = .ok (.l2i, 1) := by decide +kernel
theorem dX10_saysWord_15 : decode cX10_saysWord 15 = .ok (.istore 4, 2) := by decide +kernel
theorem dX10_saysWord_17 : decode cX10_saysWord 17 = .ok (.iload 4, 2) := by decide +kernel
theorem dX10_saysWord_19 : decode cX10_saysWord 19 = .ok (.ifCond .le 12, 3) := by decide +kernel
theorem dX10_saysWord_22 : decode cX10_saysWord 22 = .ok (.aload_n 0, 1) := by decide +kernel
theorem dX10_saysWord_23 : decode cX10_saysWord 23 = .ok (.bipush 96, 2) := by decide +kernel
theorem dX10_saysWord_25 : decode cX10_saysWord 25 = .ok (.iload 4, 2) := by decide +kernel
theorem dX10_saysWord_27 : decode cX10_saysWord 27 = .ok (.iadd, 1) := by decide +kernel
theorem dX10_saysWord_28 : decode cX10_saysWord 28 = .ok (.invokevirtual 440, 3) := by decide +kernel
theorem dX10_saysWord_31 : decode cX10_saysWord 31 = .ok (.iinc 3 (-5), 3) := by decide +kernel
theorem dX10_saysWord_34 : decode cX10_saysWord 34 = .ok (.goto (-31), 3) := by decide +kernel
theorem dX10_saysWord_37 : decode cX10_saysWord 37 = .ok (.aload_n 0, 1) := by decide +kernel
theorem dX10_saysWord_38 : decode cX10_saysWord 38 = .ok (.bipush 32, 2) := by decide +kernel
theorem dX10_saysWord_40 : decode cX10_saysWord 40 = .ok (.invokevirtual 440, 3) := by decide +kernel
theorem dX10_saysWord_43 : decode cX10_saysWord 43 = .ok (.return_, 1) := by decide +kernel
theorem dX10_saysNumber_0 : decode cX10_saysNumber 0 = .ok (.lconst 1, 1) := by decide +kernel
theorem dX10_saysNumber_1 : decode cX10_saysNumber 1 = .ok (.lstore_n 3, 1) := by decide +kernel
theorem dX10_saysNumber_2 : decode cX10_saysNumber 2 = .ok (.lload_n 1, 1) := by decide +kernel
theorem dX10_saysNumber_3 : decode cX10_saysNumber 3 = .ok (.lload_n 3, 1) := by decide +kernel
theorem dX10_saysNumber_4 : decode cX10_saysNumber 4 = .ok (.ldiv, 1) := by decide +kernel
theorem dX10_saysNumber_5 : decode cX10_saysNumber 5 = .ok (.ldc2_w 443, 3) := by decide +kernel
theorem dX10_saysNumber_8 : decode cX10_saysNumber 8 = .ok (.lcmp, 1) := by decide +kernel
theorem dX10_saysNumber_9 : decode cX10_saysNumber 9 = .ok (.ifCond .lt 12, 3) := by decide +kernel
theorem dX10_saysNumber_12 : decode cX10_saysNumber 12 = .ok (.lload_n 3, 1) := by decide +kernel
theorem dX10_saysNumber_13 : decode cX10_saysNumber 13 = .ok (.ldc2_w 443, 3) := by decide +kernel
theorem dX10_saysNumber_16 : decode cX10_saysNumber 16 = .ok (.lmul, 1) := by decide +kernel
theorem dX10_saysNumber_17 : decode cX10_saysNumber 17 = .ok (.lstore_n 3, 1) := by decide +kernel
theorem dX10_saysNumber_18 : decode cX10_saysNumber 18 = .ok (.goto (-16), 3) := by decide +kernel
theorem dX10_saysNumber_21 : decode cX10_saysNumber 21 = .ok (.lload_n 3, 1) := by decide +kernel
theorem dX10_saysNumber_22 : decode cX10_saysNumber 22 = .ok (.lconst 0, 1) := by decide +kernel
theorem dX10_saysNumber_23 : decode cX10_saysNumber 23 = .ok (.lcmp, 1) := by decide +kernel
theorem dX10_saysNumber_24 : decode cX10_saysNumber 24 = .ok (.ifCond .le 27, 3) := by decide +kernel
theorem dX10_saysNumber_27 : decode cX10_saysNumber 27 = .ok (.aload_n 0, 1) := by decide +kernel
theorem dX10_saysNumber_28 : decode cX10_saysNumber 28 = .ok (.bipush 48, 2) := by decide +kernel
theorem dX10_saysNumber_30 : decode cX10_saysNumber 30 = .ok (.lload_n 1, 1) := by decide +kernel
theorem dX10_saysNumber_31 : decode cX10_saysNumber 31 = .ok (.lload_n 3, 1) := by decide +kernel
theorem dX10_saysNumber_32 : decode cX10_saysNumber 32 = .ok (.ldiv, 1) := by decide +kernel
theorem dX10_saysNumber_33 : decode cX10_saysNumber 33 = .ok (.ldc2_w 443, 3) := by decide +kernel
theorem dX10_saysNumber_36 : decode cX10_saysNumber 36 = .ok (.lrem, 1) := by decide +kernel
theorem dX10_saysNumber_37 : decode cX10_saysNumber 37 = .ok (.l2i, 1) := by decide +kernel
theorem dX10_saysNumber_38 : decode cX10_saysNumber 38 = .ok (.iadd, 1) := by decide +kernel
theorem dX10_saysNumber_39 : decode cX10_saysNumber 39 = .ok (.invokevirtual 440, 3) := by decide +kernel
theorem dX10_saysNumber_42 : decode cX10_saysNumber 42 = .ok (.lload_n 3, 1) := by decide +kernel
theorem dX10_saysNumber_43 : decode cX10_saysNumber 43 = .ok (.ldc2_w 443, 3) := by decide +kernel
theorem dX10_saysNumber_46 : decode cX10_saysNumber 46 = .ok (.ldiv, 1) := by decide +kernel
theorem dX10_saysNumber_47 : decode cX10_saysNumber 47 = .ok (.lstore_n 3, 1) := by decide +kernel
theorem dX10_saysNumber_48 : decode cX10_saysNumber 48 = .ok (.goto (-27), 3) := by decide +kernel
theorem dX10_saysNumber_51 : decode cX10_saysNumber 51 = .ok (.aload_n 0, 1) := by decide +kernel
theorem dX10_saysNumber_52 : decode cX10_saysNumber 52 = .ok (.bipush 32, 2) := by decide +kernel
theorem dX10_saysNumber_54 : decode cX10_saysNumber 54 = .ok (.invokevirtual 440, 3) := by decide +kernel
theorem dX10_saysNumber_57 : decode cX10_saysNumber 57 = .ok (.return_, 1) := by decide +kernel
theorem dX10_report_0 : decode cX10_report 0 = .ok (.aload_n 0, 1) := by decide +kernel
theorem dX10_report_1 : decode cX10_report 1 = .ok (.iconst 0, 1) := by decide +kernel
theorem dX10_report_2 : decode cX10_report 2 = .ok (.putfield 1, 3) := by decide +kernel
theorem dX10_report_5 : decode cX10_report 5 = .ok (.aload_n 0, 1) := by decide +kernel
theorem dX10_report_6 : decode cX10_report 6 = .ok (.iconst 0, 1) := by decide +kernel
theorem dX10_report_7 : decode cX10_report 7 = .ok (.putfield 435, 3) := by decide +kernel
theorem dX10_report_10 : decode cX10_report 10 = .ok (.iconst 0, 1) := by decide +kernel
theorem dX10_report_11 : decode cX10_report 11 = .ok (.istore_n 2, 1) := by decide +kernel
theorem dX10_report_12 : decode cX10_report 12 = .ok (.iload_n 2, 1) := by decide +kernel
theorem dX10_report_13 : decode cX10_report 13 = .ok (.aload_n 0, 1) := by decide +kernel
theorem dX10_report_14 : decode cX10_report 14 = .ok (.getfield 13, 3) := by decide +kernel
theorem dX10_report_17 : decode cX10_report 17 = .ok (.iconst 3, 1) := by decide +kernel
theorem dX10_report_18 : decode cX10_report 18 = .ok (.iaload, 1) := by decide +kernel
theorem dX10_report_19 : decode cX10_report 19 = .ok (.if_icmp .ge 81, 3) := by decide +kernel
theorem dX10_report_22 : decode cX10_report 22 = .ok (.aload_n 0, 1) := by decide +kernel
theorem dX10_report_23 : decode cX10_report 23 = .ok (.iload_n 2, 1) := by decide +kernel
theorem dX10_report_24 : decode cX10_report 24 = .ok (.invokevirtual 429, 3) := by decide +kernel
theorem dX10_report_27 : decode cX10_report 27 = .ok (.lstore_n 3, 1) := by decide +kernel
theorem dX10_report_28 : decode cX10_report 28 = .ok (.aload_n 0, 1) := by decide +kernel
theorem dX10_report_29 : decode cX10_report 29 = .ok (.aload_n 0, 1) := by decide +kernel
theorem dX10_report_30 : decode cX10_report 30 = .ok (.getfield 44, 3) := by decide +kernel
theorem dX10_report_33 : decode cX10_report 33 = .ok (.iload_n 2, 1) := by decide +kernel
theorem dX10_report_34 : decode cX10_report 34 = .ok (.laload, 1) := by decide +kernel
theorem dX10_report_35 : decode cX10_report 35 = .ok (.invokevirtual 445, 3) := by decide +kernel
theorem dX10_report_38 : decode cX10_report 38 = .ok (.lload_n 3, 1) := by decide +kernel
theorem dX10_report_39 : decode cX10_report 39 = .ok (.lconst 0, 1) := by decide +kernel
theorem dX10_report_40 : decode cX10_report 40 = .ok (.lcmp, 1) := by decide +kernel
theorem dX10_report_41 : decode cX10_report 41 = .ok (.ifCond .ge 13, 3) := by decide +kernel
theorem dX10_report_44 : decode cX10_report 44 = .ok (.aload_n 0, 1) := by decide +kernel
theorem dX10_report_45 : decode cX10_report 45 = .ok (.ldc2_w 448, 3) := by decide +kernel
theorem dX10_report_48 : decode cX10_report 48 = .ok (.invokevirtual 445, 3) := by decide +kernel
theorem dX10_report_51 : decode cX10_report 51 = .ok (.goto 31, 3) := by decide +kernel
theorem dX10_report_54 : decode cX10_report 54 = .ok (.aload_n 0, 1) := by decide +kernel
theorem dX10_report_55 : decode cX10_report 55 = .ok (.ldc2_w 146, 3) := by decide +kernel
theorem dX10_report_58 : decode cX10_report 58 = .ok (.invokevirtual 445, 3) := by decide +kernel
theorem dX10_report_61 : decode cX10_report 61 = .ok (.aload_n 0, 1) := by decide +kernel
theorem dX10_report_62 : decode cX10_report 62 = .ok (.aload_n 0, 1) := by decide +kernel
theorem dX10_report_63 : decode cX10_report 63 = .ok (.getfield 420, 3) := by decide +kernel
theorem dX10_report_66 : decode cX10_report 66 = .ok (.i2l, 1) := by decide +kernel
theorem dX10_report_67 : decode cX10_report 67 = .ok (.invokevirtual 450, 3) := by decide +kernel
theorem dX10_report_70 : decode cX10_report 70 = .ok (.aload_n 0, 1) := by decide +kernel
theorem dX10_report_71 : decode cX10_report 71 = .ok (.ldc2_w 142, 3) := by decide +kernel
theorem dX10_report_74 : decode cX10_report 74 = .ok (.invokevirtual 445, 3) := by decide +kernel
theorem dX10_report_77 : decode cX10_report 77 = .ok (.aload_n 0, 1) := by decide +kernel
theorem dX10_report_78 : decode cX10_report 78 = .ok (.lload_n 3, 1) := by decide +kernel
theorem dX10_report_79 : decode cX10_report 79 = .ok (.invokevirtual 450, 3) := by decide +kernel
theorem dX10_report_82 : decode cX10_report 82 = .ok (.aload_n 0, 1) := by decide +kernel
theorem dX10_report_83 : decode cX10_report 83 = .ok (.bipush 59, 2) := by decide +kernel
theorem dX10_report_85 : decode cX10_report 85 = .ok (.invokevirtual 440, 3) := by decide +kernel
theorem dX10_report_88 : decode cX10_report 88 = .ok (.aload_n 0, 1) := by decide +kernel
theorem dX10_report_89 : decode cX10_report 89 = .ok (.bipush 32, 2) := by decide +kernel
theorem dX10_report_91 : decode cX10_report 91 = .ok (.invokevirtual 440, 3) := by decide +kernel
theorem dX10_report_94 : decode cX10_report 94 = .ok (.iinc 2 1, 3) := by decide +kernel
theorem dX10_report_97 : decode cX10_report 97 = .ok (.goto (-85), 3) := by decide +kernel
theorem dX10_report_100 : decode cX10_report 100 = .ok (.iload_n 1, 1) := by decide +kernel
theorem dX10_report_101 : decode cX10_report 101 = .ok (.iconst (-1), 1) := by decide +kernel
theorem dX10_report_102 : decode cX10_report 102 = .ok (.if_icmp .ne 10, 3) := by decide +kernel
theorem dX10_report_105 : decode cX10_report 105 = .ok (.aload_n 0, 1) := by decide +kernel
theorem dX10_report_106 : decode cX10_report 106 = .ok (.getfield 435, 3) := by decide +kernel
theorem dX10_report_109 : decode cX10_report 109 = .ok (.goto 31, 3) := by decide +kernel
theorem dX10_report_112 : decode cX10_report 112 = .ok (.iload_n 1, 1) := by decide +kernel
theorem dX10_report_113 : decode cX10_report 113 = .ok (.iconst (-1), 1) := by decide +kernel
theorem dX10_report_114 : decode cX10_report 114 = .ok (.if_icmp .ge 7, 3) := by decide +kernel
theorem dX10_report_117 : decode cX10_report 117 = .ok (.iconst (-1), 1) := by decide +kernel
theorem dX10_report_118 : decode cX10_report 118 = .ok (.goto 22, 3) := by decide +kernel
theorem dX10_report_121 : decode cX10_report 121 = .ok (.iload_n 1, 1) := by decide +kernel
theorem dX10_report_122 : decode cX10_report 122 = .ok (.aload_n 0, 1) := by decide +kernel
theorem dX10_report_123 : decode cX10_report 123 = .ok (.getfield 435, 3) := by decide +kernel
theorem dX10_report_126 : decode cX10_report 126 = .ok (.if_icmp .ge 12, 3) := by decide +kernel
theorem dX10_report_129 : decode cX10_report 129 = .ok (.aload_n 0, 1) := by decide +kernel
theorem dX10_report_130 : decode cX10_report 130 = .ok (.getfield 56, 3) := by decide +kernel
theorem dX10_report_133 : decode cX10_report 133 = .ok (.iload_n 1, 1) := by decide +kernel
theorem dX10_report_134 : decode cX10_report 134 = .ok (.iaload, 1) := by decide +kernel
theorem dX10_report_135 : decode cX10_report 135 = .ok (.goto 5, 3) := by decide +kernel
theorem dX10_report_138 : decode cX10_report 138 = .ok (.bipush (-2), 2) := by decide +kernel
theorem dX10_report_140 : decode cX10_report 140 = .ok (.ireturn, 1) := by decide +kernel
theorem dX10_acts_0 : decode cX10_acts 0 = .ok (.aload_n 0, 1) := by decide +kernel
theorem dX10_acts_1 : decode cX10_acts 1 = .ok (.getfield 275, 3) := by decide +kernel
theorem dX10_acts_4 : decode cX10_acts 4 = .ok (.bipush 12, 2) := by decide +kernel
theorem dX10_acts_6 : decode cX10_acts 6 = .ok (.if_icmp .ne 44, 3) := by decide +kernel
theorem dX10_acts_9 : decode cX10_acts 9 = .ok (.iconst 0, 1) := by decide +kernel
theorem dX10_acts_10 : decode cX10_acts 10 = .ok (.istore_n 1, 1) := by decide +kernel
theorem dX10_acts_11 : decode cX10_acts 11 = .ok (.iload_n 1, 1) := by decide +kernel
theorem dX10_acts_12 : decode cX10_acts 12 = .ok (.sipush 2552, 3) := by decide +kernel
theorem dX10_acts_15 : decode cX10_acts 15 = .ok (.if_icmp .ge 25, 3) := by decide +kernel
theorem dX10_acts_18 : decode cX10_acts 18 = .ok (.aload_n 0, 1) := by decide +kernel
theorem dX10_acts_19 : decode cX10_acts 19 = .ok (.getfield 20, 3) := by decide +kernel
theorem dX10_acts_22 : decode cX10_acts 22 = .ok (.iload_n 1, 1) := by decide +kernel
theorem dX10_acts_23 : decode cX10_acts 23 = .ok (.aload_n 0, 1) := by decide +kernel
theorem dX10_acts_24 : decode cX10_acts 24 = .ok (.getfield 20, 3) := by decide +kernel
theorem dX10_acts_27 : decode cX10_acts 27 = .ok (.iload_n 1, 1) := by decide +kernel
theorem dX10_acts_28 : decode cX10_acts 28 = .ok (.sipush 232, 3) := by decide +kernel
theorem dX10_acts_31 : decode cX10_acts 31 = .ok (.iadd, 1) := by decide +kernel
theorem dX10_acts_32 : decode cX10_acts 32 = .ok (.iaload, 1) := by decide +kernel
theorem dX10_acts_33 : decode cX10_acts 33 = .ok (.iastore, 1) := by decide +kernel
theorem dX10_acts_34 : decode cX10_acts 34 = .ok (.iinc 1 1, 3) := by decide +kernel
theorem dX10_acts_37 : decode cX10_acts 37 = .ok (.goto (-26), 3) := by decide +kernel
theorem dX10_acts_40 : decode cX10_acts 40 = .ok (.aload_n 0, 1) := by decide +kernel
theorem dX10_acts_41 : decode cX10_acts 41 = .ok (.dup, 1) := by decide +kernel
theorem dX10_acts_42 : decode cX10_acts 42 = .ok (.getfield 275, 3) := by decide +kernel
theorem dX10_acts_45 : decode cX10_acts 45 = .ok (.iconst 1, 1) := by decide +kernel
theorem dX10_acts_46 : decode cX10_acts 46 = .ok (.isub, 1) := by decide +kernel
theorem dX10_acts_47 : decode cX10_acts 47 = .ok (.putfield 275, 3) := by decide +kernel
theorem dX10_acts_50 : decode cX10_acts 50 = .ok (.aload_n 0, 1) := by decide +kernel
theorem dX10_acts_51 : decode cX10_acts 51 = .ok (.getfield 13, 3) := by decide +kernel
theorem dX10_acts_54 : decode cX10_acts 54 = .ok (.iconst 0, 1) := by decide +kernel
theorem dX10_acts_55 : decode cX10_acts 55 = .ok (.aload_n 0, 1) := by decide +kernel
theorem dX10_acts_56 : decode cX10_acts 56 = .ok (.getfield 20, 3) := by decide +kernel
theorem dX10_acts_59 : decode cX10_acts 59 = .ok (.sipush 232, 3) := by decide +kernel
theorem dX10_acts_62 : decode cX10_acts 62 = .ok (.aload_n 0, 1) := by decide +kernel
theorem dX10_acts_63 : decode cX10_acts 63 = .ok (.getfield 275, 3) := by decide +kernel
theorem dX10_acts_66 : decode cX10_acts 66 = .ok (.imul, 1) := by decide +kernel
theorem dX10_acts_67 : decode cX10_acts 67 = .ok (.invokestatic 271, 3) := by decide +kernel
theorem dX10_acts_70 : decode cX10_acts 70 = .ok (.aload_n 0, 1) := by decide +kernel
theorem dX10_acts_71 : decode cX10_acts 71 = .ok (.dup, 1) := by decide +kernel
theorem dX10_acts_72 : decode cX10_acts 72 = .ok (.getfield 275, 3) := by decide +kernel
theorem dX10_acts_75 : decode cX10_acts 75 = .ok (.iconst 1, 1) := by decide +kernel
theorem dX10_acts_76 : decode cX10_acts 76 = .ok (.iadd, 1) := by decide +kernel
theorem dX10_acts_77 : decode cX10_acts 77 = .ok (.putfield 275, 3) := by decide +kernel
theorem dX10_acts_80 : decode cX10_acts 80 = .ok (.return_, 1) := by decide +kernel
theorem dX10_sets_0 : decode cX10_sets 0 = .ok (.aload_n 0, 1) := by decide +kernel
theorem dX10_sets_1 : decode cX10_sets 1 = .ok (.getfield 13, 3) := by decide +kernel
theorem dX10_sets_4 : decode cX10_sets 4 = .ok (.iload_n 1, 1) := by decide +kernel
theorem dX10_sets_5 : decode cX10_sets 5 = .ok (.iaload, 1) := by decide +kernel
theorem dX10_sets_6 : decode cX10_sets 6 = .ok (.istore_n 3, 1) := by decide +kernel
theorem dX10_sets_7 : decode cX10_sets 7 = .ok (.iload_n 3, 1) := by decide +kernel
theorem dX10_sets_8 : decode cX10_sets 8 = .ok (.iload_n 2, 1) := by decide +kernel
theorem dX10_sets_9 : decode cX10_sets 9 = .ok (.if_icmp .ne 5, 3) := by decide +kernel
theorem dX10_sets_12 : decode cX10_sets 12 = .ok (.iconst (-1), 1) := by decide +kernel
theorem dX10_sets_13 : decode cX10_sets 13 = .ok (.ireturn, 1) := by decide +kernel
theorem dX10_sets_14 : decode cX10_sets 14 = .ok (.aload_n 0, 1) := by decide +kernel
theorem dX10_sets_15 : decode cX10_sets 15 = .ok (.invokevirtual 453, 3) := by decide +kernel
theorem dX10_sets_18 : decode cX10_sets 18 = .ok (.aload_n 0, 1) := by decide +kernel
theorem dX10_sets_19 : decode cX10_sets 19 = .ok (.getfield 13, 3) := by decide +kernel
theorem dX10_sets_22 : decode cX10_sets 22 = .ok (.iload_n 1, 1) := by decide +kernel
theorem dX10_sets_23 : decode cX10_sets 23 = .ok (.iload_n 2, 1) := by decide +kernel
theorem dX10_sets_24 : decode cX10_sets 24 = .ok (.iastore, 1) := by decide +kernel
theorem dX10_sets_25 : decode cX10_sets 25 = .ok (.iload_n 3, 1) := by decide +kernel
theorem dX10_sets_26 : decode cX10_sets 26 = .ok (.ireturn, 1) := by decide +kernel
theorem dX10_price_0 : decode cX10_price 0 = .ok (.aload_n 0, 1) := by decide +kernel
theorem dX10_price_1 : decode cX10_price 1 = .ok (.iconst 0, 1) := by decide +kernel
theorem dX10_price_2 : decode cX10_price 2 = .ok (.putfield 1, 3) := by decide +kernel
theorem dX10_price_5 : decode cX10_price 5 = .ok (.aload_n 0, 1) := by decide +kernel
theorem dX10_price_6 : decode cX10_price 6 = .ok (.iload_n 1, 1) := by decide +kernel
theorem dX10_price_7 : decode cX10_price 7 = .ok (.invokevirtual 288, 3) := by decide +kernel
theorem dX10_price_10 : decode cX10_price 10 = .ok (.ifCond .eq 32, 3) := by decide +kernel
theorem dX10_price_13 : decode cX10_price 13 = .ok (.iload_n 2, 1) := by decide +kernel
theorem dX10_price_14 : decode cX10_price 14 = .ok (.i2l, 1) := by decide +kernel
theorem dX10_price_15 : decode cX10_price 15 = .ok (.lconst 1, 1) := by decide +kernel
theorem dX10_price_16 : decode cX10_price 16 = .ok (.ldc2_w 456, 3) := by decide +kernel
theorem dX10_price_19 : decode cX10_price 19 = .ok (.invokestatic 97, 3) := by decide +kernel
theorem dX10_price_22 : decode cX10_price 22 = .ok (.ifCond .eq 20, 3) := by decide +kernel
theorem dX10_price_25 : decode cX10_price 25 = .ok (.aload_n 0, 1) := by decide +kernel
theorem dX10_price_26 : decode cX10_price 26 = .ok (.bipush 56, 2) := by decide +kernel
theorem dX10_price_28 : decode cX10_price 28 = .ok (.bipush 12, 2) := by decide +kernel
theorem dX10_price_30 : decode cX10_price 30 = .ok (.iload_n 1, 1) := by decide +kernel
theorem dX10_price_31 : decode cX10_price 31 = .ok (.imul, 1) := by decide +kernel
theorem dX10_price_32 : decode cX10_price 32 = .ok (.iadd, 1) := by decide +kernel
theorem dX10_price_33 : decode cX10_price 33 = .ok (.iconst 4, 1) := by decide +kernel
theorem dX10_price_34 : decode cX10_price 34 = .ok (.iadd, 1) := by decide +kernel
theorem dX10_price_35 : decode cX10_price 35 = .ok (.iload_n 2, 1) := by decide +kernel
theorem dX10_price_36 : decode cX10_price 36 = .ok (.invokevirtual 458, 3) := by decide +kernel
theorem dX10_price_39 : decode cX10_price 39 = .ok (.goto 4, 3) := by decide +kernel
theorem dX10_price_42 : decode cX10_price 42 = .ok (.iconst (-1), 1) := by decide +kernel
theorem dX10_price_43 : decode cX10_price 43 = .ok (.ireturn, 1) := by decide +kernel
theorem dX10_bind_0 : decode cX10_bind 0 = .ok (.aload_n 0, 1) := by decide +kernel
theorem dX10_bind_1 : decode cX10_bind 1 = .ok (.iconst 0, 1) := by decide +kernel
theorem dX10_bind_2 : decode cX10_bind 2 = .ok (.putfield 1, 3) := by decide +kernel
theorem dX10_bind_5 : decode cX10_bind 5 = .ok (.aload_n 0, 1) := by decide +kernel
theorem dX10_bind_6 : decode cX10_bind 6 = .ok (.iload_n 1, 1) := by decide +kernel
theorem dX10_bind_7 : decode cX10_bind 7 = .ok (.invokevirtual 288, 3) := by decide +kernel
theorem dX10_bind_10 : decode cX10_bind 10 = .ok (.ifCond .eq 34, 3) := by decide +kernel
theorem dX10_bind_13 : decode cX10_bind 13 = .ok (.aload_n 0, 1) := by decide +kernel
theorem dX10_bind_14 : decode cX10_bind 14 = .ok (.bipush 56, 2) := by decide +kernel
theorem dX10_bind_16 : decode cX10_bind 16 = .ok (.bipush 12, 2) := by decide +kernel
theorem dX10_bind_18 : decode cX10_bind 18 = .ok (.iload_n 1, 1) := by decide +kernel
theorem dX10_bind_19 : decode cX10_bind 19 = .ok (.imul, 1) := by decide +kernel
theorem dX10_bind_20 : decode cX10_bind 20 = .ok (.iadd, 1) := by decide +kernel
theorem dX10_bind_21 : decode cX10_bind 21 = .ok (.bipush 6, 2) := by decide +kernel
theorem dX10_bind_23 : decode cX10_bind 23 = .ok (.iadd, 1) := by decide +kernel
theorem dX10_bind_24 : decode cX10_bind 24 = .ok (.iload_n 2, 1) := by decide +kernel
theorem dX10_bind_25 : decode cX10_bind 25 = .ok (.ifCond .eq 7, 3) := by decide +kernel
theorem dX10_bind_28 : decode cX10_bind 28 = .ok (.iconst 1, 1) := by decide +kernel
theorem dX10_bind_29 : decode cX10_bind 29 = .ok (.goto 4, 3) := by decide +kernel
theorem dX10_bind_32 : decode cX10_bind 32 = .ok (.iconst 0, 1) := by decide +kernel
theorem dX10_bind_33 : decode cX10_bind 33 = .ok (.invokevirtual 458, 3) := by decide +kernel
theorem dX10_bind_36 : decode cX10_bind 36 = .ok (.iconst (-1), 1) := by decide +kernel
theorem dX10_bind_37 : decode cX10_bind 37 = .ok (.if_icmp .eq 7, 3) := by decide +kernel
theorem dX10_bind_40 : decode cX10_bind 40 = .ok (.iconst 1, 1) := by decide +kernel
theorem dX10_bind_41 : decode cX10_bind 41 = .ok (.goto 4, 3) := by decide +kernel
theorem dX10_bind_44 : decode cX10_bind 44 = .ok (.iconst 0, 1) := by decide +kernel
theorem dX10_bind_45 : decode cX10_bind 45 = .ok (.ireturn, 1) := by decide +kernel
theorem dX10_relate_0 : decode cX10_relate 0 = .ok (.aload_n 0, 1) := by decide +kernel
theorem dX10_relate_1 : decode cX10_relate 1 = .ok (.iconst 0, 1) := by decide +kernel
theorem dX10_relate_2 : decode cX10_relate 2 = .ok (.putfield 1, 3) := by decide +kernel
theorem dX10_relate_5 : decode cX10_relate 5 = .ok (.aload_n 0, 1) := by decide +kernel
theorem dX10_relate_6 : decode cX10_relate 6 = .ok (.getfield 13, 3) := by decide +kernel
theorem dX10_relate_9 : decode cX10_relate 9 = .ok (.iconst 0, 1) := by decide +kernel
theorem dX10_relate_10 : decode cX10_relate 10 = .ok (.iaload, 1) := by decide +kernel
theorem dX10_relate_11 : decode cX10_relate 11 = .ok (.iload_n 1, 1) := by decide +kernel
theorem dX10_relate_12 : decode cX10_relate 12 = .ok (.invokestatic 278, 3) := by decide +kernel
theorem dX10_relate_15 : decode cX10_relate 15 = .ok (.ifCond .eq 21, 3) := by decide +kernel
theorem dX10_relate_18 : decode cX10_relate 18 = .ok (.aload_n 0, 1) := by decide +kernel
theorem dX10_relate_19 : decode cX10_relate 19 = .ok (.getfield 13, 3) := by decide +kernel
theorem dX10_relate_22 : decode cX10_relate 22 = .ok (.iconst 0, 1) := by decide +kernel
theorem dX10_relate_23 : decode cX10_relate 23 = .ok (.iaload, 1) := by decide +kernel
theorem dX10_relate_24 : decode cX10_relate 24 = .ok (.iload_n 2, 1) := by decide +kernel
theorem dX10_relate_25 : decode cX10_relate 25 = .ok (.invokestatic 278, 3) := by decide +kernel
theorem dX10_relate_28 : decode cX10_relate 28 = .ok (.ifCond .eq 8, 3) := by decide +kernel
theorem dX10_relate_31 : decode cX10_relate 31 = .ok (.iload_n 1, 1) := by decide +kernel
theorem dX10_relate_32 : decode cX10_relate 32 = .ok (.iload_n 2, 1) := by decide +kernel
theorem dX10_relate_33 : decode cX10_relate 33 = .ok (.if_icmp .ne 5, 3) := by decide +kernel
theorem dX10_relate_36 : decode cX10_relate 36 = .ok (.iconst 0, 1) := by decide +kernel
theorem dX10_relate_37 : decode cX10_relate 37 = .ok (.ireturn, 1) := by decide +kernel
theorem dX10_relate_38 : decode cX10_relate 38 = .ok (.aload_n 0, 1) := by decide +kernel
theorem dX10_relate_39 : decode cX10_relate 39 = .ok (.getfield 13, 3) := by decide +kernel
theorem dX10_relate_42 : decode cX10_relate 42 = .ok (.iload_n 1, 1) := by decide +kernel
theorem dX10_relate_43 : decode cX10_relate 43 = .ok (.iload_n 2, 1) := by decide +kernel
theorem dX10_relate_44 : decode cX10_relate 44 = .ok (.invokestatic 209, 3) := by decide +kernel
theorem dX10_relate_47 : decode cX10_relate 47 = .ok (.istore 4, 2) := by decide +kernel
theorem dX10_relate_49 : decode cX10_relate 49 = .ok (.iload_n 3, 1) := by decide +kernel
theorem dX10_relate_50 : decode cX10_relate 50 = .ok (.iload 4, 2) := by decide +kernel
theorem dX10_relate_52 : decode cX10_relate 52 = .ok (.iconst (-1), 1) := by decide +kernel
theorem dX10_relate_53 : decode cX10_relate 53 = .ok (.if_icmp .eq 7, 3) := by decide +kernel
theorem dX10_relate_56 : decode cX10_relate 56 = .ok (.iconst 1, 1) := by decide +kernel
theorem dX10_relate_57 : decode cX10_relate 57 = .ok (.goto 4, 3) := by decide +kernel
theorem dX10_relate_60 : decode cX10_relate 60 = .ok (.iconst 0, 1) := by decide +kernel
theorem dX10_relate_61 : decode cX10_relate 61 = .ok (.if_icmp .eq 19, 3) := by decide +kernel
theorem dX10_relate_64 : decode cX10_relate 64 = .ok (.iload_n 3, 1) := by decide +kernel
theorem dX10_relate_65 : decode cX10_relate 65 = .ok (.ifCond .eq 17, 3) := by decide +kernel
theorem dX10_relate_68 : decode cX10_relate 68 = .ok (.aload_n 0, 1) := by decide +kernel
theorem dX10_relate_69 : decode cX10_relate 69 = .ok (.getfield 13, 3) := by decide +kernel
theorem dX10_relate_72 : decode cX10_relate 72 = .ok (.bipush 11, 2) := by decide +kernel
theorem dX10_relate_74 : decode cX10_relate 74 = .ok (.iaload, 1) := by decide +kernel
theorem dX10_relate_75 : decode cX10_relate 75 = .ok (.bipush 6, 2) := by decide +kernel
theorem dX10_relate_77 : decode cX10_relate 77 = .ok (.if_icmp .ne 5, 3) := by decide +kernel
theorem dX10_relate_80 : decode cX10_relate 80 = .ok (.iconst 0, 1) := by decide +kernel
theorem dX10_relate_81 : decode cX10_relate 81 = .ok (.ireturn, 1) := by decide +kernel
theorem dX10_relate_82 : decode cX10_relate 82 = .ok (.aload_n 0, 1) := by decide +kernel
theorem dX10_relate_83 : decode cX10_relate 83 = .ok (.invokevirtual 453, 3) := by decide +kernel
theorem dX10_relate_86 : decode cX10_relate 86 = .ok (.iload_n 3, 1) := by decide +kernel
theorem dX10_relate_87 : decode cX10_relate 87 = .ok (.ifCond .eq 54, 3) := by decide +kernel
theorem dX10_relate_90 : decode cX10_relate 90 = .ok (.aload_n 0, 1) := by decide +kernel
theorem dX10_relate_91 : decode cX10_relate 91 = .ok (.getfield 13, 3) := by decide +kernel
theorem dX10_relate_94 : decode cX10_relate 94 = .ok (.bipush 12, 2) := by decide +kernel
theorem dX10_relate_96 : decode cX10_relate 96 = .ok (.iconst 2, 1) := by decide +kernel
theorem dX10_relate_97 : decode cX10_relate 97 = .ok (.aload_n 0, 1) := by decide +kernel
theorem dX10_relate_98 : decode cX10_relate 98 = .ok (.getfield 13, 3) := by decide +kernel
theorem dX10_relate_101 : decode cX10_relate 101 = .ok (.bipush 11, 2) := by decide +kernel
theorem dX10_relate_103 : decode cX10_relate 103 = .ok (.iaload, 1) := by decide +kernel
theorem dX10_relate_104 : decode cX10_relate 104 = .ok (.imul, 1) := by decide +kernel
theorem dX10_relate_105 : decode cX10_relate 105 = .ok (.iadd, 1) := by decide +kernel
theorem dX10_relate_106 : decode cX10_relate 106 = .ok (.iload_n 1, 1) := by decide +kernel
theorem dX10_relate_107 : decode cX10_relate 107 = .ok (.iastore, 1) := by decide +kernel
theorem dX10_relate_108 : decode cX10_relate 108 = .ok (.aload_n 0, 1) := by decide +kernel
theorem dX10_relate_109 : decode cX10_relate 109 = .ok (.getfield 13, 3) := by decide +kernel
theorem dX10_relate_112 : decode cX10_relate 112 = .ok (.bipush 12, 2) := by decide +kernel
theorem dX10_relate_114 : decode cX10_relate 114 = .ok (.iconst 2, 1) := by decide +kernel
theorem dX10_relate_115 : decode cX10_relate 115 = .ok (.aload_n 0, 1) := by decide +kernel
theorem dX10_relate_116 : decode cX10_relate 116 = .ok (.getfield 13, 3) := by decide +kernel
theorem dX10_relate_119 : decode cX10_relate 119 = .ok (.bipush 11, 2) := by decide +kernel
theorem dX10_relate_121 : decode cX10_relate 121 = .ok (.iaload, 1) := by decide +kernel
theorem dX10_relate_122 : decode cX10_relate 122 = .ok (.imul, 1) := by decide +kernel
theorem dX10_relate_123 : decode cX10_relate 123 = .ok (.iadd, 1) := by decide +kernel
theorem dX10_relate_124 : decode cX10_relate 124 = .ok (.iconst 1, 1) := by decide +kernel
theorem dX10_relate_125 : decode cX10_relate 125 = .ok (.iadd, 1) := by decide +kernel
theorem dX10_relate_126 : decode cX10_relate 126 = .ok (.iload_n 2, 1) := by decide +kernel
theorem dX10_relate_127 : decode cX10_relate 127 = .ok (.iastore, 1) := by decide +kernel
theorem dX10_relate_128 : decode cX10_relate 128 = .ok (.aload_n 0, 1) := by decide +kernel
theorem dX10_relate_129 : decode cX10_relate 129 = .ok (.getfield 13, 3) := by decide +kernel
theorem dX10_relate_132 : decode cX10_relate 132 = .ok (.bipush 11, 2) := by decide +kernel
theorem dX10_relate_134 : decode cX10_relate 134 = .ok (.dup2, 1) := by decide +kernel
theorem dX10_relate_135 : decode cX10_relate 135 = .ok (.iaload, 1) := by decide +kernel
theorem dX10_relate_136 : decode cX10_relate 136 = .ok (.iconst 1, 1) := by decide +kernel
theorem dX10_relate_137 : decode cX10_relate 137 = .ok (.iadd, 1) := by decide +kernel
theorem dX10_relate_138 : decode cX10_relate 138 = .ok (.iastore, 1) := by decide +kernel
theorem dX10_relate_139 : decode cX10_relate 139 = .ok (.iconst 1, 1) := by decide +kernel
theorem dX10_relate_140 : decode cX10_relate 140 = .ok (.ireturn, 1) := by decide +kernel
theorem dX10_relate_141 : decode cX10_relate 141 = .ok (.bipush 12, 2) := by decide +kernel
theorem dX10_relate_143 : decode cX10_relate 143 = .ok (.iconst 2, 1) := by decide +kernel
theorem dX10_relate_144 : decode cX10_relate 144 = .ok (.iload 4, 2) := by decide +kernel
theorem dX10_relate_146 : decode cX10_relate 146 = .ok (.imul, 1) := by decide +kernel
theorem dX10_relate_147 : decode cX10_relate 147 = .ok (.iadd, 1) := by decide +kernel
theorem dX10_relate_148 : decode cX10_relate 148 = .ok (.istore 5, 2) := by decide +kernel
theorem dX10_relate_150 : decode cX10_relate 150 = .ok (.iload 5, 2) := by decide +kernel
theorem dX10_relate_152 : decode cX10_relate 152 = .ok (.bipush 22, 2) := by decide +kernel
theorem dX10_relate_154 : decode cX10_relate 154 = .ok (.if_icmp .ge 25, 3) := by decide +kernel
theorem dX10_relate_157 : decode cX10_relate 157 = .ok (.aload_n 0, 1) := by decide +kernel
theorem dX10_relate_158 : decode cX10_relate 158 = .ok (.getfield 13, 3) := by decide +kernel
theorem dX10_relate_161 : decode cX10_relate 161 = .ok (.iload 5, 2) := by decide +kernel
theorem dX10_relate_163 : decode cX10_relate 163 = .ok (.aload_n 0, 1) := by decide +kernel
theorem dX10_relate_164 : decode cX10_relate 164 = .ok (.getfield 13, 3) := by decide +kernel
theorem dX10_relate_167 : decode cX10_relate 167 = .ok (.iload 5, 2) := by decide +kernel
theorem dX10_relate_169 : decode cX10_relate 169 = .ok (.iconst 2, 1) := by decide +kernel
theorem dX10_relate_170 : decode cX10_relate 170 = .ok (.iadd, 1) := by decide +kernel
theorem dX10_relate_171 : decode cX10_relate 171 = .ok (.iaload, 1) := by decide +kernel
theorem dX10_relate_172 : decode cX10_relate 172 = .ok (.iastore, 1) := by decide +kernel
theorem dX10_relate_173 : decode cX10_relate 173 = .ok (.iinc 5 1, 3) := by decide +kernel
theorem dX10_relate_176 : decode cX10_relate 176 = .ok (.goto (-26), 3) := by decide +kernel
theorem dX10_relate_179 : decode cX10_relate 179 = .ok (.aload_n 0, 1) := by decide +kernel
theorem dX10_relate_180 : decode cX10_relate 180 = .ok (.getfield 13, 3) := by decide +kernel
theorem dX10_relate_183 : decode cX10_relate 183 = .ok (.bipush 11, 2) := by decide +kernel
theorem dX10_relate_185 : decode cX10_relate 185 = .ok (.dup2, 1) := by decide +kernel
theorem dX10_relate_186 : decode cX10_relate 186 = .ok (.iaload, 1) := by decide +kernel
theorem dX10_relate_187 : decode cX10_relate 187 = .ok (.iconst 1, 1) := by decide +kernel
theorem dX10_relate_188 : decode cX10_relate 188 = .ok (.isub, 1) := by decide +kernel
theorem dX10_relate_189 : decode cX10_relate 189 = .ok (.iastore, 1) := by decide +kernel
theorem dX10_relate_190 : decode cX10_relate 190 = .ok (.iconst 1, 1) := by decide +kernel
theorem dX10_relate_191 : decode cX10_relate 191 = .ok (.ireturn, 1) := by decide +kernel
theorem dX10_rule_0 : decode cX10_rule 0 = .ok (.aload_n 0, 1) := by decide +kernel
theorem dX10_rule_1 : decode cX10_rule 1 = .ok (.iconst 0, 1) := by decide +kernel
theorem dX10_rule_2 : decode cX10_rule 2 = .ok (.putfield 1, 3) := by decide +kernel
theorem dX10_rule_5 : decode cX10_rule 5 = .ok (.iload_n 1, 1) := by decide +kernel
theorem dX10_rule_6 : decode cX10_rule 6 = .ok (.i2l, 1) := by decide +kernel
theorem dX10_rule_7 : decode cX10_rule 7 = .ok (.lconst 0, 1) := by decide +kernel
theorem dX10_rule_8 : decode cX10_rule 8 = .ok (.ldc2_w 293, 3) := by decide +kernel
theorem dX10_rule_11 : decode cX10_rule 11 = .ok (.invokestatic 97, 3) := by decide +kernel
theorem dX10_rule_14 : decode cX10_rule 14 = .ok (.ifCond .eq 39, 3) := by decide +kernel
theorem dX10_rule_17 : decode cX10_rule 17 = .ok (.iload_n 2, 1) := by decide +kernel
theorem dX10_rule_18 : decode cX10_rule 18 = .ok (.i2l, 1) := by decide +kernel
theorem dX10_rule_19 : decode cX10_rule 19 = .ok (.bipush 6, 2) := by decide +kernel
theorem dX10_rule_21 : decode cX10_rule 21 = .ok (.iload_n 1, 1) := by decide +kernel
theorem dX10_rule_22 : decode cX10_rule 22 = .ok (.iadd, 1) := by decide +kernel
theorem dX10_rule_23 : decode cX10_rule 23 = .ok (.invokestatic 232, 3) := by decide +kernel
theorem dX10_rule_26 : decode cX10_rule 26 = .ok (.i2l, 1) := by decide +kernel
theorem dX10_rule_27 : decode cX10_rule 27 = .ok (.bipush 6, 2) := by decide +kernel
theorem dX10_rule_29 : decode cX10_rule 29 = .ok (.iload_n 1, 1) := by decide +kernel
theorem dX10_rule_30 : decode cX10_rule 30 = .ok (.iadd, 1) := by decide +kernel
theorem dX10_rule_31 : decode cX10_rule 31 = .ok (.invokestatic 235, 3) := by decide +kernel
theorem dX10_rule_34 : decode cX10_rule 34 = .ok (.i2l, 1) := by decide +kernel
theorem dX10_rule_35 : decode cX10_rule 35 = .ok (.invokestatic 97, 3) := by decide +kernel
theorem dX10_rule_38 : decode cX10_rule 38 = .ok (.ifCond .eq 15, 3) := by decide +kernel
theorem dX10_rule_41 : decode cX10_rule 41 = .ok (.aload_n 0, 1) := by decide +kernel
theorem dX10_rule_42 : decode cX10_rule 42 = .ok (.bipush 6, 2) := by decide +kernel
theorem dX10_rule_44 : decode cX10_rule 44 = .ok (.iload_n 1, 1) := by decide +kernel
theorem dX10_rule_45 : decode cX10_rule 45 = .ok (.iadd, 1) := by decide +kernel
theorem dX10_rule_46 : decode cX10_rule 46 = .ok (.iload_n 2, 1) := by decide +kernel
theorem dX10_rule_47 : decode cX10_rule 47 = .ok (.invokevirtual 458, 3) := by decide +kernel
theorem dX10_rule_50 : decode cX10_rule 50 = .ok (.goto 4, 3) := by decide +kernel
theorem dX10_rule_53 : decode cX10_rule 53 = .ok (.iconst (-1), 1) := by decide +kernel
theorem dX10_rule_54 : decode cX10_rule 54 = .ok (.ireturn, 1) := by decide +kernel
theorem dX10_turn_0 : decode cX10_turn 0 = .ok (.aload_n 0, 1) := by decide +kernel
theorem dX10_turn_1 : decode cX10_turn 1 = .ok (.iconst 0, 1) := by decide +kernel
theorem dX10_turn_2 : decode cX10_turn 2 = .ok (.putfield 1, 3) := by decide +kernel
theorem dX10_turn_5 : decode cX10_turn 5 = .ok (.aload_n 0, 1) := by decide +kernel
theorem dX10_turn_6 : decode cX10_turn 6 = .ok (.invokevirtual 453, 3) := by decide +kernel
theorem dX10_turn_9 : decode cX10_turn 9 = .ok (.aload_n 0, 1) := by decide +kernel
theorem dX10_turn_10 : decode cX10_turn 10 = .ok (.getfield 13, 3) := by decide +kernel
theorem dX10_turn_13 : decode cX10_turn 13 = .ok (.bipush 10, 2) := by decide +kernel
theorem dX10_turn_15 : decode cX10_turn 15 = .ok (.iconst 1, 1) := by decide +kernel
theorem dX10_turn_16 : decode cX10_turn 16 = .ok (.aload_n 0, 1) := by decide +kernel
theorem dX10_turn_17 : decode cX10_turn 17 = .ok (.getfield 13, 3) := by decide +kernel
theorem dX10_turn_20 : decode cX10_turn 20 = .ok (.bipush 10, 2) := by decide +kernel
theorem dX10_turn_22 : decode cX10_turn 22 = .ok (.iaload, 1) := by decide +kernel
theorem dX10_turn_23 : decode cX10_turn 23 = .ok (.isub, 1) := by decide +kernel
theorem dX10_turn_24 : decode cX10_turn 24 = .ok (.iastore, 1) := by decide +kernel
theorem dX10_turn_25 : decode cX10_turn 25 = .ok (.aload_n 0, 1) := by decide +kernel
theorem dX10_turn_26 : decode cX10_turn 26 = .ok (.getfield 13, 3) := by decide +kernel
theorem dX10_turn_29 : decode cX10_turn 29 = .ok (.bipush 10, 2) := by decide +kernel
theorem dX10_turn_31 : decode cX10_turn 31 = .ok (.iaload, 1) := by decide +kernel
theorem dX10_turn_32 : decode cX10_turn 32 = .ok (.ireturn, 1) := by decide +kernel
theorem dX10_resell_0 : decode cX10_resell 0 = .ok (.aload_n 0, 1) := by decide +kernel
theorem dX10_resell_1 : decode cX10_resell 1 = .ok (.iconst 0, 1) := by decide +kernel
theorem dX10_resell_2 : decode cX10_resell 2 = .ok (.putfield 1, 3) := by decide +kernel
theorem dX10_resell_5 : decode cX10_resell 5 = .ok (.aload_n 0, 1) := by decide +kernel
theorem dX10_resell_6 : decode cX10_resell 6 = .ok (.getfield 13, 3) := by decide +kernel
theorem dX10_resell_9 : decode cX10_resell 9 = .ok (.iconst 1, 1) := by decide +kernel
theorem dX10_resell_10 : decode cX10_resell 10 = .ok (.iaload, 1) := by decide +kernel
theorem dX10_resell_11 : decode cX10_resell 11 = .ok (.iload_n 1, 1) := by decide +kernel
theorem dX10_resell_12 : decode cX10_resell 12 = .ok (.invokestatic 278, 3) := by decide +kernel
theorem dX10_resell_15 : decode cX10_resell 15 = .ok (.ifCond .eq 51, 3) := by decide +kernel
theorem dX10_resell_18 : decode cX10_resell 18 = .ok (.iload_n 2, 1) := by decide +kernel
theorem dX10_resell_19 : decode cX10_resell 19 = .ok (.i2l, 1) := by decide +kernel
theorem dX10_resell_20 : decode cX10_resell 20 = .ok (.lconst 1, 1) := by decide +kernel
theorem dX10_resell_21 : decode cX10_resell 21 = .ok (.ldc2_w 456, 3) := by decide +kernel
theorem dX10_resell_24 : decode cX10_resell 24 = .ok (.invokestatic 97, 3) := by decide +kernel
theorem dX10_resell_27 : decode cX10_resell 27 = .ok (.ifCond .eq 39, 3) := by decide +kernel
theorem dX10_resell_30 : decode cX10_resell 30 = .ok (.iload_n 3, 1) := by decide +kernel
theorem dX10_resell_31 : decode cX10_resell 31 = .ok (.i2l, 1) := by decide +kernel
theorem dX10_resell_32 : decode cX10_resell 32 = .ok (.lconst 1, 1) := by decide +kernel
theorem dX10_resell_33 : decode cX10_resell 33 = .ok (.ldc2_w 456, 3) := by decide +kernel
theorem dX10_resell_36 : decode cX10_resell 36 = .ok (.invokestatic 97, 3) := by decide +kernel
theorem dX10_resell_39 : decode cX10_resell 39 = .ok (.ifCond .eq 27, 3) := by decide +kernel
theorem dX10_resell_42 : decode cX10_resell 42 = .ok (.iload 4, 2) := by decide +kernel
theorem dX10_resell_44 : decode cX10_resell 44 = .ok (.i2l, 1) := by decide +kernel
theorem dX10_resell_45 : decode cX10_resell 45 = .ok (.lconst 0, 1) := by decide +kernel
theorem dX10_resell_46 : decode cX10_resell 46 = .ok (.ldc2_w 461, 3) := by decide +kernel
theorem dX10_resell_49 : decode cX10_resell 49 = .ok (.invokestatic 97, 3) := by decide +kernel
theorem dX10_resell_52 : decode cX10_resell 52 = .ok (.ifCond .eq 14, 3) := by decide +kernel
theorem dX10_resell_55 : decode cX10_resell 55 = .ok (.aload_n 0, 1) := by decide +kernel
theorem dX10_resell_56 : decode cX10_resell 56 = .ok (.getfield 13, 3) := by decide +kernel
theorem dX10_resell_59 : decode cX10_resell 59 = .ok (.iconst 4, 1) := by decide +kernel
theorem dX10_resell_60 : decode cX10_resell 60 = .ok (.iaload, 1) := by decide +kernel
theorem dX10_resell_61 : decode cX10_resell 61 = .ok (.bipush 12, 2) := by decide +kernel
theorem dX10_resell_63 : decode cX10_resell 63 = .ok (.if_icmp .ne 5, 3) := by decide +kernel
theorem dX10_resell_66 : decode cX10_resell 66 = .ok (.iconst (-1), 1) := by decide +kernel
