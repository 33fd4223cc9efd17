theorem dX9_text_21 : decode cX9_text 21 = .ok (.iload_n 1, 1) := by decide +kernel
theorem dX9_text_22 : decode cX9_text 22 = .ok (.invokevirtual 86, 3) := by decide +kernel
theorem dX9_text_25 : decode cX9_text 25 = .ok (.istore_n 2, 1) := by decide +kernel
theorem dX9_text_26 : decode cX9_text 26 = .ok (.aload_n 0, 1) := by decide +kernel
theorem dX9_text_27 : decode cX9_text 27 = .ok (.getfield 12, 3) := by decide +kernel
theorem dX9_text_30 : decode cX9_text 30 = .ok (.iconst 0, 1) := by decide +kernel
theorem dX9_text_31 : decode cX9_text 31 = .ok (.putfield 78, 3) := by decide +kernel
theorem dX9_text_34 : decode cX9_text 34 = .ok (.iload_n 2, 1) := by decide +kernel
theorem dX9_text_35 : decode cX9_text 35 = .ok (.ifCond .lt 26, 3) := by decide +kernel
theorem dX9_text_38 : decode cX9_text 38 = .ok (.aload_n 0, 1) := by decide +kernel
theorem dX9_text_39 : decode cX9_text 39 = .ok (.getfield 19, 3) := by decide +kernel
theorem dX9_text_42 : decode cX9_text 42 = .ok (.aload_n 0, 1) := by decide +kernel
theorem dX9_text_43 : decode cX9_text 43 = .ok (.getfield 23, 3) := by decide +kernel
theorem dX9_text_46 : decode cX9_text 46 = .ok (.invokevirtual 90, 3) := by decide +kernel
theorem dX9_text_49 : decode cX9_text 49 = .ok (.aload_n 0, 1) := by decide +kernel
theorem dX9_text_50 : decode cX9_text 50 = .ok (.getfield 67, 3) := by decide +kernel
theorem dX9_text_53 : decode cX9_text 53 = .ok (.invokevirtual 93, 3) := by decide +kernel
theorem dX9_text_56 : decode cX9_text 56 = .ok (.aload_n 0, 1) := by decide +kernel
theorem dX9_text_57 : decode cX9_text 57 = .ok (.iconst 0, 1) := by decide +kernel
theorem dX9_text_58 : decode cX9_text 58 = .ok (.putfield 96, 3) := by decide +kernel
theorem dX9_text_61 : decode cX9_text 61 = .ok (.iload_n 2, 1) := by decide +kernel
theorem dX9_text_62 : decode cX9_text 62 = .ok (.ireturn, 1) := by decide +kernel
theorem dX9_count_0 : decode cX9_count 0 = .ok (.iload_n 1, 1) := by decide +kernel
theorem dX9_count_1 : decode cX9_count 1 = .ok (.ifCond .lt 9, 3) := by decide +kernel
theorem dX9_count_4 : decode cX9_count 4 = .ok (.iload_n 1, 1) := by decide +kernel
theorem dX9_count_5 : decode cX9_count 5 = .ok (.bipush 14, 2) := by decide +kernel
theorem dX9_count_7 : decode cX9_count 7 = .ok (.if_icmp .lt 5, 3) := by decide +kernel
theorem dX9_count_10 : decode cX9_count 10 = .ok (.iconst (-1), 1) := by decide +kernel
theorem dX9_count_11 : decode cX9_count 11 = .ok (.ireturn, 1) := by decide +kernel
theorem dX9_count_12 : decode cX9_count 12 = .ok (.iload_n 1, 1) := by decide +kernel
theorem dX9_count_13 : decode cX9_count 13 = .ok (.bipush 11, 2) := by decide +kernel
theorem dX9_count_15 : decode cX9_count 15 = .ok (.if_icmp .ne 11, 3) := by decide +kernel
theorem dX9_count_18 : decode cX9_count 18 = .ok (.aload_n 0, 1) := by decide +kernel
theorem dX9_count_19 : decode cX9_count 19 = .ok (.getfield 67, 3) := by decide +kernel
theorem dX9_count_22 : decode cX9_count 22 = .ok (.getfield 99, 3) := by decide +kernel
theorem dX9_count_25 : decode cX9_count 25 = .ok (.ireturn, 1) := by decide +kernel
theorem dX9_count_26 : decode cX9_count 26 = .ok (.iload_n 1, 1) := by decide +kernel
theorem dX9_count_27 : decode cX9_count 27 = .ok (.bipush 12, 2) := by decide +kernel
theorem dX9_count_29 : decode cX9_count 29 = .ok (.if_icmp .ne 13, 3) := by decide +kernel
theorem dX9_count_32 : decode cX9_count 32 = .ok (.aload_n 0, 1) := by decide +kernel
theorem dX9_count_33 : decode cX9_count 33 = .ok (.getfield 12, 3) := by decide +kernel
theorem dX9_count_36 : decode cX9_count 36 = .ok (.getfield 78, 3) := by decide +kernel
theorem dX9_count_39 : decode cX9_count 39 = .ok (.goto 12, 3) := by decide +kernel
theorem dX9_count_42 : decode cX9_count 42 = .ok (.aload_n 0, 1) := by decide +kernel
theorem dX9_count_43 : decode cX9_count 43 = .ok (.getfield 19, 3) := by decide +kernel
theorem dX9_count_46 : decode cX9_count 46 = .ok (.getfield 100, 3) := by decide +kernel
theorem dX9_count_49 : decode cX9_count 49 = .ok (.iload_n 1, 1) := by decide +kernel
theorem dX9_count_50 : decode cX9_count 50 = .ok (.iaload, 1) := by decide +kernel
theorem dX9_count_51 : decode cX9_count 51 = .ok (.ireturn, 1) := by decide +kernel
theorem dX9_sale_0 : decode cX9_sale 0 = .ok (.aload_n 0, 1) := by decide +kernel
theorem dX9_sale_1 : decode cX9_sale 1 = .ok (.getfield 19, 3) := by decide +kernel
theorem dX9_sale_4 : decode cX9_sale 4 = .ok (.iconst 3, 1) := by decide +kernel
theorem dX9_sale_5 : decode cX9_sale 5 = .ok (.iload_n 1, 1) := by decide +kernel
theorem dX9_sale_6 : decode cX9_sale 6 = .ok (.invokevirtual 104, 3) := by decide +kernel
theorem dX9_sale_9 : decode cX9_sale 9 = .ok (.ifCond .eq 13, 3) := by decide +kernel
theorem dX9_sale_12 : decode cX9_sale 12 = .ok (.iload_n 2, 1) := by decide +kernel
theorem dX9_sale_13 : decode cX9_sale 13 = .ok (.ifCond .lt 9, 3) := by decide +kernel
theorem dX9_sale_16 : decode cX9_sale 16 = .ok (.iload_n 2, 1) := by decide +kernel
theorem dX9_sale_17 : decode cX9_sale 17 = .ok (.bipush 12, 2) := by decide +kernel
theorem dX9_sale_19 : decode cX9_sale 19 = .ok (.if_icmp .le 11, 3) := by decide +kernel
theorem dX9_sale_22 : decode cX9_sale 22 = .ok (.new 108, 3) := by decide +kernel
theorem dX9_sale_25 : decode cX9_sale 25 = .ok (.dup, 1) := by decide +kernel
theorem dX9_sale_26 : decode cX9_sale 26 = .ok (.invokespecial 110, 3) := by decide +kernel
theorem dX9_sale_29 : decode cX9_sale 29 = .ok (.athrow, 1) := by decide +kernel
theorem dX9_sale_30 : decode cX9_sale 30 = .ok (.iload_n 2, 1) := by decide +kernel
theorem dX9_sale_31 : decode cX9_sale 31 = .ok (.bipush 12, 2) := by decide +kernel
theorem dX9_sale_33 : decode cX9_sale 33 = .ok (.if_icmp .ne 14, 3) := by decide +kernel
theorem dX9_sale_36 : decode cX9_sale 36 = .ok (.aload_n 0, 1) := by decide +kernel
theorem dX9_sale_37 : decode cX9_sale 37 = .ok (.getfield 19, 3) := by decide +kernel
theorem dX9_sale_40 : decode cX9_sale 40 = .ok (.iload_n 1, 1) := by decide +kernel
theorem dX9_sale_41 : decode cX9_sale 41 = .ok (.invokevirtual 111, 3) := by decide +kernel
theorem dX9_sale_44 : decode cX9_sale 44 = .ok (.goto 14, 3) := by decide +kernel
theorem dX9_sale_47 : decode cX9_sale 47 = .ok (.aload_n 0, 1) := by decide +kernel
theorem dX9_sale_48 : decode cX9_sale 48 = .ok (.getfield 19, 3) := by decide +kernel
theorem dX9_sale_51 : decode cX9_sale 51 = .ok (.getfield 114, 3) := by decide +kernel
theorem dX9_sale_54 : decode cX9_sale 54 = .ok (.iload_n 1, 1) := by decide +kernel
theorem dX9_sale_55 : decode cX9_sale 55 = .ok (.aaload, 1) := by decide +kernel
theorem dX9_sale_56 : decode cX9_sale 56 = .ok (.iload_n 2, 1) := by decide +kernel
theorem dX9_sale_57 : decode cX9_sale 57 = .ok (.iaload, 1) := by decide +kernel
theorem dX9_sale_58 : decode cX9_sale 58 = .ok (.ireturn, 1) := by decide +kernel
theorem dX9_resold_0 : decode cX9_resold 0 = .ok (.aload_n 0, 1) := by decide +kernel
theorem dX9_resold_1 : decode cX9_resold 1 = .ok (.getfield 19, 3) := by decide +kernel
theorem dX9_resold_4 : decode cX9_resold 4 = .ok (.iconst 4, 1) := by decide +kernel
theorem dX9_resold_5 : decode cX9_resold 5 = .ok (.iload_n 1, 1) := by decide +kernel
theorem dX9_resold_6 : decode cX9_resold 6 = .ok (.invokevirtual 104, 3) := by decide +kernel
theorem dX9_resold_9 : decode cX9_resold 9 = .ok (.ifCond .eq 12, 3) := by decide +kernel
theorem dX9_resold_12 : decode cX9_resold 12 = .ok (.iload_n 2, 1) := by decide +kernel
theorem dX9_resold_13 : decode cX9_resold 13 = .ok (.ifCond .lt 8, 3) := by decide +kernel
theorem dX9_resold_16 : decode cX9_resold 16 = .ok (.iload_n 2, 1) := by decide +kernel
theorem dX9_resold_17 : decode cX9_resold 17 = .ok (.iconst 4, 1) := by decide +kernel
theorem dX9_resold_18 : decode cX9_resold 18 = .ok (.if_icmp .lt 5, 3) := by decide +kernel
theorem dX9_resold_21 : decode cX9_resold 21 = .ok (.iconst (-1), 1) := by decide +kernel
theorem dX9_resold_22 : decode cX9_resold 22 = .ok (.ireturn, 1) := by decide +kernel
theorem dX9_resold_23 : decode cX9_resold 23 = .ok (.aload_n 0, 1) := by decide +kernel
theorem dX9_resold_24 : decode cX9_resold 24 = .ok (.getfield 19, 3) := by decide +kernel
theorem dX9_resold_27 : decode cX9_resold 27 = .ok (.getfield 118, 3) := by decide +kernel
theorem dX9_resold_30 : decode cX9_resold 30 = .ok (.iload_n 1, 1) := by decide +kernel
theorem dX9_resold_31 : decode cX9_resold 31 = .ok (.aaload, 1) := by decide +kernel
theorem dX9_resold_32 : decode cX9_resold 32 = .ok (.iload_n 2, 1) := by decide +kernel
theorem dX9_resold_33 : decode cX9_resold 33 = .ok (.iaload, 1) := by decide +kernel
theorem dX9_resold_34 : decode cX9_resold 34 = .ok (.ireturn, 1) := by decide +kernel
theorem dX9_kin_0 : decode cX9_kin 0 = .ok (.aload_n 0, 1) := by decide +kernel
theorem dX9_kin_1 : decode cX9_kin 1 = .ok (.getfield 19, 3) := by decide +kernel
theorem dX9_kin_4 : decode cX9_kin 4 = .ok (.iconst 0, 1) := by decide +kernel
theorem dX9_kin_5 : decode cX9_kin 5 = .ok (.iload_n 1, 1) := by decide +kernel
theorem dX9_kin_6 : decode cX9_kin 6 = .ok (.invokevirtual 104, 3) := by decide +kernel
theorem dX9_kin_9 : decode cX9_kin 9 = .ok (.ifCond .eq 15, 3) := by decide +kernel
theorem dX9_kin_12 : decode cX9_kin 12 = .ok (.aload_n 0, 1) := by decide +kernel
theorem dX9_kin_13 : decode cX9_kin 13 = .ok (.getfield 19, 3) := by decide +kernel
theorem dX9_kin_16 : decode cX9_kin 16 = .ok (.iconst 0, 1) := by decide +kernel
theorem dX9_kin_17 : decode cX9_kin 17 = .ok (.iload_n 2, 1) := by decide +kernel
theorem dX9_kin_18 : decode cX9_kin 18 = .ok (.invokevirtual 104, 3) := by decide +kernel
theorem dX9_kin_21 : decode cX9_kin 21 = .ok (.ifCond .ne 5, 3) := by decide +kernel
theorem dX9_kin_24 : decode cX9_kin 24 = .ok (.iconst (-1), 1) := by decide +kernel
theorem dX9_kin_25 : decode cX9_kin 25 = .ok (.ireturn, 1) := by decide +kernel
theorem dX9_kin_26 : decode cX9_kin 26 = .ok (.aload_n 0, 1) := by decide +kernel
theorem dX9_kin_27 : decode cX9_kin 27 = .ok (.getfield 44, 3) := by decide +kernel
theorem dX9_kin_30 : decode cX9_kin 30 = .ok (.iconst (-1), 1) := by decide +kernel
theorem dX9_kin_31 : decode cX9_kin 31 = .ok (.invokevirtual 121, 3) := by decide +kernel
theorem dX9_kin_34 : decode cX9_kin 34 = .ok (.aload_n 0, 1) := by decide +kernel
theorem dX9_kin_35 : decode cX9_kin 35 = .ok (.getfield 44, 3) := by decide +kernel
theorem dX9_kin_38 : decode cX9_kin 38 = .ok (.iload_n 1, 1) := by decide +kernel
theorem dX9_kin_39 : decode cX9_kin 39 = .ok (.iload_n 2, 1) := by decide +kernel
theorem dX9_kin_40 : decode cX9_kin 40 = .ok (.invokevirtual 124, 3) := by decide +kernel
theorem dX9_kin_43 : decode cX9_kin 43 = .ok (.ifCond .eq 7, 3) := by decide +kernel
theorem dX9_kin_46 : decode cX9_kin 46 = .ok (.iconst 1, 1) := by decide +kernel
theorem dX9_kin_47 : decode cX9_kin 47 = .ok (.goto 4, 3) := by decide +kernel
theorem dX9_kin_50 : decode cX9_kin 50 = .ok (.iconst 0, 1) := by decide +kernel
theorem dX9_kin_51 : decode cX9_kin 51 = .ok (.ireturn, 1) := by decide +kernel
theorem dX9_like_0 : decode cX9_like 0 = .ok (.aload_n 0, 1) := by decide +kernel
theorem dX9_like_1 : decode cX9_like 1 = .ok (.getfield 19, 3) := by decide +kernel
theorem dX9_like_4 : decode cX9_like 4 = .ok (.iconst 1, 1) := by decide +kernel
theorem dX9_like_5 : decode cX9_like 5 = .ok (.iload_n 1, 1) := by decide +kernel
theorem dX9_like_6 : decode cX9_like 6 = .ok (.invokevirtual 104, 3) := by decide +kernel
theorem dX9_like_9 : decode cX9_like 9 = .ok (.ifCond .eq 15, 3) := by decide +kernel
theorem dX9_like_12 : decode cX9_like 12 = .ok (.aload_n 0, 1) := by decide +kernel
theorem dX9_like_13 : decode cX9_like 13 = .ok (.getfield 19, 3) := by decide +kernel
theorem dX9_like_16 : decode cX9_like 16 = .ok (.iconst 1, 1) := by decide +kernel
theorem dX9_like_17 : decode cX9_like 17 = .ok (.iload_n 2, 1) := by decide +kernel
theorem dX9_like_18 : decode cX9_like 18 = .ok (.invokevirtual 104, 3) := by decide +kernel
theorem dX9_like_21 : decode cX9_like 21 = .ok (.ifCond .ne 5, 3) := by decide +kernel
theorem dX9_like_24 : decode cX9_like 24 = .ok (.iconst (-1), 1) := by decide +kernel
theorem dX9_like_25 : decode cX9_like 25 = .ok (.ireturn, 1) := by decide +kernel
theorem dX9_like_26 : decode cX9_like 26 = .ok (.iload_n 1, 1) := by decide +kernel
theorem dX9_like_27 : decode cX9_like 27 = .ok (.iload_n 2, 1) := by decide +kernel
theorem dX9_like_28 : decode cX9_like 28 = .ok (.if_icmp .ne 5, 3) := by decide +kernel
theorem dX9_like_31 : decode cX9_like 31 = .ok (.iconst 1, 1) := by decide +kernel
theorem dX9_like_32 : decode cX9_like 32 = .ok (.ireturn, 1) := by decide +kernel
theorem dX9_like_33 : decode cX9_like 33 = .ok (.aload_n 0, 1) := by decide +kernel
theorem dX9_like_34 : decode cX9_like 34 = .ok (.getfield 19, 3) := by decide +kernel
theorem dX9_like_37 : decode cX9_like 37 = .ok (.iload_n 1, 1) := by decide +kernel
theorem dX9_like_38 : decode cX9_like 38 = .ok (.iload_n 2, 1) := by decide +kernel
theorem dX9_like_39 : decode cX9_like 39 = .ok (.invokevirtual 127, 3) := by decide +kernel
theorem dX9_like_42 : decode cX9_like 42 = .ok (.ifCond .eq 7, 3) := by decide +kernel
theorem dX9_like_45 : decode cX9_like 45 = .ok (.iconst 2, 1) := by decide +kernel
theorem dX9_like_46 : decode cX9_like 46 = .ok (.goto 4, 3) := by decide +kernel
theorem dX9_like_49 : decode cX9_like 49 = .ok (.iconst 0, 1) := by decide +kernel
theorem dX9_like_50 : decode cX9_like 50 = .ok (.ireturn, 1) := by decide +kernel
theorem dX9_band_0 : decode cX9_band 0 = .ok (.aload_n 0, 1) := by decide +kernel
theorem dX9_band_1 : decode cX9_band 1 = .ok (.getfield 19, 3) := by decide +kernel
theorem dX9_band_4 : decode cX9_band 4 = .ok (.iconst 5, 1) := by decide +kernel
theorem dX9_band_5 : decode cX9_band 5 = .ok (.iload_n 1, 1) := by decide +kernel
theorem dX9_band_6 : decode cX9_band 6 = .ok (.invokevirtual 104, 3) := by decide +kernel
theorem dX9_band_9 : decode cX9_band 9 = .ok (.ifCond .eq 12, 3) := by decide +kernel
theorem dX9_band_12 : decode cX9_band 12 = .ok (.iload_n 2, 1) := by decide +kernel
theorem dX9_band_13 : decode cX9_band 13 = .ok (.ifCond .lt 8, 3) := by decide +kernel
theorem dX9_band_16 : decode cX9_band 16 = .ok (.iload_n 2, 1) := by decide +kernel
theorem dX9_band_17 : decode cX9_band 17 = .ok (.iconst 2, 1) := by decide +kernel
theorem dX9_band_18 : decode cX9_band 18 = .ok (.if_icmp .lt 5, 3) := by decide +kernel
theorem dX9_band_21 : decode cX9_band 21 = .ok (.iconst (-1), 1) := by decide +kernel
theorem dX9_band_22 : decode cX9_band 22 = .ok (.ireturn, 1) := by decide +kernel
theorem dX9_band_23 : decode cX9_band 23 = .ok (.aload_n 0, 1) := by decide +kernel
theorem dX9_band_24 : decode cX9_band 24 = .ok (.getfield 19, 3) := by decide +kernel
theorem dX9_band_27 : decode cX9_band 27 = .ok (.getfield 130, 3) := by decide +kernel
theorem dX9_band_30 : decode cX9_band 30 = .ok (.iload_n 1, 1) := by decide +kernel
theorem dX9_band_31 : decode cX9_band 31 = .ok (.aaload, 1) := by decide +kernel
theorem dX9_band_32 : decode cX9_band 32 = .ok (.iload_n 2, 1) := by decide +kernel
theorem dX9_band_33 : decode cX9_band 33 = .ok (.iaload, 1) := by decide +kernel
theorem dX9_band_34 : decode cX9_band 34 = .ok (.ireturn, 1) := by decide +kernel
theorem dX9_assist_0 : decode cX9_assist 0 = .ok (.aload_n 0, 1) := by decide +kernel
theorem dX9_assist_1 : decode cX9_assist 1 = .ok (.getfield 19, 3) := by decide +kernel
theorem dX9_assist_4 : decode cX9_assist 4 = .ok (.iconst 2, 1) := by decide +kernel
theorem dX9_assist_5 : decode cX9_assist 5 = .ok (.iload_n 1, 1) := by decide +kernel
theorem dX9_assist_6 : decode cX9_assist 6 = .ok (.invokevirtual 104, 3) := by decide +kernel
theorem dX9_assist_9 : decode cX9_assist 9 = .ok (.ifCond .eq 12, 3) := by decide +kernel
theorem dX9_assist_12 : decode cX9_assist 12 = .ok (.iload_n 2, 1) := by decide +kernel
theorem dX9_assist_13 : decode cX9_assist 13 = .ok (.ifCond .lt 8, 3) := by decide +kernel
theorem dX9_assist_16 : decode cX9_assist 16 = .ok (.iload_n 2, 1) := by decide +kernel
theorem dX9_assist_17 : decode cX9_assist 17 = .ok (.iconst 2, 1) := by decide +kernel
theorem dX9_assist_18 : decode cX9_assist 18 = .ok (.if_icmp .lt 5, 3) := by decide +kernel
theorem dX9_assist_21 : decode cX9_assist 21 = .ok (.iconst (-1), 1) := by decide +kernel
theorem dX9_assist_22 : decode cX9_assist 22 = .ok (.ireturn, 1) := by decide +kernel
theorem dX9_assist_23 : decode cX9_assist 23 = .ok (.aload_n 0, 1) := by decide +kernel
theorem dX9_assist_24 : decode cX9_assist 24 = .ok (.getfield 19, 3) := by decide +kernel
theorem dX9_assist_27 : decode cX9_assist 27 = .ok (.getfield 133, 3) := by decide +kernel
theorem dX9_assist_30 : decode cX9_assist 30 = .ok (.iload_n 1, 1) := by decide +kernel
theorem dX9_assist_31 : decode cX9_assist 31 = .ok (.aaload, 1) := by decide +kernel
theorem dX9_assist_32 : decode cX9_assist 32 = .ok (.iload_n 2, 1) := by decide +kernel
theorem dX9_assist_33 : decode cX9_assist 33 = .ok (.iaload, 1) := by decide +kernel
theorem dX9_assist_34 : decode cX9_assist 34 = .ok (.ireturn, 1) := by decide +kernel
theorem dX9_share_0 : decode cX9_share 0 = .ok (.aload_n 0, 1) := by decide +kernel
theorem dX9_share_1 : decode cX9_share 1 = .ok (.getfield 19, 3) := by decide +kernel
theorem dX9_share_4 : decode cX9_share 4 = .ok (.iconst 2, 1) := by decide +kernel
theorem dX9_share_5 : decode cX9_share 5 = .ok (.iload_n 1, 1) := by decide +kernel
theorem dX9_share_6 : decode cX9_share 6 = .ok (.invokevirtual 104, 3) := by decide +kernel
theorem dX9_share_9 : decode cX9_share 9 = .ok (.ifCond .eq 15, 3) := by decide +kernel
theorem dX9_share_12 : decode cX9_share 12 = .ok (.aload_n 0, 1) := by decide +kernel
theorem dX9_share_13 : decode cX9_share 13 = .ok (.getfield 19, 3) := by decide +kernel
theorem dX9_share_16 : decode cX9_share 16 = .ok (.iconst 3, 1) := by decide +kernel
theorem dX9_share_17 : decode cX9_share 17 = .ok (.iload_n 2, 1) := by decide +kernel
theorem dX9_share_18 : decode cX9_share 18 = .ok (.invokevirtual 104, 3) := by decide +kernel
theorem dX9_share_21 : decode cX9_share 21 = .ok (.ifCond .ne 5, 3) := by decide +kernel
theorem dX9_share_24 : decode cX9_share 24 = .ok (.iconst (-1), 1) := by decide +kernel
theorem dX9_share_25 : decode cX9_share 25 = .ok (.ireturn, 1) := by decide +kernel
theorem dX9_share_26 : decode cX9_share 26 = .ok (.aload_n 0, 1) := by decide +kernel
theorem dX9_share_27 : decode cX9_share 27 = .ok (.getfield 44, 3) := by decide +kernel
theorem dX9_share_30 : decode cX9_share 30 = .ok (.iconst (-1), 1) := by decide +kernel
theorem dX9_share_31 : decode cX9_share 31 = .ok (.invokevirtual 121, 3) := by decide +kernel
theorem dX9_share_34 : decode cX9_share 34 = .ok (.aload_n 0, 1) := by decide +kernel
theorem dX9_share_35 : decode cX9_share 35 = .ok (.getfield 44, 3) := by decide +kernel
theorem dX9_share_38 : decode cX9_share 38 = .ok (.getfield 136, 3) := by decide +kernel
theorem dX9_share_41 : decode cX9_share 41 = .ok (.iload_n 1, 1) := by decide +kernel
theorem dX9_share_42 : decode cX9_share 42 = .ok (.aaload, 1) := by decide +kernel
theorem dX9_share_43 : decode cX9_share 43 = .ok (.iload_n 2, 1) := by decide +kernel
theorem dX9_share_44 : decode cX9_share 44 = .ok (.iaload, 1) := by decide +kernel
theorem dX9_share_45 : decode cX9_share 45 = .ok (.ireturn, 1) := by decide +kernel
theorem dX9_rest_0 : decode cX9_rest 0 = .ok (.aload_n 0, 1) := by decide +kernel
theorem dX9_rest_1 : decode cX9_rest 1 = .ok (.getfield 19, 3) := by decide +kernel
theorem dX9_rest_4 : decode cX9_rest 4 = .ok (.iconst 2, 1) := by decide +kernel
theorem dX9_rest_5 : decode cX9_rest 5 = .ok (.iload_n 1, 1) := by decide +kernel
theorem dX9_rest_6 : decode cX9_rest 6 = .ok (.invokevirtual 104, 3) := by decide +kernel
theorem dX9_rest_9 : decode cX9_rest 9 = .ok (.ifCond .ne 5, 3) := by decide +kernel
theorem dX9_rest_12 : decode cX9_rest 12 = .ok (.iconst (-1), 1) := by decide +kernel
theorem dX9_rest_13 : decode cX9_rest 13 = .ok (.ireturn, 1) := by decide +kernel
theorem dX9_rest_14 : decode cX9_rest 14 = .ok (.aload_n 0, 1) := by decide +kernel
theorem dX9_rest_15 : decode cX9_rest 15 = .ok (.getfield 44, 3) := by decide +kernel
theorem dX9_rest_18 : decode cX9_rest 18 = .ok (.iconst (-1), 1) := by decide +kernel
theorem dX9_rest_19 : decode cX9_rest 19 = .ok (.invokevirtual 121, 3) := by decide +kernel
theorem dX9_rest_22 : decode cX9_rest 22 = .ok (.aload_n 0, 1) := by decide +kernel
theorem dX9_rest_23 : decode cX9_rest 23 = .ok (.getfield 19, 3) := by decide +kernel
theorem dX9_rest_26 : decode cX9_rest 26 = .ok (.getfield 133, 3) := by decide +kernel
theorem dX9_rest_29 : decode cX9_rest 29 = .ok (.iload_n 1, 1) := by decide +kernel
theorem dX9_rest_30 : decode cX9_rest 30 = .ok (.aaload, 1) := by decide +kernel
theorem dX9_rest_31 : decode cX9_rest 31 = .ok (.iconst 0, 1) := by decide +kernel
theorem dX9_rest_32 : decode cX9_rest 32 = .ok (.iaload, 1) := by decide +kernel
theorem dX9_rest_33 : decode cX9_rest 33 = .ok (.istore_n 2, 1) := by decide +kernel
theorem dX9_rest_34 : decode cX9_rest 34 = .ok (.iconst 0, 1) := by decide +kernel
theorem dX9_rest_35 : decode cX9_rest 35 = .ok (.istore_n 3, 1) := by decide +kernel
theorem dX9_rest_36 : decode cX9_rest 36 = .ok (.iload_n 3, 1) := by decide +kernel
theorem dX9_rest_37 : decode cX9_rest 37 = .ok (.aload_n 0, 1) := by decide +kernel
theorem dX9_rest_38 : decode cX9_rest 38 = .ok (.getfield 19, 3) := by decide +kernel
theorem dX9_rest_41 : decode cX9_rest 41 = .ok (.getfield 100, 3) := by decide +kernel
theorem dX9_rest_44 : decode cX9_rest 44 = .ok (.iconst 3, 1) := by decide +kernel
theorem dX9_rest_45 : decode cX9_rest 45 = .ok (.iaload, 1) := by decide +kernel
theorem dX9_rest_46 : decode cX9_rest 46 = .ok (.if_icmp .ge 23, 3) := by decide +kernel
theorem dX9_rest_49 : decode cX9_rest 49 = .ok (.iload_n 2, 1) := by decide +kernel
theorem dX9_rest_50 : decode cX9_rest 50 = .ok (.aload_n 0, 1) := by decide +kernel
theorem dX9_rest_51 : decode cX9_rest 51 = .ok (.getfield 44, 3) := by decide +kernel
theorem dX9_rest_54 : decode cX9_rest 54 = .ok (.getfield 136, 3) := by decide +kernel
theorem dX9_rest_57 : decode cX9_rest 57 = .ok (.iload_n 1, 1) := by decide +kernel
theorem dX9_rest_58 : decode cX9_rest 58 = .ok (.aaload, 1) := by decide +kernel
theorem dX9_rest_59 : decode cX9_rest 59 = .ok (.iload_n 3, 1) := by decide +kernel
theorem dX9_rest_60 : decode cX9_rest 60 = .ok (.iaload, 1) := by decide +kernel
theorem dX9_rest_61 : decode cX9_rest 61 = .ok (.isub, 1) := by decide +kernel
theorem dX9_rest_62 : decode cX9_rest 62 = .ok (.istore_n 2, 1) := by decide +kernel
theorem dX9_rest_63 : decode cX9_rest 63 = .ok (.iinc 3 1, 3) := by decide +kernel
theorem dX9_rest_66 : decode cX9_rest 66 = .ok (.goto (-30), 3) := by decide +kernel
theorem dX9_rest_69 : decode cX9_rest 69 = .ok (.iload_n 2, 1) := by decide +kernel
theorem dX9_rest_70 : decode cX9_rest 70 = .ok (.ireturn, 1) := by decide +kernel
theorem dX9_own_0 : decode cX9_own 0 = .ok (.aload_n 0, 1) := by decide +kernel
theorem dX9_own_1 : decode cX9_own 1 = .ok (.getfield 19, 3) := by decide +kernel
theorem dX9_own_4 : decode cX9_own 4 = .ok (.iconst 3, 1) := by decide +kernel
theorem dX9_own_5 : decode cX9_own 5 = .ok (.iload_n 1, 1) := by decide +kernel
theorem dX9_own_6 : decode cX9_own 6 = .ok (.invokevirtual 104, 3) := by decide +kernel
theorem dX9_own_9 : decode cX9_own 9 = .ok (.ifCond .ne 7, 3) := by decide +kernel
theorem dX9_own_12 : decode cX9_own 12 = .ok (.ldc2_w 139, 3) := by decide +kernel
theorem dX9_own_15 : decode cX9_own 15 = .ok (.lreturn, 1) := by decide +kernel
theorem dX9_own_16 : decode cX9_own 16 = .ok (.aload_n 0, 1) := by decide +kernel
theorem dX9_own_17 : decode cX9_own 17 = .ok (.getfield 44, 3) := by decide +kernel
theorem dX9_own_20 : decode cX9_own 20 = .ok (.iconst (-1), 1) := by decide +kernel
theorem dX9_own_21 : decode cX9_own 21 = .ok (.invokevirtual 121, 3) := by decide +kernel
theorem dX9_own_24 : decode cX9_own 24 = .ok (.aload_n 0, 1) := by decide +kernel
theorem dX9_own_25 : decode cX9_own 25 = .ok (.getfield 44, 3) := by decide +kernel
theorem dX9_own_28 : decode cX9_own 28 = .ok (.getfield 141, 3) := by decide +kernel
theorem dX9_own_31 : decode cX9_own 31 = .ok (.iload_n 1, 1) := by decide +kernel
theorem dX9_own_32 : decode cX9_own 32 = .ok (.laload, 1) := by decide +kernel
theorem dX9_own_33 : decode cX9_own 33 = .ok (.lreturn, 1) := by decide +kernel
theorem dX9_by_0 : decode cX9_by 0 = .ok (.aload_n 0, 1) := by decide +kernel
theorem dX9_by_1 : decode cX9_by 1 = .ok (.getfield 19, 3) := by decide +kernel
theorem dX9_by_4 : decode cX9_by 4 = .ok (.iconst 3, 1) := by decide +kernel
theorem dX9_by_5 : decode cX9_by 5 = .ok (.iload_n 1, 1) := by decide +kernel
theorem dX9_by_6 : decode cX9_by 6 = .ok (.invokevirtual 104, 3) := by decide +kernel
theorem dX9_by_9 : decode cX9_by 9 = .ok (.ifCond .eq 14, 3) := by decide +kernel
theorem dX9_by_12 : decode cX9_by 12 = .ok (.iload_n 2, 1) := by decide +kernel
theorem dX9_by_13 : decode cX9_by 13 = .ok (.iconst 1, 1) := by decide +kernel
theorem dX9_by_14 : decode cX9_by 14 = .ok (.if_icmp .lt 9, 3) := by decide +kernel
theorem dX9_by_17 : decode cX9_by 17 = .ok (.iload_n 2, 1) := by decide +kernel
theorem dX9_by_18 : decode cX9_by 18 = .ok (.bipush 6, 2) := by decide +kernel
theorem dX9_by_20 : decode cX9_by 20 = .ok (.if_icmp .le 7, 3) := by decide +kernel
theorem dX9_by_23 : decode cX9_by 23 = .ok (.ldc2_w 139, 3) := by decide +kernel
theorem dX9_by_26 : decode cX9_by 26 = .ok (.lreturn, 1) := by decide +kernel
theorem dX9_by_27 : decode cX9_by 27 = .ok (.aload_n 0, 1) := by decide +kernel
theorem dX9_by_28 : decode cX9_by 28 = .ok (.getfield 53, 3) := by decide +kernel
theorem dX9_by_31 : decode cX9_by 31 = .ok (.iconst (-1), 1) := by decide +kernel
theorem dX9_by_32 : decode cX9_by 32 = .ok (.invokevirtual 145, 3) := by decide +kernel
theorem dX9_by_35 : decode cX9_by 35 = .ok (.aload_n 0, 1) := by decide +kernel
theorem dX9_by_36 : decode cX9_by 36 = .ok (.getfield 53, 3) := by decide +kernel
theorem dX9_by_39 : decode cX9_by 39 = .ok (.iload_n 1, 1) := by decide +kernel
theorem dX9_by_40 : decode cX9_by 40 = .ok (.iload_n 2, 1) := by decide +kernel
theorem dX9_by_41 : decode cX9_by 41 = .ok (.invokevirtual 146, 3) := by decide +kernel
theorem dX9_by_44 : decode cX9_by 44 = .ok (.aload_n 0, 1) := by decide +kernel
theorem dX9_by_45 : decode cX9_by 45 = .ok (.getfield 53, 3) := by decide +kernel
theorem dX9_by_48 : decode cX9_by 48 = .ok (.getfield 150, 3) := by decide +kernel
theorem dX9_by_51 : decode cX9_by 51 = .ok (.ifCond .ne 13, 3) := by decide +kernel
theorem dX9_by_54 : decode cX9_by 54 = .ok (.aload_n 0, 1) := by decide +kernel
theorem dX9_by_55 : decode cX9_by 55 = .ok (.getfield 53, 3) := by decide +kernel
theorem dX9_by_58 : decode cX9_by 58 = .ok (.getfield 153, 3) := by decide +kernel
theorem dX9_by_61 : decode cX9_by 61 = .ok (.goto 14, 3) := by decide +kernel
theorem dX9_by_64 : decode cX9_by 64 = .ok (.bipush (-2), 2) := by decide +kernel
theorem dX9_by_66 : decode cX9_by 66 = .ok (.aload_n 0, 1) := by decide +kernel
theorem dX9_by_67 : decode cX9_by 67 = .ok (.getfield 53, 3) := by decide +kernel
theorem dX9_by_70 : decode cX9_by 70 = .ok (.getfield 150, 3) := by decide +kernel
theorem dX9_by_73 : decode cX9_by 73 = .ok (.isub, 1) := by decide +kernel
theorem dX9_by_74 : decode cX9_by 74 = .ok (.i2l, 1) := by decide +kernel
theorem dX9_by_75 : decode cX9_by 75 = .ok (.lreturn, 1) := by decide +kernel
theorem dX9_base_0 : decode cX9_base 0 = .ok (.iload_n 2, 1) := by decide +kernel
theorem dX9_base_1 : decode cX9_base 1 = .ok (.iconst 2, 1) := by decide +kernel
theorem dX9_base_2 : decode cX9_base 2 = .ok (.if_icmp .eq 19, 3) := by decide +kernel
theorem dX9_base_5 : decode cX9_base 5 = .ok (.iload_n 2, 1) := by decide +kernel
theorem dX9_base_6 : decode cX9_base 6 = .ok (.iconst 3, 1) := by decide +kernel
theorem dX9_base_7 : decode cX9_base 7 = .ok (.if_icmp .eq 14, 3) := by decide +kernel
theorem dX9_base_10 : decode cX9_base 10 = .ok (.iload_n 2, 1) := by decide +kernel
theorem dX9_base_11 : decode cX9_base 11 = .ok (.iconst 4, 1) := by decide +kernel
theorem dX9_base_12 : decode cX9_base 12 = .ok (.if_icmp .eq 9, 3) := by decide +kernel
theorem dX9_base_15 : decode cX9_base 15 = .ok (.iload_n 2, 1) := by decide +kernel
theorem dX9_base_16 : decode cX9_base 16 = .ok (.bipush 6, 2) := by decide +kernel
theorem dX9_base_18 : decode cX9_base 18 = .ok (.if_icmp .ne 7, 3) := by decide +kernel
theorem dX9_base_21 : decode cX9_base 21 = .ok (.iconst 1, 1) := by decide +kernel
theorem dX9_base_22 : decode cX9_base 22 = .ok (.goto 4, 3) := by decide +kernel
theorem dX9_base_25 : decode cX9_base 25 = .ok (.iconst 0, 1) := by decide +kernel
theorem dX9_base_26 : decode cX9_base 26 = .ok (.istore_n 3, 1) := by decide +kernel
theorem dX9_base_27 : decode cX9_base 27 = .ok (.aload_n 0, 1) := by decide +kernel
theorem dX9_base_28 : decode cX9_base 28 = .ok (.getfield 19, 3) := by decide +kernel
theorem dX9_base_31 : decode cX9_base 31 = .ok (.iconst 3, 1) := by decide +kernel
theorem dX9_base_32 : decode cX9_base 32 = .ok (.iload_n 1, 1) := by decide +kernel
theorem dX9_base_33 : decode cX9_base 33 = .ok (.invokevirtual 104, 3) := by decide +kernel
theorem dX9_base_36 : decode cX9_base 36 = .ok (.ifCond .eq 7, 3) := by decide +kernel
theorem dX9_base_39 : decode cX9_base 39 = .ok (.iload_n 3, 1) := by decide +kernel
theorem dX9_base_40 : decode cX9_base 40 = .ok (.ifCond .ne 5, 3) := by decide +kernel
theorem dX9_base_43 : decode cX9_base 43 = .ok (.iconst (-1), 1) := by decide +kernel
theorem dX9_base_44 : decode cX9_base 44 = .ok (.ireturn, 1) := by decide +kernel
theorem dX9_base_45 : decode cX9_base 45 = .ok (.aload_n 0, 1) := by decide +kernel
theorem dX9_base_46 : decode cX9_base 46 = .ok (.getfield 53, 3) := by decide +kernel
theorem dX9_base_49 : decode cX9_base 49 = .ok (.iconst (-1), 1) := by decide +kernel
theorem dX9_base_50 : decode cX9_base 50 = .ok (.invokevirtual 145, 3) := by decide +kernel
theorem dX9_base_53 : decode cX9_base 53 = .ok (.aload_n 0, 1) := by decide +kernel
theorem dX9_base_54 : decode cX9_base 54 = .ok (.getfield 53, 3) := by decide +kernel
theorem dX9_base_57 : decode cX9_base 57 = .ok (.iload_n 1, 1) := by decide +kernel
theorem dX9_base_58 : decode cX9_base 58 = .ok (.iload_n 2, 1) := by decide +kernel
theorem dX9_base_59 : decode cX9_base 59 = .ok (.invokevirtual 146, 3) := by decide +kernel
theorem dX9_base_62 : decode cX9_base 62 = .ok (.aload_n 0, 1) := by decide +kernel
theorem dX9_base_63 : decode cX9_base 63 = .ok (.getfield 53, 3) := by decide +kernel
theorem dX9_base_66 : decode cX9_base 66 = .ok (.getfield 150, 3) := by decide +kernel
theorem dX9_base_69 : decode cX9_base 69 = .ok (.ifCond .ne 13, 3) := by decide +kernel
theorem dX9_base_72 : decode cX9_base 72 = .ok (.aload_n 0, 1) := by decide +kernel
theorem dX9_base_73 : decode cX9_base 73 = .ok (.getfield 53, 3) := by decide +kernel
theorem dX9_base_76 : decode cX9_base 76 = .ok (.getfield 157, 3) := by decide +kernel
theorem dX9_base_79 : decode cX9_base 79 = .ok (.goto 13, 3) := by decide +kernel
theorem dX9_base_82 : decode cX9_base 82 = .ok (.bipush (-2), 2) := by decide +kernel
theorem dX9_base_84 : decode cX9_base 84 = .ok (.aload_n 0, 1) := by decide +kernel
theorem dX9_base_85 : decode cX9_base 85 = .ok (.getfield 53, 3) := by decide +kernel
theorem dX9_base_88 : decode cX9_base 88 = .ok (.getfield 150, 3) := by decide +kernel
theorem dX9_base_91 : decode cX9_base 91 = .ok (.isub, 1) := by decide +kernel
theorem dX9_base_92 : decode cX9_base 92 = .ok (.ireturn, 1) := by decide +kernel
theorem dX9_worth_0 : decode cX9_worth 0 = .ok (.aload_n 0, 1) := by decide +kernel
theorem dX9_worth_1 : decode cX9_worth 1 = .ok (.iload_n 1, 1) := by decide +kernel
theorem dX9_worth_2 : decode cX9_worth 2 = .ok (.aload_n 0, 1) := by decide +kernel
theorem dX9_worth_3 : decode cX9_worth 3 = .ok (.invokevirtual 160, 3) := by decide +kernel
theorem dX9_worth_6 : decode cX9_worth 6 = .ok (.invokevirtual 164, 3) := by decide +kernel
theorem dX9_worth_9 : decode cX9_worth 9 = .ok (.lreturn, 1) := by decide +kernel
theorem dX9_method_0 : decode cX9_method 0 = .ok (.aload_n 0, 1) := by decide +kernel
theorem dX9_method_1 : decode cX9_method 1 = .ok (.getfield 19, 3) := by decide +kernel
theorem dX9_method_4 : decode cX9_method 4 = .ok (.iconst 3, 1) := by decide +kernel
theorem dX9_method_5 : decode cX9_method 5 = .ok (.iload_n 1, 1) := by decide +kernel
theorem dX9_method_6 : decode cX9_method 6 = .ok (.invokevirtual 104, 3) := by decide +kernel
theorem dX9_method_9 : decode cX9_method 9 = .ok (.ifCond .ne 5, 3) := by decide +kernel
theorem dX9_method_12 : decode cX9_method 12 = .ok (.iconst (-1), 1) := by decide +kernel
theorem dX9_method_13 : decode cX9_method 13 = .ok (.ireturn, 1) := by decide +kernel
theorem dX9_method_14 : decode cX9_method 14 = .ok (.aload_n 0, 1) := by decide +kernel
theorem dX9_method_15 : decode cX9_method 15 = .ok (.getfield 53, 3) := by decide +kernel
theorem dX9_method_18 : decode cX9_method 18 = .ok (.iconst (-1), 1) := by decide +kernel
theorem dX9_method_19 : decode cX9_method 19 = .ok (.invokevirtual 145, 3) := by decide +kernel
theorem dX9_method_22 : decode cX9_method 22 = .ok (.aload_n 0, 1) := by decide +kernel
theorem dX9_method_23 : decode cX9_method 23 = .ok (.getfield 53, 3) := by decide +kernel
theorem dX9_method_26 : decode cX9_method 26 = .ok (.iload_n 1, 1) := by decide +kernel
theorem dX9_method_27 : decode cX9_method 27 = .ok (.aload_n 0, 1) := by decide +kernel
theorem dX9_method_28 : decode cX9_method 28 = .ok (.invokevirtual 160, 3) := by decide +kernel
theorem dX9_method_31 : decode cX9_method 31 = .ok (.invokevirtual 168, 3) := by decide +kernel
theorem dX9_method_34 : decode cX9_method 34 = .ok (.aload_n 0, 1) := by decide +kernel
theorem dX9_method_35 : decode cX9_method 35 = .ok (.getfield 53, 3) := by decide +kernel
theorem dX9_method_38 : decode cX9_method 38 = .ok (.getfield 172, 3) := by decide +kernel
theorem dX9_method_41 : decode cX9_method 41 = .ok (.ifCond .ne 8, 3) := by decide +kernel
theorem dX9_method_44 : decode cX9_method 44 = .ok (.bipush (-2), 2) := by decide +kernel
theorem dX9_method_46 : decode cX9_method 46 = .ok (.goto 10, 3) := by decide +kernel
theorem dX9_method_49 : decode cX9_method 49 = .ok (.aload_n 0, 1) := by decide +kernel
theorem dX9_method_50 : decode cX9_method 50 = .ok (.getfield 53, 3) := by decide +kernel
theorem dX9_method_53 : decode cX9_method 53 = .ok (.getfield 172, 3) := by decide +kernel
theorem dX9_method_56 : decode cX9_method 56 = .ok (.ireturn, 1) := by decide +kernel
theorem dX9_why_0 : decode cX9_why 0 = .ok (.aload_n 0, 1) := by decide +kernel
theorem dX9_why_1 : decode cX9_why 1 = .ok (.getfield 19, 3) := by decide +kernel
theorem dX9_why_4 : decode cX9_why 4 = .ok (.iconst 3, 1) := by decide +kernel
theorem dX9_why_5 : decode cX9_why 5 = .ok (.iload_n 1, 1) := by decide +kernel
theorem dX9_why_6 : decode cX9_why 6 = .ok (.invokevirtual 104, 3) := by decide +kernel
theorem dX9_why_9 : decode cX9_why 9 = .ok (.ifCond .eq 8, 3) := by decide +kernel
theorem dX9_why_12 : decode cX9_why 12 = .ok (.iload_n 2, 1) := by decide +kernel
theorem dX9_why_13 : decode cX9_why 13 = .ok (.iconst (-1), 1) := by decide +kernel
theorem dX9_why_14 : decode cX9_why 14 = .ok (.if_icmp .ge 5, 3) := by decide +kernel
theorem dX9_why_17 : decode cX9_why 17 = .ok (.iconst (-1), 1) := by decide +kernel
theorem dX9_why_18 : decode cX9_why 18 = .ok (.ireturn, 1) := by decide +kernel
theorem dX9_why_19 : decode cX9_why 19 = .ok (.aload_n 0, 1) := by decide +kernel
theorem dX9_why_20 : decode cX9_why 20 = .ok (.getfield 53, 3) := by decide +kernel
theorem dX9_why_23 : decode cX9_why 23 = .ok (.iconst (-1), 1) := by decide +kernel
theorem dX9_why_24 : decode cX9_why 24 = .ok (.invokevirtual 145, 3) := by decide +kernel
theorem dX9_why_27 : decode cX9_why 27 = .ok (.aload_n 0, 1) := by decide +kernel
theorem dX9_why_28 : decode cX9_why 28 = .ok (.getfield 53, 3) := by decide +kernel
theorem dX9_why_31 : decode cX9_why 31 = .ok (.iload_n 1, 1) := by decide +kernel
theorem dX9_why_32 : decode cX9_why 32 = .ok (.aload_n 0, 1) := by decide +kernel
theorem dX9_why_33 : decode cX9_why 33 = .ok (.invokevirtual 160, 3) := by decide +kernel
theorem dX9_why_36 : decode cX9_why 36 = .ok (.invokevirtual 168, 3) := by decide +kernel
theorem dX9_why_39 : decode cX9_why 39 = .ok (.iload_n 2, 1) := by decide +kernel
theorem dX9_why_40 : decode cX9_why 40 = .ok (.iconst (-1), 1) := by decide +kernel
theorem dX9_why_41 : decode cX9_why 41 = .ok (.if_icmp .ne 11, 3) := by decide +kernel
theorem dX9_why_44 : decode cX9_why 44 = .ok (.aload_n 0, 1) := by decide +kernel
theorem dX9_why_45 : decode cX9_why 45 = .ok (.getfield 53, 3) := by decide +kernel
theorem dX9_why_48 : decode cX9_why 48 = .ok (.getfield 175, 3) := by decide +kernel
theorem dX9_why_51 : decode cX9_why 51 = .ok (.ireturn, 1) := by decide +kernel
theorem dX9_why_52 : decode cX9_why 52 = .ok (.iload_n 2, 1) := by decide +kernel
theorem dX9_why_53 : decode cX9_why 53 = .ok (.aload_n 0, 1) := by decide +kernel
theorem dX9_why_54 : decode cX9_why 54 = .ok (.getfield 53, 3) := by decide +kernel
theorem dX9_why_57 : decode cX9_why 57 = .ok (.getfield 175, 3) := by decide +kernel
theorem dX9_why_60 : decode cX9_why 60 = .ok (.if_icmp .ge 15, 3) := by decide +kernel
theorem dX9_why_63 : decode cX9_why 63 = .ok (.aload_n 0, 1) := by decide +kernel
theorem dX9_why_64 : decode cX9_why 64 = .ok (.getfield 53, 3) := by decide +kernel
theorem dX9_why_67 : decode cX9_why 67 = .ok (.getfield 178, 3) := by decide +kernel
theorem dX9_why_70 : decode cX9_why 70 = .ok (.iload_n 2, 1) := by decide +kernel
theorem dX9_why_71 : decode cX9_why 71 = .ok (.iaload, 1) := by decide +kernel
theorem dX9_why_72 : decode cX9_why 72 = .ok (.goto 5, 3) := by decide +kernel
theorem dX9_why_75 : decode cX9_why 75 = .ok (.bipush (-2), 2) := by decide +kernel
theorem dX9_why_77 : decode cX9_why 77 = .ok (.ireturn, 1) := by decide +kernel
theorem dX9_test_0 : decode cX9_test 0 = .ok (.aload_n 0, 1) := by decide +kernel
theorem dX9_test_1 : decode cX9_test 1 = .ok (.getfield 19, 3) := by decide +kernel
theorem dX9_test_4 : decode cX9_test 4 = .ok (.iconst 3, 1) := by decide +kernel
theorem dX9_test_5 : decode cX9_test 5 = .ok (.iload_n 1, 1) := by decide +kernel
theorem dX9_test_6 : decode cX9_test 6 = .ok (.invokevirtual 104, 3) := by decide +kernel
theorem dX9_test_9 : decode cX9_test 9 = .ok (.ifCond .eq 8, 3) := by decide +kernel
theorem dX9_test_12 : decode cX9_test 12 = .ok (.iload_n 2, 1) := by decide +kernel
theorem dX9_test_13 : decode cX9_test 13 = .ok (.iconst (-1), 1) := by decide +kernel
theorem dX9_test_14 : decode cX9_test 14 = .ok (.if_icmp .ge 7, 3) := by decide +kernel
theorem dX9_test_17 : decode cX9_test 17 = .ok (.ldc2_w 139, 3) := by decide +kernel
theorem dX9_test_20 : decode cX9_test 20 = .ok (.lreturn, 1) := by decide +kernel
theorem dX9_test_21 : decode cX9_test 21 = .ok (.aload_n 0, 1) := by decide +kernel
theorem dX9_test_22 : decode cX9_test 22 = .ok (.getfield 53, 3) := by decide +kernel
theorem dX9_test_25 : decode cX9_test 25 = .ok (.iconst (-1), 1) := by decide +kernel
theorem dX9_test_26 : decode cX9_test 26 = .ok (.invokevirtual 145, 3) := by decide +kernel
theorem dX9_test_29 : decode cX9_test 29 = .ok (.aload_n 0, 1) := by decide +kernel
theorem dX9_test_30 : decode cX9_test 30 = .ok (.getfield 53, 3) := by decide +kernel
theorem dX9_test_33 : decode cX9_test 33 = .ok (.iload_n 1, 1) := by decide +kernel
theorem dX9_test_34 : decode cX9_test 34 = .ok (.invokevirtual 181, 3) := by decide +kernel
theorem dX9_test_37 : decode cX9_test 37 = .ok (.iload_n 2, 1) := by decide +kernel
theorem dX9_test_38 : decode cX9_test 38 = .ok (.iconst (-1), 1) := by decide +kernel
theorem dX9_test_39 : decode cX9_test 39 = .ok (.if_icmp .ne 12, 3) := by decide +kernel
theorem dX9_test_42 : decode cX9_test 42 = .ok (.aload_n 0, 1) := by decide +kernel
theorem dX9_test_43 : decode cX9_test 43 = .ok (.getfield 53, 3) := by decide +kernel
theorem dX9_test_46 : decode cX9_test 46 = .ok (.getfield 184, 3) := by decide +kernel
theorem dX9_test_49 : decode cX9_test 49 = .ok (.i2l, 1) := by decide +kernel
theorem dX9_test_50 : decode cX9_test 50 = .ok (.lreturn, 1) := by decide +kernel
theorem dX9_test_51 : decode cX9_test 51 = .ok (.iload_n 2, 1) := by decide +kernel
theorem dX9_test_52 : decode cX9_test 52 = .ok (.aload_n 0, 1) := by decide +kernel
theorem dX9_test_53 : decode cX9_test 53 = .ok (.getfield 53, 3) := by decide +kernel
theorem dX9_test_56 : decode cX9_test 56 = .ok (.getfield 184, 3) := by decide +kernel
theorem dX9_test_59 : decode cX9_test 59 = .ok (.if_icmp .ge 15, 3) := by decide +kernel
theorem dX9_test_62 : decode cX9_test 62 = .ok (.aload_n 0, 1) := by decide +kernel
theorem dX9_test_63 : decode cX9_test 63 = .ok (.getfield 53, 3) := by decide +kernel
theorem dX9_test_66 : decode cX9_test 66 = .ok (.getfield 187, 3) := by decide +kernel
theorem dX9_test_69 : decode cX9_test 69 = .ok (.iload_n 2, 1) := by decide +kernel
theorem dX9_test_70 : decode cX9_test 70 = .ok (.laload, 1) := by decide +kernel
theorem dX9_test_71 : decode cX9_test 71 = .ok (.goto 6, 3) := by decide +kernel
theorem dX9_test_74 : decode cX9_test 74 = .ok (.ldc2_w 190, 3) := by decide +kernel
theorem dX9_test_77 : decode cX9_test 77 = .ok (.lreturn, 1) := by decide +kernel
theorem dX9_passes_0 : decode cX9_passes 0 = .ok (.aload_n 0, 1) := by decide +kernel
theorem dX9_passes_1 : decode cX9_passes 1 = .ok (.getfield 19, 3) := by decide +kernel
theorem dX9_passes_4 : decode cX9_passes 4 = .ok (.iconst 3, 1) := by decide +kernel
theorem dX9_passes_5 : decode cX9_passes 5 = .ok (.iload_n 1, 1) := by decide +kernel
theorem dX9_passes_6 : decode cX9_passes 6 = .ok (.invokevirtual 104, 3) := by decide +kernel
theorem dX9_passes_9 : decode cX9_passes 9 = .ok (.ifCond .ne 5, 3) := by decide +kernel
theorem dX9_passes_12 : decode cX9_passes 12 = .ok (.iconst (-1), 1) := by decide +kernel
theorem dX9_passes_13 : decode cX9_passes 13 = .ok (.ireturn, 1) := by decide +kernel
theorem dX9_passes_14 : decode cX9_passes 14 = .ok (.aload_n 0, 1) := by decide +kernel
theorem dX9_passes_15 : decode cX9_passes 15 = .ok (.getfield 53, 3) := by decide +kernel
theorem dX9_passes_18 : decode cX9_passes 18 = .ok (.iconst (-1), 1) := by decide +kernel
theorem dX9_passes_19 : decode cX9_passes 19 = .ok (.invokevirtual 145, 3) := by decide +kernel
theorem dX9_passes_22 : decode cX9_passes 22 = .ok (.aload_n 0, 1) := by decide +kernel
theorem dX9_passes_23 : decode cX9_passes 23 = .ok (.getfield 53, 3) := by decide +kernel
theorem dX9_passes_26 : decode cX9_passes 26 = .ok (.iload_n 1, 1) := by decide +kernel
theorem dX9_passes_27 : decode cX9_passes 27 = .ok (.invokevirtual 181, 3) := by decide +kernel
theorem dX9_passes_30 : decode cX9_passes 30 = .ok (.aload_n 0, 1) := by decide +kernel
theorem dX9_passes_31 : decode cX9_passes 31 = .ok (.getfield 53, 3) := by decide +kernel
theorem dX9_passes_34 : decode cX9_passes 34 = .ok (.iload_n 1, 1) := by decide +kernel
theorem dX9_passes_35 : decode cX9_passes 35 = .ok (.invokevirtual 192, 3) := by decide +kernel
theorem dX9_passes_38 : decode cX9_passes 38 = .ok (.ifCond .eq 7, 3) := by decide +kernel
theorem dX9_passes_41 : decode cX9_passes 41 = .ok (.iconst 1, 1) := by decide +kernel
theorem dX9_passes_42 : decode cX9_passes 42 = .ok (.goto 4, 3) := by decide +kernel
theorem dX9_passes_45 : decode cX9_passes 45 = .ok (.iconst 0, 1) := by decide +kernel
theorem dX9_passes_46 : decode cX9_passes 46 = .ok (.ireturn, 1) := by decide +kernel
theorem dX9_prices_0 : decode cX9_prices 0 = .ok (.aload_n 0, 1) := by decide +kernel
theorem dX9_prices_1 : decode cX9_prices 1 = .ok (.getfield 19, 3) := by decide +kernel
theorem dX9_prices_4 : decode cX9_prices 4 = .ok (.iconst 3, 1) := by decide +kernel
theorem dX9_prices_5 : decode cX9_prices 5 = .ok (.iload_n 1, 1) := by decide +kernel
theorem dX9_prices_6 : decode cX9_prices 6 = .ok (.invokevirtual 104, 3) := by decide +kernel
theorem dX9_prices_9 : decode cX9_prices 9 = .ok (.ifCond .eq 12, 3) := by decide +kernel
theorem dX9_prices_12 : decode cX9_prices 12 = .ok (.iload_n 2, 1) := by decide +kernel
theorem dX9_prices_13 : decode cX9_prices 13 = .ok (.ifCond .lt 8, 3) := by decide +kernel
theorem dX9_prices_16 : decode cX9_prices 16 = .ok (.iload_n 2, 1) := by decide +kernel
theorem dX9_prices_17 : decode cX9_prices 17 = .ok (.iconst 2, 1) := by decide +kernel
theorem dX9_prices_18 : decode cX9_prices 18 = .ok (.if_icmp .le 6, 3) := by decide +kernel
theorem dX9_prices_21 : decode cX9_prices 21 = .ok (.bipush (-2), 2) := by decide +kernel
theorem dX9_prices_23 : decode cX9_prices 23 = .ok (.ireturn, 1) := by decide +kernel
theorem dX9_prices_24 : decode cX9_prices 24 = .ok (.aload_n 0, 1) := by decide +kernel
theorem dX9_prices_25 : decode cX9_prices 25 = .ok (.getfield 53, 3) := by decide +kernel
theorem dX9_prices_28 : decode cX9_prices 28 = .ok (.iconst (-1), 1) := by decide +kernel
theorem dX9_prices_29 : decode cX9_prices 29 = .ok (.invokevirtual 145, 3) := by decide +kernel
theorem dX9_prices_32 : decode cX9_prices 32 = .ok (.aload_n 0, 1) := by decide +kernel
theorem dX9_prices_33 : decode cX9_prices 33 = .ok (.getfield 53, 3) := by decide +kernel
theorem dX9_prices_36 : decode cX9_prices 36 = .ok (.iload_n 1, 1) := by decide +kernel
theorem dX9_prices_37 : decode cX9_prices 37 = .ok (.invokevirtual 181, 3) := by decide +kernel
theorem dX9_prices_40 : decode cX9_prices 40 = .ok (.aload_n 0, 1) := by decide +kernel
theorem dX9_prices_41 : decode cX9_prices 41 = .ok (.getfield 60, 3) := by decide +kernel
theorem dX9_prices_44 : decode cX9_prices 44 = .ok (.iload_n 1, 1) := by decide +kernel
theorem dX9_prices_45 : decode cX9_prices 45 = .ok (.aload_n 0, 1) := by decide +kernel
theorem dX9_prices_46 : decode cX9_prices 46 = .ok (.getfield 53, 3) := by decide +kernel
theorem dX9_prices_49 : decode cX9_prices 49 = .ok (.getfield 187, 3) := by decide +kernel
theorem dX9_prices_52 : decode cX9_prices 52 = .ok (.aload_n 0, 1) := by decide +kernel
theorem dX9_prices_53 : decode cX9_prices 53 = .ok (.getfield 53, 3) := by decide +kernel
theorem dX9_prices_56 : decode cX9_prices 56 = .ok (.getfield 184, 3) := by decide +kernel
theorem dX9_prices_59 : decode cX9_prices 59 = .ok (.invokevirtual 196, 3) := by decide +kernel
theorem dX9_prices_62 : decode cX9_prices 62 = .ok (.iload_n 2, 1) := by decide +kernel
theorem dX9_prices_63 : decode cX9_prices 63 = .ok (.ifCond .ne 11, 3) := by decide +kernel
theorem dX9_prices_66 : decode cX9_prices 66 = .ok (.aload_n 0, 1) := by decide +kernel
theorem dX9_prices_67 : decode cX9_prices 67 = .ok (.getfield 60, 3) := by decide +kernel
theorem dX9_prices_70 : decode cX9_prices 70 = .ok (.invokevirtual 200, 3) := by decide +kernel
theorem dX9_prices_73 : decode cX9_prices 73 = .ok (.ireturn, 1) := by decide +kernel
theorem dX9_prices_74 : decode cX9_prices 74 = .ok (.iload_n 2, 1) := by decide +kernel
theorem dX9_prices_75 : decode cX9_prices 75 = .ok (.iconst 1, 1) := by decide +kernel
theorem dX9_prices_76 : decode cX9_prices 76 = .ok (.if_icmp .ne 13, 3) := by decide +kernel
theorem dX9_prices_79 : decode cX9_prices 79 = .ok (.aload_n 0, 1) := by decide +kernel
theorem dX9_prices_80 : decode cX9_prices 80 = .ok (.getfield 60, 3) := by decide +kernel
theorem dX9_prices_83 : decode cX9_prices 83 = .ok (.invokevirtual 203, 3) := by decide +kernel
theorem dX9_prices_86 : decode cX9_prices 86 = .ok (.goto 10, 3) := by decide +kernel
theorem dX9_prices_89 : decode cX9_prices 89 = .ok (.aload_n 0, 1) := by decide +kernel
theorem dX9_prices_90 : decode cX9_prices 90 = .ok (.getfield 60, 3) := by decide +kernel
theorem dX9_prices_93 : decode cX9_prices 93 = .ok (.invokevirtual 206, 3) := by decide +kernel
theorem dX9_prices_96 : decode cX9_prices 96 = .ok (.ireturn, 1) := by decide +kernel
theorem dX9_needs_0 : decode cX9_needs 0 = .ok (.aload_n 0, 1) := by decide +kernel
theorem dX9_needs_1 : decode cX9_needs 1 = .ok (.getfield 19, 3) := by decide +kernel
theorem dX9_needs_4 : decode cX9_needs 4 = .ok (.iconst 3, 1) := by decide +kernel
theorem dX9_needs_5 : decode cX9_needs 5 = .ok (.iload_n 1, 1) := by decide +kernel
theorem dX9_needs_6 : decode cX9_needs 6 = .ok (.invokevirtual 104, 3) := by decide +kernel
theorem dX9_needs_9 : decode cX9_needs 9 = .ok (.ifCond .ne 5, 3) := by decide +kernel
theorem dX9_needs_12 : decode cX9_needs 12 = .ok (.iconst (-1), 1) := by decide +kernel
theorem dX9_needs_13 : decode cX9_needs 13 = .ok (.ireturn, 1) := by decide +kernel
theorem dX9_needs_14 : decode cX9_needs 14 = .ok (.aload_n 0, 1) := by decide +kernel
theorem dX9_needs_15 : decode cX9_needs 15 = .ok (.getfield 53, 3) := by decide +kernel
theorem dX9_needs_18 : decode cX9_needs 18 = .ok (.iconst (-1), 1) := by decide +kernel
theorem dX9_needs_19 : decode cX9_needs 19 = .ok (.invokevirtual 145, 3) := by decide +kernel
theorem dX9_needs_22 : decode cX9_needs 22 = .ok (.aload_n 0, 1) := by decide +kernel
theorem dX9_needs_23 : decode cX9_needs 23 = .ok (.getfield 53, 3) := by decide +kernel
theorem dX9_needs_26 : decode cX9_needs 26 = .ok (.iload_n 1, 1) := by decide +kernel
theorem dX9_needs_27 : decode cX9_needs 27 = .ok (.invokevirtual 181, 3) := by decide +kernel
theorem dX9_needs_30 : decode cX9_needs 30 = .ok (.aload_n 0, 1) := by decide +kernel
theorem dX9_needs_31 : decode cX9_needs 31 = .ok (.getfield 53, 3) := by decide +kernel
theorem dX9_needs_34 : decode cX9_needs 34 = .ok (.iload_n 1, 1) := by decide +kernel
theorem dX9_needs_35 : decode cX9_needs 35 = .ok (.invokevirtual 209, 3) := by decide +kernel
theorem dX9_needs_38 : decode cX9_needs 38 = .ok (.ireturn, 1) := by decide +kernel
theorem dX9_rests_0 : decode cX9_rests 0 = .ok (.aload_n 0, 1) := by decide +kernel
theorem dX9_rests_1 : decode cX9_rests 1 = .ok (.getfield 19, 3) := by decide +kernel
theorem dX9_rests_4 : decode cX9_rests 4 = .ok (.iconst 3, 1) := by decide +kernel
theorem dX9_rests_5 : decode cX9_rests 5 = .ok (.iload_n 1, 1) := by decide +kernel
theorem dX9_rests_6 : decode cX9_rests 6 = .ok (.invokevirtual 104, 3) := by decide +kernel
theorem dX9_rests_9 : decode cX9_rests 9 = .ok (.ifCond .ne 5, 3) := by decide +kernel
theorem dX9_rests_12 : decode cX9_rests 12 = .ok (.iconst (-1), 1) := by decide +kernel
theorem dX9_rests_13 : decode cX9_rests 13 = .ok (.ireturn, 1) := by decide +kernel
theorem dX9_rests_14 : decode cX9_rests 14 = .ok (.aload_n 0, 1) := by decide +kernel
theorem dX9_rests_15 : decode cX9_rests 15 = .ok (.iload_n 1, 1) := by decide +kernel
theorem dX9_rests_16 : decode cX9_rests 16 = .ok (.aload_n 0, 1) := by decide +kernel
theorem dX9_rests_17 : decode cX9_rests 17 = .ok (.invokevirtual 160, 3) := by decide +kernel
theorem dX9_rests_20 : decode cX9_rests 20 = .ok (.invokevirtual 164, 3) := by decide +kernel
theorem dX9_rests_23 : decode cX9_rests 23 = .ok (.lstore_n 2, 1) := by decide +kernel
theorem dX9_rests_24 : decode cX9_rests 24 = .ok (.iconst 0, 1) := by decide +kernel
theorem dX9_rests_25 : decode cX9_rests 25 = .ok (.istore 4, 2) := by decide +kernel
theorem dX9_rests_27 : decode cX9_rests 27 = .ok (.iconst 0, 1) := by decide +kernel
theorem dX9_rests_28 : decode cX9_rests 28 = .ok (.istore 5, 2) := by decide +kernel
theorem dX9_rests_30 : decode cX9_rests 30 = .ok (.iload 5, 2) := by decide +kernel
theorem dX9_rests_32 : decode cX9_rests 32 = .ok (.aload_n 0, 1) := by decide +kernel
theorem dX9_rests_33 : decode cX9_rests 33 = .ok (.getfield 19, 3) := by decide +kernel
theorem dX9_rests_36 : decode cX9_rests 36 = .ok (.getfield 100, 3) := by decide +kernel
theorem dX9_rests_39 : decode cX9_rests 39 = .ok (.iconst 3, 1) := by decide +kernel
theorem dX9_rests_40 : decode cX9_rests 40 = .ok (.iaload, 1) := by decide +kernel
theorem dX9_rests_41 : decode cX9_rests 41 = .ok (.if_icmp .ge 60, 3) := by decide +kernel
theorem dX9_rests_44 : decode cX9_rests 44 = .ok (.iload 5, 2) := by decide +kernel
theorem dX9_rests_46 : decode cX9_rests 46 = .ok (.iload_n 1, 1) := by decide +kernel
theorem dX9_rests_47 : decode cX9_rests 47 = .ok (.if_icmp .ne 6, 3) := by decide +kernel
theorem dX9_rests_50 : decode cX9_rests 50 = .ok (.goto 45, 3) := by decide +kernel
theorem dX9_rests_53 : decode cX9_rests 53 = .ok (.aload_n 0, 1) := by decide +kernel
theorem dX9_rests_54 : decode cX9_rests 54 = .ok (.getfield 53, 3) := by decide +kernel
theorem dX9_rests_57 : decode cX9_rests 57 = .ok (.iload 5, 2) := by decide +kernel
theorem dX9_rests_59 : decode cX9_rests 59 = .ok (.invokevirtual 145, 3) := by decide +kernel
theorem dX9_rests_62 : decode cX9_rests 62 = .ok (.aload_n 0, 1) := by decide +kernel
theorem dX9_rests_63 : decode cX9_rests 63 = .ok (.getfield 53, 3) := by decide +kernel
theorem dX9_rests_66 : decode cX9_rests 66 = .ok (.iload_n 1, 1) := by decide +kernel
theorem dX9_rests_67 : decode cX9_rests 67 = .ok (.aload_n 0, 1) := by decide +kernel
theorem dX9_rests_68 : decode cX9_rests 68 = .ok (.invokevirtual 160, 3) := by decide +kernel
theorem dX9_rests_71 : decode cX9_rests 71 = .ok (.invokevirtual 168, 3) := by decide +kernel
theorem dX9_rests_74 : decode cX9_rests 74 = .ok (.aload_n 0, 1) := by decide +kernel
theorem dX9_rests_75 : decode cX9_rests 75 = .ok (.getfield 53, 3) := by decide +kernel
theorem dX9_rests_78 : decode cX9_rests 78 = .ok (.invokevirtual 212, 3) := by decide +kernel
theorem dX9_rests_81 : decode cX9_rests 81 = .ok (.lload_n 2, 1) := by decide +kernel
theorem dX9_rests_82 : decode cX9_rests 82 = .ok (.lcmp, 1) := by decide +kernel
theorem dX9_rests_83 : decode cX9_rests 83 = .ok (.ifCond .eq 12, 3) := by decide +kernel
theorem dX9_rests_86 : decode cX9_rests 86 = .ok (.iload 4, 2) := by decide +kernel
theorem dX9_rests_88 : decode cX9_rests 88 = .ok (.iconst 1, 1) := by decide +kernel
theorem dX9_rests_89 : decode cX9_rests 89 = .ok (.iload 5, 2) := by decide +kernel
theorem dX9_rests_91 : decode cX9_rests 91 = .ok (.ishl, 1) := by decide +kernel
theorem dX9_rests_92 : decode cX9_rests 92 = .ok (.ior, 1) := by decide +kernel
theorem dX9_rests_93 : decode cX9_rests 93 = .ok (.istore 4, 2) := by decide +kernel
theorem dX9_rests_95 : decode cX9_rests 95 = .ok (.iinc 5 1, 3) := by decide +kernel
theorem dX9_rests_98 : decode cX9_rests 98 = .ok (.goto (-68), 3) := by decide +kernel
theorem dX9_rests_101 : decode cX9_rests 101 = .ok (.iload 4, 2) := by decide +kernel
theorem dX9_rests_103 : decode cX9_rests 103 = .ok (.ireturn, 1) := by decide +kernel
theorem dX9_turned_0 : decode cX9_turned 0 = .ok (.aload_n 0, 1) := by decide +kernel
theorem dX9_turned_1 : decode cX9_turned 1 = .ok (.iload_n 1, 1) := by decide +kernel
theorem dX9_turned_2 : decode cX9_turned 2 = .ok (.aload_n 0, 1) := by decide +kernel
theorem dX9_turned_3 : decode cX9_turned 3 = .ok (.invokevirtual 160, 3) := by decide +kernel
theorem dX9_turned_6 : decode cX9_turned 6 = .ok (.ifCond .ne 7, 3) := by decide +kernel
theorem dX9_turned_9 : decode cX9_turned 9 = .ok (.iconst 1, 1) := by decide +kernel
theorem dX9_turned_10 : decode cX9_turned 10 = .ok (.goto 4, 3) := by decide +kernel
theorem dX9_turned_13 : decode cX9_turned 13 = .ok (.iconst 0, 1) := by decide +kernel
theorem dX9_turned_14 : decode cX9_turned 14 = .ok (.invokevirtual 164, 3) := by decide +kernel
theorem dX9_turned_17 : decode cX9_turned 17 = .ok (.lreturn, 1) := by decide +kernel
theorem dX9_due_0 : decode cX9_due 0 = .ok (.aload_n 0, 1) := by decide +kernel
theorem dX9_due_1 : decode cX9_due 1 = .ok (.iload_n 1, 1) := by decide +kernel
theorem dX9_due_2 : decode cX9_due 2 = .ok (.aload_n 0, 1) := by decide +kernel
theorem dX9_due_3 : decode cX9_due 3 = .ok (.invokevirtual 160, 3) := by decide +kernel
theorem dX9_due_6 : decode cX9_due 6 = .ok (.invokevirtual 164, 3) := by decide +kernel
theorem dX9_due_9 : decode cX9_due 9 = .ok (.lstore_n 2, 1) := by decide +kernel
theorem dX9_due_10 : decode cX9_due 10 = .ok (.lload_n 2, 1) := by decide +kernel
theorem dX9_due_11 : decode cX9_due 11 = .ok (.lconst 0, 1) := by decide +kernel
theorem dX9_due_12 : decode cX9_due 12 = .ok (.lcmp, 1) := by decide +kernel
theorem dX9_due_13 : decode cX9_due 13 = .ok (.ifCond .ge 7, 3) := by decide +kernel
theorem dX9_due_16 : decode cX9_due 16 = .ok (.lload_n 2, 1) := by decide +kernel
theorem dX9_due_17 : decode cX9_due 17 = .ok (.goto 8, 3) := by decide +kernel
theorem dX9_due_20 : decode cX9_due 20 = .ok (.aload_n 0, 1) := by decide +kernel
theorem dX9_due_21 : decode cX9_due 21 = .ok (.lload_n 2, 1) := by decide +kernel
theorem dX9_due_22 : decode cX9_due 22 = .ok (.invokevirtual 216, 3) := by decide +kernel
theorem dX9_due_25 : decode cX9_due 25 = .ok (.lreturn, 1) := by decide +kernel
theorem dX9_dues_0 : decode cX9_dues 0 = .ok (.lconst 0, 1) := by decide +kernel
theorem dX9_dues_1 : decode cX9_dues 1 = .ok (.lstore_n 1, 1) := by decide +kernel
theorem dX9_dues_2 : decode cX9_dues 2 = .ok (.aload_n 0, 1) := by decide +kernel
theorem dX9_dues_3 : decode cX9_dues 3 = .ok (.getfield 53, 3) := by decide +kernel
theorem dX9_dues_6 : decode cX9_dues 6 = .ok (.iconst (-1), 1) := by decide +kernel
theorem dX9_dues_7 : decode cX9_dues 7 = .ok (.invokevirtual 145, 3) := by decide +kernel
theorem dX9_dues_10 : decode cX9_dues 10 = .ok (.iconst 0, 1) := by decide +kernel
theorem dX9_dues_11 : decode cX9_dues 11 = .ok (.istore_n 3, 1) := by decide +kernel
theorem dX9_dues_12 : decode cX9_dues 12 = .ok (.iload_n 3, 1) := by decide +kernel
theorem dX9_dues_13 : decode cX9_dues 13 = .ok (.aload_n 0, 1) := by decide +kernel
theorem dX9_dues_14 : decode cX9_dues 14 = .ok (.getfield 19, 3) := by decide +kernel
theorem dX9_dues_17 : decode cX9_dues 17 = .ok (.getfield 100, 3) := by decide +kernel
theorem dX9_dues_20 : decode cX9_dues 20 = .ok (.iconst 3, 1) := by decide +kernel
theorem dX9_dues_21 : decode cX9_dues 21 = .ok (.iaload, 1) := by decide +kernel
theorem dX9_dues_22 : decode cX9_dues 22 = .ok (.if_icmp .ge 45, 3) := by decide +kernel
theorem dX9_dues_25 : decode cX9_dues 25 = .ok (.aload_n 0, 1) := by decide +kernel
theorem dX9_dues_26 : decode cX9_dues 26 = .ok (.getfield 53, 3) := by decide +kernel
theorem dX9_dues_29 : decode cX9_dues 29 = .ok (.iload_n 3, 1) := by decide +kernel
theorem dX9_dues_30 : decode cX9_dues 30 = .ok (.aload_n 0, 1) := by decide +kernel
theorem dX9_dues_31 : decode cX9_dues 31 = .ok (.invokevirtual 160, 3) := by decide +kernel
theorem dX9_dues_34 : decode cX9_dues 34 = .ok (.invokevirtual 168, 3) := by decide +kernel
theorem dX9_dues_37 : decode cX9_dues 37 = .ok (.aload_n 0, 1) := by decide +kernel
theorem dX9_dues_38 : decode cX9_dues 38 = .ok (.getfield 53, 3) := by decide +kernel
theorem dX9_dues_41 : decode cX9_dues 41 = .ok (.getfield 172, 3) := by decide +kernel
theorem dX9_dues_44 : decode cX9_dues 44 = .ok (.ifCond .eq 17, 3) := by decide +kernel
theorem dX9_dues_47 : decode cX9_dues 47 = .ok (.lload_n 1, 1) := by decide +kernel
theorem dX9_dues_48 : decode cX9_dues 48 = .ok (.aload_n 0, 1) := by decide +kernel
theorem dX9_dues_49 : decode cX9_dues 49 = .ok (.aload_n 0, 1) := by decide +kernel
theorem dX9_dues_50 : decode cX9_dues 50 = .ok (.getfield 53, 3) := by decide +kernel
theorem dX9_dues_53 : decode cX9_dues 53 = .ok (.getfield 153, 3) := by decide +kernel
theorem dX9_dues_56 : decode cX9_dues 56 = .ok (.invokevirtual 216, 3) := by decide +kernel
theorem dX9_dues_59 : decode cX9_dues 59 = .ok (.ladd, 1) := by decide +kernel
theorem dX9_dues_60 : decode cX9_dues 60 = .ok (.lstore_n 1, 1) := by decide +kernel
theorem dX9_dues_61 : decode cX9_dues 61 = .ok (.iinc 3 1, 3) := by decide +kernel
theorem dX9_dues_64 : decode cX9_dues 64 = .ok (.goto (-52), 3) := by decide +kernel
theorem dX9_dues_67 : decode cX9_dues 67 = .ok (.lload_n 1, 1) := by decide +kernel
theorem dX9_dues_68 : decode cX9_dues 68 = .ok (.lreturn, 1) := by decide +kernel
theorem dX9_all_0 : decode cX9_all 0 = .ok (.iload_n 1, 1) := by decide +kernel
theorem dX9_all_1 : decode cX9_all 1 = .ok (.ifCond .lt 9, 3) := by decide +kernel
theorem dX9_all_4 : decode cX9_all 4 = .ok (.iload_n 1, 1) := by decide +kernel
theorem dX9_all_5 : decode cX9_all 5 = .ok (.bipush 6, 2) := by decide +kernel
theorem dX9_all_7 : decode cX9_all 7 = .ok (.if_icmp .le 5, 3) := by decide +kernel
theorem dX9_all_10 : decode cX9_all 10 = .ok (.iconst (-1), 1) := by decide +kernel
theorem dX9_all_11 : decode cX9_all 11 = .ok (.ireturn, 1) := by decide +kernel
theorem dX9_all_12 : decode cX9_all 12 = .ok (.iconst 0, 1) := by decide +kernel
theorem dX9_all_13 : decode cX9_all 13 = .ok (.istore_n 2, 1) := by decide +kernel
theorem dX9_all_14 : decode cX9_all 14 = .ok (.aload_n 0, 1) := by decide +kernel
theorem dX9_all_15 : decode cX9_all 15 = .ok (.getfield 53, 3) := by decide +kernel
theorem dX9_all_18 : decode cX9_all 18 = .ok (.iconst (-1), 1) := by decide +kernel
theorem dX9_all_19 : decode cX9_all 19 = .ok (.invokevirtual 145, 3) := by decide +kernel
theorem dX9_all_22 : decode cX9_all 22 = .ok (.iconst 0, 1) := by decide +kernel
theorem dX9_all_23 : decode cX9_all 23 = .ok (.istore_n 3, 1) := by decide +kernel
theorem dX9_all_24 : decode cX9_all 24 = .ok (.iload_n 3, 1) := by decide +kernel
theorem dX9_all_25 : decode cX9_all 25 = .ok (.aload_n 0, 1) := by decide +kernel
theorem dX9_all_26 : decode cX9_all 26 = .ok (.getfield 19, 3) := by decide +kernel
theorem dX9_all_29 : decode cX9_all 29 = .ok (.getfield 100, 3) := by decide +kernel
theorem dX9_all_32 : decode cX9_all 32 = .ok (.iconst 3, 1) := by decide +kernel
theorem dX9_all_33 : decode cX9_all 33 = .ok (.iaload, 1) := by decide +kernel
theorem dX9_all_34 : decode cX9_all 34 = .ok (.if_icmp .ge 38, 3) := by decide +kernel
theorem dX9_all_37 : decode cX9_all 37 = .ok (.aload_n 0, 1) := by decide +kernel
theorem dX9_all_38 : decode cX9_all 38 = .ok (.getfield 53, 3) := by decide +kernel
theorem dX9_all_41 : decode cX9_all 41 = .ok (.iload_n 3, 1) := by decide +kernel
theorem dX9_all_42 : decode cX9_all 42 = .ok (.aload_n 0, 1) := by decide +kernel
theorem dX9_all_43 : decode cX9_all 43 = .ok (.invokevirtual 160, 3) := by decide +kernel
theorem dX9_all_46 : decode cX9_all 46 = .ok (.invokevirtual 168, 3) := by decide +kernel
theorem dX9_all_49 : decode cX9_all 49 = .ok (.aload_n 0, 1) := by decide +kernel
theorem dX9_all_50 : decode cX9_all 50 = .ok (.getfield 53, 3) := by decide +kernel
theorem dX9_all_53 : decode cX9_all 53 = .ok (.getfield 172, 3) := by decide +kernel
theorem dX9_all_56 : decode cX9_all 56 = .ok (.iload_n 1, 1) := by decide +kernel
theorem dX9_all_57 : decode cX9_all 57 = .ok (.if_icmp .ne 9, 3) := by decide +kernel
theorem dX9_all_60 : decode cX9_all 60 = .ok (.iload_n 2, 1) := by decide +kernel
theorem dX9_all_61 : decode cX9_all 61 = .ok (.iconst 1, 1) := by decide +kernel
theorem dX9_all_62 : decode cX9_all 62 = .ok (.iload_n 3, 1) := by decide +kernel
theorem dX9_all_63 : decode cX9_all 63 = .ok (.ishl, 1) := by decide +kernel
theorem dX9_all_64 : decode cX9_all 64 = .ok (.ior, 1) := by decide +kernel
theorem dX9_all_65 : decode cX9_all 65 = .ok (.istore_n 2, 1) := by decide +kernel
theorem dX9_all_66 : decode cX9_all 66 = .ok (.iinc 3 1, 3) := by decide +kernel
theorem dX9_all_69 : decode cX9_all 69 = .ok (.goto (-45), 3) := by decide +kernel
theorem dX9_all_72 : decode cX9_all 72 = .ok (.iload_n 2, 1) := by decide +kernel
theorem dX9_all_73 : decode cX9_all 73 = .ok (.ireturn, 1) := by decide +kernel
theorem dX9_report_0 : decode cX9_report 0 = .ok (.iload_n 1, 1) := by decide +kernel
theorem dX9_report_1 : decode cX9_report 1 = .ok (.iconst (-1), 1) := by decide +kernel
theorem dX9_report_2 : decode cX9_report 2 = .ok (.if_icmp .ge 5, 3) := by decide +kernel
theorem dX9_report_5 : decode cX9_report 5 = .ok (.iconst (-1), 1) := by decide +kernel
theorem dX9_report_6 : decode cX9_report 6 = .ok (.ireturn, 1) := by decide +kernel
theorem dX9_report_7 : decode cX9_report 7 = .ok (.aload_n 0, 1) := by decide +kernel
theorem dX9_report_8 : decode cX9_report 8 = .ok (.invokevirtual 220, 3) := by decide +kernel
theorem dX9_report_11 : decode cX9_report 11 = .ok (.iload_n 1, 1) := by decide +kernel
theorem dX9_report_12 : decode cX9_report 12 = .ok (.iconst (-1), 1) := by decide +kernel
theorem dX9_report_13 : decode cX9_report 13 = .ok (.if_icmp .ne 11, 3) := by decide +kernel
theorem dX9_report_16 : decode cX9_report 16 = .ok (.aload_n 0, 1) := by decide +kernel
theorem dX9_report_17 : decode cX9_report 17 = .ok (.getfield 74, 3) := by decide +kernel
theorem dX9_report_20 : decode cX9_report 20 = .ok (.getfield 223, 3) := by decide +kernel
theorem dX9_report_23 : decode cX9_report 23 = .ok (.ireturn, 1) := by decide +kernel
theorem dX9_report_24 : decode cX9_report 24 = .ok (.iload_n 1, 1) := by decide +kernel
theorem dX9_report_25 : decode cX9_report 25 = .ok (.aload_n 0, 1) := by decide +kernel
theorem dX9_report_26 : decode cX9_report 26 = .ok (.getfield 74, 3) := by decide +kernel
theorem dX9_report_29 : decode cX9_report 29 = .ok (.getfield 223, 3) := by decide +kernel
theorem dX9_report_32 : decode cX9_report 32 = .ok (.if_icmp .ge 15, 3) := by decide +kernel
theorem dX9_report_35 : decode cX9_report 35 = .ok (.aload_n 0, 1) := by decide +kernel
theorem dX9_report_36 : decode cX9_report 36 = .ok (.getfield 74, 3) := by decide +kernel
theorem dX9_report_39 : decode cX9_report 39 = .ok (.getfield 224, 3) := by decide +kernel
theorem dX9_report_42 : decode cX9_report 42 = .ok (.iload_n 1, 1) := by decide +kernel
theorem dX9_report_43 : decode cX9_report 43 = .ok (.baload, 1) := by decide +kernel
theorem dX9_report_44 : decode cX9_report 44 = .ok (.goto 5, 3) := by decide +kernel
theorem dX9_report_47 : decode cX9_report 47 = .ok (.bipush (-2), 2) := by decide +kernel
theorem dX9_report_49 : decode cX9_report 49 = .ok (.ireturn, 1) := by decide +kernel
theorem dX9_price_0 : decode cX9_price 0 = .ok (.aload_n 0, 1) := by decide +kernel
theorem dX9_price_1 : decode cX9_price 1 = .ok (.getfield 19, 3) := by decide +kernel
theorem dX9_price_4 : decode cX9_price 4 = .ok (.iconst 3, 1) := by decide +kernel
theorem dX9_price_5 : decode cX9_price 5 = .ok (.iload_n 1, 1) := by decide +kernel
theorem dX9_price_6 : decode cX9_price 6 = .ok (.invokevirtual 104, 3) := by decide +kernel
theorem dX9_price_9 : decode cX9_price 9 = .ok (.ifCond .eq 30, 3) := by decide +kernel
theorem dX9_price_12 : decode cX9_price 12 = .ok (.iload_n 2, 1) := by decide +kernel
theorem dX9_price_13 : decode cX9_price 13 = .ok (.iconst 1, 1) := by decide +kernel
theorem dX9_price_14 : decode cX9_price 14 = .ok (.if_icmp .lt 25, 3) := by decide +kernel
theorem dX9_price_17 : decode cX9_price 17 = .ok (.iload_n 2, 1) := by decide +kernel
theorem dX9_price_18 : decode cX9_price 18 = .ok (.sipush 9999, 3) := by decide +kernel
theorem dX9_price_21 : decode cX9_price 21 = .ok (.if_icmp .gt 18, 3) := by decide +kernel
theorem dX9_price_24 : decode cX9_price 24 = .ok (.aload_n 0, 1) := by decide +kernel
theorem dX9_price_25 : decode cX9_price 25 = .ok (.getfield 19, 3) := by decide +kernel
theorem dX9_price_28 : decode cX9_price 28 = .ok (.getfield 114, 3) := by decide +kernel
theorem dX9_price_31 : decode cX9_price 31 = .ok (.iload_n 1, 1) := by decide +kernel
theorem dX9_price_32 : decode cX9_price 32 = .ok (.aaload, 1) := by decide +kernel
theorem dX9_price_33 : decode cX9_price 33 = .ok (.iconst 4, 1) := by decide +kernel
theorem dX9_price_34 : decode cX9_price 34 = .ok (.iaload, 1) := by decide +kernel
theorem dX9_price_35 : decode cX9_price 35 = .ok (.iload_n 2, 1) := by decide +kernel
theorem dX9_price_36 : decode cX9_price 36 = .ok (.if_icmp .ne 5, 3) := by decide +kernel
theorem dX9_price_39 : decode cX9_price 39 = .ok (.iconst (-1), 1) := by decide +kernel
theorem dX9_price_40 : decode cX9_price 40 = .ok (.ireturn, 1) := by decide +kernel
theorem dX9_price_41 : decode cX9_price 41 = .ok (.aload_n 0, 1) := by decide +kernel
theorem dX9_price_42 : decode cX9_price 42 = .ok (.getfield 19, 3) := by decide +kernel
theorem dX9_price_45 : decode cX9_price 45 = .ok (.getfield 114, 3) := by decide +kernel
theorem dX9_price_48 : decode cX9_price 48 = .ok (.iload_n 1, 1) := by decide +kernel
theorem dX9_price_49 : decode cX9_price 49 = .ok (.aaload, 1) := by decide +kernel
theorem dX9_price_50 : decode cX9_price 50 = .ok (.iconst 4, 1) := by decide +kernel
theorem dX9_price_51 : decode cX9_price 51 = .ok (.iaload, 1) := by decide +kernel
theorem dX9_price_52 : decode cX9_price 52 = .ok (.istore_n 3, 1) := by decide +kernel
theorem dX9_price_53 : decode cX9_price 53 = .ok (.aload_n 0, 1) := by decide +kernel
theorem dX9_price_54 : decode cX9_price 54 = .ok (.getfield 19, 3) := by decide +kernel
theorem dX9_price_57 : decode cX9_price 57 = .ok (.getfield 114, 3) := by decide +kernel
theorem dX9_price_60 : decode cX9_price 60 = .ok (.iload_n 1, 1) := by decide +kernel
theorem dX9_price_61 : decode cX9_price 61 = .ok (.aaload, 1) := by decide +kernel
theorem dX9_price_62 : decode cX9_price 62 = .ok (.iconst 4, 1) := by decide +kernel
theorem dX9_price_63 : decode cX9_price 63 = .ok (.iload_n 2, 1) := by decide +kernel
theorem dX9_price_64 : decode cX9_price 64 = .ok (.iastore, 1) := by decide +kernel
theorem dX9_price_65 : decode cX9_price 65 = .ok (.aload_n 0, 1) := by decide +kernel
theorem dX9_price_66 : decode cX9_price 66 = .ok (.getfield 67, 3) := by decide +kernel
theorem dX9_price_69 : decode cX9_price 69 = .ok (.iconst 0, 1) := by decide +kernel
theorem dX9_price_70 : decode cX9_price 70 = .ok (.iload_n 1, 1) := by decide +kernel
theorem dX9_price_71 : decode cX9_price 71 = .ok (.iconst 0, 1) := by decide +kernel
theorem dX9_price_72 : decode cX9_price 72 = .ok (.iload_n 3, 1) := by decide +kernel
theorem dX9_price_73 : decode cX9_price 73 = .ok (.invokevirtual 228, 3) := by decide +kernel
theorem dX9_price_76 : decode cX9_price 76 = .ok (.iload_n 3, 1) := by decide +kernel
theorem dX9_price_77 : decode cX9_price 77 = .ok (.ireturn, 1) := by decide +kernel
theorem dX9_bind_0 : decode cX9_bind 0 = .ok (.iload_n 2, 1) := by decide +kernel
theorem dX9_bind_1 : decode cX9_bind 1 = .ok (.ifCond .eq 7, 3) := by decide +kernel
theorem dX9_bind_4 : decode cX9_bind 4 = .ok (.iconst 1, 1) := by decide +kernel
theorem dX9_bind_5 : decode cX9_bind 5 = .ok (.goto 4, 3) := by decide +kernel
theorem dX9_bind_8 : decode cX9_bind 8 = .ok (.iconst 0, 1) := by decide +kernel
theorem dX9_bind_9 : decode cX9_bind 9 = .ok (.istore_n 3, 1) := by decide +kernel
theorem dX9_bind_10 : decode cX9_bind 10 = .ok (.aload_n 0, 1) := by decide +kernel
theorem dX9_bind_11 : decode cX9_bind 11 = .ok (.getfield 19, 3) := by decide +kernel
theorem dX9_bind_14 : decode cX9_bind 14 = .ok (.iconst 3, 1) := by decide +kernel
theorem dX9_bind_15 : decode cX9_bind 15 = .ok (.iload_n 1, 1) := by decide +kernel
theorem dX9_bind_16 : decode cX9_bind 16 = .ok (.invokevirtual 104, 3) := by decide +kernel
theorem dX9_bind_19 : decode cX9_bind 19 = .ok (.ifCond .eq 19, 3) := by decide +kernel
theorem dX9_bind_22 : decode cX9_bind 22 = .ok (.aload_n 0, 1) := by decide +kernel
theorem dX9_bind_23 : decode cX9_bind 23 = .ok (.getfield 19, 3) := by decide +kernel
theorem dX9_bind_26 : decode cX9_bind 26 = .ok (.getfield 114, 3) := by decide +kernel
theorem dX9_bind_29 : decode cX9_bind 29 = .ok (.iload_n 1, 1) := by decide +kernel
theorem dX9_bind_30 : decode cX9_bind 30 = .ok (.aaload, 1) := by decide +kernel
theorem dX9_bind_31 : decode cX9_bind 31 = .ok (.bipush 6, 2) := by decide +kernel
theorem dX9_bind_33 : decode cX9_bind 33 = .ok (.iaload, 1) := by decide +kernel
theorem dX9_bind_34 : decode cX9_bind 34 = .ok (.iload_n 3, 1) := by decide +kernel
theorem dX9_bind_35 : decode cX9_bind 35 = .ok (.if_icmp .ne 5, 3) := by decide +kernel
theorem dX9_bind_38 : decode cX9_bind 38 = .ok (.iconst 0, 1) := by decide +kernel
theorem dX9_bind_39 : decode cX9_bind 39 = .ok (.ireturn, 1) := by decide +kernel
theorem dX9_bind_40 : decode cX9_bind 40 = .ok (.aload_n 0, 1) := by decide +kernel
theorem dX9_bind_41 : decode cX9_bind 41 = .ok (.getfield 19, 3) := by decide +kernel
theorem dX9_bind_44 : decode cX9_bind 44 = .ok (.getfield 114, 3) := by decide +kernel
theorem dX9_bind_47 : decode cX9_bind 47 = .ok (.iload_n 1, 1) := by decide +kernel
theorem dX9_bind_48 : decode cX9_bind 48 = .ok (.aaload, 1) := by decide +kernel
theorem dX9_bind_49 : decode cX9_bind 49 = .ok (.bipush 6, 2) := by decide +kernel
theorem dX9_bind_51 : decode cX9_bind 51 = .ok (.iload_n 3, 1) := by decide +kernel
theorem dX9_bind_52 : decode cX9_bind 52 = .ok (.iastore, 1) := by decide +kernel
theorem dX9_bind_53 : decode cX9_bind 53 = .ok (.aload_n 0, 1) := by decide +kernel
theorem dX9_bind_54 : decode cX9_bind 54 = .ok (.getfield 67, 3) := by decide +kernel
theorem dX9_bind_57 : decode cX9_bind 57 = .ok (.iconst 1, 1) := by decide +kernel
theorem dX9_bind_58 : decode cX9_bind 58 = .ok (.iload_n 1, 1) := by decide +kernel
theorem dX9_bind_59 : decode cX9_bind 59 = .ok (.iconst 0, 1) := by decide +kernel
theorem dX9_bind_60 : decode cX9_bind 60 = .ok (.iconst 1, 1) := by decide +kernel
theorem dX9_bind_61 : decode cX9_bind 61 = .ok (.iload_n 3, 1) := by decide +kernel
theorem dX9_bind_62 : decode cX9_bind 62 = .ok (.isub, 1) := by decide +kernel
theorem dX9_bind_63 : decode cX9_bind 63 = .ok (.invokevirtual 228, 3) := by decide +kernel
theorem dX9_bind_66 : decode cX9_bind 66 = .ok (.iconst 1, 1) := by decide +kernel
theorem dX9_bind_67 : decode cX9_bind 67 = .ok (.ireturn, 1) := by decide +kernel
theorem dX9_relate_0 : decode cX9_relate 0 = .ok (.aload_n 0, 1) := by decide +kernel
theorem dX9_relate_1 : decode cX9_relate 1 = .ok (.getfield 19, 3) := by decide +kernel
theorem dX9_relate_4 : decode cX9_relate 4 = .ok (.iconst 0, 1) := by decide +kernel
theorem dX9_relate_5 : decode cX9_relate 5 = .ok (.iload_n 1, 1) := by decide +kernel
theorem dX9_relate_6 : decode cX9_relate 6 = .ok (.invokevirtual 104, 3) := by decide +kernel
theorem dX9_relate_9 : decode cX9_relate 9 = .ok (.ifCond .eq 20, 3) := by decide +kernel
theorem dX9_relate_12 : decode cX9_relate 12 = .ok (.aload_n 0, 1) := by decide +kernel
theorem dX9_relate_13 : decode cX9_relate 13 = .ok (.getfield 19, 3) := by decide +kernel
theorem dX9_relate_16 : decode cX9_relate 16 = .ok (.iconst 0, 1) := by decide +kernel
theorem dX9_relate_17 : decode cX9_relate 17 = .ok (.iload_n 2, 1) := by decide +kernel
theorem dX9_relate_18 : decode cX9_relate 18 = .ok (.invokevirtual 104, 3) := by decide +kernel
theorem dX9_relate_21 : decode cX9_relate 21 = .ok (.ifCond .eq 8, 3) := by decide +kernel
theorem dX9_relate_24 : decode cX9_relate 24 = .ok (.iload_n 1, 1) := by decide +kernel
theorem dX9_relate_25 : decode cX9_relate 25 = .ok (.iload_n 2, 1) := by decide +kernel
theorem dX9_relate_26 : decode cX9_relate 26 = .ok (.if_icmp .ne 5, 3) := by decide +kernel
theorem dX9_relate_29 : decode cX9_relate 29 = .ok (.iconst 0, 1) := by decide +kernel
theorem dX9_relate_30 : decode cX9_relate 30 = .ok (.ireturn, 1) := by decide +kernel
theorem dX9_relate_31 : decode cX9_relate 31 = .ok (.aload_n 0, 1) := by decide +kernel
theorem dX9_relate_32 : decode cX9_relate 32 = .ok (.getfield 19, 3) := by decide +kernel
theorem dX9_relate_35 : decode cX9_relate 35 = .ok (.iload_n 1, 1) := by decide +kernel
theorem dX9_relate_36 : decode cX9_relate 36 = .ok (.iload_n 2, 1) := by decide +kernel
theorem dX9_relate_37 : decode cX9_relate 37 = .ok (.invokevirtual 231, 3) := by decide +kernel
theorem dX9_relate_40 : decode cX9_relate 40 = .ok (.iload_n 3, 1) := by decide +kernel
theorem dX9_relate_41 : decode cX9_relate 41 = .ok (.if_icmp .eq 22, 3) := by decide +kernel
theorem dX9_relate_44 : decode cX9_relate 44 = .ok (.iload_n 3, 1) := by decide +kernel
theorem dX9_relate_45 : decode cX9_relate 45 = .ok (.ifCond .eq 20, 3) := by decide +kernel
theorem dX9_relate_48 : decode cX9_relate 48 = .ok (.aload_n 0, 1) := by decide +kernel
theorem dX9_relate_49 : decode cX9_relate 49 = .ok (.getfield 19, 3) := by decide +kernel
theorem dX9_relate_52 : decode cX9_relate 52 = .ok (.getfield 100, 3) := by decide +kernel
theorem dX9_relate_55 : decode cX9_relate 55 = .ok (.bipush 13, 2) := by decide +kernel
theorem dX9_relate_57 : decode cX9_relate 57 = .ok (.iaload, 1) := by decide +kernel
theorem dX9_relate_58 : decode cX9_relate 58 = .ok (.bipush 6, 2) := by decide +kernel
theorem dX9_relate_60 : decode cX9_relate 60 = .ok (.if_icmp .lt 5, 3) := by decide +kernel
theorem dX9_relate_63 : decode cX9_relate 63 = .ok (.iconst 0, 1) := by decide +kernel
theorem dX9_relate_64 : decode cX9_relate 64 = .ok (.ireturn, 1) := by decide +kernel
theorem dX9_relate_65 : decode cX9_relate 65 = .ok (.aload_n 0, 1) := by decide +kernel
theorem dX9_relate_66 : decode cX9_relate 66 = .ok (.getfield 19, 3) := by decide +kernel
theorem dX9_relate_69 : decode cX9_relate 69 = .ok (.iload_n 1, 1) := by decide +kernel
theorem dX9_relate_70 : decode cX9_relate 70 = .ok (.iload_n 2, 1) := by decide +kernel
theorem dX9_relate_71 : decode cX9_relate 71 = .ok (.iload_n 3, 1) := by decide +kernel
theorem dX9_relate_72 : decode cX9_relate 72 = .ok (.invokevirtual 234, 3) := by decide +kernel
theorem dX9_relate_75 : decode cX9_relate 75 = .ok (.aload_n 0, 1) := by decide +kernel
theorem dX9_relate_76 : decode cX9_relate 76 = .ok (.getfield 67, 3) := by decide +kernel
theorem dX9_relate_79 : decode cX9_relate 79 = .ok (.iconst 2, 1) := by decide +kernel
theorem dX9_relate_80 : decode cX9_relate 80 = .ok (.iload_n 1, 1) := by decide +kernel
theorem dX9_relate_81 : decode cX9_relate 81 = .ok (.iload_n 2, 1) := by decide +kernel
theorem dX9_relate_82 : decode cX9_relate 82 = .ok (.iload_n 3, 1) := by decide +kernel
theorem dX9_relate_83 : decode cX9_relate 83 = .ok (.ifCond .eq 7, 3) := by decide +kernel
theorem dX9_relate_86 : decode cX9_relate 86 = .ok (.iconst 0, 1) := by decide +kernel
theorem dX9_relate_87 : decode cX9_relate 87 = .ok (.goto 4, 3) := by decide +kernel
theorem dX9_relate_90 : decode cX9_relate 90 = .ok (.iconst 1, 1) := by decide +kernel
theorem dX9_relate_91 : decode cX9_relate 91 = .ok (.invokevirtual 228, 3) := by decide +kernel
theorem dX9_relate_94 : decode cX9_relate 94 = .ok (.iconst 1, 1) := by decide +kernel
theorem dX9_relate_95 : decode cX9_relate 95 = .ok (.ireturn, 1) := by decide +kernel
theorem dX9_rule_0 : decode cX9_rule 0 = .ok (.iload_n 1, 1) := by decide +kernel
theorem dX9_rule_1 : decode cX9_rule 1 = .ok (.ifCond .lt 29, 3) := by decide +kernel
theorem dX9_rule_4 : decode cX9_rule 4 = .ok (.iload_n 1, 1) := by decide +kernel
theorem dX9_rule_5 : decode cX9_rule 5 = .ok (.getstatic 238, 3) := by decide +kernel
theorem dX9_rule_8 : decode cX9_rule 8 = .ok (.arraylength, 1) := by decide +kernel
theorem dX9_rule_9 : decode cX9_rule 9 = .ok (.if_icmp .ge 21, 3) := by decide +kernel
theorem dX9_rule_12 : decode cX9_rule 12 = .ok (.iload_n 2, 1) := by decide +kernel
theorem dX9_rule_13 : decode cX9_rule 13 = .ok (.getstatic 238, 3) := by decide +kernel
theorem dX9_rule_16 : decode cX9_rule 16 = .ok (.iload_n 1, 1) := by decide +kernel
theorem dX9_rule_17 : decode cX9_rule 17 = .ok (.iaload, 1) := by decide +kernel
theorem dX9_rule_18 : decode cX9_rule 18 = .ok (.if_icmp .lt 12, 3) := by decide +kernel
theorem dX9_rule_21 : decode cX9_rule 21 = .ok (.iload_n 2, 1) := by decide +kernel
theorem dX9_rule_22 : decode cX9_rule 22 = .ok (.getstatic 241, 3) := by decide +kernel
theorem dX9_rule_25 : decode cX9_rule 25 = .ok (.iload_n 1, 1) := by decide +kernel
theorem dX9_rule_26 : decode cX9_rule 26 = .ok (.iaload, 1) := by decide +kernel
theorem dX9_rule_27 : decode cX9_rule 27 = .ok (.if_icmp .le 5, 3) := by decide +kernel
theorem dX9_rule_30 : decode cX9_rule 30 = .ok (.iconst (-1), 1) := by decide +kernel
theorem dX9_rule_31 : decode cX9_rule 31 = .ok (.ireturn, 1) := by decide +kernel
theorem dX9_rule_32 : decode cX9_rule 32 = .ok (.aload_n 0, 1) := by decide +kernel
theorem dX9_rule_33 : decode cX9_rule 33 = .ok (.getfield 19, 3) := by decide +kernel
theorem dX9_rule_36 : decode cX9_rule 36 = .ok (.getfield 100, 3) := by decide +kernel
theorem dX9_rule_39 : decode cX9_rule 39 = .ok (.bipush 6, 2) := by decide +kernel
theorem dX9_rule_41 : decode cX9_rule 41 = .ok (.iload_n 1, 1) := by decide +kernel
theorem dX9_rule_42 : decode cX9_rule 42 = .ok (.iadd, 1) := by decide +kernel
theorem dX9_rule_43 : decode cX9_rule 43 = .ok (.iaload, 1) := by decide +kernel
theorem dX9_rule_44 : decode cX9_rule 44 = .ok (.istore_n 3, 1) := by decide +kernel
theorem dX9_rule_45 : decode cX9_rule 45 = .ok (.iload_n 3, 1) := by decide +kernel
theorem dX9_rule_46 : decode cX9_rule 46 = .ok (.iload_n 2, 1) := by decide +kernel
theorem dX9_rule_47 : decode cX9_rule 47 = .ok (.if_icmp .ne 5, 3) := by decide +kernel
theorem dX9_rule_50 : decode cX9_rule 50 = .ok (.iconst (-1), 1) := by decide +kernel
theorem dX9_rule_51 : decode cX9_rule 51 = .ok (.ireturn, 1) := by decide +kernel
theorem dX9_rule_52 : decode cX9_rule 52 = .ok (.aload_n 0, 1) := by decide +kernel
theorem dX9_rule_53 : decode cX9_rule 53 = .ok (.getfield 19, 3) := by decide +kernel
theorem dX9_rule_56 : decode cX9_rule 56 = .ok (.getfield 100, 3) := by decide +kernel
theorem dX9_rule_59 : decode cX9_rule 59 = .ok (.bipush 6, 2) := by decide +kernel
theorem dX9_rule_61 : decode cX9_rule 61 = .ok (.iload_n 1, 1) := by decide +kernel
theorem dX9_rule_62 : decode cX9_rule 62 = .ok (.iadd, 1) := by decide +kernel
theorem dX9_rule_63 : decode cX9_rule 63 = .ok (.iload_n 2, 1) := by decide +kernel
theorem dX9_rule_64 : decode cX9_rule 64 = .ok (.iastore, 1) := by decide +kernel
theorem dX9_rule_65 : decode cX9_rule 65 = .ok (.aload_n 0, 1) := by decide +kernel
theorem dX9_rule_66 : decode cX9_rule 66 = .ok (.getfield 67, 3) := by decide +kernel
theorem dX9_rule_69 : decode cX9_rule 69 = .ok (.iconst 3, 1) := by decide +kernel
theorem dX9_rule_70 : decode cX9_rule 70 = .ok (.iload_n 1, 1) := by decide +kernel
theorem dX9_rule_71 : decode cX9_rule 71 = .ok (.iconst 0, 1) := by decide +kernel
theorem dX9_rule_72 : decode cX9_rule 72 = .ok (.iload_n 3, 1) := by decide +kernel
theorem dX9_rule_73 : decode cX9_rule 73 = .ok (.invokevirtual 228, 3) := by decide +kernel
theorem dX9_rule_76 : decode cX9_rule 76 = .ok (.iload_n 3, 1) := by decide +kernel
theorem dX9_rule_77 : decode cX9_rule 77 = .ok (.ireturn, 1) := by decide +kernel
theorem dX9_turn_0 : decode cX9_turn 0 = .ok (.aload_n 0, 1) := by decide +kernel
theorem dX9_turn_1 : decode cX9_turn 1 = .ok (.getfield 19, 3) := by decide +kernel
theorem dX9_turn_4 : decode cX9_turn 4 = .ok (.getfield 100, 3) := by decide +kernel
theorem dX9_turn_7 : decode cX9_turn 7 = .ok (.bipush 10, 2) := by decide +kernel
theorem dX9_turn_9 : decode cX9_turn 9 = .ok (.iaload, 1) := by decide +kernel
theorem dX9_turn_10 : decode cX9_turn 10 = .ok (.istore_n 1, 1) := by decide +kernel
theorem dX9_turn_11 : decode cX9_turn 11 = .ok (.aload_n 0, 1) := by decide +kernel
theorem dX9_turn_12 : decode cX9_turn 12 = .ok (.getfield 19, 3) := by decide +kernel
theorem dX9_turn_15 : decode cX9_turn 15 = .ok (.getfield 100, 3) := by decide +kernel
theorem dX9_turn_18 : decode cX9_turn 18 = .ok (.bipush 10, 2) := by decide +kernel
theorem dX9_turn_20 : decode cX9_turn 20 = .ok (.iconst 1, 1) := by decide +kernel
theorem dX9_turn_21 : decode cX9_turn 21 = .ok (.iload_n 1, 1) := by decide +kernel
theorem dX9_turn_22 : decode cX9_turn 22 = .ok (.isub, 1) := by decide +kernel
theorem dX9_turn_23 : decode cX9_turn 23 = .ok (.iastore, 1) := by decide +kernel
theorem dX9_turn_24 : decode cX9_turn 24 = .ok (.aload_n 0, 1) := by decide +kernel
theorem dX9_turn_25 : decode cX9_turn 25 = .ok (.getfield 67, 3) := by decide +kernel
theorem dX9_turn_28 : decode cX9_turn 28 = .ok (.iconst 4, 1) := by decide +kernel
theorem dX9_turn_29 : decode cX9_turn 29 = .ok (.iconst 0, 1) := by decide +kernel
theorem dX9_turn_30 : decode cX9_turn 30 = .ok (.iconst 0, 1) := by decide +kernel
theorem dX9_turn_31 : decode cX9_turn 31 = .ok (.iload_n 1, 1) := by decide +kernel
theorem dX9_turn_32 : decode cX9_turn 32 = .ok (.invokevirtual 228, 3) := by decide +kernel
theorem dX9_turn_35 : decode cX9_turn 35 = .ok (.iconst 1, 1) := by decide +kernel
theorem dX9_turn_36 : decode cX9_turn 36 = .ok (.iload_n 1, 1) := by decide +kernel
theorem dX9_turn_37 : decode cX9_turn 37 = .ok (.isub, 1) := by decide +kernel
theorem dX9_turn_38 : decode cX9_turn 38 = .ok (.ireturn, 1) := by decide +kernel
theorem dX9_resell_0 : decode cX9_resell 0 = .ok (.iload_n 2, 1) := by decide +kernel
theorem dX9_resell_1 : decode cX9_resell 1 = .ok (.iconst 1, 1) := by decide +kernel
theorem dX9_resell_2 : decode cX9_resell 2 = .ok (.if_icmp .lt 39, 3) := by decide +kernel
theorem dX9_resell_5 : decode cX9_resell 5 = .ok (.iload_n 2, 1) := by decide +kernel
theorem dX9_resell_6 : decode cX9_resell 6 = .ok (.sipush 9999, 3) := by decide +kernel
theorem dX9_resell_9 : decode cX9_resell 9 = .ok (.if_icmp .gt 32, 3) := by decide +kernel
theorem dX9_resell_12 : decode cX9_resell 12 = .ok (.iload_n 3, 1) := by decide +kernel
theorem dX9_resell_13 : decode cX9_resell 13 = .ok (.iconst 1, 1) := by decide +kernel
theorem dX9_resell_14 : decode cX9_resell 14 = .ok (.if_icmp .lt 27, 3) := by decide +kernel
theorem dX9_resell_17 : decode cX9_resell 17 = .ok (.iload_n 3, 1) := by decide +kernel
theorem dX9_resell_18 : decode cX9_resell 18 = .ok (.sipush 9999, 3) := by decide +kernel
theorem dX9_resell_21 : decode cX9_resell 21 = .ok (.if_icmp .gt 20, 3) := by decide +kernel
theorem dX9_resell_24 : decode cX9_resell 24 = .ok (.iload 4, 2) := by decide +kernel
theorem dX9_resell_26 : decode cX9_resell 26 = .ok (.ifCond .lt 15, 3) := by decide +kernel
theorem dX9_resell_29 : decode cX9_resell 29 = .ok (.iload 4, 2) := by decide +kernel
theorem dX9_resell_31 : decode cX9_resell 31 = .ok (.sipush 999, 3) := by decide +kernel
theorem dX9_resell_34 : decode cX9_resell 34 = .ok (.if_icmp .gt 7, 3) := by decide +kernel
theorem dX9_resell_37 : decode cX9_resell 37 = .ok (.iconst 1, 1) := by decide +kernel
theorem dX9_resell_38 : decode cX9_resell 38 = .ok (.goto 4, 3) := by decide +kernel
theorem dX9_resell_41 : decode cX9_resell 41 = .ok (.iconst 0, 1) := by decide +kernel
theorem dX9_resell_42 : decode cX9_resell 42 = .ok (.istore 5, 2) := by decide +kernel
theorem dX9_resell_44 : decode cX9_resell 44 = .ok (.aload_n 0, 1) := by decide +kernel
theorem dX9_resell_45 : decode cX9_resell 45 = .ok (.getfield 19, 3) := by decide +kernel
theorem dX9_resell_48 : decode cX9_resell 48 = .ok (.getfield 100, 3) := by decide +kernel
theorem dX9_resell_51 : decode cX9_resell 51 = .ok (.iconst 4, 1) := by decide +kernel
theorem dX9_resell_52 : decode cX9_resell 52 = .ok (.iaload, 1) := by decide +kernel
theorem dX9_resell_53 : decode cX9_resell 53 = .ok (.istore 6, 2) := by decide +kernel
theorem dX9_resell_55 : decode cX9_resell 55 = .ok (.iload 5, 2) := by decide +kernel
theorem dX9_resell_57 : decode cX9_resell 57 = .ok (.ifCond .eq 22, 3) := by decide +kernel
theorem dX9_resell_60 : decode cX9_resell 60 = .ok (.aload_n 0, 1) := by decide +kernel
theorem dX9_resell_61 : decode cX9_resell 61 = .ok (.getfield 19, 3) := by decide +kernel
theorem dX9_resell_64 : decode cX9_resell 64 = .ok (.iconst 1, 1) := by decide +kernel
theorem dX9_resell_65 : decode cX9_resell 65 = .ok (.iload_n 1, 1) := by decide +kernel
theorem dX9_resell_66 : decode cX9_resell 66 = .ok (.invokevirtual 104, 3) := by decide +kernel
theorem dX9_resell_69 : decode cX9_resell 69 = .ok (.ifCond .eq 10, 3) := by decide +kernel
theorem dX9_resell_72 : decode cX9_resell 72 = .ok (.iload 6, 2) := by decide +kernel
theorem dX9_resell_74 : decode cX9_resell 74 = .ok (.bipush 12, 2) := by decide +kernel
theorem dX9_resell_76 : decode cX9_resell 76 = .ok (.if_icmp .lt 5, 3) := by decide +kernel
theorem dX9_resell_79 : decode cX9_resell 79 = .ok (.iconst (-1), 1) := by decide +kernel
theorem dX9_resell_80 : decode cX9_resell 80 = .ok (.ireturn, 1) := by decide +kernel
theorem dX9_resell_81 : decode cX9_resell 81 = .ok (.aload_n 0, 1) := by decide +kernel
theorem dX9_resell_82 : decode cX9_resell 82 = .ok (.getfield 19, 3) := by decide +kernel
theorem dX9_resell_85 : decode cX9_resell 85 = .ok (.getfield 118, 3) := by decide +kernel
theorem dX9_resell_88 : decode cX9_resell 88 = .ok (.iload 6, 2) := by decide +kernel
theorem dX9_resell_90 : decode cX9_resell 90 = .ok (.aaload, 1) := by decide +kernel
theorem dX9_resell_91 : decode cX9_resell 91 = .ok (.iconst 0, 1) := by decide +kernel
theorem dX9_resell_92 : decode cX9_resell 92 = .ok (.iload_n 1, 1) := by decide +kernel
theorem dX9_resell_93 : decode cX9_resell 93 = .ok (.iastore, 1) := by decide +kernel
theorem dX9_resell_94 : decode cX9_resell 94 = .ok (.aload_n 0, 1) := by decide +kernel
theorem dX9_resell_95 : decode cX9_resell 95 = .ok (.getfield 19, 3) := by decide +kernel
theorem dX9_resell_98 : decode cX9_resell 98 = .ok (.getfield 118, 3) := by decide +kernel
theorem dX9_resell_101 : decode cX9_resell 101 = .ok (.iload 6, 2) := by decide +kernel
theorem dX9_resell_103 : decode cX9_resell 103 = .ok (.aaload, 1) := by decide +kernel
theorem dX9_resell_104 : decode cX9_resell 104 = .ok (.iconst 1, 1) := by decide +kernel
theorem dX9_resell_105 : decode cX9_resell 105 = .ok (.iload_n 2, 1) := by decide +kernel
theorem dX9_resell_106 : decode cX9_resell 106 = .ok (.iastore, 1) := by decide +kernel
theorem dX9_resell_107 : decode cX9_resell 107 = .ok (.aload_n 0, 1) := by decide +kernel
theorem dX9_resell_108 : decode cX9_resell 108 = .ok (.getfield 19, 3) := by decide +kernel
theorem dX9_resell_111 : decode cX9_resell 111 = .ok (.getfield 118, 3) := by decide +kernel
theorem dX9_resell_114 : decode cX9_resell 114 = .ok (.iload 6, 2) := by decide +kernel
theorem dX9_resell_116 : decode cX9_resell 116 = .ok (.aaload, 1) := by decide +kernel
theorem dX9_resell_117 : decode cX9_resell 117 = .ok (.iconst 2, 1) := by decide +kernel
theorem dX9_resell_118 : decode cX9_resell 118 = .ok (.iload_n 3, 1) := by decide +kernel
theorem dX9_resell_119 : decode cX9_resell 119 = .ok (.iastore, 1) := by decide +kernel
theorem dX9_resell_120 : decode cX9_resell 120 = .ok (.aload_n 0, 1) := by decide +kernel
theorem dX9_resell_121 : decode cX9_resell 121 = .ok (.getfield 19, 3) := by decide +kernel
theorem dX9_resell_124 : decode cX9_resell 124 = .ok (.getfield 118, 3) := by decide +kernel
theorem dX9_resell_127 : decode cX9_resell 127 = .ok (.iload 6, 2) := by decide +kernel
theorem dX9_resell_129 : decode cX9_resell 129 = .ok (.aaload, 1) := by decide +kernel
theorem dX9_resell_130 : decode cX9_resell 130 = .ok (.iconst 3, 1) := by decide +kernel
theorem dX9_resell_131 : decode cX9_resell 131 = .ok (.iload 4, 2) := by decide +kernel
theorem dX9_resell_133 : decode cX9_resell 133 = .ok (.iastore, 1) := by decide +kernel
theorem dX9_resell_134 : decode cX9_resell 134 = .ok (.aload_n 0, 1) := by decide +kernel
theorem dX9_resell_135 : decode cX9_resell 135 = .ok (.getfield 19, 3) := by decide +kernel
theorem dX9_resell_138 : decode cX9_resell 138 = .ok (.getfield 100, 3) := by decide +kernel
theorem dX9_resell_141 : decode cX9_resell 141 = .ok (.iconst 4, 1) := by decide +kernel
theorem dX9_resell_142 : decode cX9_resell 142 = .ok (.iload 6, 2) := by decide +kernel
theorem dX9_resell_144 : decode cX9_resell 144 = .ok (.iconst 1, 1) := by decide +kernel
theorem dX9_resell_145 : decode cX9_resell 145 = .ok (.iadd, 1) := by decide +kernel
theorem dX9_resell_146 : decode cX9_resell 146 = .ok (.iastore, 1) := by decide +kernel
theorem dX9_resell_147 : decode cX9_resell 147 = .ok (.aload_n 0, 1) := by decide +kernel
theorem dX9_resell_148 : decode cX9_resell 148 = .ok (.getfield 67, 3) := by decide +kernel
theorem dX9_resell_151 : decode cX9_resell 151 = .ok (.iconst 5, 1) := by decide +kernel
theorem dX9_resell_152 : decode cX9_resell 152 = .ok (.iconst 0, 1) := by decide +kernel
theorem dX9_resell_153 : decode cX9_resell 153 = .ok (.iconst 0, 1) := by decide +kernel
theorem dX9_resell_154 : decode cX9_resell 154 = .ok (.iload 6, 2) := by decide +kernel
theorem dX9_resell_156 : decode cX9_resell 156 = .ok (.invokevirtual 228, 3) := by decide +kernel
theorem dX9_resell_159 : decode cX9_resell 159 = .ok (.iload 6, 2) := by decide +kernel
theorem dX9_resell_161 : decode cX9_resell 161 = .ok (.ireturn, 1) := by decide +kernel
theorem dX9_spread_0 : decode cX9_spread 0 = .ok (.aload_n 0, 1) := by decide +kernel
theorem dX9_spread_1 : decode cX9_spread 1 = .ok (.getfield 19, 3) := by decide +kernel
theorem dX9_spread_4 : decode cX9_spread 4 = .ok (.iconst 2, 1) := by decide +kernel
theorem dX9_spread_5 : decode cX9_spread 5 = .ok (.iload_n 1, 1) := by decide +kernel
theorem dX9_spread_6 : decode cX9_spread 6 = .ok (.invokevirtual 104, 3) := by decide +kernel
theorem dX9_spread_9 : decode cX9_spread 9 = .ok (.ifCond .eq 29, 3) := by decide +kernel
theorem dX9_spread_12 : decode cX9_spread 12 = .ok (.iload_n 2, 1) := by decide +kernel
theorem dX9_spread_13 : decode cX9_spread 13 = .ok (.ifCond .lt 25, 3) := by decide +kernel
theorem dX9_spread_16 : decode cX9_spread 16 = .ok (.iload_n 2, 1) := by decide +kernel
theorem dX9_spread_17 : decode cX9_spread 17 = .ok (.sipush 9999, 3) := by decide +kernel
theorem dX9_spread_20 : decode cX9_spread 20 = .ok (.if_icmp .gt 18, 3) := by decide +kernel
theorem dX9_spread_23 : decode cX9_spread 23 = .ok (.aload_n 0, 1) := by decide +kernel
theorem dX9_spread_24 : decode cX9_spread 24 = .ok (.getfield 19, 3) := by decide +kernel
theorem dX9_spread_27 : decode cX9_spread 27 = .ok (.getfield 133, 3) := by decide +kernel
theorem dX9_spread_30 : decode cX9_spread 30 = .ok (.iload_n 1, 1) := by decide +kernel
theorem dX9_spread_31 : decode cX9_spread 31 = .ok (.aaload, 1) := by decide +kernel
theorem dX9_spread_32 : decode cX9_spread 32 = .ok (.iconst 1, 1) := by decide +kernel
theorem dX9_spread_33 : decode cX9_spread 33 = .ok (.iaload, 1) := by decide +kernel
theorem dX9_spread_34 : decode cX9_spread 34 = .ok (.iload_n 2, 1) := by decide +kernel
theorem dX9_spread_35 : decode cX9_spread 35 = .ok (.if_icmp .ne 5, 3) := by decide +kernel
theorem dX9_spread_38 : decode cX9_spread 38 = .ok (.iconst (-1), 1) := by decide +kernel
theorem dX9_spread_39 : decode cX9_spread 39 = .ok (.ireturn, 1) := by decide +kernel
theorem dX9_spread_40 : decode cX9_spread 40 = .ok (.aload_n 0, 1) := by decide +kernel
theorem dX9_spread_41 : decode cX9_spread 41 = .ok (.getfield 19, 3) := by decide +kernel
theorem dX9_spread_44 : decode cX9_spread 44 = .ok (.getfield 133, 3) := by decide +kernel
theorem dX9_spread_47 : decode cX9_spread 47 = .ok (.iload_n 1, 1) := by decide +kernel
theorem dX9_spread_48 : decode cX9_spread 48 = .ok (.aaload, 1) := by decide +kernel
theorem dX9_spread_49 : decode cX9_spread 49 = .ok (.iconst 1, 1) := by decide +kernel
theorem dX9_spread_50 : decode cX9_spread 50 = .ok (.iaload, 1) := by decide +kernel
theorem dX9_spread_51 : decode cX9_spread 51 = .ok (.istore_n 3, 1) := by decide +kernel
theorem dX9_spread_52 : decode cX9_spread 52 = .ok (.aload_n 0, 1) := by decide +kernel
theorem dX9_spread_53 : decode cX9_spread 53 = .ok (.getfield 19, 3) := by decide +kernel
theorem dX9_spread_56 : decode cX9_spread 56 = .ok (.getfield 133, 3) := by decide +kernel
theorem dX9_spread_59 : decode cX9_spread 59 = .ok (.iload_n 1, 1) := by decide +kernel
theorem dX9_spread_60 : decode cX9_spread 60 = .ok (.aaload, 1) := by decide +kernel
theorem dX9_spread_61 : decode cX9_spread 61 = .ok (.iconst 1, 1) := by decide +kernel
theorem dX9_spread_62 : decode cX9_spread 62 = .ok (.iload_n 2, 1) := by decide +kernel
theorem dX9_spread_63 : decode cX9_spread 63 = .ok (.iastore, 1) := by decide +kernel
theorem dX9_spread_64 : decode cX9_spread 64 = .ok (.aload_n 0, 1) := by decide +kernel
theorem dX9_spread_65 : decode cX9_spread 65 = .ok (.getfield 67, 3) := by decide +kernel
theorem dX9_spread_68 : decode cX9_spread 68 = .ok (.bipush 6, 2) := by decide +kernel
theorem dX9_spread_70 : decode cX9_spread 70 = .ok (.iload_n 1, 1) := by decide +kernel
theorem dX9_spread_71 : decode cX9_spread 71 = .ok (.iconst 0, 1) := by decide +kernel
theorem dX9_spread_72 : decode cX9_spread 72 = .ok (.iload_n 3, 1) := by decide +kernel
theorem dX9_spread_73 : decode cX9_spread 73 = .ok (.invokevirtual 228, 3) := by decide +kernel
theorem dX9_spread_76 : decode cX9_spread 76 = .ok (.iload_n 3, 1) := by decide +kernel
theorem dX9_spread_77 : decode cX9_spread 77 = .ok (.ireturn, 1) := by decide +kernel
theorem dX9_lessen_0 : decode cX9_lessen 0 = .ok (.aload_n 0, 1) := by decide +kernel
theorem dX9_lessen_1 : decode cX9_lessen 1 = .ok (.getfield 19, 3) := by decide +kernel
theorem dX9_lessen_4 : decode cX9_lessen 4 = .ok (.iconst 5, 1) := by decide +kernel
theorem dX9_lessen_5 : decode cX9_lessen 5 = .ok (.iload_n 1, 1) := by decide +kernel
theorem dX9_lessen_6 : decode cX9_lessen 6 = .ok (.invokevirtual 104, 3) := by decide +kernel
theorem dX9_lessen_9 : decode cX9_lessen 9 = .ok (.ifCond .eq 28, 3) := by decide +kernel
theorem dX9_lessen_12 : decode cX9_lessen 12 = .ok (.iload_n 2, 1) := by decide +kernel
theorem dX9_lessen_13 : decode cX9_lessen 13 = .ok (.ifCond .lt 24, 3) := by decide +kernel
theorem dX9_lessen_16 : decode cX9_lessen 16 = .ok (.iload_n 2, 1) := by decide +kernel
theorem dX9_lessen_17 : decode cX9_lessen 17 = .ok (.bipush 90, 2) := by decide +kernel
theorem dX9_lessen_19 : decode cX9_lessen 19 = .ok (.if_icmp .gt 18, 3) := by decide +kernel
theorem dX9_lessen_22 : decode cX9_lessen 22 = .ok (.aload_n 0, 1) := by decide +kernel
theorem dX9_lessen_23 : decode cX9_lessen 23 = .ok (.getfield 19, 3) := by decide +kernel
theorem dX9_lessen_26 : decode cX9_lessen 26 = .ok (.getfield 130, 3) := by decide +kernel
theorem dX9_lessen_29 : decode cX9_lessen 29 = .ok (.iload_n 1, 1) := by decide +kernel
theorem dX9_lessen_30 : decode cX9_lessen 30 = .ok (.aaload, 1) := by decide +kernel
theorem dX9_lessen_31 : decode cX9_lessen 31 = .ok (.iconst 1, 1) := by decide +kernel
theorem dX9_lessen_32 : decode cX9_lessen 32 = .ok (.iaload, 1) := by decide +kernel
theorem dX9_lessen_33 : decode cX9_lessen 33 = .ok (.iload_n 2, 1) := by decide +kernel
theorem dX9_lessen_34 : decode cX9_lessen 34 = .ok (.if_icmp .ne 5, 3) := by decide +kernel
theorem dX9_lessen_37 : decode cX9_lessen 37 = .ok (.iconst (-1), 1) := by decide +kernel
theorem dX9_lessen_38 : decode cX9_lessen 38 = .ok (.ireturn, 1) := by decide +kernel
theorem dX9_lessen_39 : decode cX9_lessen 39 = .ok (.aload_n 0, 1) := by decide +kernel
theorem dX9_lessen_40 : decode cX9_lessen 40 = .ok (.getfield 19, 3) := by decide +kernel
theorem dX9_lessen_43 : decode cX9_lessen 43 = .ok (.getfield 130, 3) := by decide +kernel
theorem dX9_lessen_46 : decode cX9_lessen 46 = .ok (.iload_n 1, 1) := by decide +kernel
theorem dX9_lessen_47 : decode cX9_lessen 47 = .ok (.aaload, 1) := by decide +kernel
theorem dX9_lessen_48 : decode cX9_lessen 48 = .ok (.iconst 1, 1) := by decide +kernel
theorem dX9_lessen_49 : decode cX9_lessen 49 = .ok (.iaload, 1) := by decide +kernel
theorem dX9_lessen_50 : decode cX9_lessen 50 = .ok (.istore_n 3, 1) := by decide +kernel
theorem dX9_lessen_51 : decode cX9_lessen 51 = .ok (.aload_n 0, 1) := by decide +kernel
theorem dX9_lessen_52 : decode cX9_lessen 52 = .ok (.getfield 19, 3) := by decide +kernel
theorem dX9_lessen_55 : decode cX9_lessen 55 = .ok (.getfield 130, 3) := by decide +kernel
theorem dX9_lessen_58 : decode cX9_lessen 58 = .ok (.iload_n 1, 1) := by decide +kernel
theorem dX9_lessen_59 : decode cX9_lessen 59 = .ok (.aaload, 1) := by decide +kernel
theorem dX9_lessen_60 : decode cX9_lessen 60 = .ok (.iconst 1, 1) := by decide +kernel
theorem dX9_lessen_61 : decode cX9_lessen 61 = .ok (.iload_n 2, 1) := by decide +kernel
theorem dX9_lessen_62 : decode cX9_lessen 62 = .ok (.iastore, 1) := by decide +kernel
theorem dX9_lessen_63 : decode cX9_lessen 63 = .ok (.aload_n 0, 1) := by decide +kernel
theorem dX9_lessen_64 : decode cX9_lessen 64 = .ok (.getfield 67, 3) := by decide +kernel
theorem dX9_lessen_67 : decode cX9_lessen 67 = .ok (.bipush 7, 2) := by decide +kernel
theorem dX9_lessen_69 : decode cX9_lessen 69 = .ok (.iload_n 1, 1) := by decide +kernel
theorem dX9_lessen_70 : decode cX9_lessen 70 = .ok (.iconst 0, 1) := by decide +kernel
theorem dX9_lessen_71 : decode cX9_lessen 71 = .ok (.iload_n 3, 1) := by decide +kernel
theorem dX9_lessen_72 : decode cX9_lessen 72 = .ok (.invokevirtual 228, 3) := by decide +kernel
theorem dX9_lessen_75 : decode cX9_lessen 75 = .ok (.iload_n 3, 1) := by decide +kernel
theorem dX9_lessen_76 : decode cX9_lessen 76 = .ok (.ireturn, 1) := by decide +kernel
theorem dX9_undo_0 : decode cX9_undo 0 = .ok (.aload_n 0, 1) := by decide +kernel
theorem dX9_undo_1 : decode cX9_undo 1 = .ok (.getfield 67, 3) := by decide +kernel
theorem dX9_undo_4 : decode cX9_undo 4 = .ok (.getfield 99, 3) := by decide +kernel
theorem dX9_undo_7 : decode cX9_undo 7 = .ok (.ifCond .ne 5, 3) := by decide +kernel
theorem dX9_undo_10 : decode cX9_undo 10 = .ok (.iconst (-1), 1) := by decide +kernel
theorem dX9_undo_11 : decode cX9_undo 11 = .ok (.ireturn, 1) := by decide +kernel
theorem dX9_undo_12 : decode cX9_undo 12 = .ok (.aload_n 0, 1) := by decide +kernel
theorem dX9_undo_13 : decode cX9_undo 13 = .ok (.getfield 67, 3) := by decide +kernel
theorem dX9_undo_16 : decode cX9_undo 16 = .ok (.aload_n 0, 1) := by decide +kernel
theorem dX9_undo_17 : decode cX9_undo 17 = .ok (.getfield 19, 3) := by decide +kernel
theorem dX9_undo_20 : decode cX9_undo 20 = .ok (.invokevirtual 244, 3) := by decide +kernel
theorem dX9_undo_23 : decode cX9_undo 23 = .ok (.aload_n 0, 1) := by decide +kernel
theorem dX9_undo_24 : decode cX9_undo 24 = .ok (.getfield 67, 3) := by decide +kernel
theorem dX9_undo_27 : decode cX9_undo 27 = .ok (.getfield 99, 3) := by decide +kernel
theorem dX9_undo_30 : decode cX9_undo 30 = .ok (.ireturn, 1) := by decide +kernel
theorem dX9_keep_0 : decode cX9_keep 0 = .ok (.iload_n 1, 1) := by decide +kernel
theorem dX9_keep_1 : decode cX9_keep 1 = .ok (.ifCond .lt 23, 3) := by decide +kernel
theorem dX9_keep_4 : decode cX9_keep 4 = .ok (.iload_n 1, 1) := by decide +kernel
theorem dX9_keep_5 : decode cX9_keep 5 = .ok (.iconst 2, 1) := by decide +kernel
theorem dX9_keep_6 : decode cX9_keep 6 = .ok (.if_icmp .ge 18, 3) := by decide +kernel
theorem dX9_keep_9 : decode cX9_keep 9 = .ok (.iload_n 2, 1) := by decide +kernel
theorem dX9_keep_10 : decode cX9_keep 10 = .ok (.ifCond .eq 16, 3) := by decide +kernel
theorem dX9_keep_13 : decode cX9_keep 13 = .ok (.aload_n 0, 1) := by decide +kernel
theorem dX9_keep_14 : decode cX9_keep 14 = .ok (.getfield 96, 3) := by decide +kernel
theorem dX9_keep_17 : decode cX9_keep 17 = .ok (.iload_n 1, 1) := by decide +kernel
theorem dX9_keep_18 : decode cX9_keep 18 = .ok (.ishr, 1) := by decide +kernel
theorem dX9_keep_19 : decode cX9_keep 19 = .ok (.iconst 1, 1) := by decide +kernel
theorem dX9_keep_20 : decode cX9_keep 20 = .ok (.iand, 1) := by decide +kernel
theorem dX9_keep_21 : decode cX9_keep 21 = .ok (.ifCond .ne 5, 3) := by decide +kernel
theorem dX9_keep_24 : decode cX9_keep 24 = .ok (.iconst 0, 1) := by decide +kernel
theorem dX9_keep_25 : decode cX9_keep 25 = .ok (.ireturn, 1) := by decide +kernel
theorem dX9_keep_26 : decode cX9_keep 26 = .ok (.iload_n 2, 1) := by decide +kernel
theorem dX9_keep_27 : decode cX9_keep 27 = .ok (.ifCond .eq 26, 3) := by decide +kernel
theorem dX9_keep_30 : decode cX9_keep 30 = .ok (.aload_n 0, 1) := by decide +kernel
theorem dX9_keep_31 : decode cX9_keep 31 = .ok (.getfield 19, 3) := by decide +kernel
theorem dX9_keep_34 : decode cX9_keep 34 = .ok (.aload_n 0, 1) := by decide +kernel
theorem dX9_keep_35 : decode cX9_keep 35 = .ok (.getfield 26, 3) := by decide +kernel
theorem dX9_keep_38 : decode cX9_keep 38 = .ok (.iload_n 1, 1) := by decide +kernel
theorem dX9_keep_39 : decode cX9_keep 39 = .ok (.aaload, 1) := by decide +kernel
theorem dX9_keep_40 : decode cX9_keep 40 = .ok (.invokevirtual 90, 3) := by decide +kernel
theorem dX9_keep_43 : decode cX9_keep 43 = .ok (.aload_n 0, 1) := by decide +kernel
theorem dX9_keep_44 : decode cX9_keep 44 = .ok (.getfield 67, 3) := by decide +kernel
theorem dX9_keep_47 : decode cX9_keep 47 = .ok (.invokevirtual 93, 3) := by decide +kernel
theorem dX9_keep_50 : decode cX9_keep 50 = .ok (.goto 28, 3) := by decide +kernel
theorem dX9_keep_53 : decode cX9_keep 53 = .ok (.aload_n 0, 1) := by decide +kernel
theorem dX9_keep_54 : decode cX9_keep 54 = .ok (.getfield 26, 3) := by decide +kernel
theorem dX9_keep_57 : decode cX9_keep 57 = .ok (.iload_n 1, 1) := by decide +kernel
theorem dX9_keep_58 : decode cX9_keep 58 = .ok (.aaload, 1) := by decide +kernel
theorem dX9_keep_59 : decode cX9_keep 59 = .ok (.aload_n 0, 1) := by decide +kernel
theorem dX9_keep_60 : decode cX9_keep 60 = .ok (.getfield 19, 3) := by decide +kernel
theorem dX9_keep_63 : decode cX9_keep 63 = .ok (.invokevirtual 90, 3) := by decide +kernel
theorem dX9_keep_66 : decode cX9_keep 66 = .ok (.aload_n 0, 1) := by decide +kernel
theorem dX9_keep_67 : decode cX9_keep 67 = .ok (.dup, 1) := by decide +kernel
theorem dX9_keep_68 : decode cX9_keep 68 = .ok (.getfield 96, 3) := by decide +kernel
theorem dX9_keep_71 : decode cX9_keep 71 = .ok (.iconst 1, 1) := by decide +kernel
theorem dX9_keep_72 : decode cX9_keep 72 = .ok (.iload_n 1, 1) := by decide +kernel
theorem dX9_keep_73 : decode cX9_keep 73 = .ok (.ishl, 1) := by decide +kernel
theorem dX9_keep_74 : decode cX9_keep 74 = .ok (.ior, 1) := by decide +kernel
theorem dX9_keep_75 : decode cX9_keep 75 = .ok (.putfield 96, 3) := by decide +kernel
theorem dX9_keep_78 : decode cX9_keep 78 = .ok (.iconst 1, 1) := by decide +kernel
theorem dX9_keep_79 : decode cX9_keep 79 = .ok (.ireturn, 1) := by decide +kernel
theorem dX9_isTurned_0 : decode cX9_isTurned 0 = .ok (.aload_n 0, 1) := by decide +kernel
theorem dX9_isTurned_1 : decode cX9_isTurned 1 = .ok (.getfield 19, 3) := by decide +kernel
theorem dX9_isTurned_4 : decode cX9_isTurned 4 = .ok (.getfield 100, 3) := by decide +kernel
theorem dX9_isTurned_7 : decode cX9_isTurned 7 = .ok (.bipush 10, 2) := by decide +kernel
theorem dX9_isTurned_9 : decode cX9_isTurned 9 = .ok (.iaload, 1) := by decide +kernel
theorem dX9_isTurned_10 : decode cX9_isTurned 10 = .ok (.iconst 1, 1) := by decide +kernel
theorem dX9_isTurned_11 : decode cX9_isTurned 11 = .ok (.if_icmp .ne 7, 3) := by decide +kernel
theorem dX9_isTurned_14 : decode cX9_isTurned 14 = .ok (.iconst 1, 1) := by decide +kernel
theorem dX9_isTurned_15 : decode cX9_isTurned 15 = .ok (.goto 4, 3) := by decide +kernel
theorem dX9_isTurned_18 : decode cX9_isTurned 18 = .ok (.iconst 0, 1) := by decide +kernel
theorem dX9_isTurned_19 : decode cX9_isTurned 19 = .ok (.ireturn, 1) := by decide +kernel
theorem dX9_worthInOrder_0 : decode cX9_worthInOrder 0 = .ok (.aload_n 0, 1) := by decide +kernel
theorem dX9_worthInOrder_1 : decode cX9_worthInOrder 1 = .ok (.getfield 19, 3) := by decide +kernel
theorem dX9_worthInOrder_4 : decode cX9_worthInOrder 4 = .ok (.iconst 3, 1) := by decide +kernel
theorem dX9_worthInOrder_5 : decode cX9_worthInOrder 5 = .ok (.iload_n 1, 1) := by decide +kernel
theorem dX9_worthInOrder_6 : decode cX9_worthInOrder 6 = .ok (.invokevirtual 104, 3) := by decide +kernel
theorem dX9_worthInOrder_9 : decode cX9_worthInOrder 9 = .ok (.ifCond .ne 7, 3) := by decide +kernel
theorem dX9_worthInOrder_12 : decode cX9_worthInOrder 12 = .ok (.ldc2_w 139, 3) := by decide +kernel
theorem dX9_worthInOrder_15 : decode cX9_worthInOrder 15 = .ok (.lreturn, 1) := by decide +kernel
theorem dX9_worthInOrder_16 : decode cX9_worthInOrder 16 = .ok (.aload_n 0, 1) := by decide +kernel
theorem dX9_worthInOrder_17 : decode cX9_worthInOrder 17 = .ok (.getfield 53, 3) := by decide +kernel
theorem dX9_worthInOrder_20 : decode cX9_worthInOrder 20 = .ok (.iconst (-1), 1) := by decide +kernel
theorem dX9_worthInOrder_21 : decode cX9_worthInOrder 21 = .ok (.invokevirtual 145, 3) := by decide +kernel
theorem dX9_worthInOrder_24 : decode cX9_worthInOrder 24 = .ok (.aload_n 0, 1) := by decide +kernel
theorem dX9_worthInOrder_25 : decode cX9_worthInOrder 25 = .ok (.getfield 53, 3) := by decide +kernel
theorem dX9_worthInOrder_28 : decode cX9_worthInOrder 28 = .ok (.iload_n 1, 1) := by decide +kernel
theorem dX9_worthInOrder_29 : decode cX9_worthInOrder 29 = .ok (.iload_n 2, 1) := by decide +kernel
theorem dX9_worthInOrder_30 : decode cX9_worthInOrder 30 = .ok (.invokevirtual 168, 3) := by decide +kernel
theorem dX9_worthInOrder_33 : decode cX9_worthInOrder 33 = .ok (.aload_n 0, 1) := by decide +kernel
theorem dX9_worthInOrder_34 : decode cX9_worthInOrder 34 = .ok (.getfield 53, 3) := by decide +kernel
theorem dX9_worthInOrder_37 : decode cX9_worthInOrder 37 = .ok (.invokevirtual 212, 3) := by decide +kernel
theorem dX9_worthInOrder_40 : decode cX9_worthInOrder 40 = .ok (.lreturn, 1) := by decide +kernel
theorem dX9_dutyOn_0 : decode cX9_dutyOn 0 = .ok (.lload_n 1, 1) := by decide +kernel
theorem dX9_dutyOn_1 : decode cX9_dutyOn 1 = .ok (.aload_n 0, 1) := by decide +kernel
theorem dX9_dutyOn_2 : decode cX9_dutyOn 2 = .ok (.getfield 19, 3) := by decide +kernel
theorem dX9_dutyOn_5 : decode cX9_dutyOn 5 = .ok (.getfield 100, 3) := by decide +kernel
theorem dX9_dutyOn_8 : decode cX9_dutyOn 8 = .ok (.bipush 9, 2) := by decide +kernel
theorem dX9_dutyOn_10 : decode cX9_dutyOn 10 = .ok (.iaload, 1) := by decide +kernel
theorem dX9_dutyOn_11 : decode cX9_dutyOn 11 = .ok (.i2l, 1) := by decide +kernel
theorem dX9_dutyOn_12 : decode cX9_dutyOn 12 = .ok (.lmul, 1) := by decide +kernel
theorem dX9_dutyOn_13 : decode cX9_dutyOn 13 = .ok (.ldc2_w 247, 3) := by decide +kernel
theorem dX9_dutyOn_16 : decode cX9_dutyOn 16 = .ok (.ldiv, 1) := by decide +kernel
theorem dX9_dutyOn_17 : decode cX9_dutyOn 17 = .ok (.lreturn, 1) := by decide +kernel
theorem dX9_writeReport_0 : decode cX9_writeReport 0 = .ok (.aload_n 0, 1) := by decide +kernel
theorem dX9_writeReport_1 : decode cX9_writeReport 1 = .ok (.getfield 74, 3) := by decide +kernel
theorem dX9_writeReport_4 : decode cX9_writeReport 4 = .ok (.iconst 0, 1) := by decide +kernel
theorem dX9_writeReport_5 : decode cX9_writeReport 5 = .ok (.putfield 223, 3) := by decide +kernel
theorem dX9_writeReport_8 : decode cX9_writeReport 8 = .ok (.aload_n 0, 1) := by decide +kernel
theorem dX9_writeReport_9 : decode cX9_writeReport 9 = .ok (.getfield 53, 3) := by decide +kernel
theorem dX9_writeReport_12 : decode cX9_writeReport 12 = .ok (.iconst (-1), 1) := by decide +kernel
theorem dX9_writeReport_13 : decode cX9_writeReport 13 = .ok (.invokevirtual 145, 3) := by decide +kernel
theorem dX9_writeReport_16 : decode cX9_writeReport 16 = .ok (.iconst 0, 1) := by decide +kernel
theorem dX9_writeReport_17 : decode cX9_writeReport 17 = .ok (.istore_n 1, 1) := by decide +kernel
theorem dX9_writeReport_18 : decode cX9_writeReport 18 = .ok (.iload_n 1, 1) := by decide +kernel
theorem dX9_writeReport_19 : decode cX9_writeReport 19 = .ok (.aload_n 0, 1) := by decide +kernel
theorem dX9_writeReport_20 : decode cX9_writeReport 20 = .ok (.getfield 19, 3) := by decide +kernel
theorem dX9_writeReport_23 : decode cX9_writeReport 23 = .ok (.getfield 100, 3) := by decide +kernel
theorem dX9_writeReport_26 : decode cX9_writeReport 26 = .ok (.iconst 3, 1) := by decide +kernel
theorem dX9_writeReport_27 : decode cX9_writeReport 27 = .ok (.iaload, 1) := by decide +kernel
theorem dX9_writeReport_28 : decode cX9_writeReport 28 = .ok (.if_icmp .ge 119, 3) := by decide +kernel
theorem dX9_writeReport_31 : decode cX9_writeReport 31 = .ok (.aload_n 0, 1) := by decide +kernel
theorem dX9_writeReport_32 : decode cX9_writeReport 32 = .ok (.getfield 53, 3) := by decide +kernel
theorem dX9_writeReport_35 : decode cX9_writeReport 35 = .ok (.iload_n 1, 1) := by decide +kernel
theorem dX9_writeReport_36 : decode cX9_writeReport 36 = .ok (.aload_n 0, 1) := by decide +kernel
theorem dX9_writeReport_37 : decode cX9_writeReport 37 = .ok (.invokevirtual 160, 3) := by decide +kernel
theorem dX9_writeReport_40 : decode cX9_writeReport 40 = .ok (.invokevirtual 168, 3) := by decide +kernel
theorem dX9_writeReport_43 : decode cX9_writeReport 43 = .ok (.aload_n 0, 1) := by decide +kernel
theorem dX9_writeReport_44 : decode cX9_writeReport 44 = .ok (.getfield 74, 3) := by decide +kernel
theorem dX9_writeReport_47 : decode cX9_writeReport 47 = .ok (.aload_n 0, 1) := by decide +kernel
theorem dX9_writeReport_48 : decode cX9_writeReport 48 = .ok (.getfield 19, 3) := by decide +kernel
theorem dX9_writeReport_51 : decode cX9_writeReport 51 = .ok (.getfield 249, 3) := by decide +kernel
theorem dX9_writeReport_54 : decode cX9_writeReport 54 = .ok (.iload_n 1, 1) := by decide +kernel
theorem dX9_writeReport_55 : decode cX9_writeReport 55 = .ok (.laload, 1) := by decide +kernel
theorem dX9_writeReport_56 : decode cX9_writeReport 56 = .ok (.invokevirtual 252, 3) := by decide +kernel
theorem dX9_writeReport_59 : decode cX9_writeReport 59 = .ok (.aload_n 0, 1) := by decide +kernel
theorem dX9_writeReport_60 : decode cX9_writeReport 60 = .ok (.getfield 53, 3) := by decide +kernel
theorem dX9_writeReport_63 : decode cX9_writeReport 63 = .ok (.getfield 172, 3) := by decide +kernel
theorem dX9_writeReport_66 : decode cX9_writeReport 66 = .ok (.ifCond .ne 16, 3) := by decide +kernel
theorem dX9_writeReport_69 : decode cX9_writeReport 69 = .ok (.aload_n 0, 1) := by decide +kernel
theorem dX9_writeReport_70 : decode cX9_writeReport 70 = .ok (.getfield 74, 3) := by decide +kernel
theorem dX9_writeReport_73 : decode cX9_writeReport 73 = .ok (.ldc_w 256, 3) := by decide +kernel
theorem dX9_writeReport_76 : decode cX9_writeReport 76 = .ok (.invokevirtual 258, 3) := by decide +kernel
theorem dX9_writeReport_79 : decode cX9_writeReport 79 = .ok (.goto 62, 3) := by decide +kernel
theorem dX9_writeReport_82 : decode cX9_writeReport 82 = .ok (.aload_n 0, 1) := by decide +kernel
theorem dX9_writeReport_83 : decode cX9_writeReport 83 = .ok (.getfield 74, 3) := by decide +kernel
theorem dX9_writeReport_86 : decode cX9_writeReport 86 = .ok (.ldc_w 262, 3) := by decide +kernel
theorem dX9_writeReport_89 : decode cX9_writeReport 89 = .ok (.invokevirtual 258, 3) := by decide +kernel
theorem dX9_writeReport_92 : decode cX9_writeReport 92 = .ok (.aload_n 0, 1) := by decide +kernel
theorem dX9_writeReport_93 : decode cX9_writeReport 93 = .ok (.getfield 74, 3) := by decide +kernel
theorem dX9_writeReport_96 : decode cX9_writeReport 96 = .ok (.aload_n 0, 1) := by decide +kernel
theorem dX9_writeReport_97 : decode cX9_writeReport 97 = .ok (.getfield 53, 3) := by decide +kernel
theorem dX9_writeReport_100 : decode cX9_writeReport 100 = .ok (.getfield 172, 3) := by decide +kernel
theorem dX9_writeReport_103 : decode cX9_writeReport 103 = .ok (.i2l, 1) := by decide +kernel
theorem dX9_writeReport_104 : decode cX9_writeReport 104 = .ok (.invokevirtual 264, 3) := by decide +kernel
theorem dX9_writeReport_107 : decode cX9_writeReport 107 = .ok (.aload_n 0, 1) := by decide +kernel
theorem dX9_writeReport_108 : decode cX9_writeReport 108 = .ok (.getfield 74, 3) := by decide +kernel
theorem dX9_writeReport_111 : decode cX9_writeReport 111 = .ok (.ldc_w 267, 3) := by decide +kernel
theorem dX9_writeReport_114 : decode cX9_writeReport 114 = .ok (.invokevirtual 258, 3) := by decide +kernel
theorem dX9_writeReport_117 : decode cX9_writeReport 117 = .ok (.aload_n 0, 1) := by decide +kernel
theorem dX9_writeReport_118 : decode cX9_writeReport 118 = .ok (.getfield 74, 3) := by decide +kernel
theorem dX9_writeReport_121 : decode cX9_writeReport 121 = .ok (.aload_n 0, 1) := by decide +kernel
theorem dX9_writeReport_122 : decode cX9_writeReport 122 = .ok (.getfield 53, 3) := by decide +kernel
theorem dX9_writeReport_125 : decode cX9_writeReport 125 = .ok (.getfield 153, 3) := by decide +kernel
theorem dX9_writeReport_128 : decode cX9_writeReport 128 = .ok (.invokevirtual 264, 3) := by decide +kernel
theorem dX9_writeReport_131 : decode cX9_writeReport 131 = .ok (.aload_n 0, 1) := by decide +kernel
theorem dX9_writeReport_132 : decode cX9_writeReport 132 = .ok (.getfield 74, 3) := by decide +kernel
theorem dX9_writeReport_135 : decode cX9_writeReport 135 = .ok (.ldc_w 269, 3) := by decide +kernel
theorem dX9_writeReport_138 : decode cX9_writeReport 138 = .ok (.invokevirtual 258, 3) := by decide +kernel
theorem dX9_writeReport_141 : decode cX9_writeReport 141 = .ok (.iinc 1 1, 3) := by decide +kernel
theorem dX9_writeReport_144 : decode cX9_writeReport 144 = .ok (.goto (-126), 3) := by decide +kernel
theorem dX9_writeReport_147 : decode cX9_writeReport 147 = .ok (.return_, 1) := by decide +kernel
theorem dX9_cut_0 : decode cX9_cut 0 = .ok (.lload_n 2, 1) := by decide +kernel
theorem dX9_cut_1 : decode cX9_cut 1 = .ok (.lconst 0, 1) := by decide +kernel
theorem dX9_cut_2 : decode cX9_cut 2 = .ok (.lcmp, 1) := by decide +kernel
theorem dX9_cut_3 : decode cX9_cut 3 = .ok (.ifCond .le 9, 3) := by decide +kernel
theorem dX9_cut_6 : decode cX9_cut 6 = .ok (.lload_n 0, 1) := by decide +kernel
theorem dX9_cut_7 : decode cX9_cut 7 = .ok (.lload_n 2, 1) := by decide +kernel
theorem dX9_cut_8 : decode cX9_cut 8 = .ok (.ldiv, 1) := by decide +kernel
theorem dX9_cut_9 : decode cX9_cut 9 = .ok (.goto 4, 3) := by decide +kernel
theorem dX9_cut_12 : decode cX9_cut 12 = .ok (.lconst 0, 1) := by decide +kernel
theorem dX9_cut_13 : decode cX9_cut 13 = .ok (.lreturn, 1) := by decide +kernel
theorem dX10_thrown_0 : decode cX10_thrown 0 = .ok (.aload_n 0, 1) := by decide +kernel
theorem dX10_thrown_1 : decode cX10_thrown 1 = .ok (.getfield 1, 3) := by decide +kernel
theorem dX10_thrown_4 : decode cX10_thrown 4 = .ok (.ireturn, 1) := by decide +kernel
theorem dX10_within_0 : decode cX10_within 0 = .ok (.lload_n 0, 1) := by decide +kernel
theorem dX10_within_1 : decode cX10_within 1 = .ok (.lload_n 2, 1) := by decide +kernel
theorem dX10_within_2 : decode cX10_within 2 = .ok (.lcmp, 1) := by decide +kernel
theorem dX10_within_3 : decode cX10_within 3 = .ok (.ifCond .lt 14, 3) := by decide +kernel
theorem dX10_within_6 : decode cX10_within 6 = .ok (.lload_n 0, 1) := by decide +kernel
theorem dX10_within_7 : decode cX10_within 7 = .ok (.lload 4, 2) := by decide +kernel
theorem dX10_within_9 : decode cX10_within 9 = .ok (.lcmp, 1) := by decide +kernel
theorem dX10_within_10 : decode cX10_within 10 = .ok (.ifCond .gt 7, 3) := by decide +kernel
theorem dX10_within_13 : decode cX10_within 13 = .ok (.iconst 1, 1) := by decide +kernel
theorem dX10_within_14 : decode cX10_within 14 = .ok (.goto 4, 3) := by decide +kernel
theorem dX10_within_17 : decode cX10_within 17 = .ok (.iconst 0, 1) := by decide +kernel
theorem dX10_within_18 : decode cX10_within 18 = .ok (.ireturn, 1) := by decide +kernel
theorem dX10_has_0 : decode cX10_has 0 = .ok (.iload_n 0, 1) := by decide +kernel
theorem dX10_has_1 : decode cX10_has 1 = .ok (.iload_n 1, 1) := by decide +kernel
theorem dX10_has_2 : decode cX10_has 2 = .ok (.ishr, 1) := by decide +kernel
theorem dX10_has_3 : decode cX10_has 3 = .ok (.iconst 1, 1) := by decide +kernel
theorem dX10_has_4 : decode cX10_has 4 = .ok (.iand, 1) := by decide +kernel
theorem dX10_has_5 : decode cX10_has 5 = .ok (.iconst 1, 1) := by decide +kernel
theorem dX10_has_6 : decode cX10_has 6 = .ok (.if_icmp .ne 7, 3) := by decide +kernel
theorem dX10_has_9 : decode cX10_has 9 = .ok (.iconst 1, 1) := by decide +kernel
theorem dX10_has_10 : decode cX10_has 10 = .ok (.goto 4, 3) := by decide +kernel
theorem dX10_has_13 : decode cX10_has 13 = .ok (.iconst 0, 1) := by decide +kernel
theorem dX10_has_14 : decode cX10_has 14 = .ok (.ireturn, 1) := by decide +kernel
theorem dX10_init_0 : decode cX10_init 0 = .ok (.aload_n 0, 1) := by decide +kernel
theorem dX10_init_1 : decode cX10_init 1 = .ok (.invokespecial 7, 3) := by decide +kernel
theorem dX10_init_4 : decode cX10_init 4 = .ok (.aload_n 0, 1) := by decide +kernel
theorem dX10_init_5 : decode cX10_init 5 = .ok (.sipush 232, 3) := by decide +kernel
theorem dX10_init_8 : decode cX10_init 8 = .ok (.newarray .int, 2) := by decide +kernel
theorem dX10_init_10 : decode cX10_init 10 = .ok (.putfield 13, 3) := by decide +kernel
theorem dX10_init_13 : decode cX10_init 13 = .ok (.aload_n 0, 1) := by decide +kernel
theorem dX10_init_14 : decode cX10_init 14 = .ok (.sipush 232, 3) := by decide +kernel
theorem dX10_init_17 : decode cX10_init 17 = .ok (.newarray .int, 2) := by decide +kernel
theorem dX10_init_19 : decode cX10_init 19 = .ok (.putfield 17, 3) := by decide +kernel
theorem dX10_init_22 : decode cX10_init 22 = .ok (.aload_n 0, 1) := by decide +kernel
theorem dX10_init_23 : decode cX10_init 23 = .ok (.sipush 2784, 3) := by decide +kernel
theorem dX10_init_26 : decode cX10_init 26 = .ok (.newarray .int, 2) := by decide +kernel
theorem dX10_init_28 : decode cX10_init 28 = .ok (.putfield 20, 3) := by decide +kernel
theorem dX10_init_31 : decode cX10_init 31 = .ok (.aload_n 0, 1) := by decide +kernel
theorem dX10_init_32 : decode cX10_init 32 = .ok (.sipush 464, 3) := by decide +kernel
theorem dX10_init_35 : decode cX10_init 35 = .ok (.newarray .int, 2) := by decide +kernel
theorem dX10_init_37 : decode cX10_init 37 = .ok (.putfield 23, 3) := by decide +kernel
theorem dX10_init_40 : decode cX10_init 40 = .ok (.aload_n 0, 1) := by decide +kernel
theorem dX10_init_41 : decode cX10_init 41 = .ok (.iconst 2, 1) := by decide +kernel
theorem dX10_init_42 : decode cX10_init 42 = .ok (.newarray .boolean, 2) := by decide +kernel
theorem dX10_init_44 : decode cX10_init 44 = .ok (.putfield 26, 3) := by decide +kernel
theorem dX10_init_47 : decode cX10_init 47 = .ok (.aload_n 0, 1) := by decide +kernel
theorem dX10_init_48 : decode cX10_init 48 = .ok (.sipush 900, 3) := by decide +kernel
theorem dX10_init_51 : decode cX10_init 51 = .ok (.newarray .byte, 2) := by decide +kernel
theorem dX10_init_53 : decode cX10_init 53 = .ok (.putfield 30, 3) := by decide +kernel
theorem dX10_init_56 : decode cX10_init 56 = .ok (.aload_n 0, 1) := by decide +kernel
theorem dX10_init_57 : decode cX10_init 57 = .ok (.bipush 26, 2) := by decide +kernel
theorem dX10_init_59 : decode cX10_init 59 = .ok (.newarray .long, 2) := by decide +kernel
theorem dX10_init_61 : decode cX10_init 61 = .ok (.putfield 34, 3) := by decide +kernel
theorem dX10_init_64 : decode cX10_init 64 = .ok (.aload_n 0, 1) := by decide +kernel
theorem dX10_init_65 : decode cX10_init 65 = .ok (.bipush 26, 2) := by decide +kernel
theorem dX10_init_67 : decode cX10_init 67 = .ok (.newarray .int, 2) := by decide +kernel
theorem dX10_init_69 : decode cX10_init 69 = .ok (.putfield 38, 3) := by decide +kernel
theorem dX10_init_72 : decode cX10_init 72 = .ok (.aload_n 0, 1) := by decide +kernel
theorem dX10_init_73 : decode cX10_init 73 = .ok (.bipush 26, 2) := by decide +kernel
theorem dX10_init_75 : decode cX10_init 75 = .ok (.newarray .int, 2) := by decide +kernel
theorem dX10_init_77 : decode cX10_init 77 = .ok (.putfield 41, 3) := by decide +kernel
theorem dX10_init_80 : decode cX10_init 80 = .ok (.aload_n 0, 1) := by decide +kernel
theorem dX10_init_81 : decode cX10_init 81 = .ok (.bipush 10, 2) := by decide +kernel
theorem dX10_init_83 : decode cX10_init 83 = .ok (.newarray .long, 2) := by decide +kernel
theorem dX10_init_85 : decode cX10_init 85 = .ok (.putfield 44, 3) := by decide +kernel
theorem dX10_init_88 : decode cX10_init 88 = .ok (.aload_n 0, 1) := by decide +kernel
theorem dX10_init_89 : decode cX10_init 89 = .ok (.iconst (-1), 1) := by decide +kernel
theorem dX10_init_90 : decode cX10_init 90 = .ok (.putfield 47, 3) := by decide +kernel
theorem dX10_init_93 : decode cX10_init 93 = .ok (.aload_n 0, 1) := by decide +kernel
theorem dX10_init_94 : decode cX10_init 94 = .ok (.bipush 12, 2) := by decide +kernel
theorem dX10_init_96 : decode cX10_init 96 = .ok (.newarray .long, 2) := by decide +kernel
theorem dX10_init_98 : decode cX10_init 98 = .ok (.putfield 50, 3) := by decide +kernel
theorem dX10_init_101 : decode cX10_init 101 = .ok (.aload_n 0, 1) := by decide +kernel
theorem dX10_init_102 : decode cX10_init 102 = .ok (.bipush 6, 2) := by decide +kernel
theorem dX10_init_104 : decode cX10_init 104 = .ok (.newarray .int, 2) := by decide +kernel
theorem dX10_init_106 : decode cX10_init 106 = .ok (.putfield 53, 3) := by decide +kernel
theorem dX10_init_109 : decode cX10_init 109 = .ok (.aload_n 0, 1) := by decide +kernel
theorem dX10_init_110 : decode cX10_init 110 = .ok (.sipush 600, 3) := by decide +kernel
theorem dX10_init_113 : decode cX10_init 113 = .ok (.newarray .int, 2) := by decide +kernel
theorem dX10_init_115 : decode cX10_init 115 = .ok (.putfield 56, 3) := by decide +kernel
theorem dX10_init_118 : decode cX10_init 118 = .ok (.aload_n 0, 1) := by decide +kernel
theorem dX10_init_119 : decode cX10_init 119 = .ok (.getfield 13, 3) := by decide +kernel
theorem dX10_init_122 : decode cX10_init 122 = .ok (.invokestatic 59, 3) := by decide +kernel
theorem dX10_init_125 : decode cX10_init 125 = .ok (.return_, 1) := by decide +kernel
theorem dX10_rules_0 : decode cX10_rules 0 = .ok (.iconst 0, 1) := by decide +kernel
theorem dX10_rules_1 : decode cX10_rules 1 = .ok (.istore_n 1, 1) := by decide +kernel
theorem dX10_rules_2 : decode cX10_rules 2 = .ok (.iload_n 1, 1) := by decide +kernel
theorem dX10_rules_3 : decode cX10_rules 3 = .ok (.sipush 232, 3) := by decide +kernel
theorem dX10_rules_6 : decode cX10_rules 6 = .ok (.if_icmp .ge 13, 3) := by decide +kernel
theorem dX10_rules_9 : decode cX10_rules 9 = .ok (.aload_n 0, 1) := by decide +kernel
theorem dX10_rules_10 : decode cX10_rules 10 = .ok (.iload_n 1, 1) := by decide +kernel
theorem dX10_rules_11 : decode cX10_rules 11 = .ok (.iconst 0, 1) := by decide +kernel
theorem dX10_rules_12 : decode cX10_rules 12 = .ok (.iastore, 1) := by decide +kernel
theorem dX10_rules_13 : decode cX10_rules 13 = .ok (.iinc 1 1, 3) := by decide +kernel
theorem dX10_rules_16 : decode cX10_rules 16 = .ok (.goto (-14), 3) := by decide +kernel
theorem dX10_rules_19 : decode cX10_rules 19 = .ok (.aload_n 0, 1) := by decide +kernel
theorem dX10_rules_20 : decode cX10_rules 20 = .ok (.bipush 6, 2) := by decide +kernel
theorem dX10_rules_22 : decode cX10_rules 22 = .ok (.iconst 5, 1) := by decide +kernel
theorem dX10_rules_23 : decode cX10_rules 23 = .ok (.iastore, 1) := by decide +kernel
theorem dX10_rules_24 : decode cX10_rules 24 = .ok (.aload_n 0, 1) := by decide +kernel
theorem dX10_rules_25 : decode cX10_rules 25 = .ok (.bipush 7, 2) := by decide +kernel
theorem dX10_rules_27 : decode cX10_rules 27 = .ok (.bipush 30, 2) := by decide +kernel
theorem dX10_rules_29 : decode cX10_rules 29 = .ok (.iastore, 1) := by decide +kernel
theorem dX10_rules_30 : decode cX10_rules 30 = .ok (.aload_n 0, 1) := by decide +kernel
theorem dX10_rules_31 : decode cX10_rules 31 = .ok (.bipush 8, 2) := by decide +kernel
theorem dX10_rules_33 : decode cX10_rules 33 = .ok (.bipush 20, 2) := by decide +kernel
theorem dX10_rules_35 : decode cX10_rules 35 = .ok (.iastore, 1) := by decide +kernel
theorem dX10_rules_36 : decode cX10_rules 36 = .ok (.aload_n 0, 1) := by decide +kernel
theorem dX10_rules_37 : decode cX10_rules 37 = .ok (.bipush 9, 2) := by decide +kernel
theorem dX10_rules_39 : decode cX10_rules 39 = .ok (.bipush 10, 2) := by decide +kernel
theorem dX10_rules_41 : decode cX10_rules 41 = .ok (.iastore, 1) := by decide +kernel
theorem dX10_rules_42 : decode cX10_rules 42 = .ok (.return_, 1) := by decide +kernel
theorem dX10_copies_0 : decode cX10_copies 0 = .ok (.iconst 0, 1) := by decide +kernel
theorem dX10_copies_1 : decode cX10_copies 1 = .ok (.istore 4, 2) := by decide +kernel
theorem dX10_copies_3 : decode cX10_copies 3 = .ok (.iload 4, 2) := by decide +kernel
theorem dX10_copies_5 : decode cX10_copies 5 = .ok (.sipush 232, 3) := by decide +kernel
theorem dX10_copies_8 : decode cX10_copies 8 = .ok (.if_icmp .ge 21, 3) := by decide +kernel
theorem dX10_copies_11 : decode cX10_copies 11 = .ok (.aload_n 2, 1) := by decide +kernel
theorem dX10_copies_12 : decode cX10_copies 12 = .ok (.iload_n 3, 1) := by decide +kernel
theorem dX10_copies_13 : decode cX10_copies 13 = .ok (.iload 4, 2) := by decide +kernel
theorem dX10_copies_15 : decode cX10_copies 15 = .ok (.iadd, 1) := by decide +kernel
theorem dX10_copies_16 : decode cX10_copies 16 = .ok (.aload_n 0, 1) := by decide +kernel
theorem dX10_copies_17 : decode cX10_copies 17 = .ok (.iload_n 1, 1) := by decide +kernel
theorem dX10_copies_18 : decode cX10_copies 18 = .ok (.iload 4, 2) := by decide +kernel
theorem dX10_copies_20 : decode cX10_copies 20 = .ok (.iadd, 1) := by decide +kernel
theorem dX10_copies_21 : decode cX10_copies 21 = .ok (.iaload, 1) := by decide +kernel
theorem dX10_copies_22 : decode cX10_copies 22 = .ok (.iastore, 1) := by decide +kernel
theorem dX10_copies_23 : decode cX10_copies 23 = .ok (.iinc 4 1, 3) := by decide +kernel
theorem dX10_copies_26 : decode cX10_copies 26 = .ok (.goto (-23), 3) := by decide +kernel
theorem dX10_copies_29 : decode cX10_copies 29 = .ok (.return_, 1) := by decide +kernel
theorem dX10_feed_0 : decode cX10_feed 0 = .ok (.aload_n 0, 1) := by decide +kernel
theorem dX10_feed_1 : decode cX10_feed 1 = .ok (.iconst 0, 1) := by decide +kernel
theorem dX10_feed_2 : decode cX10_feed 2 = .ok (.putfield 1, 3) := by decide +kernel
theorem dX10_feed_5 : decode cX10_feed 5 = .ok (.aload_n 0, 1) := by decide +kernel
theorem dX10_feed_6 : decode cX10_feed 6 = .ok (.getfield 63, 3) := by decide +kernel
theorem dX10_feed_9 : decode cX10_feed 9 = .ok (.bipush 20, 2) := by decide +kernel
theorem dX10_feed_11 : decode cX10_feed 11 = .ok (.iadd, 1) := by decide +kernel
theorem dX10_feed_12 : decode cX10_feed 12 = .ok (.sipush 900, 3) := by decide +kernel
theorem dX10_feed_15 : decode cX10_feed 15 = .ok (.if_icmp .le 5, 3) := by decide +kernel
theorem dX10_feed_18 : decode cX10_feed 18 = .ok (.iconst (-1), 1) := by decide +kernel
theorem dX10_feed_19 : decode cX10_feed 19 = .ok (.ireturn, 1) := by decide +kernel
theorem dX10_feed_20 : decode cX10_feed 20 = .ok (.aload_n 0, 1) := by decide +kernel
theorem dX10_feed_21 : decode cX10_feed 21 = .ok (.iload_n 1, 1) := by decide +kernel
theorem dX10_feed_22 : decode cX10_feed 22 = .ok (.invokevirtual 66, 3) := by decide +kernel
theorem dX10_feed_25 : decode cX10_feed 25 = .ok (.aload_n 0, 1) := by decide +kernel
theorem dX10_feed_26 : decode cX10_feed 26 = .ok (.iload_n 2, 1) := by decide +kernel
theorem dX10_feed_27 : decode cX10_feed 27 = .ok (.invokevirtual 66, 3) := by decide +kernel
theorem dX10_feed_30 : decode cX10_feed 30 = .ok (.aload_n 0, 1) := by decide +kernel
theorem dX10_feed_31 : decode cX10_feed 31 = .ok (.iload_n 3, 1) := by decide +kernel
theorem dX10_feed_32 : decode cX10_feed 32 = .ok (.invokevirtual 66, 3) := by decide +kernel
theorem dX10_feed_35 : decode cX10_feed 35 = .ok (.aload_n 0, 1) := by decide +kernel
theorem dX10_feed_36 : decode cX10_feed 36 = .ok (.iload 4, 2) := by decide +kernel
theorem dX10_feed_38 : decode cX10_feed 38 = .ok (.invokevirtual 66, 3) := by decide +kernel
theorem dX10_feed_41 : decode cX10_feed 41 = .ok (.aload_n 0, 1) := by decide +kernel
theorem dX10_feed_42 : decode cX10_feed 42 = .ok (.iload 5, 2) := by decide +kernel
theorem dX10_feed_44 : decode cX10_feed 44 = .ok (.invokevirtual 66, 3) := by decide +kernel
theorem dX10_feed_47 : decode cX10_feed 47 = .ok (.aload_n 0, 1) := by decide +kernel
theorem dX10_feed_48 : decode cX10_feed 48 = .ok (.getfield 63, 3) := by decide +kernel
theorem dX10_feed_51 : decode cX10_feed 51 = .ok (.ireturn, 1) := by decide +kernel
theorem dX10_puts_0 : decode cX10_puts 0 = .ok (.bipush 24, 2) := by decide +kernel
theorem dX10_puts_2 : decode cX10_puts 2 = .ok (.istore_n 2, 1) := by decide +kernel
theorem dX10_puts_3 : decode cX10_puts 3 = .ok (.iload_n 2, 1) := by decide +kernel
theorem dX10_puts_4 : decode cX10_puts 4 = .ok (.ifCond .lt 32, 3) := by decide +kernel
theorem dX10_puts_7 : decode cX10_puts 7 = .ok (.aload_n 0, 1) := by decide +kernel
theorem dX10_puts_8 : decode cX10_puts 8 = .ok (.getfield 30, 3) := by decide +kernel
theorem dX10_puts_11 : decode cX10_puts 11 = .ok (.aload_n 0, 1) := by decide +kernel
theorem dX10_puts_12 : decode cX10_puts 12 = .ok (.getfield 63, 3) := by decide +kernel
theorem dX10_puts_15 : decode cX10_puts 15 = .ok (.iload_n 1, 1) := by decide +kernel
theorem dX10_puts_16 : decode cX10_puts 16 = .ok (.iload_n 2, 1) := by decide +kernel
theorem dX10_puts_17 : decode cX10_puts 17 = .ok (.ishr, 1) := by decide +kernel
theorem dX10_puts_18 : decode cX10_puts 18 = .ok (.i2b, 1) := by decide +kernel
theorem dX10_puts_19 : decode cX10_puts 19 = .ok (.bastore, 1) := by decide +kernel
theorem dX10_puts_20 : decode cX10_puts 20 = .ok (.aload_n 0, 1) := by decide +kernel
theorem dX10_puts_21 : decode cX10_puts 21 = .ok (.dup, 1) := by decide +kernel
theorem dX10_puts_22 : decode cX10_puts 22 = .ok (.getfield 63, 3) := by decide +kernel
theorem dX10_puts_25 : decode cX10_puts 25 = .ok (.iconst 1, 1) := by decide +kernel
theorem dX10_puts_26 : decode cX10_puts 26 = .ok (.iadd, 1) := by decide +kernel
theorem dX10_puts_27 : decode cX10_puts 27 = .ok (.putfield 63, 3) := by decide +kernel
theorem dX10_puts_30 : decode cX10_puts 30 = .ok (.iinc 2 (-8), 3) := by decide +kernel
theorem dX10_puts_33 : decode cX10_puts 33 = .ok (.goto (-30), 3) := by decide +kernel
theorem dX10_puts_36 : decode cX10_puts 36 = .ok (.return_, 1) := by decide +kernel
theorem dX10_byteAt_0 : decode cX10_byteAt 0 = .ok (.iload_n 1, 1) := by decide +kernel
theorem dX10_byteAt_1 : decode cX10_byteAt 1 = .ok (.aload_n 0, 1) := by decide +kernel
theorem dX10_byteAt_2 : decode cX10_byteAt 2 = .ok (.getfield 70, 3) := by decide +kernel
theorem dX10_byteAt_5 : decode cX10_byteAt 5 = .ok (.if_icmp .ge 16, 3) := by decide +kernel
theorem dX10_byteAt_8 : decode cX10_byteAt 8 = .ok (.aload_n 0, 1) := by decide +kernel
theorem dX10_byteAt_9 : decode cX10_byteAt 9 = .ok (.getfield 30, 3) := by decide +kernel
theorem dX10_byteAt_12 : decode cX10_byteAt 12 = .ok (.iload_n 1, 1) := by decide +kernel
theorem dX10_byteAt_13 : decode cX10_byteAt 13 = .ok (.baload, 1) := by decide +kernel
theorem dX10_byteAt_14 : decode cX10_byteAt 14 = .ok (.sipush 255, 3) := by decide +kernel
theorem dX10_byteAt_17 : decode cX10_byteAt 17 = .ok (.iand, 1) := by decide +kernel
theorem dX10_byteAt_18 : decode cX10_byteAt 18 = .ok (.goto 4, 3) := by decide +kernel
theorem dX10_byteAt_21 : decode cX10_byteAt 21 = .ok (.iconst (-1), 1) := by decide +kernel
theorem dX10_byteAt_22 : decode cX10_byteAt 22 = .ok (.ireturn, 1) := by decide +kernel
theorem dX10_go_0 : decode cX10_go 0 = .ok (.aload_n 0, 1) := by decide +kernel
theorem dX10_go_1 : decode cX10_go 1 = .ok (.aload_n 0, 1) := by decide +kernel
theorem dX10_go_2 : decode cX10_go 2 = .ok (.getfield 73, 3) := by decide +kernel
theorem dX10_go_5 : decode cX10_go 5 = .ok (.invokevirtual 76, 3) := by decide +kernel
theorem dX10_go_8 : decode cX10_go 8 = .ok (.bipush 32, 2) := by decide +kernel
theorem dX10_go_10 : decode cX10_go 10 = .ok (.if_icmp .eq 16, 3) := by decide +kernel
theorem dX10_go_13 : decode cX10_go 13 = .ok (.aload_n 0, 1) := by decide +kernel
theorem dX10_go_14 : decode cX10_go 14 = .ok (.aload_n 0, 1) := by decide +kernel
theorem dX10_go_15 : decode cX10_go 15 = .ok (.getfield 73, 3) := by decide +kernel
theorem dX10_go_18 : decode cX10_go 18 = .ok (.invokevirtual 76, 3) := by decide +kernel
theorem dX10_go_21 : decode cX10_go 21 = .ok (.bipush 10, 2) := by decide +kernel
theorem dX10_go_23 : decode cX10_go 23 = .ok (.if_icmp .ne 16, 3) := by decide +kernel
theorem dX10_go_26 : decode cX10_go 26 = .ok (.aload_n 0, 1) := by decide +kernel
theorem dX10_go_27 : decode cX10_go 27 = .ok (.dup, 1) := by decide +kernel
theorem dX10_go_28 : decode cX10_go 28 = .ok (.getfield 73, 3) := by decide +kernel
theorem dX10_go_31 : decode cX10_go 31 = .ok (.iconst 1, 1) := by decide +kernel
theorem dX10_go_32 : decode cX10_go 32 = .ok (.iadd, 1) := by decide +kernel
theorem dX10_go_33 : decode cX10_go 33 = .ok (.putfield 73, 3) := by decide +kernel
theorem dX10_go_36 : decode cX10_go 36 = .ok (.goto (-36), 3) := by decide +kernel
theorem dX10_go_39 : decode cX10_go 39 = .ok (.aload_n 0, 1) := by decide +kernel
theorem dX10_go_40 : decode cX10_go 40 = .ok (.aload_n 0, 1) := by decide +kernel
theorem dX10_go_41 : decode cX10_go 41 = .ok (.getfield 73, 3) := by decide +kernel
theorem dX10_go_44 : decode cX10_go 44 = .ok (.putfield 80, 3) := by decide +kernel
theorem dX10_go_47 : decode cX10_go 47 = .ok (.aload_n 0, 1) := by decide +kernel
theorem dX10_go_48 : decode cX10_go 48 = .ok (.iconst 0, 1) := by decide +kernel
theorem dX10_go_49 : decode cX10_go 49 = .ok (.putfield 83, 3) := by decide +kernel
theorem dX10_go_52 : decode cX10_go 52 = .ok (.aload_n 0, 1) := by decide +kernel
theorem dX10_go_53 : decode cX10_go 53 = .ok (.lconst 0, 1) := by decide +kernel
theorem dX10_go_54 : decode cX10_go 54 = .ok (.putfield 86, 3) := by decide +kernel
theorem dX10_go_57 : decode cX10_go 57 = .ok (.aload_n 0, 1) := by decide +kernel
theorem dX10_go_58 : decode cX10_go 58 = .ok (.aload_n 0, 1) := by decide +kernel
theorem dX10_go_59 : decode cX10_go 59 = .ok (.getfield 73, 3) := by decide +kernel
theorem dX10_go_62 : decode cX10_go 62 = .ok (.invokevirtual 76, 3) := by decide +kernel
theorem dX10_go_65 : decode cX10_go 65 = .ok (.istore_n 1, 1) := by decide +kernel
theorem dX10_go_66 : decode cX10_go 66 = .ok (.iload_n 1, 1) := by decide +kernel
theorem dX10_go_67 : decode cX10_go 67 = .ok (.ifCond .ge 11, 3) := by decide +kernel
theorem dX10_go_70 : decode cX10_go 70 = .ok (.aload_n 0, 1) := by decide +kernel
theorem dX10_go_71 : decode cX10_go 71 = .ok (.iconst 0, 1) := by decide +kernel
theorem dX10_go_72 : decode cX10_go 72 = .ok (.putfield 90, 3) := by decide +kernel
theorem dX10_go_75 : decode cX10_go 75 = .ok (.goto 265, 3) := by decide +kernel
theorem dX10_go_78 : decode cX10_go 78 = .ok (.iload_n 1, 1) := by decide +kernel
theorem dX10_go_79 : decode cX10_go 79 = .ok (.i2l, 1) := by decide +kernel
theorem dX10_go_80 : decode cX10_go 80 = .ok (.ldc2_w 93, 3) := by decide +kernel
theorem dX10_go_83 : decode cX10_go 83 = .ok (.ldc2_w 95, 3) := by decide +kernel
theorem dX10_go_86 : decode cX10_go 86 = .ok (.invokestatic 97, 3) := by decide +kernel
theorem dX10_go_89 : decode cX10_go 89 = .ok (.ifCond .eq 110, 3) := by decide +kernel
theorem dX10_go_92 : decode cX10_go 92 = .ok (.aload_n 0, 1) := by decide +kernel
theorem dX10_go_93 : decode cX10_go 93 = .ok (.aload_n 0, 1) := by decide +kernel
theorem dX10_go_94 : decode cX10_go 94 = .ok (.getfield 73, 3) := by decide +kernel
theorem dX10_go_97 : decode cX10_go 97 = .ok (.invokevirtual 76, 3) := by decide +kernel
theorem dX10_go_100 : decode cX10_go 100 = .ok (.i2l, 1) := by decide +kernel
theorem dX10_go_101 : decode cX10_go 101 = .ok (.ldc2_w 93, 3) := by decide +kernel
theorem dX10_go_104 : decode cX10_go 104 = .ok (.ldc2_w 95, 3) := by decide +kernel
theorem dX10_go_107 : decode cX10_go 107 = .ok (.invokestatic 97, 3) := by decide +kernel
theorem dX10_go_110 : decode cX10_go 110 = .ok (.ifCond .eq 63, 3) := by decide +kernel
theorem dX10_go_113 : decode cX10_go 113 = .ok (.aload_n 0, 1) := by decide +kernel
theorem dX10_go_114 : decode cX10_go 114 = .ok (.aload_n 0, 1) := by decide +kernel
theorem dX10_go_115 : decode cX10_go 115 = .ok (.getfield 73, 3) := by decide +kernel
theorem dX10_go_118 : decode cX10_go 118 = .ok (.aload_n 0, 1) := by decide +kernel
theorem dX10_go_119 : decode cX10_go 119 = .ok (.getfield 80, 3) := by decide +kernel
theorem dX10_go_122 : decode cX10_go 122 = .ok (.isub, 1) := by decide +kernel
theorem dX10_go_123 : decode cX10_go 123 = .ok (.bipush 7, 2) := by decide +kernel
theorem dX10_go_125 : decode cX10_go 125 = .ok (.if_icmp .ge 28, 3) := by decide +kernel
theorem dX10_go_128 : decode cX10_go 128 = .ok (.ldc2_w 101, 3) := by decide +kernel
theorem dX10_go_131 : decode cX10_go 131 = .ok (.aload_n 0, 1) := by decide +kernel
theorem dX10_go_132 : decode cX10_go 132 = .ok (.getfield 86, 3) := by decide +kernel
theorem dX10_go_135 : decode cX10_go 135 = .ok (.lmul, 1) := by decide +kernel
theorem dX10_go_136 : decode cX10_go 136 = .ok (.aload_n 0, 1) := by decide +kernel
theorem dX10_go_137 : decode cX10_go 137 = .ok (.aload_n 0, 1) := by decide +kernel
theorem dX10_go_138 : decode cX10_go 138 = .ok (.getfield 73, 3) := by decide +kernel
theorem dX10_go_141 : decode cX10_go 141 = .ok (.invokevirtual 76, 3) := by decide +kernel
theorem dX10_go_144 : decode cX10_go 144 = .ok (.i2l, 1) := by decide +kernel
theorem dX10_go_145 : decode cX10_go 145 = .ok (.ladd, 1) := by decide +kernel
theorem dX10_go_146 : decode cX10_go 146 = .ok (.ldc2_w 103, 3) := by decide +kernel
theorem dX10_go_149 : decode cX10_go 149 = .ok (.lsub, 1) := by decide +kernel
theorem dX10_go_150 : decode cX10_go 150 = .ok (.goto 7, 3) := by decide +kernel
theorem dX10_go_153 : decode cX10_go 153 = .ok (.aload_n 0, 1) := by decide +kernel
theorem dX10_go_154 : decode cX10_go 154 = .ok (.getfield 86, 3) := by decide +kernel
theorem dX10_go_157 : decode cX10_go 157 = .ok (.putfield 86, 3) := by decide +kernel
theorem dX10_go_160 : decode cX10_go 160 = .ok (.aload_n 0, 1) := by decide +kernel
theorem dX10_go_161 : decode cX10_go 161 = .ok (.dup, 1) := by decide +kernel
theorem dX10_go_162 : decode cX10_go 162 = .ok (.getfield 73, 3) := by decide +kernel
theorem dX10_go_165 : decode cX10_go 165 = .ok (.iconst 1, 1) := by decide +kernel
theorem dX10_go_166 : decode cX10_go 166 = .ok (.iadd, 1) := by decide +kernel
theorem dX10_go_167 : decode cX10_go 167 = .ok (.putfield 73, 3) := by decide +kernel
theorem dX10_go_170 : decode cX10_go 170 = .ok (.goto (-78), 3) := by decide +kernel
theorem dX10_go_173 : decode cX10_go 173 = .ok (.aload_n 0, 1) := by decide +kernel
theorem dX10_go_174 : decode cX10_go 174 = .ok (.aload_n 0, 1) := by decide +kernel
theorem dX10_go_175 : decode cX10_go 175 = .ok (.getfield 73, 3) := by decide +kernel
theorem dX10_go_178 : decode cX10_go 178 = .ok (.aload_n 0, 1) := by decide +kernel
theorem dX10_go_179 : decode cX10_go 179 = .ok (.getfield 80, 3) := by decide +kernel
theorem dX10_go_182 : decode cX10_go 182 = .ok (.isub, 1) := by decide +kernel
theorem dX10_go_183 : decode cX10_go 183 = .ok (.bipush 7, 2) := by decide +kernel
theorem dX10_go_185 : decode cX10_go 185 = .ok (.if_icmp .le 7, 3) := by decide +kernel
theorem dX10_go_188 : decode cX10_go 188 = .ok (.iconst 4, 1) := by decide +kernel
theorem dX10_go_189 : decode cX10_go 189 = .ok (.goto 4, 3) := by decide +kernel
theorem dX10_go_192 : decode cX10_go 192 = .ok (.iconst 1, 1) := by decide +kernel
theorem dX10_go_193 : decode cX10_go 193 = .ok (.putfield 90, 3) := by decide +kernel
theorem dX10_go_196 : decode cX10_go 196 = .ok (.goto 144, 3) := by decide +kernel
theorem dX10_go_199 : decode cX10_go 199 = .ok (.iload_n 1, 1) := by decide +kernel
theorem dX10_go_200 : decode cX10_go 200 = .ok (.i2l, 1) := by decide +kernel
theorem dX10_go_201 : decode cX10_go 201 = .ok (.ldc2_w 105, 3) := by decide +kernel
theorem dX10_go_204 : decode cX10_go 204 = .ok (.ldc2_w 107, 3) := by decide +kernel
theorem dX10_go_207 : decode cX10_go 207 = .ok (.invokestatic 97, 3) := by decide +kernel
theorem dX10_go_210 : decode cX10_go 210 = .ok (.ifCond .eq 105, 3) := by decide +kernel
theorem dX10_go_213 : decode cX10_go 213 = .ok (.aload_n 0, 1) := by decide +kernel
theorem dX10_go_214 : decode cX10_go 214 = .ok (.aload_n 0, 1) := by decide +kernel
theorem dX10_go_215 : decode cX10_go 215 = .ok (.getfield 73, 3) := by decide +kernel
theorem dX10_go_218 : decode cX10_go 218 = .ok (.invokevirtual 76, 3) := by decide +kernel
theorem dX10_go_221 : decode cX10_go 221 = .ok (.i2l, 1) := by decide +kernel
theorem dX10_go_222 : decode cX10_go 222 = .ok (.ldc2_w 105, 3) := by decide +kernel
theorem dX10_go_225 : decode cX10_go 225 = .ok (.ldc2_w 107, 3) := by decide +kernel
theorem dX10_go_228 : decode cX10_go 228 = .ok (.invokestatic 97, 3) := by decide +kernel
theorem dX10_go_231 : decode cX10_go 231 = .ok (.ifCond .eq 59, 3) := by decide +kernel
theorem dX10_go_234 : decode cX10_go 234 = .ok (.aload_n 0, 1) := by decide +kernel
theorem dX10_go_235 : decode cX10_go 235 = .ok (.aload_n 0, 1) := by decide +kernel
theorem dX10_go_236 : decode cX10_go 236 = .ok (.getfield 73, 3) := by decide +kernel
theorem dX10_go_239 : decode cX10_go 239 = .ok (.aload_n 0, 1) := by decide +kernel
theorem dX10_go_240 : decode cX10_go 240 = .ok (.getfield 80, 3) := by decide +kernel
theorem dX10_go_243 : decode cX10_go 243 = .ok (.isub, 1) := by decide +kernel
theorem dX10_go_244 : decode cX10_go 244 = .ok (.iconst 4, 1) := by decide +kernel
theorem dX10_go_245 : decode cX10_go 245 = .ok (.if_icmp .ge 25, 3) := by decide +kernel
theorem dX10_go_248 : decode cX10_go 248 = .ok (.bipush 10, 2) := by decide +kernel
theorem dX10_go_250 : decode cX10_go 250 = .ok (.aload_n 0, 1) := by decide +kernel
theorem dX10_go_251 : decode cX10_go 251 = .ok (.getfield 83, 3) := by decide +kernel
theorem dX10_go_254 : decode cX10_go 254 = .ok (.imul, 1) := by decide +kernel
theorem dX10_go_255 : decode cX10_go 255 = .ok (.aload_n 0, 1) := by decide +kernel
theorem dX10_go_256 : decode cX10_go 256 = .ok (.aload_n 0, 1) := by decide +kernel
theorem dX10_go_257 : decode cX10_go 257 = .ok (.getfield 73, 3) := by decide +kernel
theorem dX10_go_260 : decode cX10_go 260 = .ok (.invokevirtual 76, 3) := by decide +kernel
theorem dX10_go_263 : decode cX10_go 263 = .ok (.iadd, 1) := by decide +kernel
theorem dX10_go_264 : decode cX10_go 264 = .ok (.bipush 48, 2) := by decide +kernel
theorem dX10_go_266 : decode cX10_go 266 = .ok (.isub, 1) := by decide +kernel
theorem dX10_go_267 : decode cX10_go 267 = .ok (.goto 7, 3) := by decide +kernel
theorem dX10_go_270 : decode cX10_go 270 = .ok (.aload_n 0, 1) := by decide +kernel
theorem dX10_go_271 : decode cX10_go 271 = .ok (.getfield 83, 3) := by decide +kernel
theorem dX10_go_274 : decode cX10_go 274 = .ok (.putfield 83, 3) := by decide +kernel
theorem dX10_go_277 : decode cX10_go 277 = .ok (.aload_n 0, 1) := by decide +kernel
theorem dX10_go_278 : decode cX10_go 278 = .ok (.dup, 1) := by decide +kernel
theorem dX10_go_279 : decode cX10_go 279 = .ok (.getfield 73, 3) := by decide +kernel
theorem dX10_go_282 : decode cX10_go 282 = .ok (.iconst 1, 1) := by decide +kernel
theorem dX10_go_283 : decode cX10_go 283 = .ok (.iadd, 1) := by decide +kernel
theorem dX10_go_284 : decode cX10_go 284 = .ok (.putfield 73, 3) := by decide +kernel
theorem dX10_go_287 : decode cX10_go 287 = .ok (.goto (-74), 3) := by decide +kernel
theorem dX10_go_290 : decode cX10_go 290 = .ok (.aload_n 0, 1) := by decide +kernel
theorem dX10_go_291 : decode cX10_go 291 = .ok (.aload_n 0, 1) := by decide +kernel
theorem dX10_go_292 : decode cX10_go 292 = .ok (.getfield 73, 3) := by decide +kernel
theorem dX10_go_295 : decode cX10_go 295 = .ok (.aload_n 0, 1) := by decide +kernel
theorem dX10_go_296 : decode cX10_go 296 = .ok (.getfield 80, 3) := by decide +kernel
theorem dX10_go_299 : decode cX10_go 299 = .ok (.isub, 1) := by decide +kernel
theorem dX10_go_300 : decode cX10_go 300 = .ok (.iconst 4, 1) := by decide +kernel
theorem dX10_go_301 : decode cX10_go 301 = .ok (.if_icmp .le 7, 3) := by decide +kernel
theorem dX10_go_304 : decode cX10_go 304 = .ok (.iconst 4, 1) := by decide +kernel
theorem dX10_go_305 : decode cX10_go 305 = .ok (.goto 4, 3) := by decide +kernel
theorem dX10_go_308 : decode cX10_go 308 = .ok (.iconst 2, 1) := by decide +kernel
theorem dX10_go_309 : decode cX10_go 309 = .ok (.putfield 90, 3) := by decide +kernel
theorem dX10_go_312 : decode cX10_go 312 = .ok (.goto 28, 3) := by decide +kernel
theorem dX10_go_315 : decode cX10_go 315 = .ok (.aload_n 0, 1) := by decide +kernel
theorem dX10_go_316 : decode cX10_go 316 = .ok (.dup, 1) := by decide +kernel
theorem dX10_go_317 : decode cX10_go 317 = .ok (.getfield 73, 3) := by decide +kernel
theorem dX10_go_320 : decode cX10_go 320 = .ok (.iconst 1, 1) := by decide +kernel
theorem dX10_go_321 : decode cX10_go 321 = .ok (.iadd, 1) := by decide +kernel
theorem dX10_go_322 : decode cX10_go 322 = .ok (.putfield 73, 3) := by decide +kernel
theorem dX10_go_325 : decode cX10_go 325 = .ok (.aload_n 0, 1) := by decide +kernel
theorem dX10_go_326 : decode cX10_go 326 = .ok (.iload_n 1, 1) := by decide +kernel
theorem dX10_go_327 : decode cX10_go 327 = .ok (.bipush 59, 2) := by decide +kernel
theorem dX10_go_329 : decode cX10_go 329 = .ok (.if_icmp .ne 7, 3) := by decide +kernel
theorem dX10_go_332 : decode cX10_go 332 = .ok (.iconst 3, 1) := by decide +kernel
theorem dX10_go_333 : decode cX10_go 333 = .ok (.goto 4, 3) := by decide +kernel
theorem dX10_go_336 : decode cX10_go 336 = .ok (.iconst 4, 1) := by decide +kernel
theorem dX10_go_337 : decode cX10_go 337 = .ok (.putfield 90, 3) := by decide +kernel
theorem dX10_go_340 : decode cX10_go 340 = .ok (.return_, 1) := by decide +kernel
theorem dX10_is_0 : decode cX10_is 0 = .ok (.aload_n 0, 1) := by decide +kernel
theorem dX10_is_1 : decode cX10_is 1 = .ok (.getfield 90, 3) := by decide +kernel
theorem dX10_is_4 : decode cX10_is 4 = .ok (.iconst 1, 1) := by decide +kernel
theorem dX10_is_5 : decode cX10_is 5 = .ok (.if_icmp .ne 16, 3) := by decide +kernel
theorem dX10_is_8 : decode cX10_is 8 = .ok (.aload_n 0, 1) := by decide +kernel
theorem dX10_is_9 : decode cX10_is 9 = .ok (.getfield 86, 3) := by decide +kernel
theorem dX10_is_12 : decode cX10_is 12 = .ok (.lload_n 1, 1) := by decide +kernel
theorem dX10_is_13 : decode cX10_is 13 = .ok (.lcmp, 1) := by decide +kernel
theorem dX10_is_14 : decode cX10_is 14 = .ok (.ifCond .ne 7, 3) := by decide +kernel
theorem dX10_is_17 : decode cX10_is 17 = .ok (.iconst 1, 1) := by decide +kernel
theorem dX10_is_18 : decode cX10_is 18 = .ok (.goto 4, 3) := by decide +kernel
theorem dX10_is_21 : decode cX10_is 21 = .ok (.iconst 0, 1) := by decide +kernel
theorem dX10_is_22 : decode cX10_is 22 = .ok (.ireturn, 1) := by decide +kernel
theorem dX10_bad_0 : decode cX10_bad 0 = .ok (.aload_n 0, 1) := by decide +kernel
theorem dX10_bad_1 : decode cX10_bad 1 = .ok (.aload_n 0, 1) := by decide +kernel
theorem dX10_bad_2 : decode cX10_bad 2 = .ok (.getfield 109, 3) := by decide +kernel
theorem dX10_bad_5 : decode cX10_bad 5 = .ok (.ifCond .ne 15, 3) := by decide +kernel
theorem dX10_bad_8 : decode cX10_bad 8 = .ok (.bipush 8, 2) := by decide +kernel
theorem dX10_bad_10 : decode cX10_bad 10 = .ok (.aload_n 0, 1) := by decide +kernel
theorem dX10_bad_11 : decode cX10_bad 11 = .ok (.getfield 80, 3) := by decide +kernel
theorem dX10_bad_14 : decode cX10_bad 14 = .ok (.imul, 1) := by decide +kernel
theorem dX10_bad_15 : decode cX10_bad 15 = .ok (.iload_n 1, 1) := by decide +kernel
theorem dX10_bad_16 : decode cX10_bad 16 = .ok (.iadd, 1) := by decide +kernel
theorem dX10_bad_17 : decode cX10_bad 17 = .ok (.goto 7, 3) := by decide +kernel
theorem dX10_bad_20 : decode cX10_bad 20 = .ok (.aload_n 0, 1) := by decide +kernel
theorem dX10_bad_21 : decode cX10_bad 21 = .ok (.getfield 109, 3) := by decide +kernel
theorem dX10_bad_24 : decode cX10_bad 24 = .ok (.putfield 109, 3) := by decide +kernel
theorem dX10_bad_27 : decode cX10_bad 27 = .ok (.iconst 0, 1) := by decide +kernel
theorem dX10_bad_28 : decode cX10_bad 28 = .ok (.ireturn, 1) := by decide +kernel
theorem dX10_number_0 : decode cX10_number 0 = .ok (.aload_n 0, 1) := by decide +kernel
theorem dX10_number_1 : decode cX10_number 1 = .ok (.getfield 90, 3) := by decide +kernel
theorem dX10_number_4 : decode cX10_number 4 = .ok (.iconst 2, 1) := by decide +kernel
theorem dX10_number_5 : decode cX10_number 5 = .ok (.if_icmp .eq 9, 3) := by decide +kernel
theorem dX10_number_8 : decode cX10_number 8 = .ok (.aload_n 0, 1) := by decide +kernel
theorem dX10_number_9 : decode cX10_number 9 = .ok (.iconst 1, 1) := by decide +kernel
theorem dX10_number_10 : decode cX10_number 10 = .ok (.invokevirtual 112, 3) := by decide +kernel
theorem dX10_number_13 : decode cX10_number 13 = .ok (.ireturn, 1) := by decide +kernel
theorem dX10_number_14 : decode cX10_number 14 = .ok (.aload_n 0, 1) := by decide +kernel
theorem dX10_number_15 : decode cX10_number 15 = .ok (.getfield 83, 3) := by decide +kernel
theorem dX10_number_18 : decode cX10_number 18 = .ok (.i2l, 1) := by decide +kernel
theorem dX10_number_19 : decode cX10_number 19 = .ok (.iload_n 1, 1) := by decide +kernel
theorem dX10_number_20 : decode cX10_number 20 = .ok (.i2l, 1) := by decide +kernel
theorem dX10_number_21 : decode cX10_number 21 = .ok (.iload_n 2, 1) := by decide +kernel
theorem dX10_number_22 : decode cX10_number 22 = .ok (.i2l, 1) := by decide +kernel
theorem dX10_number_23 : decode cX10_number 23 = .ok (.invokestatic 97, 3) := by decide +kernel
theorem dX10_number_26 : decode cX10_number 26 = .ok (.ifCond .ne 9, 3) := by decide +kernel
theorem dX10_number_29 : decode cX10_number 29 = .ok (.aload_n 0, 1) := by decide +kernel
theorem dX10_number_30 : decode cX10_number 30 = .ok (.iconst 4, 1) := by decide +kernel
theorem dX10_number_31 : decode cX10_number 31 = .ok (.invokevirtual 112, 3) := by decide +kernel
theorem dX10_number_34 : decode cX10_number 34 = .ok (.ireturn, 1) := by decide +kernel
theorem dX10_number_35 : decode cX10_number 35 = .ok (.aload_n 0, 1) := by decide +kernel
theorem dX10_number_36 : decode cX10_number 36 = .ok (.aload_n 0, 1) := by decide +kernel
theorem dX10_number_37 : decode cX10_number 37 = .ok (.getfield 83, 3) := by decide +kernel
theorem dX10_number_40 : decode cX10_number 40 = .ok (.putfield 116, 3) := by decide +kernel
theorem dX10_number_43 : decode cX10_number 43 = .ok (.aload_n 0, 1) := by decide +kernel
theorem dX10_number_44 : decode cX10_number 44 = .ok (.invokevirtual 119, 3) := by decide +kernel
theorem dX10_number_47 : decode cX10_number 47 = .ok (.iconst 1, 1) := by decide +kernel
theorem dX10_number_48 : decode cX10_number 48 = .ok (.ireturn, 1) := by decide +kernel
theorem dX10_after_0 : decode cX10_after 0 = .ok (.aload_n 0, 1) := by decide +kernel
theorem dX10_after_1 : decode cX10_after 1 = .ok (.lload_n 1, 1) := by decide +kernel
theorem dX10_after_2 : decode cX10_after 2 = .ok (.invokevirtual 122, 3) := by decide +kernel
theorem dX10_after_5 : decode cX10_after 5 = .ok (.ifCond .ne 9, 3) := by decide +kernel
theorem dX10_after_8 : decode cX10_after 8 = .ok (.aload_n 0, 1) := by decide +kernel
theorem dX10_after_9 : decode cX10_after 9 = .ok (.iconst 1, 1) := by decide +kernel
theorem dX10_after_10 : decode cX10_after 10 = .ok (.invokevirtual 112, 3) := by decide +kernel
theorem dX10_after_13 : decode cX10_after 13 = .ok (.ireturn, 1) := by decide +kernel
theorem dX10_after_14 : decode cX10_after 14 = .ok (.aload_n 0, 1) := by decide +kernel
theorem dX10_after_15 : decode cX10_after 15 = .ok (.invokevirtual 119, 3) := by decide +kernel
theorem dX10_after_18 : decode cX10_after 18 = .ok (.aload_n 0, 1) := by decide +kernel
theorem dX10_after_19 : decode cX10_after 19 = .ok (.iload_n 3, 1) := by decide +kernel
theorem dX10_after_20 : decode cX10_after 20 = .ok (.iload 4, 2) := by decide +kernel
theorem dX10_after_22 : decode cX10_after 22 = .ok (.invokevirtual 126, 3) := by decide +kernel
theorem dX10_after_25 : decode cX10_after 25 = .ok (.ireturn, 1) := by decide +kernel
theorem dX10_isName_0 : decode cX10_isName 0 = .ok (.aload_n 0, 1) := by decide +kernel
theorem dX10_isName_1 : decode cX10_isName 1 = .ok (.ldc2_w 130, 3) := by decide +kernel
theorem dX10_isName_4 : decode cX10_isName 4 = .ok (.invokevirtual 122, 3) := by decide +kernel
theorem dX10_isName_7 : decode cX10_isName 7 = .ok (.ifCond .ne 53, 3) := by decide +kernel
theorem dX10_isName_10 : decode cX10_isName 10 = .ok (.aload_n 0, 1) := by decide +kernel
