/-! ===== 31: the law, over simulations (by program) ===== -/
theorem mi_X9_feed : MI yX9_feed cX9_feed 6 5 (some .int) := ⟨TB_mem 533 (by decide +kernel) rfl, TB_mem 113 (by decide +kernel) rfl, ⟨by decide +kernel, by decide +kernel⟩, by decide +kernel⟩
theorem mi_X10_feed : MI yX10_feed cX10_feed 6 5 (some .int) := ⟨TB_mem 1268 (by decide +kernel) rfl, TB_mem 128 (by decide +kernel) rfl, ⟨by decide +kernel, by decide +kernel⟩, by decide +kernel⟩
theorem mi_X9_text : MI yX9_text cX9_text 3 1 (some .int) := ⟨TB_mem 541 (by decide +kernel) rfl, TB_mem 113 (by decide +kernel) rfl, ⟨by decide +kernel, by decide +kernel⟩, by decide +kernel⟩
theorem mi_X10_text : MI yX10_text cX10_text 4 1 (some .int) := ⟨TB_mem 1276 (by decide +kernel) rfl, TB_mem 128 (by decide +kernel) rfl, ⟨by decide +kernel, by decide +kernel⟩, by decide +kernel⟩
theorem mi_X9_count : MI yX9_count cX9_count 2 1 (some .int) := ⟨TB_mem 685 (by decide +kernel) rfl, TB_mem 113 (by decide +kernel) rfl, ⟨by decide +kernel, by decide +kernel⟩, by decide +kernel⟩
theorem mi_X10_count : MI yX10_count cX10_count 2 1 (some .int) := ⟨TB_mem 1434 (by decide +kernel) rfl, TB_mem 128 (by decide +kernel) rfl, ⟨by decide +kernel, by decide +kernel⟩, by decide +kernel⟩
theorem mi_X9_resold : MI yX9_resold cX9_resold 3 2 (some .int) := ⟨TB_mem 689 (by decide +kernel) rfl, TB_mem 113 (by decide +kernel) rfl, ⟨by decide +kernel, by decide +kernel⟩, by decide +kernel⟩
theorem mi_X10_resold : MI yX10_resold cX10_resold 3 2 (some .int) := ⟨TB_mem 1458 (by decide +kernel) rfl, TB_mem 128 (by decide +kernel) rfl, ⟨by decide +kernel, by decide +kernel⟩, by decide +kernel⟩
theorem mi_X9_kin : MI yX9_kin cX9_kin 3 2 (some .int) := ⟨TB_mem 697 (by decide +kernel) rfl, TB_mem 113 (by decide +kernel) rfl, ⟨by decide +kernel, by decide +kernel⟩, by decide +kernel⟩
theorem mi_X10_kin : MI yX10_kin cX10_kin 3 2 (some .int) := ⟨TB_mem 1463 (by decide +kernel) rfl, TB_mem 128 (by decide +kernel) rfl, ⟨by decide +kernel, by decide +kernel⟩, by decide +kernel⟩
theorem mi_X9_like : MI yX9_like cX9_like 3 2 (some .int) := ⟨TB_mem 760 (by decide +kernel) rfl, TB_mem 113 (by decide +kernel) rfl, ⟨by decide +kernel, by decide +kernel⟩, by decide +kernel⟩
theorem mi_X10_like : MI yX10_like cX10_like 3 2 (some .int) := ⟨TB_mem 1471 (by decide +kernel) rfl, TB_mem 128 (by decide +kernel) rfl, ⟨by decide +kernel, by decide +kernel⟩, by decide +kernel⟩
theorem mi_X9_band : MI yX9_band cX9_band 3 2 (some .int) := ⟨TB_mem 765 (by decide +kernel) rfl, TB_mem 113 (by decide +kernel) rfl, ⟨by decide +kernel, by decide +kernel⟩, by decide +kernel⟩
theorem mi_X10_band : MI yX10_band cX10_band 3 2 (some .int) := ⟨TB_mem 1483 (by decide +kernel) rfl, TB_mem 128 (by decide +kernel) rfl, ⟨by decide +kernel, by decide +kernel⟩, by decide +kernel⟩
theorem mi_X9_assist : MI yX9_assist cX9_assist 3 2 (some .int) := ⟨TB_mem 769 (by decide +kernel) rfl, TB_mem 113 (by decide +kernel) rfl, ⟨by decide +kernel, by decide +kernel⟩, by decide +kernel⟩
theorem mi_X10_assist : MI yX10_assist cX10_assist 3 2 (some .int) := ⟨TB_mem 1487 (by decide +kernel) rfl, TB_mem 128 (by decide +kernel) rfl, ⟨by decide +kernel, by decide +kernel⟩, by decide +kernel⟩
theorem mi_X9_share : MI yX9_share cX9_share 3 2 (some .int) := ⟨TB_mem 773 (by decide +kernel) rfl, TB_mem 113 (by decide +kernel) rfl, ⟨by decide +kernel, by decide +kernel⟩, by decide +kernel⟩
theorem mi_X10_share : MI yX10_share cX10_share 3 2 (some .int) := ⟨TB_mem 1495 (by decide +kernel) rfl, TB_mem 128 (by decide +kernel) rfl, ⟨by decide +kernel, by decide +kernel⟩, by decide +kernel⟩
theorem mi_X9_rest : MI yX9_rest cX9_rest 4 1 (some .int) := ⟨TB_mem 777 (by decide +kernel) rfl, TB_mem 113 (by decide +kernel) rfl, ⟨by decide +kernel, by decide +kernel⟩, by decide +kernel⟩
theorem mi_X10_rest : MI yX10_rest cX10_rest 4 1 (some .int) := ⟨TB_mem 1515 (by decide +kernel) rfl, TB_mem 128 (by decide +kernel) rfl, ⟨by decide +kernel, by decide +kernel⟩, by decide +kernel⟩
theorem mi_X9_own : MI yX9_own cX9_own 2 1 (some .long) := ⟨TB_mem 781 (by decide +kernel) rfl, TB_mem 113 (by decide +kernel) rfl, ⟨by decide +kernel, by decide +kernel⟩, by decide +kernel⟩
theorem mi_X10_own : MI yX10_own cX10_own 2 1 (some .long) := ⟨TB_mem 1519 (by decide +kernel) rfl, TB_mem 128 (by decide +kernel) rfl, ⟨by decide +kernel, by decide +kernel⟩, by decide +kernel⟩
theorem mi_X9_by : MI yX9_by cX9_by 3 2 (some .long) := ⟨TB_mem 786 (by decide +kernel) rfl, TB_mem 113 (by decide +kernel) rfl, ⟨by decide +kernel, by decide +kernel⟩, by decide +kernel⟩
theorem mi_X10_by : MI yX10_by cX10_by 3 2 (some .long) := ⟨TB_mem 1537 (by decide +kernel) rfl, TB_mem 128 (by decide +kernel) rfl, ⟨by decide +kernel, by decide +kernel⟩, by decide +kernel⟩
theorem mi_X9_base : MI yX9_base cX9_base 4 2 (some .int) := ⟨TB_mem 872 (by decide +kernel) rfl, TB_mem 113 (by decide +kernel) rfl, ⟨by decide +kernel, by decide +kernel⟩, by decide +kernel⟩
theorem mi_X10_base : MI yX10_base cX10_base 5 2 (some .int) := ⟨TB_mem 1622 (by decide +kernel) rfl, TB_mem 128 (by decide +kernel) rfl, ⟨by decide +kernel, by decide +kernel⟩, by decide +kernel⟩
theorem mi_X9_worth : MI yX9_worth cX9_worth 2 1 (some .long) := ⟨TB_mem 876 (by decide +kernel) rfl, TB_mem 113 (by decide +kernel) rfl, ⟨by decide +kernel, by decide +kernel⟩, by decide +kernel⟩
theorem mi_X10_worth : MI yX10_worth cX10_worth 2 1 (some .long) := ⟨TB_mem 1627 (by decide +kernel) rfl, TB_mem 128 (by decide +kernel) rfl, ⟨by decide +kernel, by decide +kernel⟩, by decide +kernel⟩
theorem mi_X9_method : MI yX9_method cX9_method 2 1 (some .int) := ⟨TB_mem 902 (by decide +kernel) rfl, TB_mem 113 (by decide +kernel) rfl, ⟨by decide +kernel, by decide +kernel⟩, by decide +kernel⟩
theorem mi_X10_method : MI yX10_method cX10_method 4 1 (some .int) := ⟨TB_mem 1642 (by decide +kernel) rfl, TB_mem 128 (by decide +kernel) rfl, ⟨by decide +kernel, by decide +kernel⟩, by decide +kernel⟩
theorem mi_X9_why : MI yX9_why cX9_why 3 2 (some .int) := ⟨TB_mem 906 (by decide +kernel) rfl, TB_mem 113 (by decide +kernel) rfl, ⟨by decide +kernel, by decide +kernel⟩, by decide +kernel⟩
theorem mi_X10_why : MI yX10_why cX10_why 5 2 (some .int) := ⟨TB_mem 1646 (by decide +kernel) rfl, TB_mem 128 (by decide +kernel) rfl, ⟨by decide +kernel, by decide +kernel⟩, by decide +kernel⟩
theorem mi_X9_test : MI yX9_test cX9_test 3 2 (some .long) := ⟨TB_mem 910 (by decide +kernel) rfl, TB_mem 113 (by decide +kernel) rfl, ⟨by decide +kernel, by decide +kernel⟩, by decide +kernel⟩
theorem mi_X10_test : MI yX10_test cX10_test 3 2 (some .long) := ⟨TB_mem 1650 (by decide +kernel) rfl, TB_mem 128 (by decide +kernel) rfl, ⟨by decide +kernel, by decide +kernel⟩, by decide +kernel⟩
theorem mi_X9_passes : MI yX9_passes cX9_passes 2 1 (some .int) := ⟨TB_mem 916 (by decide +kernel) rfl, TB_mem 113 (by decide +kernel) rfl, ⟨by decide +kernel, by decide +kernel⟩, by decide +kernel⟩
theorem mi_X10_passes : MI yX10_passes cX10_passes 2 1 (some .int) := ⟨TB_mem 1654 (by decide +kernel) rfl, TB_mem 128 (by decide +kernel) rfl, ⟨by decide +kernel, by decide +kernel⟩, by decide +kernel⟩
theorem mi_X9_prices : MI yX9_prices cX9_prices 3 2 (some .int) := ⟨TB_mem 921 (by decide +kernel) rfl, TB_mem 113 (by decide +kernel) rfl, ⟨by decide +kernel, by decide +kernel⟩, by decide +kernel⟩
theorem mi_X10_prices : MI yX10_prices cX10_prices 7 2 (some .int) := ⟨TB_mem 1658 (by decide +kernel) rfl, TB_mem 128 (by decide +kernel) rfl, ⟨by decide +kernel, by decide +kernel⟩, by decide +kernel⟩
theorem mi_X9_needs : MI yX9_needs cX9_needs 2 1 (some .int) := ⟨TB_mem 954 (by decide +kernel) rfl, TB_mem 113 (by decide +kernel) rfl, ⟨by decide +kernel, by decide +kernel⟩, by decide +kernel⟩
theorem mi_X10_needs : MI yX10_needs cX10_needs 5 1 (some .int) := ⟨TB_mem 1662 (by decide +kernel) rfl, TB_mem 128 (by decide +kernel) rfl, ⟨by decide +kernel, by decide +kernel⟩, by decide +kernel⟩
theorem mi_X9_rests : MI yX9_rests cX9_rests 6 1 (some .int) := ⟨TB_mem 969 (by decide +kernel) rfl, TB_mem 113 (by decide +kernel) rfl, ⟨by decide +kernel, by decide +kernel⟩, by decide +kernel⟩
theorem mi_X10_rests : MI yX10_rests cX10_rests 6 1 (some .int) := ⟨TB_mem 1666 (by decide +kernel) rfl, TB_mem 128 (by decide +kernel) rfl, ⟨by decide +kernel, by decide +kernel⟩, by decide +kernel⟩
theorem mi_X9_turned : MI yX9_turned cX9_turned 2 1 (some .long) := ⟨TB_mem 973 (by decide +kernel) rfl, TB_mem 113 (by decide +kernel) rfl, ⟨by decide +kernel, by decide +kernel⟩, by decide +kernel⟩
theorem mi_X10_turned : MI yX10_turned cX10_turned 2 1 (some .long) := ⟨TB_mem 1670 (by decide +kernel) rfl, TB_mem 128 (by decide +kernel) rfl, ⟨by decide +kernel, by decide +kernel⟩, by decide +kernel⟩
theorem mi_X9_due : MI yX9_due cX9_due 4 1 (some .long) := ⟨TB_mem 977 (by decide +kernel) rfl, TB_mem 113 (by decide +kernel) rfl, ⟨by decide +kernel, by decide +kernel⟩, by decide +kernel⟩
theorem mi_X10_due : MI yX10_due cX10_due 2 1 (some .long) := ⟨TB_mem 1674 (by decide +kernel) rfl, TB_mem 128 (by decide +kernel) rfl, ⟨by decide +kernel, by decide +kernel⟩, by decide +kernel⟩
theorem mi_X9_dues : MI yX9_dues cX9_dues 4 0 (some .long) := ⟨TB_mem 986 (by decide +kernel) rfl, TB_mem 113 (by decide +kernel) rfl, ⟨by decide +kernel, by decide +kernel⟩, by decide +kernel⟩
theorem mi_X10_dues : MI yX10_dues cX10_dues 6 0 (some .long) := ⟨TB_mem 1682 (by decide +kernel) rfl, TB_mem 128 (by decide +kernel) rfl, ⟨by decide +kernel, by decide +kernel⟩, by decide +kernel⟩
theorem mi_X9_all : MI yX9_all cX9_all 4 1 (some .int) := ⟨TB_mem 990 (by decide +kernel) rfl, TB_mem 113 (by decide +kernel) rfl, ⟨by decide +kernel, by decide +kernel⟩, by decide +kernel⟩
theorem mi_X10_all : MI yX10_all cX10_all 7 1 (some .int) := ⟨TB_mem 1686 (by decide +kernel) rfl, TB_mem 128 (by decide +kernel) rfl, ⟨by decide +kernel, by decide +kernel⟩, by decide +kernel⟩
theorem mi_X9_report : MI yX9_report cX9_report 2 1 (some .int) := ⟨TB_mem 994 (by decide +kernel) rfl, TB_mem 113 (by decide +kernel) rfl, ⟨by decide +kernel, by decide +kernel⟩, by decide +kernel⟩
theorem mi_X10_report : MI yX10_report cX10_report 5 1 (some .int) := ⟨TB_mem 1690 (by decide +kernel) rfl, TB_mem 128 (by decide +kernel) rfl, ⟨by decide +kernel, by decide +kernel⟩, by decide +kernel⟩
theorem mi_X9_price : MI yX9_price cX9_price 4 2 (some .int) := ⟨TB_mem 1028 (by decide +kernel) rfl, TB_mem 113 (by decide +kernel) rfl, ⟨by decide +kernel, by decide +kernel⟩, by decide +kernel⟩
theorem mi_X10_price : MI yX10_price cX10_price 3 2 (some .int) := ⟨TB_mem 1709 (by decide +kernel) rfl, TB_mem 128 (by decide +kernel) rfl, ⟨by decide +kernel, by decide +kernel⟩, by decide +kernel⟩
theorem mi_X9_bind : MI yX9_bind cX9_bind 4 2 (some .boolean) := ⟨TB_mem 1037 (by decide +kernel) rfl, TB_mem 113 (by decide +kernel) rfl, ⟨by decide +kernel, by decide +kernel⟩, by decide +kernel⟩
theorem mi_X10_bind : MI yX10_bind cX10_bind 3 2 (some .boolean) := ⟨TB_mem 1722 (by decide +kernel) rfl, TB_mem 128 (by decide +kernel) rfl, ⟨by decide +kernel, by decide +kernel⟩, by decide +kernel⟩
theorem mi_X9_relate : MI yX9_relate cX9_relate 4 3 (some .boolean) := ⟨TB_mem 1041 (by decide +kernel) rfl, TB_mem 113 (by decide +kernel) rfl, ⟨by decide +kernel, by decide +kernel⟩, by decide +kernel⟩
theorem mi_X10_relate : MI yX10_relate cX10_relate 6 3 (some .boolean) := ⟨TB_mem 1726 (by decide +kernel) rfl, TB_mem 128 (by decide +kernel) rfl, ⟨by decide +kernel, by decide +kernel⟩, by decide +kernel⟩
theorem mi_X9_rule : MI yX9_rule cX9_rule 4 2 (some .int) := ⟨TB_mem 1047 (by decide +kernel) rfl, TB_mem 113 (by decide +kernel) rfl, ⟨by decide +kernel, by decide +kernel⟩, by decide +kernel⟩
theorem mi_X10_rule : MI yX10_rule cX10_rule 3 2 (some .int) := ⟨TB_mem 1730 (by decide +kernel) rfl, TB_mem 128 (by decide +kernel) rfl, ⟨by decide +kernel, by decide +kernel⟩, by decide +kernel⟩
theorem mi_X9_turn : MI yX9_turn cX9_turn 2 0 (some .int) := ⟨TB_mem 1053 (by decide +kernel) rfl, TB_mem 113 (by decide +kernel) rfl, ⟨by decide +kernel, by decide +kernel⟩, by decide +kernel⟩
theorem mi_X10_turn : MI yX10_turn cX10_turn 1 0 (some .int) := ⟨TB_mem 1734 (by decide +kernel) rfl, TB_mem 128 (by decide +kernel) rfl, ⟨by decide +kernel, by decide +kernel⟩, by decide +kernel⟩
theorem mi_X9_resell : MI yX9_resell cX9_resell 7 4 (some .int) := ⟨TB_mem 1057 (by decide +kernel) rfl, TB_mem 113 (by decide +kernel) rfl, ⟨by decide +kernel, by decide +kernel⟩, by decide +kernel⟩
theorem mi_X10_resell : MI yX10_resell cX10_resell 6 4 (some .int) := ⟨TB_mem 1738 (by decide +kernel) rfl, TB_mem 128 (by decide +kernel) rfl, ⟨by decide +kernel, by decide +kernel⟩, by decide +kernel⟩
theorem mi_X9_spread : MI yX9_spread cX9_spread 4 2 (some .int) := ⟨TB_mem 1061 (by decide +kernel) rfl, TB_mem 113 (by decide +kernel) rfl, ⟨by decide +kernel, by decide +kernel⟩, by decide +kernel⟩
theorem mi_X10_spread : MI yX10_spread cX10_spread 3 2 (some .int) := ⟨TB_mem 1743 (by decide +kernel) rfl, TB_mem 128 (by decide +kernel) rfl, ⟨by decide +kernel, by decide +kernel⟩, by decide +kernel⟩
theorem mi_X9_lessen : MI yX9_lessen cX9_lessen 4 2 (some .int) := ⟨TB_mem 1065 (by decide +kernel) rfl, TB_mem 113 (by decide +kernel) rfl, ⟨by decide +kernel, by decide +kernel⟩, by decide +kernel⟩
theorem mi_X10_lessen : MI yX10_lessen cX10_lessen 3 2 (some .int) := ⟨TB_mem 1747 (by decide +kernel) rfl, TB_mem 128 (by decide +kernel) rfl, ⟨by decide +kernel, by decide +kernel⟩, by decide +kernel⟩
theorem mi_X9_undo : MI yX9_undo cX9_undo 1 0 (some .int) := ⟨TB_mem 1069 (by decide +kernel) rfl, TB_mem 113 (by decide +kernel) rfl, ⟨by decide +kernel, by decide +kernel⟩, by decide +kernel⟩
theorem mi_X10_undo : MI yX10_undo cX10_undo 1 0 (some .int) := ⟨TB_mem 1752 (by decide +kernel) rfl, TB_mem 128 (by decide +kernel) rfl, ⟨by decide +kernel, by decide +kernel⟩, by decide +kernel⟩
theorem mi_X9_keep : MI yX9_keep cX9_keep 3 2 (some .boolean) := ⟨TB_mem 1078 (by decide +kernel) rfl, TB_mem 113 (by decide +kernel) rfl, ⟨by decide +kernel, by decide +kernel⟩, by decide +kernel⟩
theorem mi_X10_keep : MI yX10_keep cX10_keep 3 2 (some .boolean) := ⟨TB_mem 1756 (by decide +kernel) rfl, TB_mem 128 (by decide +kernel) rfl, ⟨by decide +kernel, by decide +kernel⟩, by decide +kernel⟩
theorem vl_L_19 : VL RL 19 yX9_feed := ⟨TB_mem 530 (by decide +kernel) rfl, TB_mem 531 (by decide +kernel) rfl, TB_mem 532 (by decide +kernel) rfl⟩
theorem vl_L_23 : VL RL 23 yX10_feed := ⟨TB_mem 1265 (by decide +kernel) rfl, TB_mem 1266 (by decide +kernel) rfl, TB_mem 1267 (by decide +kernel) rfl⟩
theorem vl_L_24 : VL RL 24 yX9_text := ⟨TB_mem 538 (by decide +kernel) rfl, TB_mem 539 (by decide +kernel) rfl, TB_mem 540 (by decide +kernel) rfl⟩
theorem vl_L_28 : VL RL 28 yX10_text := ⟨TB_mem 1273 (by decide +kernel) rfl, TB_mem 1274 (by decide +kernel) rfl, TB_mem 1275 (by decide +kernel) rfl⟩
theorem vl_L_29 : VL RL 29 yX9_count := ⟨TB_mem 682 (by decide +kernel) rfl, TB_mem 683 (by decide +kernel) rfl, TB_mem 684 (by decide +kernel) rfl⟩
theorem vl_L_32 : VL RL 32 yX10_count := ⟨TB_mem 1431 (by decide +kernel) rfl, TB_mem 1432 (by decide +kernel) rfl, TB_mem 1433 (by decide +kernel) rfl⟩
theorem vl_L_43 : VL RL 43 yX9_resold := ⟨TB_mem 686 (by decide +kernel) rfl, TB_mem 687 (by decide +kernel) rfl, TB_mem 688 (by decide +kernel) rfl⟩
theorem vl_L_46 : VL RL 46 yX10_resold := ⟨TB_mem 1455 (by decide +kernel) rfl, TB_mem 1456 (by decide +kernel) rfl, TB_mem 1457 (by decide +kernel) rfl⟩
theorem vl_L_47 : VL RL 47 yX9_kin := ⟨TB_mem 694 (by decide +kernel) rfl, TB_mem 695 (by decide +kernel) rfl, TB_mem 696 (by decide +kernel) rfl⟩
theorem vl_L_50 : VL RL 50 yX10_kin := ⟨TB_mem 1460 (by decide +kernel) rfl, TB_mem 1461 (by decide +kernel) rfl, TB_mem 1462 (by decide +kernel) rfl⟩
theorem vl_L_51 : VL RL 51 yX9_like := ⟨TB_mem 757 (by decide +kernel) rfl, TB_mem 758 (by decide +kernel) rfl, TB_mem 759 (by decide +kernel) rfl⟩
theorem vl_L_54 : VL RL 54 yX10_like := ⟨TB_mem 1468 (by decide +kernel) rfl, TB_mem 1469 (by decide +kernel) rfl, TB_mem 1470 (by decide +kernel) rfl⟩
theorem vl_L_55 : VL RL 55 yX9_band := ⟨TB_mem 762 (by decide +kernel) rfl, TB_mem 763 (by decide +kernel) rfl, TB_mem 764 (by decide +kernel) rfl⟩
theorem vl_L_58 : VL RL 58 yX10_band := ⟨TB_mem 1480 (by decide +kernel) rfl, TB_mem 1481 (by decide +kernel) rfl, TB_mem 1482 (by decide +kernel) rfl⟩
theorem vl_L_59 : VL RL 59 yX9_assist := ⟨TB_mem 766 (by decide +kernel) rfl, TB_mem 767 (by decide +kernel) rfl, TB_mem 768 (by decide +kernel) rfl⟩
theorem vl_L_62 : VL RL 62 yX10_assist := ⟨TB_mem 1484 (by decide +kernel) rfl, TB_mem 1485 (by decide +kernel) rfl, TB_mem 1486 (by decide +kernel) rfl⟩
theorem vl_L_63 : VL RL 63 yX9_share := ⟨TB_mem 770 (by decide +kernel) rfl, TB_mem 771 (by decide +kernel) rfl, TB_mem 772 (by decide +kernel) rfl⟩
theorem vl_L_66 : VL RL 66 yX10_share := ⟨TB_mem 1492 (by decide +kernel) rfl, TB_mem 1493 (by decide +kernel) rfl, TB_mem 1494 (by decide +kernel) rfl⟩
theorem vl_L_67 : VL RL 67 yX9_rest := ⟨TB_mem 774 (by decide +kernel) rfl, TB_mem 775 (by decide +kernel) rfl, TB_mem 776 (by decide +kernel) rfl⟩
theorem vl_L_70 : VL RL 70 yX10_rest := ⟨TB_mem 1512 (by decide +kernel) rfl, TB_mem 1513 (by decide +kernel) rfl, TB_mem 1514 (by decide +kernel) rfl⟩
theorem vl_L_71 : VL RL 71 yX9_own := ⟨TB_mem 778 (by decide +kernel) rfl, TB_mem 779 (by decide +kernel) rfl, TB_mem 780 (by decide +kernel) rfl⟩
theorem vl_L_75 : VL RL 75 yX10_own := ⟨TB_mem 1516 (by decide +kernel) rfl, TB_mem 1517 (by decide +kernel) rfl, TB_mem 1518 (by decide +kernel) rfl⟩
theorem vl_L_76 : VL RL 76 yX9_by := ⟨TB_mem 783 (by decide +kernel) rfl, TB_mem 784 (by decide +kernel) rfl, TB_mem 785 (by decide +kernel) rfl⟩
theorem vl_L_80 : VL RL 80 yX10_by := ⟨TB_mem 1534 (by decide +kernel) rfl, TB_mem 1535 (by decide +kernel) rfl, TB_mem 1536 (by decide +kernel) rfl⟩
theorem vl_L_81 : VL RL 81 yX9_base := ⟨TB_mem 869 (by decide +kernel) rfl, TB_mem 870 (by decide +kernel) rfl, TB_mem 871 (by decide +kernel) rfl⟩
theorem vl_L_84 : VL RL 84 yX10_base := ⟨TB_mem 1619 (by decide +kernel) rfl, TB_mem 1620 (by decide +kernel) rfl, TB_mem 1621 (by decide +kernel) rfl⟩
theorem vl_L_85 : VL RL 85 yX9_worth := ⟨TB_mem 873 (by decide +kernel) rfl, TB_mem 874 (by decide +kernel) rfl, TB_mem 875 (by decide +kernel) rfl⟩
theorem vl_L_88 : VL RL 88 yX10_worth := ⟨TB_mem 1624 (by decide +kernel) rfl, TB_mem 1625 (by decide +kernel) rfl, TB_mem 1626 (by decide +kernel) rfl⟩
theorem vl_L_89 : VL RL 89 yX9_method := ⟨TB_mem 899 (by decide +kernel) rfl, TB_mem 900 (by decide +kernel) rfl, TB_mem 901 (by decide +kernel) rfl⟩
theorem vl_L_92 : VL RL 92 yX10_method := ⟨TB_mem 1639 (by decide +kernel) rfl, TB_mem 1640 (by decide +kernel) rfl, TB_mem 1641 (by decide +kernel) rfl⟩
theorem vl_L_93 : VL RL 93 yX9_why := ⟨TB_mem 903 (by decide +kernel) rfl, TB_mem 904 (by decide +kernel) rfl, TB_mem 905 (by decide +kernel) rfl⟩
theorem vl_L_96 : VL RL 96 yX10_why := ⟨TB_mem 1643 (by decide +kernel) rfl, TB_mem 1644 (by decide +kernel) rfl, TB_mem 1645 (by decide +kernel) rfl⟩
theorem vl_L_97 : VL RL 97 yX9_test := ⟨TB_mem 907 (by decide +kernel) rfl, TB_mem 908 (by decide +kernel) rfl, TB_mem 909 (by decide +kernel) rfl⟩
theorem vl_L_100 : VL RL 100 yX10_test := ⟨TB_mem 1647 (by decide +kernel) rfl, TB_mem 1648 (by decide +kernel) rfl, TB_mem 1649 (by decide +kernel) rfl⟩
theorem vl_L_101 : VL RL 101 yX9_passes := ⟨TB_mem 913 (by decide +kernel) rfl, TB_mem 914 (by decide +kernel) rfl, TB_mem 915 (by decide +kernel) rfl⟩
theorem vl_L_104 : VL RL 104 yX10_passes := ⟨TB_mem 1651 (by decide +kernel) rfl, TB_mem 1652 (by decide +kernel) rfl, TB_mem 1653 (by decide +kernel) rfl⟩
theorem vl_L_105 : VL RL 105 yX9_prices := ⟨TB_mem 918 (by decide +kernel) rfl, TB_mem 919 (by decide +kernel) rfl, TB_mem 920 (by decide +kernel) rfl⟩
theorem vl_L_108 : VL RL 108 yX10_prices := ⟨TB_mem 1655 (by decide +kernel) rfl, TB_mem 1656 (by decide +kernel) rfl, TB_mem 1657 (by decide +kernel) rfl⟩
theorem vl_L_109 : VL RL 109 yX9_needs := ⟨TB_mem 951 (by decide +kernel) rfl, TB_mem 952 (by decide +kernel) rfl, TB_mem 953 (by decide +kernel) rfl⟩
theorem vl_L_112 : VL RL 112 yX10_needs := ⟨TB_mem 1659 (by decide +kernel) rfl, TB_mem 1660 (by decide +kernel) rfl, TB_mem 1661 (by decide +kernel) rfl⟩
theorem vl_L_113 : VL RL 113 yX9_rests := ⟨TB_mem 966 (by decide +kernel) rfl, TB_mem 967 (by decide +kernel) rfl, TB_mem 968 (by decide +kernel) rfl⟩
theorem vl_L_116 : VL RL 116 yX10_rests := ⟨TB_mem 1663 (by decide +kernel) rfl, TB_mem 1664 (by decide +kernel) rfl, TB_mem 1665 (by decide +kernel) rfl⟩
theorem vl_L_117 : VL RL 117 yX9_turned := ⟨TB_mem 970 (by decide +kernel) rfl, TB_mem 971 (by decide +kernel) rfl, TB_mem 972 (by decide +kernel) rfl⟩
theorem vl_L_120 : VL RL 120 yX10_turned := ⟨TB_mem 1667 (by decide +kernel) rfl, TB_mem 1668 (by decide +kernel) rfl, TB_mem 1669 (by decide +kernel) rfl⟩
theorem vl_L_121 : VL RL 121 yX9_due := ⟨TB_mem 974 (by decide +kernel) rfl, TB_mem 975 (by decide +kernel) rfl, TB_mem 976 (by decide +kernel) rfl⟩
theorem vl_L_124 : VL RL 124 yX10_due := ⟨TB_mem 1671 (by decide +kernel) rfl, TB_mem 1672 (by decide +kernel) rfl, TB_mem 1673 (by decide +kernel) rfl⟩
theorem vl_L_125 : VL RL 125 yX9_dues := ⟨TB_mem 983 (by decide +kernel) rfl, TB_mem 984 (by decide +kernel) rfl, TB_mem 985 (by decide +kernel) rfl⟩
theorem vl_L_129 : VL RL 129 yX10_dues := ⟨TB_mem 1679 (by decide +kernel) rfl, TB_mem 1680 (by decide +kernel) rfl, TB_mem 1681 (by decide +kernel) rfl⟩
theorem vl_L_130 : VL RL 130 yX9_all := ⟨TB_mem 987 (by decide +kernel) rfl, TB_mem 988 (by decide +kernel) rfl, TB_mem 989 (by decide +kernel) rfl⟩
theorem vl_L_133 : VL RL 133 yX10_all := ⟨TB_mem 1683 (by decide +kernel) rfl, TB_mem 1684 (by decide +kernel) rfl, TB_mem 1685 (by decide +kernel) rfl⟩
theorem vl_L_134 : VL RL 134 yX9_report := ⟨TB_mem 991 (by decide +kernel) rfl, TB_mem 992 (by decide +kernel) rfl, TB_mem 993 (by decide +kernel) rfl⟩
theorem vl_L_137 : VL RL 137 yX10_report := ⟨TB_mem 1687 (by decide +kernel) rfl, TB_mem 1688 (by decide +kernel) rfl, TB_mem 1689 (by decide +kernel) rfl⟩
theorem vl_L_138 : VL RL 138 yX9_price := ⟨TB_mem 1025 (by decide +kernel) rfl, TB_mem 1026 (by decide +kernel) rfl, TB_mem 1027 (by decide +kernel) rfl⟩
theorem vl_L_141 : VL RL 141 yX10_price := ⟨TB_mem 1706 (by decide +kernel) rfl, TB_mem 1707 (by decide +kernel) rfl, TB_mem 1708 (by decide +kernel) rfl⟩
theorem vl_L_142 : VL RL 142 yX9_bind := ⟨TB_mem 1034 (by decide +kernel) rfl, TB_mem 1035 (by decide +kernel) rfl, TB_mem 1036 (by decide +kernel) rfl⟩
theorem vl_L_146 : VL RL 146 yX10_bind := ⟨TB_mem 1719 (by decide +kernel) rfl, TB_mem 1720 (by decide +kernel) rfl, TB_mem 1721 (by decide +kernel) rfl⟩
theorem vl_L_147 : VL RL 147 yX9_relate := ⟨TB_mem 1038 (by decide +kernel) rfl, TB_mem 1039 (by decide +kernel) rfl, TB_mem 1040 (by decide +kernel) rfl⟩
theorem vl_L_151 : VL RL 151 yX10_relate := ⟨TB_mem 1723 (by decide +kernel) rfl, TB_mem 1724 (by decide +kernel) rfl, TB_mem 1725 (by decide +kernel) rfl⟩
theorem vl_L_152 : VL RL 152 yX9_rule := ⟨TB_mem 1044 (by decide +kernel) rfl, TB_mem 1045 (by decide +kernel) rfl, TB_mem 1046 (by decide +kernel) rfl⟩
theorem vl_L_155 : VL RL 155 yX10_rule := ⟨TB_mem 1727 (by decide +kernel) rfl, TB_mem 1728 (by decide +kernel) rfl, TB_mem 1729 (by decide +kernel) rfl⟩
theorem vl_L_156 : VL RL 156 yX9_turn := ⟨TB_mem 1050 (by decide +kernel) rfl, TB_mem 1051 (by decide +kernel) rfl, TB_mem 1052 (by decide +kernel) rfl⟩
theorem vl_L_159 : VL RL 159 yX10_turn := ⟨TB_mem 1731 (by decide +kernel) rfl, TB_mem 1732 (by decide +kernel) rfl, TB_mem 1733 (by decide +kernel) rfl⟩
theorem vl_L_160 : VL RL 160 yX9_resell := ⟨TB_mem 1054 (by decide +kernel) rfl, TB_mem 1055 (by decide +kernel) rfl, TB_mem 1056 (by decide +kernel) rfl⟩
theorem vl_L_164 : VL RL 164 yX10_resell := ⟨TB_mem 1735 (by decide +kernel) rfl, TB_mem 1736 (by decide +kernel) rfl, TB_mem 1737 (by decide +kernel) rfl⟩
theorem vl_L_165 : VL RL 165 yX9_spread := ⟨TB_mem 1058 (by decide +kernel) rfl, TB_mem 1059 (by decide +kernel) rfl, TB_mem 1060 (by decide +kernel) rfl⟩
theorem vl_L_168 : VL RL 168 yX10_spread := ⟨TB_mem 1740 (by decide +kernel) rfl, TB_mem 1741 (by decide +kernel) rfl, TB_mem 1742 (by decide +kernel) rfl⟩
theorem vl_L_169 : VL RL 169 yX9_lessen := ⟨TB_mem 1062 (by decide +kernel) rfl, TB_mem 1063 (by decide +kernel) rfl, TB_mem 1064 (by decide +kernel) rfl⟩
theorem vl_L_172 : VL RL 172 yX10_lessen := ⟨TB_mem 1744 (by decide +kernel) rfl, TB_mem 1745 (by decide +kernel) rfl, TB_mem 1746 (by decide +kernel) rfl⟩
theorem vl_L_173 : VL RL 173 yX9_undo := ⟨TB_mem 1066 (by decide +kernel) rfl, TB_mem 1067 (by decide +kernel) rfl, TB_mem 1068 (by decide +kernel) rfl⟩
theorem vl_L_176 : VL RL 176 yX10_undo := ⟨TB_mem 1749 (by decide +kernel) rfl, TB_mem 1750 (by decide +kernel) rfl, TB_mem 1751 (by decide +kernel) rfl⟩
theorem vl_L_177 : VL RL 177 yX9_keep := ⟨TB_mem 1075 (by decide +kernel) rfl, TB_mem 1076 (by decide +kernel) rfl, TB_mem 1077 (by decide +kernel) rfl⟩
theorem vl_L_180 : VL RL 180 yX10_keep := ⟨TB_mem 1753 (by decide +kernel) rfl, TB_mem 1754 (by decide +kernel) rfl, TB_mem 1755 (by decide +kernel) rfl⟩
def SIM_feed (Inv : PH → Prop) (X M : Nat) : Prop := ∀ (h : PH) (c1 : Int32) (c2 : Int32) (c3 : Int32) (c4 : Int32) (c5 : Int32), Inv h → ∃ (r : Int32) (h1 h2 : PH), mX9_feed h X c1 c2 c3 c4 c5 = some (r, h1) ∧ mX10_feed h1 M c1 c2 c3 c4 c5 = some (r, h2) ∧ Inv h2
def SIM_text (Inv : PH → Prop) (X M : Nat) : Prop := ∀ (h : PH) (c1 : Int32), Inv h → ∃ (r : Int32) (h1 h2 : PH), mX9_text h X c1 = some (r, h1) ∧ mX10_text h1 M c1 = some (r, h2) ∧ Inv h2
def SIM_count (Inv : PH → Prop) (X M : Nat) : Prop := ∀ (h : PH) (c1 : Int32), Inv h → ∃ (r : Int32) (h1 h2 : PH), mX9_count h X c1 = some (r, h1) ∧ mX10_count h1 M c1 = some (r, h2) ∧ Inv h2
def SIM_resold (Inv : PH → Prop) (X M : Nat) : Prop := ∀ (h : PH) (c1 : Int32) (c2 : Int32), Inv h → ∃ (r : Int32) (h1 h2 : PH), mX9_resold h X c1 c2 = some (r, h1) ∧ mX10_resold h1 M c1 c2 = some (r, h2) ∧ Inv h2
def SIM_kin (Inv : PH → Prop) (X M : Nat) : Prop := ∀ (h : PH) (c1 : Int32) (c2 : Int32), Inv h → ∃ (r : Int32) (h1 h2 : PH), mX9_kin h X c1 c2 = some (r, h1) ∧ mX10_kin h1 M c1 c2 = some (r, h2) ∧ Inv h2
def SIM_like (Inv : PH → Prop) (X M : Nat) : Prop := ∀ (h : PH) (c1 : Int32) (c2 : Int32), Inv h → ∃ (r : Int32) (h1 h2 : PH), mX9_like h X c1 c2 = some (r, h1) ∧ mX10_like h1 M c1 c2 = some (r, h2) ∧ Inv h2
def SIM_band (Inv : PH → Prop) (X M : Nat) : Prop := ∀ (h : PH) (c1 : Int32) (c2 : Int32), Inv h → ∃ (r : Int32) (h1 h2 : PH), mX9_band h X c1 c2 = some (r, h1) ∧ mX10_band h1 M c1 c2 = some (r, h2) ∧ Inv h2
def SIM_assist (Inv : PH → Prop) (X M : Nat) : Prop := ∀ (h : PH) (c1 : Int32) (c2 : Int32), Inv h → ∃ (r : Int32) (h1 h2 : PH), mX9_assist h X c1 c2 = some (r, h1) ∧ mX10_assist h1 M c1 c2 = some (r, h2) ∧ Inv h2
def SIM_share (Inv : PH → Prop) (X M : Nat) : Prop := ∀ (h : PH) (c1 : Int32) (c2 : Int32), Inv h → ∃ (r : Int32) (h1 h2 : PH), mX9_share h X c1 c2 = some (r, h1) ∧ mX10_share h1 M c1 c2 = some (r, h2) ∧ Inv h2
def SIM_rest (Inv : PH → Prop) (X M : Nat) : Prop := ∀ (h : PH) (c1 : Int32), Inv h → ∃ (r : Int32) (h1 h2 : PH), mX9_rest h X c1 = some (r, h1) ∧ mX10_rest h1 M c1 = some (r, h2) ∧ Inv h2
def SIM_own (Inv : PH → Prop) (X M : Nat) : Prop := ∀ (h : PH) (c1 : Int32), Inv h → ∃ (r : Int64) (h1 h2 : PH), mX9_own h X c1 = some (r, h1) ∧ mX10_own h1 M c1 = some (r, h2) ∧ Inv h2
def SIM_by (Inv : PH → Prop) (X M : Nat) : Prop := ∀ (h : PH) (c1 : Int32) (c2 : Int32), Inv h → ∃ (r : Int64) (h1 h2 : PH), mX9_by h X c1 c2 = some (r, h1) ∧ mX10_by h1 M c1 c2 = some (r, h2) ∧ Inv h2
def SIM_base (Inv : PH → Prop) (X M : Nat) : Prop := ∀ (h : PH) (c1 : Int32) (c2 : Int32), Inv h → ∃ (r : Int32) (h1 h2 : PH), mX9_base h X c1 c2 = some (r, h1) ∧ mX10_base h1 M c1 c2 = some (r, h2) ∧ Inv h2
def SIM_worth (Inv : PH → Prop) (X M : Nat) : Prop := ∀ (h : PH) (c1 : Int32), Inv h → ∃ (r : Int64) (h1 h2 : PH), mX9_worth h X c1 = some (r, h1) ∧ mX10_worth h1 M c1 = some (r, h2) ∧ Inv h2
def SIM_method (Inv : PH → Prop) (X M : Nat) : Prop := ∀ (h : PH) (c1 : Int32), Inv h → ∃ (r : Int32) (h1 h2 : PH), mX9_method h X c1 = some (r, h1) ∧ mX10_method h1 M c1 = some (r, h2) ∧ Inv h2
def SIM_why (Inv : PH → Prop) (X M : Nat) : Prop := ∀ (h : PH) (c1 : Int32) (c2 : Int32), Inv h → ∃ (r : Int32) (h1 h2 : PH), mX9_why h X c1 c2 = some (r, h1) ∧ mX10_why h1 M c1 c2 = some (r, h2) ∧ Inv h2
def SIM_test (Inv : PH → Prop) (X M : Nat) : Prop := ∀ (h : PH) (c1 : Int32) (c2 : Int32), Inv h → ∃ (r : Int64) (h1 h2 : PH), mX9_test h X c1 c2 = some (r, h1) ∧ mX10_test h1 M c1 c2 = some (r, h2) ∧ Inv h2
def SIM_passes (Inv : PH → Prop) (X M : Nat) : Prop := ∀ (h : PH) (c1 : Int32), Inv h → ∃ (r : Int32) (h1 h2 : PH), mX9_passes h X c1 = some (r, h1) ∧ mX10_passes h1 M c1 = some (r, h2) ∧ Inv h2
def SIM_prices (Inv : PH → Prop) (X M : Nat) : Prop := ∀ (h : PH) (c1 : Int32) (c2 : Int32), Inv h → ∃ (r : Int32) (h1 h2 : PH), mX9_prices h X c1 c2 = some (r, h1) ∧ mX10_prices h1 M c1 c2 = some (r, h2) ∧ Inv h2
def SIM_needs (Inv : PH → Prop) (X M : Nat) : Prop := ∀ (h : PH) (c1 : Int32), Inv h → ∃ (r : Int32) (h1 h2 : PH), mX9_needs h X c1 = some (r, h1) ∧ mX10_needs h1 M c1 = some (r, h2) ∧ Inv h2
def SIM_rests (Inv : PH → Prop) (X M : Nat) : Prop := ∀ (h : PH) (c1 : Int32), Inv h → ∃ (r : Int32) (h1 h2 : PH), mX9_rests h X c1 = some (r, h1) ∧ mX10_rests h1 M c1 = some (r, h2) ∧ Inv h2
def SIM_turned (Inv : PH → Prop) (X M : Nat) : Prop := ∀ (h : PH) (c1 : Int32), Inv h → ∃ (r : Int64) (h1 h2 : PH), mX9_turned h X c1 = some (r, h1) ∧ mX10_turned h1 M c1 = some (r, h2) ∧ Inv h2
def SIM_due (Inv : PH → Prop) (X M : Nat) : Prop := ∀ (h : PH) (c1 : Int32), Inv h → ∃ (r : Int64) (h1 h2 : PH), mX9_due h X c1 = some (r, h1) ∧ mX10_due h1 M c1 = some (r, h2) ∧ Inv h2
def SIM_dues (Inv : PH → Prop) (X M : Nat) : Prop := ∀ (h : PH), Inv h → ∃ (r : Int64) (h1 h2 : PH), mX9_dues h X  = some (r, h1) ∧ mX10_dues h1 M  = some (r, h2) ∧ Inv h2
def SIM_all (Inv : PH → Prop) (X M : Nat) : Prop := ∀ (h : PH) (c1 : Int32), Inv h → ∃ (r : Int32) (h1 h2 : PH), mX9_all h X c1 = some (r, h1) ∧ mX10_all h1 M c1 = some (r, h2) ∧ Inv h2
def SIM_report (Inv : PH → Prop) (X M : Nat) : Prop := ∀ (h : PH) (c1 : Int32), Inv h → ∃ (r : Int32) (h1 h2 : PH), mX9_report h X c1 = some (r, h1) ∧ mX10_report h1 M c1 = some (r, h2) ∧ Inv h2
def SIM_price (Inv : PH → Prop) (X M : Nat) : Prop := ∀ (h : PH) (c1 : Int32) (c2 : Int32), Inv h → ∃ (r : Int32) (h1 h2 : PH), mX9_price h X c1 c2 = some (r, h1) ∧ mX10_price h1 M c1 c2 = some (r, h2) ∧ Inv h2
def SIM_bind (Inv : PH → Prop) (X M : Nat) : Prop := ∀ (h : PH) (c1 : Int32) (c2 : Int32), (c2 = 0 ∨ c2 = 1) → Inv h → ∃ (r : Int32) (h1 h2 : PH), mX9_bind h X c1 c2 = some (r, h1) ∧ mX10_bind h1 M c1 c2 = some (r, h2) ∧ Inv h2
def SIM_relate (Inv : PH → Prop) (X M : Nat) : Prop := ∀ (h : PH) (c1 : Int32) (c2 : Int32) (c3 : Int32), (c3 = 0 ∨ c3 = 1) → Inv h → ∃ (r : Int32) (h1 h2 : PH), mX9_relate h X c1 c2 c3 = some (r, h1) ∧ mX10_relate h1 M c1 c2 c3 = some (r, h2) ∧ Inv h2
def SIM_rule (Inv : PH → Prop) (X M : Nat) : Prop := ∀ (h : PH) (c1 : Int32) (c2 : Int32), Inv h → ∃ (r : Int32) (h1 h2 : PH), mX9_rule h X c1 c2 = some (r, h1) ∧ mX10_rule h1 M c1 c2 = some (r, h2) ∧ Inv h2
def SIM_turn (Inv : PH → Prop) (X M : Nat) : Prop := ∀ (h : PH), Inv h → ∃ (r : Int32) (h1 h2 : PH), mX9_turn h X  = some (r, h1) ∧ mX10_turn h1 M  = some (r, h2) ∧ Inv h2
def SIM_resell (Inv : PH → Prop) (X M : Nat) : Prop := ∀ (h : PH) (c1 : Int32) (c2 : Int32) (c3 : Int32) (c4 : Int32), Inv h → ∃ (r : Int32) (h1 h2 : PH), mX9_resell h X c1 c2 c3 c4 = some (r, h1) ∧ mX10_resell h1 M c1 c2 c3 c4 = some (r, h2) ∧ Inv h2
def SIM_spread (Inv : PH → Prop) (X M : Nat) : Prop := ∀ (h : PH) (c1 : Int32) (c2 : Int32), Inv h → ∃ (r : Int32) (h1 h2 : PH), mX9_spread h X c1 c2 = some (r, h1) ∧ mX10_spread h1 M c1 c2 = some (r, h2) ∧ Inv h2
def SIM_lessen (Inv : PH → Prop) (X M : Nat) : Prop := ∀ (h : PH) (c1 : Int32) (c2 : Int32), Inv h → ∃ (r : Int32) (h1 h2 : PH), mX9_lessen h X c1 c2 = some (r, h1) ∧ mX10_lessen h1 M c1 c2 = some (r, h2) ∧ Inv h2
def SIM_undo (Inv : PH → Prop) (X M : Nat) : Prop := ∀ (h : PH), Inv h → ∃ (r : Int32) (h1 h2 : PH), mX9_undo h X  = some (r, h1) ∧ mX10_undo h1 M  = some (r, h2) ∧ Inv h2
def SIM_keep (Inv : PH → Prop) (X M : Nat) : Prop := ∀ (h : PH) (c1 : Int32) (c2 : Int32), (c2 = 0 ∨ c2 = 1) → Inv h → ∃ (r : Int32) (h1 h2 : PH), mX9_keep h X c1 c2 = some (r, h1) ∧ mX10_keep h1 M c1 c2 = some (r, h2) ∧ Inv h2
section LK
variable {p : Program} {l : Launch} {e : Env} {s : State} {m : MethodId} {below : List Frame} {meth : Method} {c : Code} {g : GD} {b L : Nat} {xs : Nat → Int32} {Inv : PH → Prop} {X M O : Nat} {x4 : Int32}
theorem pg_Wi {R : Room} {args : Array Value} {H : Heap} {locs : List Loc} {cells slots : Nat} {Q : State → Prop} {cc : ByteArray} {pc : Nat} {ls : Array Slot} {rest : List Value} {own : String} {nL : Nat} {Ts : List Cond} {h h1 : PH} {r1 : Int32} {y : MethodName} {bytes : ByteArray} {maxL n index d a ci : Nat} {ret : Option FieldType} {q : vw_C} {As : List Value} {st : List Value} (C : CT g own cc nL Ts p s m args meth c) (hH : HS g s H locs h) (I : MI y bytes maxL n ret) (L : VL own index y) (hc : vwCl[ci]? = some q) (hq : q.1 = y.cls) (hO : isO h a ci = true) (hM : Met l y (Cond.code y bytes maxL ret :: TB) (rmD d 0 0) (PcH g (.ref (gB g + a) :: As) h) (QcI g r1 h1) 0 0 (aB g))
    (hst : st = As.reverse ++ .ref (gB g + a) :: rest) (hn : As.length = n) (hls : ls.size = nL) (hcat : (rest.map fun v => v.category).sum ≤ 8) (hR : d + 1 ≤ R.frames ∧ 8 + (maxL + 11) + 41 * d ≤ R.locals) (hcs : cells ≤ R.cells ∧ slots ≤ R.slots) (hdg : decode cc pc = .ok (.invokevirtual index, 3))
    (kq : ∀ (H : Heap) (locs : List Loc), HS g s H locs h1 → W p l e R s m args below meth c H locs cells slots Q (F0 m (pc + 3) ls (.int r1 :: rest))) : W p l e R s m args below meth c H locs cells slots Q (F0 m pc ls st) :=
  pg_Vi (o := some (r1, h1)) (kf := fun r h => some (r, h)) (rr := (r1, h1)) C hH I L hc hq rfl (fun _ _ => hO) (fun r2 h2 e9 => by cases e9; exact hM) hst hn hls hcat hR hcs hdg (fun H locs r2 h2 hH e9 => by cases e9; exact kq H locs hH)
theorem pg_Wl {R : Room} {args : Array Value} {H : Heap} {locs : List Loc} {cells slots : Nat} {Q : State → Prop} {cc : ByteArray} {pc : Nat} {ls : Array Slot} {rest : List Value} {own : String} {nL : Nat} {Ts : List Cond} {h h1 : PH} {r1 : Int64} {y : MethodName} {bytes : ByteArray} {maxL n index d a ci : Nat} {ret : Option FieldType} {q : vw_C} {As : List Value} {st : List Value} (C : CT g own cc nL Ts p s m args meth c) (hH : HS g s H locs h) (I : MI y bytes maxL n ret) (L : VL own index y) (hc : vwCl[ci]? = some q) (hq : q.1 = y.cls) (hO : isO h a ci = true) (hM : Met l y (Cond.code y bytes maxL ret :: TB) (rmD d 0 0) (PcH g (.ref (gB g + a) :: As) h) (QcL g r1 h1) 0 0 (aB g))
    (hst : st = As.reverse ++ .ref (gB g + a) :: rest) (hn : As.length = n) (hls : ls.size = nL) (hcat : (rest.map fun v => v.category).sum ≤ 8) (hR : d + 1 ≤ R.frames ∧ 8 + (maxL + 11) + 41 * d ≤ R.locals) (hcs : cells ≤ R.cells ∧ slots ≤ R.slots) (hdg : decode cc pc = .ok (.invokevirtual index, 3))
    (kq : ∀ (H : Heap) (locs : List Loc), HS g s H locs h1 → W p l e R s m args below meth c H locs cells slots Q (F0 m (pc + 3) ls (.long r1 :: rest))) : W p l e R s m args below meth c H locs cells slots Q (F0 m pc ls st) :=
  pg_Vl (o := some (r1, h1)) (kf := fun r h => some (r, h)) (rr := (r1, h1)) C hH I L hc hq rfl (fun _ _ => hO) (fun r2 h2 e9 => by cases e9; exact hM) hst hn hls hcat hR hcs hdg (fun H locs r2 h2 hH e9 => by cases e9; exact kq H locs hH)

set_option maxHeartbeats 4000000 in
set_option maxRecDepth 100000 in
theorem lk_0 (C : CT g RL cL_law 7 lw_tbl p s m #[.ref b] meth c) (hX : va_X b L xs s s.heap) (hbl : b < s.heap.size) (hbA : ¬ gB g ≤ b) (hin : ∀ k : Int32, 0 ≤ k.toInt → k.toInt < 6 → vp_in (x4 + k) L) (S : SIM_feed Inv X M) {cells slots : Nat} (hcs : cells + 1 ≤ room_1.cells ∧ slots + 6 ≤ room_1.slots) (K : ∀ {h : PH} {H : Heap} {locs : List Loc} {ls : Array Slot}, Inv h → HS g s H locs h → lv_has ls 7 [(0, .ref b), (1, .ref (gB g + X)), (2, .ref (gB g + M)), (3, .ref (gB g + O)), (4, .int x4)] → W p l e room_1 s m #[.ref b] below meth c H locs (cells + 1) (slots + 6) (lw_Z below #[.ref b] s) (F0 m 1503 ls [])) {h : PH} {H : Heap} {locs : List Loc} {ls : Array Slot} (hI : Inv h) (hH : HS g s H locs h) (hl : lv_has ls 7 [(0, .ref b), (1, .ref (gB g + X)), (2, .ref (gB g + M)), (3, .ref (gB g + O)), (4, .int x4)]) : W p l e room_1 s m #[.ref b] below meth c H locs cells slots (lw_Z below #[.ref b] s) (F0 m 204 ls []) := by
  obtain ⟨⟨hx, hb, hml, hown, hts⟩, htb, hlk, hkk, hbs⟩ := id C
  refine lv_aload_n hx hb dL_law_204 rfl (lv_at hl 1 rfl) ?_
  refine lv_aload_n hx hb dL_law_205 rfl (lv_at hl 0 rfl) ?_
  refine lv_iload hx hb dL_law_206 (lv_at hl 4 rfl) ?_
  refine lv_iconst (v := (1 : Int32)) hx hb dL_law_208 (by decide) ?_
  refine lv_iadd hx hb dL_law_209 ?_
  refine va_sld hx hb hX hbl hbA hH.2 (hin (1 : Int32) (by decide) (by decide)) dL_law_210 ?_
  refine lv_aload_n hx hb dL_law_211 rfl (lv_at hl 0 rfl) ?_
  refine lv_iload hx hb dL_law_212 (lv_at hl 4 rfl) ?_
  refine lv_iconst (v := (2 : Int32)) hx hb dL_law_214 (by decide) ?_
  refine lv_iadd hx hb dL_law_215 ?_
  refine va_sld hx hb hX hbl hbA hH.2 (hin (2 : Int32) (by decide) (by decide)) dL_law_216 ?_
  refine lv_aload_n hx hb dL_law_217 rfl (lv_at hl 0 rfl) ?_
  refine lv_iload hx hb dL_law_218 (lv_at hl 4 rfl) ?_
  refine lv_iconst (v := (3 : Int32)) hx hb dL_law_220 (by decide) ?_
  refine lv_iadd hx hb dL_law_221 ?_
  refine va_sld hx hb hX hbl hbA hH.2 (hin (3 : Int32) (by decide) (by decide)) dL_law_222 ?_
  refine lv_aload_n hx hb dL_law_223 rfl (lv_at hl 0 rfl) ?_
  refine lv_iload hx hb dL_law_224 (lv_at hl 4 rfl) ?_
  refine lv_iconst (v := (4 : Int32)) hx hb dL_law_226 (by decide) ?_
  refine lv_iadd hx hb dL_law_227 ?_
  refine va_sld hx hb hX hbl hbA hH.2 (hin (4 : Int32) (by decide) (by decide)) dL_law_228 ?_
  refine lv_aload_n hx hb dL_law_229 rfl (lv_at hl 0 rfl) ?_
  refine lv_iload hx hb dL_law_230 (lv_at hl 4 rfl) ?_
  refine lv_iconst (v := (5 : Int32)) hx hb dL_law_232 (by decide) ?_
  refine lv_iadd hx hb dL_law_233 ?_
  refine va_sld hx hb hX hbl hbA hH.2 (hin (5 : Int32) (by decide) (by decide)) dL_law_234 ?_
  obtain ⟨r, h1, h2, e1, e2, hI⟩ := S h (xs (x4 + (1 : Int32)).toNatClampNeg) (xs (x4 + (2 : Int32)).toNatClampNeg) (xs (x4 + (3 : Int32)).toNatClampNeg) (xs (x4 + (4 : Int32)).toNatClampNeg) (xs (x4 + (5 : Int32)).toNatClampNeg) hI
  refine pg_Wi (As := [.int (xs (x4 + (1 : Int32)).toNatClampNeg), .int (xs (x4 + (2 : Int32)).toNatClampNeg), .int (xs (x4 + (3 : Int32)).toNatClampNeg), .int (xs (x4 + (4 : Int32)).toNatClampNeg), .int (xs (x4 + (5 : Int32)).toNatClampNeg)]) C hH mi_X9_feed vl_L_19 (q := (RX9, TX9, 11)) (ci := 9) rfl rfl (oO_sp e1).1 (c_X9_feed e1) rfl rfl hl.1 (Nat.le_of_ble_eq_true rfl) ⟨Nat.le_of_ble_eq_true rfl, Nat.le_of_ble_eq_true rfl⟩ ⟨Nat.le_of_succ_le hcs.1, Nat.le_trans (Nat.le_add_right _ _) hcs.2⟩ dL_law_235 (fun H locs hH => ?_)
  refine lv_aload_n hx hb dL_law_238 rfl (lv_at hl 2 rfl) ?_
  refine lv_aload_n hx hb dL_law_239 rfl (lv_at hl 0 rfl) ?_
  refine lv_iload hx hb dL_law_240 (lv_at hl 4 rfl) ?_
  refine lv_iconst (v := (1 : Int32)) hx hb dL_law_242 (by decide) ?_
  refine lv_iadd hx hb dL_law_243 ?_
  refine va_sld hx hb hX hbl hbA hH.2 (hin (1 : Int32) (by decide) (by decide)) dL_law_244 ?_
  refine lv_aload_n hx hb dL_law_245 rfl (lv_at hl 0 rfl) ?_
  refine lv_iload hx hb dL_law_246 (lv_at hl 4 rfl) ?_
  refine lv_iconst (v := (2 : Int32)) hx hb dL_law_248 (by decide) ?_
  refine lv_iadd hx hb dL_law_249 ?_
  refine va_sld hx hb hX hbl hbA hH.2 (hin (2 : Int32) (by decide) (by decide)) dL_law_250 ?_
  refine lv_aload_n hx hb dL_law_251 rfl (lv_at hl 0 rfl) ?_
  refine lv_iload hx hb dL_law_252 (lv_at hl 4 rfl) ?_
  refine lv_iconst (v := (3 : Int32)) hx hb dL_law_254 (by decide) ?_
  refine lv_iadd hx hb dL_law_255 ?_
  refine va_sld hx hb hX hbl hbA hH.2 (hin (3 : Int32) (by decide) (by decide)) dL_law_256 ?_
  refine lv_aload_n hx hb dL_law_257 rfl (lv_at hl 0 rfl) ?_
  refine lv_iload hx hb dL_law_258 (lv_at hl 4 rfl) ?_
  refine lv_iconst (v := (4 : Int32)) hx hb dL_law_260 (by decide) ?_
  refine lv_iadd hx hb dL_law_261 ?_
  refine va_sld hx hb hX hbl hbA hH.2 (hin (4 : Int32) (by decide) (by decide)) dL_law_262 ?_
  refine lv_aload_n hx hb dL_law_263 rfl (lv_at hl 0 rfl) ?_
  refine lv_iload hx hb dL_law_264 (lv_at hl 4 rfl) ?_
  refine lv_iconst (v := (5 : Int32)) hx hb dL_law_266 (by decide) ?_
  refine lv_iadd hx hb dL_law_267 ?_
  refine va_sld hx hb hX hbl hbA hH.2 (hin (5 : Int32) (by decide) (by decide)) dL_law_268 ?_
  refine pg_Wi (As := [.int (xs (x4 + (1 : Int32)).toNatClampNeg), .int (xs (x4 + (2 : Int32)).toNatClampNeg), .int (xs (x4 + (3 : Int32)).toNatClampNeg), .int (xs (x4 + (4 : Int32)).toNatClampNeg), .int (xs (x4 + (5 : Int32)).toNatClampNeg)]) C hH mi_X10_feed vl_L_23 (q := (RX10, TX10, 34)) (ci := 10) rfl rfl (oO_sp e2).1 (c_X10_feed e2) rfl rfl hl.1 (Nat.le_of_ble_eq_true rfl) ⟨Nat.le_of_ble_eq_true rfl, Nat.le_of_ble_eq_true rfl⟩ ⟨Nat.le_of_succ_le hcs.1, Nat.le_trans (Nat.le_add_right _ _) hcs.2⟩ dL_law_269 (fun H locs hH => ?_)
  refine lv_icmp_eq (tgt := 1503) hx hb dL_law_272 (by decide) (fun cn => ?_) (fun cn => absurd rfl cn)
  refine W.widen (k := cells + 1) (n := slots + 6) (Nat.le_succ _) (Nat.le_add_right _ _) ?_
  exact K hI hH hl
set_option maxHeartbeats 4000000 in
set_option maxRecDepth 100000 in
theorem lk_1 (C : CT g RL cL_law 7 lw_tbl p s m #[.ref b] meth c) (hX : va_X b L xs s s.heap) (hbl : b < s.heap.size) (hbA : ¬ gB g ≤ b) (hin : ∀ k : Int32, 0 ≤ k.toInt → k.toInt < 6 → vp_in (x4 + k) L) (S : SIM_text Inv X M) {cells slots : Nat} (hcs : cells + 1 ≤ room_1.cells ∧ slots + 6 ≤ room_1.slots) (K : ∀ {h : PH} {H : Heap} {locs : List Loc} {ls : Array Slot}, Inv h → HS g s H locs h → lv_has ls 7 [(0, .ref b), (1, .ref (gB g + X)), (2, .ref (gB g + M)), (3, .ref (gB g + O)), (4, .int x4)] → W p l e room_1 s m #[.ref b] below meth c H locs (cells + 1) (slots + 6) (lw_Z below #[.ref b] s) (F0 m 1503 ls [])) {h : PH} {H : Heap} {locs : List Loc} {ls : Array Slot} (hI : Inv h) (hH : HS g s H locs h) (hl : lv_has ls 7 [(0, .ref b), (1, .ref (gB g + X)), (2, .ref (gB g + M)), (3, .ref (gB g + O)), (4, .int x4)]) : W p l e room_1 s m #[.ref b] below meth c H locs cells slots (lw_Z below #[.ref b] s) (F0 m 277 ls []) := by
  obtain ⟨⟨hx, hb, hml, hown, hts⟩, htb, hlk, hkk, hbs⟩ := id C
  refine lv_aload_n hx hb dL_law_277 rfl (lv_at hl 1 rfl) ?_
  refine lv_aload_n hx hb dL_law_278 rfl (lv_at hl 0 rfl) ?_
  refine lv_iload hx hb dL_law_279 (lv_at hl 4 rfl) ?_
  refine lv_iconst (v := (1 : Int32)) hx hb dL_law_281 (by decide) ?_
  refine lv_iadd hx hb dL_law_282 ?_
  refine va_sld hx hb hX hbl hbA hH.2 (hin (1 : Int32) (by decide) (by decide)) dL_law_283 ?_
  obtain ⟨r, h1, h2, e1, e2, hI⟩ := S h (xs (x4 + (1 : Int32)).toNatClampNeg) hI
  refine pg_Wi (As := [.int (xs (x4 + (1 : Int32)).toNatClampNeg)]) C hH mi_X9_text vl_L_24 (q := (RX9, TX9, 11)) (ci := 9) rfl rfl (oO_sp e1).1 (c_X9_text e1) rfl rfl hl.1 (Nat.le_of_ble_eq_true rfl) ⟨Nat.le_of_ble_eq_true rfl, Nat.le_of_ble_eq_true rfl⟩ ⟨Nat.le_of_succ_le hcs.1, Nat.le_trans (Nat.le_add_right _ _) hcs.2⟩ dL_law_284 (fun H locs hH => ?_)
  refine lv_aload_n hx hb dL_law_287 rfl (lv_at hl 2 rfl) ?_
  refine lv_aload_n hx hb dL_law_288 rfl (lv_at hl 0 rfl) ?_
  refine lv_iload hx hb dL_law_289 (lv_at hl 4 rfl) ?_
  refine lv_iconst (v := (1 : Int32)) hx hb dL_law_291 (by decide) ?_
  refine lv_iadd hx hb dL_law_292 ?_
  refine va_sld hx hb hX hbl hbA hH.2 (hin (1 : Int32) (by decide) (by decide)) dL_law_293 ?_
  refine pg_Wi (As := [.int (xs (x4 + (1 : Int32)).toNatClampNeg)]) C hH mi_X10_text vl_L_28 (q := (RX10, TX10, 34)) (ci := 10) rfl rfl (oO_sp e2).1 (c_X10_text e2) rfl rfl hl.1 (Nat.le_of_ble_eq_true rfl) ⟨Nat.le_of_ble_eq_true rfl, Nat.le_of_ble_eq_true rfl⟩ ⟨Nat.le_of_succ_le hcs.1, Nat.le_trans (Nat.le_add_right _ _) hcs.2⟩ dL_law_294 (fun H locs hH => ?_)
  refine lv_icmp_eq (tgt := 1503) hx hb dL_law_297 (by decide) (fun cn => ?_) (fun cn => absurd rfl cn)
  refine W.widen (k := cells + 1) (n := slots + 6) (Nat.le_succ _) (Nat.le_add_right _ _) ?_
  exact K hI hH hl
set_option maxHeartbeats 4000000 in
set_option maxRecDepth 100000 in
theorem lk_2 (C : CT g RL cL_law 7 lw_tbl p s m #[.ref b] meth c) (hX : va_X b L xs s s.heap) (hbl : b < s.heap.size) (hbA : ¬ gB g ≤ b) (hin : ∀ k : Int32, 0 ≤ k.toInt → k.toInt < 6 → vp_in (x4 + k) L) (S : SIM_count Inv X M) {cells slots : Nat} (hcs : cells + 1 ≤ room_1.cells ∧ slots + 6 ≤ room_1.slots) (K : ∀ {h : PH} {H : Heap} {locs : List Loc} {ls : Array Slot}, Inv h → HS g s H locs h → lv_has ls 7 [(0, .ref b), (1, .ref (gB g + X)), (2, .ref (gB g + M)), (3, .ref (gB g + O)), (4, .int x4)] → W p l e room_1 s m #[.ref b] below meth c H locs (cells + 1) (slots + 6) (lw_Z below #[.ref b] s) (F0 m 1503 ls [])) {h : PH} {H : Heap} {locs : List Loc} {ls : Array Slot} (hI : Inv h) (hH : HS g s H locs h) (hl : lv_has ls 7 [(0, .ref b), (1, .ref (gB g + X)), (2, .ref (gB g + M)), (3, .ref (gB g + O)), (4, .int x4)]) : W p l e room_1 s m #[.ref b] below meth c H locs cells slots (lw_Z below #[.ref b] s) (F0 m 302 ls []) := by
  obtain ⟨⟨hx, hb, hml, hown, hts⟩, htb, hlk, hkk, hbs⟩ := id C
  refine lv_aload_n hx hb dL_law_302 rfl (lv_at hl 1 rfl) ?_
  refine lv_aload_n hx hb dL_law_303 rfl (lv_at hl 0 rfl) ?_
  refine lv_iload hx hb dL_law_304 (lv_at hl 4 rfl) ?_
  refine lv_iconst (v := (1 : Int32)) hx hb dL_law_306 (by decide) ?_
  refine lv_iadd hx hb dL_law_307 ?_
  refine va_sld hx hb hX hbl hbA hH.2 (hin (1 : Int32) (by decide) (by decide)) dL_law_308 ?_
  obtain ⟨r, h1, h2, e1, e2, hI⟩ := S h (xs (x4 + (1 : Int32)).toNatClampNeg) hI
  refine pg_Wi (As := [.int (xs (x4 + (1 : Int32)).toNatClampNeg)]) C hH mi_X9_count vl_L_29 (q := (RX9, TX9, 11)) (ci := 9) rfl rfl (oO_sp e1).1 (c_X9_count e1) rfl rfl hl.1 (Nat.le_of_ble_eq_true rfl) ⟨Nat.le_of_ble_eq_true rfl, Nat.le_of_ble_eq_true rfl⟩ ⟨Nat.le_of_succ_le hcs.1, Nat.le_trans (Nat.le_add_right _ _) hcs.2⟩ dL_law_309 (fun H locs hH => ?_)
  refine lv_aload_n hx hb dL_law_312 rfl (lv_at hl 2 rfl) ?_
  refine lv_aload_n hx hb dL_law_313 rfl (lv_at hl 0 rfl) ?_
  refine lv_iload hx hb dL_law_314 (lv_at hl 4 rfl) ?_
  refine lv_iconst (v := (1 : Int32)) hx hb dL_law_316 (by decide) ?_
  refine lv_iadd hx hb dL_law_317 ?_
  refine va_sld hx hb hX hbl hbA hH.2 (hin (1 : Int32) (by decide) (by decide)) dL_law_318 ?_
  refine pg_Wi (As := [.int (xs (x4 + (1 : Int32)).toNatClampNeg)]) C hH mi_X10_count vl_L_32 (q := (RX10, TX10, 34)) (ci := 10) rfl rfl (oO_sp e2).1 (c_X10_count e2) rfl rfl hl.1 (Nat.le_of_ble_eq_true rfl) ⟨Nat.le_of_ble_eq_true rfl, Nat.le_of_ble_eq_true rfl⟩ ⟨Nat.le_of_succ_le hcs.1, Nat.le_trans (Nat.le_add_right _ _) hcs.2⟩ dL_law_319 (fun H locs hH => ?_)
  refine lv_icmp_eq (tgt := 1503) hx hb dL_law_322 (by decide) (fun cn => ?_) (fun cn => absurd rfl cn)
  refine W.widen (k := cells + 1) (n := slots + 6) (Nat.le_succ _) (Nat.le_add_right _ _) ?_
  exact K hI hH hl
set_option maxHeartbeats 4000000 in
set_option maxRecDepth 100000 in
theorem lk_4 (C : CT g RL cL_law 7 lw_tbl p s m #[.ref b] meth c) (hX : va_X b L xs s s.heap) (hbl : b < s.heap.size) (hbA : ¬ gB g ≤ b) (hin : ∀ k : Int32, 0 ≤ k.toInt → k.toInt < 6 → vp_in (x4 + k) L) (S : SIM_resold Inv X M) {cells slots : Nat} (hcs : cells + 1 ≤ room_1.cells ∧ slots + 6 ≤ room_1.slots) (K : ∀ {h : PH} {H : Heap} {locs : List Loc} {ls : Array Slot}, Inv h → HS g s H locs h → lv_has ls 7 [(0, .ref b), (1, .ref (gB g + X)), (2, .ref (gB g + M)), (3, .ref (gB g + O)), (4, .int x4)] → W p l e room_1 s m #[.ref b] below meth c H locs (cells + 1) (slots + 6) (lw_Z below #[.ref b] s) (F0 m 1503 ls [])) {h : PH} {H : Heap} {locs : List Loc} {ls : Array Slot} (hI : Inv h) (hH : HS g s H locs h) (hl : lv_has ls 7 [(0, .ref b), (1, .ref (gB g + X)), (2, .ref (gB g + M)), (3, .ref (gB g + O)), (4, .int x4)]) : W p l e room_1 s m #[.ref b] below meth c H locs cells slots (lw_Z below #[.ref b] s) (F0 m 395 ls []) := by
  obtain ⟨⟨hx, hb, hml, hown, hts⟩, htb, hlk, hkk, hbs⟩ := id C
  refine lv_aload_n hx hb dL_law_395 rfl (lv_at hl 1 rfl) ?_
  refine lv_aload_n hx hb dL_law_396 rfl (lv_at hl 0 rfl) ?_
  refine lv_iload hx hb dL_law_397 (lv_at hl 4 rfl) ?_
  refine lv_iconst (v := (1 : Int32)) hx hb dL_law_399 (by decide) ?_
  refine lv_iadd hx hb dL_law_400 ?_
  refine va_sld hx hb hX hbl hbA hH.2 (hin (1 : Int32) (by decide) (by decide)) dL_law_401 ?_
  refine lv_aload_n hx hb dL_law_402 rfl (lv_at hl 0 rfl) ?_
  refine lv_iload hx hb dL_law_403 (lv_at hl 4 rfl) ?_
  refine lv_iconst (v := (2 : Int32)) hx hb dL_law_405 (by decide) ?_
  refine lv_iadd hx hb dL_law_406 ?_
  refine va_sld hx hb hX hbl hbA hH.2 (hin (2 : Int32) (by decide) (by decide)) dL_law_407 ?_
  obtain ⟨r, h1, h2, e1, e2, hI⟩ := S h (xs (x4 + (1 : Int32)).toNatClampNeg) (xs (x4 + (2 : Int32)).toNatClampNeg) hI
  refine pg_Wi (As := [.int (xs (x4 + (1 : Int32)).toNatClampNeg), .int (xs (x4 + (2 : Int32)).toNatClampNeg)]) C hH mi_X9_resold vl_L_43 (q := (RX9, TX9, 11)) (ci := 9) rfl rfl (oO_sp e1).1 (c_X9_resold e1) rfl rfl hl.1 (Nat.le_of_ble_eq_true rfl) ⟨Nat.le_of_ble_eq_true rfl, Nat.le_of_ble_eq_true rfl⟩ ⟨Nat.le_of_succ_le hcs.1, Nat.le_trans (Nat.le_add_right _ _) hcs.2⟩ dL_law_408 (fun H locs hH => ?_)
  refine lv_aload_n hx hb dL_law_411 rfl (lv_at hl 2 rfl) ?_
  refine lv_aload_n hx hb dL_law_412 rfl (lv_at hl 0 rfl) ?_
  refine lv_iload hx hb dL_law_413 (lv_at hl 4 rfl) ?_
  refine lv_iconst (v := (1 : Int32)) hx hb dL_law_415 (by decide) ?_
  refine lv_iadd hx hb dL_law_416 ?_
  refine va_sld hx hb hX hbl hbA hH.2 (hin (1 : Int32) (by decide) (by decide)) dL_law_417 ?_
  refine lv_aload_n hx hb dL_law_418 rfl (lv_at hl 0 rfl) ?_
  refine lv_iload hx hb dL_law_419 (lv_at hl 4 rfl) ?_
  refine lv_iconst (v := (2 : Int32)) hx hb dL_law_421 (by decide) ?_
  refine lv_iadd hx hb dL_law_422 ?_
  refine va_sld hx hb hX hbl hbA hH.2 (hin (2 : Int32) (by decide) (by decide)) dL_law_423 ?_
  refine pg_Wi (As := [.int (xs (x4 + (1 : Int32)).toNatClampNeg), .int (xs (x4 + (2 : Int32)).toNatClampNeg)]) C hH mi_X10_resold vl_L_46 (q := (RX10, TX10, 34)) (ci := 10) rfl rfl (oO_sp e2).1 (c_X10_resold e2) rfl rfl hl.1 (Nat.le_of_ble_eq_true rfl) ⟨Nat.le_of_ble_eq_true rfl, Nat.le_of_ble_eq_true rfl⟩ ⟨Nat.le_of_succ_le hcs.1, Nat.le_trans (Nat.le_add_right _ _) hcs.2⟩ dL_law_424 (fun H locs hH => ?_)
  refine lv_icmp_eq (tgt := 1503) hx hb dL_law_427 (by decide) (fun cn => ?_) (fun cn => absurd rfl cn)
  refine W.widen (k := cells + 1) (n := slots + 6) (Nat.le_succ _) (Nat.le_add_right _ _) ?_
  exact K hI hH hl
set_option maxHeartbeats 4000000 in
set_option maxRecDepth 100000 in
theorem lk_5 (C : CT g RL cL_law 7 lw_tbl p s m #[.ref b] meth c) (hX : va_X b L xs s s.heap) (hbl : b < s.heap.size) (hbA : ¬ gB g ≤ b) (hin : ∀ k : Int32, 0 ≤ k.toInt → k.toInt < 6 → vp_in (x4 + k) L) (S : SIM_kin Inv X M) {cells slots : Nat} (hcs : cells + 1 ≤ room_1.cells ∧ slots + 6 ≤ room_1.slots) (K : ∀ {h : PH} {H : Heap} {locs : List Loc} {ls : Array Slot}, Inv h → HS g s H locs h → lv_has ls 7 [(0, .ref b), (1, .ref (gB g + X)), (2, .ref (gB g + M)), (3, .ref (gB g + O)), (4, .int x4)] → W p l e room_1 s m #[.ref b] below meth c H locs (cells + 1) (slots + 6) (lw_Z below #[.ref b] s) (F0 m 1503 ls [])) {h : PH} {H : Heap} {locs : List Loc} {ls : Array Slot} (hI : Inv h) (hH : HS g s H locs h) (hl : lv_has ls 7 [(0, .ref b), (1, .ref (gB g + X)), (2, .ref (gB g + M)), (3, .ref (gB g + O)), (4, .int x4)]) : W p l e room_1 s m #[.ref b] below meth c H locs cells slots (lw_Z below #[.ref b] s) (F0 m 432 ls []) := by
  obtain ⟨⟨hx, hb, hml, hown, hts⟩, htb, hlk, hkk, hbs⟩ := id C
  refine lv_aload_n hx hb dL_law_432 rfl (lv_at hl 1 rfl) ?_
  refine lv_aload_n hx hb dL_law_433 rfl (lv_at hl 0 rfl) ?_
  refine lv_iload hx hb dL_law_434 (lv_at hl 4 rfl) ?_
  refine lv_iconst (v := (1 : Int32)) hx hb dL_law_436 (by decide) ?_
  refine lv_iadd hx hb dL_law_437 ?_
  refine va_sld hx hb hX hbl hbA hH.2 (hin (1 : Int32) (by decide) (by decide)) dL_law_438 ?_
  refine lv_aload_n hx hb dL_law_439 rfl (lv_at hl 0 rfl) ?_
  refine lv_iload hx hb dL_law_440 (lv_at hl 4 rfl) ?_
  refine lv_iconst (v := (2 : Int32)) hx hb dL_law_442 (by decide) ?_
  refine lv_iadd hx hb dL_law_443 ?_
  refine va_sld hx hb hX hbl hbA hH.2 (hin (2 : Int32) (by decide) (by decide)) dL_law_444 ?_
  obtain ⟨r, h1, h2, e1, e2, hI⟩ := S h (xs (x4 + (1 : Int32)).toNatClampNeg) (xs (x4 + (2 : Int32)).toNatClampNeg) hI
  refine pg_Wi (As := [.int (xs (x4 + (1 : Int32)).toNatClampNeg), .int (xs (x4 + (2 : Int32)).toNatClampNeg)]) C hH mi_X9_kin vl_L_47 (q := (RX9, TX9, 11)) (ci := 9) rfl rfl (oO_sp e1).1 (c_X9_kin e1) rfl rfl hl.1 (Nat.le_of_ble_eq_true rfl) ⟨Nat.le_of_ble_eq_true rfl, Nat.le_of_ble_eq_true rfl⟩ ⟨Nat.le_of_succ_le hcs.1, Nat.le_trans (Nat.le_add_right _ _) hcs.2⟩ dL_law_445 (fun H locs hH => ?_)
  refine lv_aload_n hx hb dL_law_448 rfl (lv_at hl 2 rfl) ?_
  refine lv_aload_n hx hb dL_law_449 rfl (lv_at hl 0 rfl) ?_
  refine lv_iload hx hb dL_law_450 (lv_at hl 4 rfl) ?_
  refine lv_iconst (v := (1 : Int32)) hx hb dL_law_452 (by decide) ?_
  refine lv_iadd hx hb dL_law_453 ?_
  refine va_sld hx hb hX hbl hbA hH.2 (hin (1 : Int32) (by decide) (by decide)) dL_law_454 ?_
  refine lv_aload_n hx hb dL_law_455 rfl (lv_at hl 0 rfl) ?_
  refine lv_iload hx hb dL_law_456 (lv_at hl 4 rfl) ?_
  refine lv_iconst (v := (2 : Int32)) hx hb dL_law_458 (by decide) ?_
  refine lv_iadd hx hb dL_law_459 ?_
  refine va_sld hx hb hX hbl hbA hH.2 (hin (2 : Int32) (by decide) (by decide)) dL_law_460 ?_
  refine pg_Wi (As := [.int (xs (x4 + (1 : Int32)).toNatClampNeg), .int (xs (x4 + (2 : Int32)).toNatClampNeg)]) C hH mi_X10_kin vl_L_50 (q := (RX10, TX10, 34)) (ci := 10) rfl rfl (oO_sp e2).1 (c_X10_kin e2) rfl rfl hl.1 (Nat.le_of_ble_eq_true rfl) ⟨Nat.le_of_ble_eq_true rfl, Nat.le_of_ble_eq_true rfl⟩ ⟨Nat.le_of_succ_le hcs.1, Nat.le_trans (Nat.le_add_right _ _) hcs.2⟩ dL_law_461 (fun H locs hH => ?_)
  refine lv_icmp_eq (tgt := 1503) hx hb dL_law_464 (by decide) (fun cn => ?_) (fun cn => absurd rfl cn)
  refine W.widen (k := cells + 1) (n := slots + 6) (Nat.le_succ _) (Nat.le_add_right _ _) ?_
  exact K hI hH hl
set_option maxHeartbeats 4000000 in
set_option maxRecDepth 100000 in
theorem lk_6 (C : CT g RL cL_law 7 lw_tbl p s m #[.ref b] meth c) (hX : va_X b L xs s s.heap) (hbl : b < s.heap.size) (hbA : ¬ gB g ≤ b) (hin : ∀ k : Int32, 0 ≤ k.toInt → k.toInt < 6 → vp_in (x4 + k) L) (S : SIM_like Inv X M) {cells slots : Nat} (hcs : cells + 1 ≤ room_1.cells ∧ slots + 6 ≤ room_1.slots) (K : ∀ {h : PH} {H : Heap} {locs : List Loc} {ls : Array Slot}, Inv h → HS g s H locs h → lv_has ls 7 [(0, .ref b), (1, .ref (gB g + X)), (2, .ref (gB g + M)), (3, .ref (gB g + O)), (4, .int x4)] → W p l e room_1 s m #[.ref b] below meth c H locs (cells + 1) (slots + 6) (lw_Z below #[.ref b] s) (F0 m 1503 ls [])) {h : PH} {H : Heap} {locs : List Loc} {ls : Array Slot} (hI : Inv h) (hH : HS g s H locs h) (hl : lv_has ls 7 [(0, .ref b), (1, .ref (gB g + X)), (2, .ref (gB g + M)), (3, .ref (gB g + O)), (4, .int x4)]) : W p l e room_1 s m #[.ref b] below meth c H locs cells slots (lw_Z below #[.ref b] s) (F0 m 469 ls []) := by
  obtain ⟨⟨hx, hb, hml, hown, hts⟩, htb, hlk, hkk, hbs⟩ := id C
  refine lv_aload_n hx hb dL_law_469 rfl (lv_at hl 1 rfl) ?_
  refine lv_aload_n hx hb dL_law_470 rfl (lv_at hl 0 rfl) ?_
  refine lv_iload hx hb dL_law_471 (lv_at hl 4 rfl) ?_
  refine lv_iconst (v := (1 : Int32)) hx hb dL_law_473 (by decide) ?_
  refine lv_iadd hx hb dL_law_474 ?_
  refine va_sld hx hb hX hbl hbA hH.2 (hin (1 : Int32) (by decide) (by decide)) dL_law_475 ?_
  refine lv_aload_n hx hb dL_law_476 rfl (lv_at hl 0 rfl) ?_
  refine lv_iload hx hb dL_law_477 (lv_at hl 4 rfl) ?_
  refine lv_iconst (v := (2 : Int32)) hx hb dL_law_479 (by decide) ?_
  refine lv_iadd hx hb dL_law_480 ?_
  refine va_sld hx hb hX hbl hbA hH.2 (hin (2 : Int32) (by decide) (by decide)) dL_law_481 ?_
  obtain ⟨r, h1, h2, e1, e2, hI⟩ := S h (xs (x4 + (1 : Int32)).toNatClampNeg) (xs (x4 + (2 : Int32)).toNatClampNeg) hI
  refine pg_Wi (As := [.int (xs (x4 + (1 : Int32)).toNatClampNeg), .int (xs (x4 + (2 : Int32)).toNatClampNeg)]) C hH mi_X9_like vl_L_51 (q := (RX9, TX9, 11)) (ci := 9) rfl rfl (oO_sp e1).1 (c_X9_like e1) rfl rfl hl.1 (Nat.le_of_ble_eq_true rfl) ⟨Nat.le_of_ble_eq_true rfl, Nat.le_of_ble_eq_true rfl⟩ ⟨Nat.le_of_succ_le hcs.1, Nat.le_trans (Nat.le_add_right _ _) hcs.2⟩ dL_law_482 (fun H locs hH => ?_)
  refine lv_aload_n hx hb dL_law_485 rfl (lv_at hl 2 rfl) ?_
  refine lv_aload_n hx hb dL_law_486 rfl (lv_at hl 0 rfl) ?_
  refine lv_iload hx hb dL_law_487 (lv_at hl 4 rfl) ?_
  refine lv_iconst (v := (1 : Int32)) hx hb dL_law_489 (by decide) ?_
  refine lv_iadd hx hb dL_law_490 ?_
  refine va_sld hx hb hX hbl hbA hH.2 (hin (1 : Int32) (by decide) (by decide)) dL_law_491 ?_
  refine lv_aload_n hx hb dL_law_492 rfl (lv_at hl 0 rfl) ?_
  refine lv_iload hx hb dL_law_493 (lv_at hl 4 rfl) ?_
  refine lv_iconst (v := (2 : Int32)) hx hb dL_law_495 (by decide) ?_
  refine lv_iadd hx hb dL_law_496 ?_
  refine va_sld hx hb hX hbl hbA hH.2 (hin (2 : Int32) (by decide) (by decide)) dL_law_497 ?_
  refine pg_Wi (As := [.int (xs (x4 + (1 : Int32)).toNatClampNeg), .int (xs (x4 + (2 : Int32)).toNatClampNeg)]) C hH mi_X10_like vl_L_54 (q := (RX10, TX10, 34)) (ci := 10) rfl rfl (oO_sp e2).1 (c_X10_like e2) rfl rfl hl.1 (Nat.le_of_ble_eq_true rfl) ⟨Nat.le_of_ble_eq_true rfl, Nat.le_of_ble_eq_true rfl⟩ ⟨Nat.le_of_succ_le hcs.1, Nat.le_trans (Nat.le_add_right _ _) hcs.2⟩ dL_law_498 (fun H locs hH => ?_)
  refine lv_icmp_eq (tgt := 1503) hx hb dL_law_501 (by decide) (fun cn => ?_) (fun cn => absurd rfl cn)
  refine W.widen (k := cells + 1) (n := slots + 6) (Nat.le_succ _) (Nat.le_add_right _ _) ?_
  exact K hI hH hl
set_option maxHeartbeats 4000000 in
set_option maxRecDepth 100000 in
theorem lk_7 (C : CT g RL cL_law 7 lw_tbl p s m #[.ref b] meth c) (hX : va_X b L xs s s.heap) (hbl : b < s.heap.size) (hbA : ¬ gB g ≤ b) (hin : ∀ k : Int32, 0 ≤ k.toInt → k.toInt < 6 → vp_in (x4 + k) L) (S : SIM_band Inv X M) {cells slots : Nat} (hcs : cells + 1 ≤ room_1.cells ∧ slots + 6 ≤ room_1.slots) (K : ∀ {h : PH} {H : Heap} {locs : List Loc} {ls : Array Slot}, Inv h → HS g s H locs h → lv_has ls 7 [(0, .ref b), (1, .ref (gB g + X)), (2, .ref (gB g + M)), (3, .ref (gB g + O)), (4, .int x4)] → W p l e room_1 s m #[.ref b] below meth c H locs (cells + 1) (slots + 6) (lw_Z below #[.ref b] s) (F0 m 1503 ls [])) {h : PH} {H : Heap} {locs : List Loc} {ls : Array Slot} (hI : Inv h) (hH : HS g s H locs h) (hl : lv_has ls 7 [(0, .ref b), (1, .ref (gB g + X)), (2, .ref (gB g + M)), (3, .ref (gB g + O)), (4, .int x4)]) : W p l e room_1 s m #[.ref b] below meth c H locs cells slots (lw_Z below #[.ref b] s) (F0 m 506 ls []) := by
  obtain ⟨⟨hx, hb, hml, hown, hts⟩, htb, hlk, hkk, hbs⟩ := id C
  refine lv_aload_n hx hb dL_law_506 rfl (lv_at hl 1 rfl) ?_
  refine lv_aload_n hx hb dL_law_507 rfl (lv_at hl 0 rfl) ?_
  refine lv_iload hx hb dL_law_508 (lv_at hl 4 rfl) ?_
  refine lv_iconst (v := (1 : Int32)) hx hb dL_law_510 (by decide) ?_
  refine lv_iadd hx hb dL_law_511 ?_
  refine va_sld hx hb hX hbl hbA hH.2 (hin (1 : Int32) (by decide) (by decide)) dL_law_512 ?_
  refine lv_aload_n hx hb dL_law_513 rfl (lv_at hl 0 rfl) ?_
  refine lv_iload hx hb dL_law_514 (lv_at hl 4 rfl) ?_
  refine lv_iconst (v := (2 : Int32)) hx hb dL_law_516 (by decide) ?_
  refine lv_iadd hx hb dL_law_517 ?_
  refine va_sld hx hb hX hbl hbA hH.2 (hin (2 : Int32) (by decide) (by decide)) dL_law_518 ?_
  obtain ⟨r, h1, h2, e1, e2, hI⟩ := S h (xs (x4 + (1 : Int32)).toNatClampNeg) (xs (x4 + (2 : Int32)).toNatClampNeg) hI
  refine pg_Wi (As := [.int (xs (x4 + (1 : Int32)).toNatClampNeg), .int (xs (x4 + (2 : Int32)).toNatClampNeg)]) C hH mi_X9_band vl_L_55 (q := (RX9, TX9, 11)) (ci := 9) rfl rfl (oO_sp e1).1 (c_X9_band e1) rfl rfl hl.1 (Nat.le_of_ble_eq_true rfl) ⟨Nat.le_of_ble_eq_true rfl, Nat.le_of_ble_eq_true rfl⟩ ⟨Nat.le_of_succ_le hcs.1, Nat.le_trans (Nat.le_add_right _ _) hcs.2⟩ dL_law_519 (fun H locs hH => ?_)
  refine lv_aload_n hx hb dL_law_522 rfl (lv_at hl 2 rfl) ?_
  refine lv_aload_n hx hb dL_law_523 rfl (lv_at hl 0 rfl) ?_
  refine lv_iload hx hb dL_law_524 (lv_at hl 4 rfl) ?_
  refine lv_iconst (v := (1 : Int32)) hx hb dL_law_526 (by decide) ?_
  refine lv_iadd hx hb dL_law_527 ?_
  refine va_sld hx hb hX hbl hbA hH.2 (hin (1 : Int32) (by decide) (by decide)) dL_law_528 ?_
  refine lv_aload_n hx hb dL_law_529 rfl (lv_at hl 0 rfl) ?_
  refine lv_iload hx hb dL_law_530 (lv_at hl 4 rfl) ?_
  refine lv_iconst (v := (2 : Int32)) hx hb dL_law_532 (by decide) ?_
  refine lv_iadd hx hb dL_law_533 ?_
  refine va_sld hx hb hX hbl hbA hH.2 (hin (2 : Int32) (by decide) (by decide)) dL_law_534 ?_
  refine pg_Wi (As := [.int (xs (x4 + (1 : Int32)).toNatClampNeg), .int (xs (x4 + (2 : Int32)).toNatClampNeg)]) C hH mi_X10_band vl_L_58 (q := (RX10, TX10, 34)) (ci := 10) rfl rfl (oO_sp e2).1 (c_X10_band e2) rfl rfl hl.1 (Nat.le_of_ble_eq_true rfl) ⟨Nat.le_of_ble_eq_true rfl, Nat.le_of_ble_eq_true rfl⟩ ⟨Nat.le_of_succ_le hcs.1, Nat.le_trans (Nat.le_add_right _ _) hcs.2⟩ dL_law_535 (fun H locs hH => ?_)
  refine lv_icmp_eq (tgt := 1503) hx hb dL_law_538 (by decide) (fun cn => ?_) (fun cn => absurd rfl cn)
  refine W.widen (k := cells + 1) (n := slots + 6) (Nat.le_succ _) (Nat.le_add_right _ _) ?_
  exact K hI hH hl
set_option maxHeartbeats 4000000 in
set_option maxRecDepth 100000 in
theorem lk_8 (C : CT g RL cL_law 7 lw_tbl p s m #[.ref b] meth c) (hX : va_X b L xs s s.heap) (hbl : b < s.heap.size) (hbA : ¬ gB g ≤ b) (hin : ∀ k : Int32, 0 ≤ k.toInt → k.toInt < 6 → vp_in (x4 + k) L) (S : SIM_assist Inv X M) {cells slots : Nat} (hcs : cells + 1 ≤ room_1.cells ∧ slots + 6 ≤ room_1.slots) (K : ∀ {h : PH} {H : Heap} {locs : List Loc} {ls : Array Slot}, Inv h → HS g s H locs h → lv_has ls 7 [(0, .ref b), (1, .ref (gB g + X)), (2, .ref (gB g + M)), (3, .ref (gB g + O)), (4, .int x4)] → W p l e room_1 s m #[.ref b] below meth c H locs (cells + 1) (slots + 6) (lw_Z below #[.ref b] s) (F0 m 1503 ls [])) {h : PH} {H : Heap} {locs : List Loc} {ls : Array Slot} (hI : Inv h) (hH : HS g s H locs h) (hl : lv_has ls 7 [(0, .ref b), (1, .ref (gB g + X)), (2, .ref (gB g + M)), (3, .ref (gB g + O)), (4, .int x4)]) : W p l e room_1 s m #[.ref b] below meth c H locs cells slots (lw_Z below #[.ref b] s) (F0 m 543 ls []) := by
  obtain ⟨⟨hx, hb, hml, hown, hts⟩, htb, hlk, hkk, hbs⟩ := id C
  refine lv_aload_n hx hb dL_law_543 rfl (lv_at hl 1 rfl) ?_
  refine lv_aload_n hx hb dL_law_544 rfl (lv_at hl 0 rfl) ?_
  refine lv_iload hx hb dL_law_545 (lv_at hl 4 rfl) ?_
  refine lv_iconst (v := (1 : Int32)) hx hb dL_law_547 (by decide) ?_
  refine lv_iadd hx hb dL_law_548 ?_
  refine va_sld hx hb hX hbl hbA hH.2 (hin (1 : Int32) (by decide) (by decide)) dL_law_549 ?_
  refine lv_aload_n hx hb dL_law_550 rfl (lv_at hl 0 rfl) ?_
  refine lv_iload hx hb dL_law_551 (lv_at hl 4 rfl) ?_
  refine lv_iconst (v := (2 : Int32)) hx hb dL_law_553 (by decide) ?_
  refine lv_iadd hx hb dL_law_554 ?_
  refine va_sld hx hb hX hbl hbA hH.2 (hin (2 : Int32) (by decide) (by decide)) dL_law_555 ?_
  obtain ⟨r, h1, h2, e1, e2, hI⟩ := S h (xs (x4 + (1 : Int32)).toNatClampNeg) (xs (x4 + (2 : Int32)).toNatClampNeg) hI
  refine pg_Wi (As := [.int (xs (x4 + (1 : Int32)).toNatClampNeg), .int (xs (x4 + (2 : Int32)).toNatClampNeg)]) C hH mi_X9_assist vl_L_59 (q := (RX9, TX9, 11)) (ci := 9) rfl rfl (oO_sp e1).1 (c_X9_assist e1) rfl rfl hl.1 (Nat.le_of_ble_eq_true rfl) ⟨Nat.le_of_ble_eq_true rfl, Nat.le_of_ble_eq_true rfl⟩ ⟨Nat.le_of_succ_le hcs.1, Nat.le_trans (Nat.le_add_right _ _) hcs.2⟩ dL_law_556 (fun H locs hH => ?_)
  refine lv_aload_n hx hb dL_law_559 rfl (lv_at hl 2 rfl) ?_
  refine lv_aload_n hx hb dL_law_560 rfl (lv_at hl 0 rfl) ?_
  refine lv_iload hx hb dL_law_561 (lv_at hl 4 rfl) ?_
  refine lv_iconst (v := (1 : Int32)) hx hb dL_law_563 (by decide) ?_
  refine lv_iadd hx hb dL_law_564 ?_
  refine va_sld hx hb hX hbl hbA hH.2 (hin (1 : Int32) (by decide) (by decide)) dL_law_565 ?_
  refine lv_aload_n hx hb dL_law_566 rfl (lv_at hl 0 rfl) ?_
  refine lv_iload hx hb dL_law_567 (lv_at hl 4 rfl) ?_
  refine lv_iconst (v := (2 : Int32)) hx hb dL_law_569 (by decide) ?_
  refine lv_iadd hx hb dL_law_570 ?_
  refine va_sld hx hb hX hbl hbA hH.2 (hin (2 : Int32) (by decide) (by decide)) dL_law_571 ?_
  refine pg_Wi (As := [.int (xs (x4 + (1 : Int32)).toNatClampNeg), .int (xs (x4 + (2 : Int32)).toNatClampNeg)]) C hH mi_X10_assist vl_L_62 (q := (RX10, TX10, 34)) (ci := 10) rfl rfl (oO_sp e2).1 (c_X10_assist e2) rfl rfl hl.1 (Nat.le_of_ble_eq_true rfl) ⟨Nat.le_of_ble_eq_true rfl, Nat.le_of_ble_eq_true rfl⟩ ⟨Nat.le_of_succ_le hcs.1, Nat.le_trans (Nat.le_add_right _ _) hcs.2⟩ dL_law_572 (fun H locs hH => ?_)
  refine lv_icmp_eq (tgt := 1503) hx hb dL_law_575 (by decide) (fun cn => ?_) (fun cn => absurd rfl cn)
  refine W.widen (k := cells + 1) (n := slots + 6) (Nat.le_succ _) (Nat.le_add_right _ _) ?_
  exact K hI hH hl
set_option maxHeartbeats 4000000 in
set_option maxRecDepth 100000 in
theorem lk_9 (C : CT g RL cL_law 7 lw_tbl p s m #[.ref b] meth c) (hX : va_X b L xs s s.heap) (hbl : b < s.heap.size) (hbA : ¬ gB g ≤ b) (hin : ∀ k : Int32, 0 ≤ k.toInt → k.toInt < 6 → vp_in (x4 + k) L) (S : SIM_share Inv X M) {cells slots : Nat} (hcs : cells + 1 ≤ room_1.cells ∧ slots + 6 ≤ room_1.slots) (K : ∀ {h : PH} {H : Heap} {locs : List Loc} {ls : Array Slot}, Inv h → HS g s H locs h → lv_has ls 7 [(0, .ref b), (1, .ref (gB g + X)), (2, .ref (gB g + M)), (3, .ref (gB g + O)), (4, .int x4)] → W p l e room_1 s m #[.ref b] below meth c H locs (cells + 1) (slots + 6) (lw_Z below #[.ref b] s) (F0 m 1503 ls [])) {h : PH} {H : Heap} {locs : List Loc} {ls : Array Slot} (hI : Inv h) (hH : HS g s H locs h) (hl : lv_has ls 7 [(0, .ref b), (1, .ref (gB g + X)), (2, .ref (gB g + M)), (3, .ref (gB g + O)), (4, .int x4)]) : W p l e room_1 s m #[.ref b] below meth c H locs cells slots (lw_Z below #[.ref b] s) (F0 m 580 ls []) := by
  obtain ⟨⟨hx, hb, hml, hown, hts⟩, htb, hlk, hkk, hbs⟩ := id C
  refine lv_aload_n hx hb dL_law_580 rfl (lv_at hl 1 rfl) ?_
  refine lv_aload_n hx hb dL_law_581 rfl (lv_at hl 0 rfl) ?_
  refine lv_iload hx hb dL_law_582 (lv_at hl 4 rfl) ?_
  refine lv_iconst (v := (1 : Int32)) hx hb dL_law_584 (by decide) ?_
  refine lv_iadd hx hb dL_law_585 ?_
  refine va_sld hx hb hX hbl hbA hH.2 (hin (1 : Int32) (by decide) (by decide)) dL_law_586 ?_
  refine lv_aload_n hx hb dL_law_587 rfl (lv_at hl 0 rfl) ?_
  refine lv_iload hx hb dL_law_588 (lv_at hl 4 rfl) ?_
  refine lv_iconst (v := (2 : Int32)) hx hb dL_law_590 (by decide) ?_
  refine lv_iadd hx hb dL_law_591 ?_
  refine va_sld hx hb hX hbl hbA hH.2 (hin (2 : Int32) (by decide) (by decide)) dL_law_592 ?_
  obtain ⟨r, h1, h2, e1, e2, hI⟩ := S h (xs (x4 + (1 : Int32)).toNatClampNeg) (xs (x4 + (2 : Int32)).toNatClampNeg) hI
  refine pg_Wi (As := [.int (xs (x4 + (1 : Int32)).toNatClampNeg), .int (xs (x4 + (2 : Int32)).toNatClampNeg)]) C hH mi_X9_share vl_L_63 (q := (RX9, TX9, 11)) (ci := 9) rfl rfl (oO_sp e1).1 (c_X9_share e1) rfl rfl hl.1 (Nat.le_of_ble_eq_true rfl) ⟨Nat.le_of_ble_eq_true rfl, Nat.le_of_ble_eq_true rfl⟩ ⟨Nat.le_of_succ_le hcs.1, Nat.le_trans (Nat.le_add_right _ _) hcs.2⟩ dL_law_593 (fun H locs hH => ?_)
  refine lv_aload_n hx hb dL_law_596 rfl (lv_at hl 2 rfl) ?_
  refine lv_aload_n hx hb dL_law_597 rfl (lv_at hl 0 rfl) ?_
  refine lv_iload hx hb dL_law_598 (lv_at hl 4 rfl) ?_
  refine lv_iconst (v := (1 : Int32)) hx hb dL_law_600 (by decide) ?_
  refine lv_iadd hx hb dL_law_601 ?_
  refine va_sld hx hb hX hbl hbA hH.2 (hin (1 : Int32) (by decide) (by decide)) dL_law_602 ?_
  refine lv_aload_n hx hb dL_law_603 rfl (lv_at hl 0 rfl) ?_
  refine lv_iload hx hb dL_law_604 (lv_at hl 4 rfl) ?_
  refine lv_iconst (v := (2 : Int32)) hx hb dL_law_606 (by decide) ?_
  refine lv_iadd hx hb dL_law_607 ?_
  refine va_sld hx hb hX hbl hbA hH.2 (hin (2 : Int32) (by decide) (by decide)) dL_law_608 ?_
  refine pg_Wi (As := [.int (xs (x4 + (1 : Int32)).toNatClampNeg), .int (xs (x4 + (2 : Int32)).toNatClampNeg)]) C hH mi_X10_share vl_L_66 (q := (RX10, TX10, 34)) (ci := 10) rfl rfl (oO_sp e2).1 (c_X10_share e2) rfl rfl hl.1 (Nat.le_of_ble_eq_true rfl) ⟨Nat.le_of_ble_eq_true rfl, Nat.le_of_ble_eq_true rfl⟩ ⟨Nat.le_of_succ_le hcs.1, Nat.le_trans (Nat.le_add_right _ _) hcs.2⟩ dL_law_609 (fun H locs hH => ?_)
  refine lv_icmp_eq (tgt := 1503) hx hb dL_law_612 (by decide) (fun cn => ?_) (fun cn => absurd rfl cn)
  refine W.widen (k := cells + 1) (n := slots + 6) (Nat.le_succ _) (Nat.le_add_right _ _) ?_
  exact K hI hH hl
set_option maxHeartbeats 4000000 in
set_option maxRecDepth 100000 in
theorem lk_10 (C : CT g RL cL_law 7 lw_tbl p s m #[.ref b] meth c) (hX : va_X b L xs s s.heap) (hbl : b < s.heap.size) (hbA : ¬ gB g ≤ b) (hin : ∀ k : Int32, 0 ≤ k.toInt → k.toInt < 6 → vp_in (x4 + k) L) (S : SIM_rest Inv X M) {cells slots : Nat} (hcs : cells + 1 ≤ room_1.cells ∧ slots + 6 ≤ room_1.slots) (K : ∀ {h : PH} {H : Heap} {locs : List Loc} {ls : Array Slot}, Inv h → HS g s H locs h → lv_has ls 7 [(0, .ref b), (1, .ref (gB g + X)), (2, .ref (gB g + M)), (3, .ref (gB g + O)), (4, .int x4)] → W p l e room_1 s m #[.ref b] below meth c H locs (cells + 1) (slots + 6) (lw_Z below #[.ref b] s) (F0 m 1503 ls [])) {h : PH} {H : Heap} {locs : List Loc} {ls : Array Slot} (hI : Inv h) (hH : HS g s H locs h) (hl : lv_has ls 7 [(0, .ref b), (1, .ref (gB g + X)), (2, .ref (gB g + M)), (3, .ref (gB g + O)), (4, .int x4)]) : W p l e room_1 s m #[.ref b] below meth c H locs cells slots (lw_Z below #[.ref b] s) (F0 m 617 ls []) := by
  obtain ⟨⟨hx, hb, hml, hown, hts⟩, htb, hlk, hkk, hbs⟩ := id C
  refine lv_aload_n hx hb dL_law_617 rfl (lv_at hl 1 rfl) ?_
  refine lv_aload_n hx hb dL_law_618 rfl (lv_at hl 0 rfl) ?_
  refine lv_iload hx hb dL_law_619 (lv_at hl 4 rfl) ?_
  refine lv_iconst (v := (1 : Int32)) hx hb dL_law_621 (by decide) ?_
  refine lv_iadd hx hb dL_law_622 ?_
  refine va_sld hx hb hX hbl hbA hH.2 (hin (1 : Int32) (by decide) (by decide)) dL_law_623 ?_
  obtain ⟨r, h1, h2, e1, e2, hI⟩ := S h (xs (x4 + (1 : Int32)).toNatClampNeg) hI
  refine pg_Wi (As := [.int (xs (x4 + (1 : Int32)).toNatClampNeg)]) C hH mi_X9_rest vl_L_67 (q := (RX9, TX9, 11)) (ci := 9) rfl rfl (oO_sp e1).1 (c_X9_rest e1) rfl rfl hl.1 (Nat.le_of_ble_eq_true rfl) ⟨Nat.le_of_ble_eq_true rfl, Nat.le_of_ble_eq_true rfl⟩ ⟨Nat.le_of_succ_le hcs.1, Nat.le_trans (Nat.le_add_right _ _) hcs.2⟩ dL_law_624 (fun H locs hH => ?_)
  refine lv_aload_n hx hb dL_law_627 rfl (lv_at hl 2 rfl) ?_
  refine lv_aload_n hx hb dL_law_628 rfl (lv_at hl 0 rfl) ?_
  refine lv_iload hx hb dL_law_629 (lv_at hl 4 rfl) ?_
  refine lv_iconst (v := (1 : Int32)) hx hb dL_law_631 (by decide) ?_
  refine lv_iadd hx hb dL_law_632 ?_
  refine va_sld hx hb hX hbl hbA hH.2 (hin (1 : Int32) (by decide) (by decide)) dL_law_633 ?_
  refine pg_Wi (As := [.int (xs (x4 + (1 : Int32)).toNatClampNeg)]) C hH mi_X10_rest vl_L_70 (q := (RX10, TX10, 34)) (ci := 10) rfl rfl (oO_sp e2).1 (c_X10_rest e2) rfl rfl hl.1 (Nat.le_of_ble_eq_true rfl) ⟨Nat.le_of_ble_eq_true rfl, Nat.le_of_ble_eq_true rfl⟩ ⟨Nat.le_of_succ_le hcs.1, Nat.le_trans (Nat.le_add_right _ _) hcs.2⟩ dL_law_634 (fun H locs hH => ?_)
  refine lv_icmp_eq (tgt := 1503) hx hb dL_law_637 (by decide) (fun cn => ?_) (fun cn => absurd rfl cn)
  refine W.widen (k := cells + 1) (n := slots + 6) (Nat.le_succ _) (Nat.le_add_right _ _) ?_
  exact K hI hH hl
set_option maxHeartbeats 4000000 in
set_option maxRecDepth 100000 in
theorem lk_11 (C : CT g RL cL_law 7 lw_tbl p s m #[.ref b] meth c) (hX : va_X b L xs s s.heap) (hbl : b < s.heap.size) (hbA : ¬ gB g ≤ b) (hin : ∀ k : Int32, 0 ≤ k.toInt → k.toInt < 6 → vp_in (x4 + k) L) (S : SIM_own Inv X M) {cells slots : Nat} (hcs : cells + 1 ≤ room_1.cells ∧ slots + 6 ≤ room_1.slots) (K : ∀ {h : PH} {H : Heap} {locs : List Loc} {ls : Array Slot}, Inv h → HS g s H locs h → lv_has ls 7 [(0, .ref b), (1, .ref (gB g + X)), (2, .ref (gB g + M)), (3, .ref (gB g + O)), (4, .int x4)] → W p l e room_1 s m #[.ref b] below meth c H locs (cells + 1) (slots + 6) (lw_Z below #[.ref b] s) (F0 m 1503 ls [])) {h : PH} {H : Heap} {locs : List Loc} {ls : Array Slot} (hI : Inv h) (hH : HS g s H locs h) (hl : lv_has ls 7 [(0, .ref b), (1, .ref (gB g + X)), (2, .ref (gB g + M)), (3, .ref (gB g + O)), (4, .int x4)]) : W p l e room_1 s m #[.ref b] below meth c H locs cells slots (lw_Z below #[.ref b] s) (F0 m 642 ls []) := by
  obtain ⟨⟨hx, hb, hml, hown, hts⟩, htb, hlk, hkk, hbs⟩ := id C
  refine lv_aload_n hx hb dL_law_642 rfl (lv_at hl 1 rfl) ?_
  refine lv_aload_n hx hb dL_law_643 rfl (lv_at hl 0 rfl) ?_
  refine lv_iload hx hb dL_law_644 (lv_at hl 4 rfl) ?_
  refine lv_iconst (v := (1 : Int32)) hx hb dL_law_646 (by decide) ?_
  refine lv_iadd hx hb dL_law_647 ?_
  refine va_sld hx hb hX hbl hbA hH.2 (hin (1 : Int32) (by decide) (by decide)) dL_law_648 ?_
  obtain ⟨r, h1, h2, e1, e2, hI⟩ := S h (xs (x4 + (1 : Int32)).toNatClampNeg) hI
  refine pg_Wl (As := [.int (xs (x4 + (1 : Int32)).toNatClampNeg)]) C hH mi_X9_own vl_L_71 (q := (RX9, TX9, 11)) (ci := 9) rfl rfl (oO_sp e1).1 (c_X9_own e1) rfl rfl hl.1 (Nat.le_of_ble_eq_true rfl) ⟨Nat.le_of_ble_eq_true rfl, Nat.le_of_ble_eq_true rfl⟩ ⟨Nat.le_of_succ_le hcs.1, Nat.le_trans (Nat.le_add_right _ _) hcs.2⟩ dL_law_649 (fun H locs hH => ?_)
  refine lv_aload_n hx hb dL_law_652 rfl (lv_at hl 2 rfl) ?_
  refine lv_aload_n hx hb dL_law_653 rfl (lv_at hl 0 rfl) ?_
  refine lv_iload hx hb dL_law_654 (lv_at hl 4 rfl) ?_
  refine lv_iconst (v := (1 : Int32)) hx hb dL_law_656 (by decide) ?_
  refine lv_iadd hx hb dL_law_657 ?_
  refine va_sld hx hb hX hbl hbA hH.2 (hin (1 : Int32) (by decide) (by decide)) dL_law_658 ?_
  refine pg_Wl (As := [.int (xs (x4 + (1 : Int32)).toNatClampNeg)]) C hH mi_X10_own vl_L_75 (q := (RX10, TX10, 34)) (ci := 10) rfl rfl (oO_sp e2).1 (c_X10_own e2) rfl rfl hl.1 (Nat.le_of_ble_eq_true rfl) ⟨Nat.le_of_ble_eq_true rfl, Nat.le_of_ble_eq_true rfl⟩ ⟨Nat.le_of_succ_le hcs.1, Nat.le_trans (Nat.le_add_right _ _) hcs.2⟩ dL_law_659 (fun H locs hH => ?_)
  refine W.lcmp hx hb dL_law_662 ?_
  refine lv_if_eq (tgt := 1503) hx hb dL_law_663 (by decide) (fun cn => ?_) (fun cn => absurd ((lg_cmp_eq _ _).mpr rfl) cn)
  refine W.widen (k := cells + 1) (n := slots + 6) (Nat.le_succ _) (Nat.le_add_right _ _) ?_
  exact K hI hH hl
set_option maxHeartbeats 4000000 in
set_option maxRecDepth 100000 in
theorem lk_12 (C : CT g RL cL_law 7 lw_tbl p s m #[.ref b] meth c) (hX : va_X b L xs s s.heap) (hbl : b < s.heap.size) (hbA : ¬ gB g ≤ b) (hin : ∀ k : Int32, 0 ≤ k.toInt → k.toInt < 6 → vp_in (x4 + k) L) (S : SIM_by Inv X M) {cells slots : Nat} (hcs : cells + 1 ≤ room_1.cells ∧ slots + 6 ≤ room_1.slots) (K : ∀ {h : PH} {H : Heap} {locs : List Loc} {ls : Array Slot}, Inv h → HS g s H locs h → lv_has ls 7 [(0, .ref b), (1, .ref (gB g + X)), (2, .ref (gB g + M)), (3, .ref (gB g + O)), (4, .int x4)] → W p l e room_1 s m #[.ref b] below meth c H locs (cells + 1) (slots + 6) (lw_Z below #[.ref b] s) (F0 m 1503 ls [])) {h : PH} {H : Heap} {locs : List Loc} {ls : Array Slot} (hI : Inv h) (hH : HS g s H locs h) (hl : lv_has ls 7 [(0, .ref b), (1, .ref (gB g + X)), (2, .ref (gB g + M)), (3, .ref (gB g + O)), (4, .int x4)]) : W p l e room_1 s m #[.ref b] below meth c H locs cells slots (lw_Z below #[.ref b] s) (F0 m 668 ls []) := by
  obtain ⟨⟨hx, hb, hml, hown, hts⟩, htb, hlk, hkk, hbs⟩ := id C
  refine lv_aload_n hx hb dL_law_668 rfl (lv_at hl 1 rfl) ?_
  refine lv_aload_n hx hb dL_law_669 rfl (lv_at hl 0 rfl) ?_
  refine lv_iload hx hb dL_law_670 (lv_at hl 4 rfl) ?_
  refine lv_iconst (v := (1 : Int32)) hx hb dL_law_672 (by decide) ?_
  refine lv_iadd hx hb dL_law_673 ?_
  refine va_sld hx hb hX hbl hbA hH.2 (hin (1 : Int32) (by decide) (by decide)) dL_law_674 ?_
  refine lv_aload_n hx hb dL_law_675 rfl (lv_at hl 0 rfl) ?_
  refine lv_iload hx hb dL_law_676 (lv_at hl 4 rfl) ?_
  refine lv_iconst (v := (2 : Int32)) hx hb dL_law_678 (by decide) ?_
  refine lv_iadd hx hb dL_law_679 ?_
  refine va_sld hx hb hX hbl hbA hH.2 (hin (2 : Int32) (by decide) (by decide)) dL_law_680 ?_
  obtain ⟨r, h1, h2, e1, e2, hI⟩ := S h (xs (x4 + (1 : Int32)).toNatClampNeg) (xs (x4 + (2 : Int32)).toNatClampNeg) hI
  refine pg_Wl (As := [.int (xs (x4 + (1 : Int32)).toNatClampNeg), .int (xs (x4 + (2 : Int32)).toNatClampNeg)]) C hH mi_X9_by vl_L_76 (q := (RX9, TX9, 11)) (ci := 9) rfl rfl (oO_sp e1).1 (c_X9_by e1) rfl rfl hl.1 (Nat.le_of_ble_eq_true rfl) ⟨Nat.le_of_ble_eq_true rfl, Nat.le_of_ble_eq_true rfl⟩ ⟨Nat.le_of_succ_le hcs.1, Nat.le_trans (Nat.le_add_right _ _) hcs.2⟩ dL_law_681 (fun H locs hH => ?_)
  refine lv_aload_n hx hb dL_law_684 rfl (lv_at hl 2 rfl) ?_
  refine lv_aload_n hx hb dL_law_685 rfl (lv_at hl 0 rfl) ?_
  refine lv_iload hx hb dL_law_686 (lv_at hl 4 rfl) ?_
  refine lv_iconst (v := (1 : Int32)) hx hb dL_law_688 (by decide) ?_
  refine lv_iadd hx hb dL_law_689 ?_
  refine va_sld hx hb hX hbl hbA hH.2 (hin (1 : Int32) (by decide) (by decide)) dL_law_690 ?_
  refine lv_aload_n hx hb dL_law_691 rfl (lv_at hl 0 rfl) ?_
  refine lv_iload hx hb dL_law_692 (lv_at hl 4 rfl) ?_
  refine lv_iconst (v := (2 : Int32)) hx hb dL_law_694 (by decide) ?_
  refine lv_iadd hx hb dL_law_695 ?_
  refine va_sld hx hb hX hbl hbA hH.2 (hin (2 : Int32) (by decide) (by decide)) dL_law_696 ?_
  refine pg_Wl (As := [.int (xs (x4 + (1 : Int32)).toNatClampNeg), .int (xs (x4 + (2 : Int32)).toNatClampNeg)]) C hH mi_X10_by vl_L_80 (q := (RX10, TX10, 34)) (ci := 10) rfl rfl (oO_sp e2).1 (c_X10_by e2) rfl rfl hl.1 (Nat.le_of_ble_eq_true rfl) ⟨Nat.le_of_ble_eq_true rfl, Nat.le_of_ble_eq_true rfl⟩ ⟨Nat.le_of_succ_le hcs.1, Nat.le_trans (Nat.le_add_right _ _) hcs.2⟩ dL_law_697 (fun H locs hH => ?_)
  refine W.lcmp hx hb dL_law_700 ?_
  refine lv_if_eq (tgt := 1503) hx hb dL_law_701 (by decide) (fun cn => ?_) (fun cn => absurd ((lg_cmp_eq _ _).mpr rfl) cn)
  refine W.widen (k := cells + 1) (n := slots + 6) (Nat.le_succ _) (Nat.le_add_right _ _) ?_
  exact K hI hH hl
set_option maxHeartbeats 4000000 in
set_option maxRecDepth 100000 in
theorem lk_13 (C : CT g RL cL_law 7 lw_tbl p s m #[.ref b] meth c) (hX : va_X b L xs s s.heap) (hbl : b < s.heap.size) (hbA : ¬ gB g ≤ b) (hin : ∀ k : Int32, 0 ≤ k.toInt → k.toInt < 6 → vp_in (x4 + k) L) (S : SIM_base Inv X M) {cells slots : Nat} (hcs : cells + 1 ≤ room_1.cells ∧ slots + 6 ≤ room_1.slots) (K : ∀ {h : PH} {H : Heap} {locs : List Loc} {ls : Array Slot}, Inv h → HS g s H locs h → lv_has ls 7 [(0, .ref b), (1, .ref (gB g + X)), (2, .ref (gB g + M)), (3, .ref (gB g + O)), (4, .int x4)] → W p l e room_1 s m #[.ref b] below meth c H locs (cells + 1) (slots + 6) (lw_Z below #[.ref b] s) (F0 m 1503 ls [])) {h : PH} {H : Heap} {locs : List Loc} {ls : Array Slot} (hI : Inv h) (hH : HS g s H locs h) (hl : lv_has ls 7 [(0, .ref b), (1, .ref (gB g + X)), (2, .ref (gB g + M)), (3, .ref (gB g + O)), (4, .int x4)]) : W p l e room_1 s m #[.ref b] below meth c H locs cells slots (lw_Z below #[.ref b] s) (F0 m 706 ls []) := by
  obtain ⟨⟨hx, hb, hml, hown, hts⟩, htb, hlk, hkk, hbs⟩ := id C
  refine lv_aload_n hx hb dL_law_706 rfl (lv_at hl 1 rfl) ?_
  refine lv_aload_n hx hb dL_law_707 rfl (lv_at hl 0 rfl) ?_
  refine lv_iload hx hb dL_law_708 (lv_at hl 4 rfl) ?_
  refine lv_iconst (v := (1 : Int32)) hx hb dL_law_710 (by decide) ?_
  refine lv_iadd hx hb dL_law_711 ?_
  refine va_sld hx hb hX hbl hbA hH.2 (hin (1 : Int32) (by decide) (by decide)) dL_law_712 ?_
  refine lv_aload_n hx hb dL_law_713 rfl (lv_at hl 0 rfl) ?_
  refine lv_iload hx hb dL_law_714 (lv_at hl 4 rfl) ?_
  refine lv_iconst (v := (2 : Int32)) hx hb dL_law_716 (by decide) ?_
  refine lv_iadd hx hb dL_law_717 ?_
  refine va_sld hx hb hX hbl hbA hH.2 (hin (2 : Int32) (by decide) (by decide)) dL_law_718 ?_
  obtain ⟨r, h1, h2, e1, e2, hI⟩ := S h (xs (x4 + (1 : Int32)).toNatClampNeg) (xs (x4 + (2 : Int32)).toNatClampNeg) hI
  refine pg_Wi (As := [.int (xs (x4 + (1 : Int32)).toNatClampNeg), .int (xs (x4 + (2 : Int32)).toNatClampNeg)]) C hH mi_X9_base vl_L_81 (q := (RX9, TX9, 11)) (ci := 9) rfl rfl (oO_sp e1).1 (c_X9_base e1) rfl rfl hl.1 (Nat.le_of_ble_eq_true rfl) ⟨Nat.le_of_ble_eq_true rfl, Nat.le_of_ble_eq_true rfl⟩ ⟨Nat.le_of_succ_le hcs.1, Nat.le_trans (Nat.le_add_right _ _) hcs.2⟩ dL_law_719 (fun H locs hH => ?_)
  refine lv_aload_n hx hb dL_law_722 rfl (lv_at hl 2 rfl) ?_
  refine lv_aload_n hx hb dL_law_723 rfl (lv_at hl 0 rfl) ?_
  refine lv_iload hx hb dL_law_724 (lv_at hl 4 rfl) ?_
  refine lv_iconst (v := (1 : Int32)) hx hb dL_law_726 (by decide) ?_
  refine lv_iadd hx hb dL_law_727 ?_
  refine va_sld hx hb hX hbl hbA hH.2 (hin (1 : Int32) (by decide) (by decide)) dL_law_728 ?_
  refine lv_aload_n hx hb dL_law_729 rfl (lv_at hl 0 rfl) ?_
  refine lv_iload hx hb dL_law_730 (lv_at hl 4 rfl) ?_
  refine lv_iconst (v := (2 : Int32)) hx hb dL_law_732 (by decide) ?_
  refine lv_iadd hx hb dL_law_733 ?_
  refine va_sld hx hb hX hbl hbA hH.2 (hin (2 : Int32) (by decide) (by decide)) dL_law_734 ?_
  refine pg_Wi (As := [.int (xs (x4 + (1 : Int32)).toNatClampNeg), .int (xs (x4 + (2 : Int32)).toNatClampNeg)]) C hH mi_X10_base vl_L_84 (q := (RX10, TX10, 34)) (ci := 10) rfl rfl (oO_sp e2).1 (c_X10_base e2) rfl rfl hl.1 (Nat.le_of_ble_eq_true rfl) ⟨Nat.le_of_ble_eq_true rfl, Nat.le_of_ble_eq_true rfl⟩ ⟨Nat.le_of_succ_le hcs.1, Nat.le_trans (Nat.le_add_right _ _) hcs.2⟩ dL_law_735 (fun H locs hH => ?_)
  refine lv_icmp_eq (tgt := 1503) hx hb dL_law_738 (by decide) (fun cn => ?_) (fun cn => absurd rfl cn)
  refine W.widen (k := cells + 1) (n := slots + 6) (Nat.le_succ _) (Nat.le_add_right _ _) ?_
  exact K hI hH hl
set_option maxHeartbeats 4000000 in
set_option maxRecDepth 100000 in
theorem lk_14 (C : CT g RL cL_law 7 lw_tbl p s m #[.ref b] meth c) (hX : va_X b L xs s s.heap) (hbl : b < s.heap.size) (hbA : ¬ gB g ≤ b) (hin : ∀ k : Int32, 0 ≤ k.toInt → k.toInt < 6 → vp_in (x4 + k) L) (S : SIM_worth Inv X M) {cells slots : Nat} (hcs : cells + 1 ≤ room_1.cells ∧ slots + 6 ≤ room_1.slots) (K : ∀ {h : PH} {H : Heap} {locs : List Loc} {ls : Array Slot}, Inv h → HS g s H locs h → lv_has ls 7 [(0, .ref b), (1, .ref (gB g + X)), (2, .ref (gB g + M)), (3, .ref (gB g + O)), (4, .int x4)] → W p l e room_1 s m #[.ref b] below meth c H locs (cells + 1) (slots + 6) (lw_Z below #[.ref b] s) (F0 m 1503 ls [])) {h : PH} {H : Heap} {locs : List Loc} {ls : Array Slot} (hI : Inv h) (hH : HS g s H locs h) (hl : lv_has ls 7 [(0, .ref b), (1, .ref (gB g + X)), (2, .ref (gB g + M)), (3, .ref (gB g + O)), (4, .int x4)]) : W p l e room_1 s m #[.ref b] below meth c H locs cells slots (lw_Z below #[.ref b] s) (F0 m 743 ls []) := by
  obtain ⟨⟨hx, hb, hml, hown, hts⟩, htb, hlk, hkk, hbs⟩ := id C
  refine lv_aload_n hx hb dL_law_743 rfl (lv_at hl 1 rfl) ?_
  refine lv_aload_n hx hb dL_law_744 rfl (lv_at hl 0 rfl) ?_
  refine lv_iload hx hb dL_law_745 (lv_at hl 4 rfl) ?_
  refine lv_iconst (v := (1 : Int32)) hx hb dL_law_747 (by decide) ?_
  refine lv_iadd hx hb dL_law_748 ?_
  refine va_sld hx hb hX hbl hbA hH.2 (hin (1 : Int32) (by decide) (by decide)) dL_law_749 ?_
  obtain ⟨r, h1, h2, e1, e2, hI⟩ := S h (xs (x4 + (1 : Int32)).toNatClampNeg) hI
  refine pg_Wl (As := [.int (xs (x4 + (1 : Int32)).toNatClampNeg)]) C hH mi_X9_worth vl_L_85 (q := (RX9, TX9, 11)) (ci := 9) rfl rfl (oO_sp e1).1 (c_X9_worth e1) rfl rfl hl.1 (Nat.le_of_ble_eq_true rfl) ⟨Nat.le_of_ble_eq_true rfl, Nat.le_of_ble_eq_true rfl⟩ ⟨Nat.le_of_succ_le hcs.1, Nat.le_trans (Nat.le_add_right _ _) hcs.2⟩ dL_law_750 (fun H locs hH => ?_)
  refine lv_aload_n hx hb dL_law_753 rfl (lv_at hl 2 rfl) ?_
  refine lv_aload_n hx hb dL_law_754 rfl (lv_at hl 0 rfl) ?_
  refine lv_iload hx hb dL_law_755 (lv_at hl 4 rfl) ?_
  refine lv_iconst (v := (1 : Int32)) hx hb dL_law_757 (by decide) ?_
  refine lv_iadd hx hb dL_law_758 ?_
  refine va_sld hx hb hX hbl hbA hH.2 (hin (1 : Int32) (by decide) (by decide)) dL_law_759 ?_
  refine pg_Wl (As := [.int (xs (x4 + (1 : Int32)).toNatClampNeg)]) C hH mi_X10_worth vl_L_88 (q := (RX10, TX10, 34)) (ci := 10) rfl rfl (oO_sp e2).1 (c_X10_worth e2) rfl rfl hl.1 (Nat.le_of_ble_eq_true rfl) ⟨Nat.le_of_ble_eq_true rfl, Nat.le_of_ble_eq_true rfl⟩ ⟨Nat.le_of_succ_le hcs.1, Nat.le_trans (Nat.le_add_right _ _) hcs.2⟩ dL_law_760 (fun H locs hH => ?_)
  refine W.lcmp hx hb dL_law_763 ?_
  refine lv_if_eq (tgt := 1503) hx hb dL_law_764 (by decide) (fun cn => ?_) (fun cn => absurd ((lg_cmp_eq _ _).mpr rfl) cn)
  refine W.widen (k := cells + 1) (n := slots + 6) (Nat.le_succ _) (Nat.le_add_right _ _) ?_
  exact K hI hH hl
set_option maxHeartbeats 4000000 in
set_option maxRecDepth 100000 in
theorem lk_15 (C : CT g RL cL_law 7 lw_tbl p s m #[.ref b] meth c) (hX : va_X b L xs s s.heap) (hbl : b < s.heap.size) (hbA : ¬ gB g ≤ b) (hin : ∀ k : Int32, 0 ≤ k.toInt → k.toInt < 6 → vp_in (x4 + k) L) (S : SIM_method Inv X M) {cells slots : Nat} (hcs : cells + 1 ≤ room_1.cells ∧ slots + 6 ≤ room_1.slots) (K : ∀ {h : PH} {H : Heap} {locs : List Loc} {ls : Array Slot}, Inv h → HS g s H locs h → lv_has ls 7 [(0, .ref b), (1, .ref (gB g + X)), (2, .ref (gB g + M)), (3, .ref (gB g + O)), (4, .int x4)] → W p l e room_1 s m #[.ref b] below meth c H locs (cells + 1) (slots + 6) (lw_Z below #[.ref b] s) (F0 m 1503 ls [])) {h : PH} {H : Heap} {locs : List Loc} {ls : Array Slot} (hI : Inv h) (hH : HS g s H locs h) (hl : lv_has ls 7 [(0, .ref b), (1, .ref (gB g + X)), (2, .ref (gB g + M)), (3, .ref (gB g + O)), (4, .int x4)]) : W p l e room_1 s m #[.ref b] below meth c H locs cells slots (lw_Z below #[.ref b] s) (F0 m 769 ls []) := by
  obtain ⟨⟨hx, hb, hml, hown, hts⟩, htb, hlk, hkk, hbs⟩ := id C
  refine lv_aload_n hx hb dL_law_769 rfl (lv_at hl 1 rfl) ?_
  refine lv_aload_n hx hb dL_law_770 rfl (lv_at hl 0 rfl) ?_
  refine lv_iload hx hb dL_law_771 (lv_at hl 4 rfl) ?_
  refine lv_iconst (v := (1 : Int32)) hx hb dL_law_773 (by decide) ?_
  refine lv_iadd hx hb dL_law_774 ?_
  refine va_sld hx hb hX hbl hbA hH.2 (hin (1 : Int32) (by decide) (by decide)) dL_law_775 ?_
  obtain ⟨r, h1, h2, e1, e2, hI⟩ := S h (xs (x4 + (1 : Int32)).toNatClampNeg) hI
  refine pg_Wi (As := [.int (xs (x4 + (1 : Int32)).toNatClampNeg)]) C hH mi_X9_method vl_L_89 (q := (RX9, TX9, 11)) (ci := 9) rfl rfl (oO_sp e1).1 (c_X9_method e1) rfl rfl hl.1 (Nat.le_of_ble_eq_true rfl) ⟨Nat.le_of_ble_eq_true rfl, Nat.le_of_ble_eq_true rfl⟩ ⟨Nat.le_of_succ_le hcs.1, Nat.le_trans (Nat.le_add_right _ _) hcs.2⟩ dL_law_776 (fun H locs hH => ?_)
  refine lv_aload_n hx hb dL_law_779 rfl (lv_at hl 2 rfl) ?_
  refine lv_aload_n hx hb dL_law_780 rfl (lv_at hl 0 rfl) ?_
  refine lv_iload hx hb dL_law_781 (lv_at hl 4 rfl) ?_
  refine lv_iconst (v := (1 : Int32)) hx hb dL_law_783 (by decide) ?_
  refine lv_iadd hx hb dL_law_784 ?_
  refine va_sld hx hb hX hbl hbA hH.2 (hin (1 : Int32) (by decide) (by decide)) dL_law_785 ?_
  refine pg_Wi (As := [.int (xs (x4 + (1 : Int32)).toNatClampNeg)]) C hH mi_X10_method vl_L_92 (q := (RX10, TX10, 34)) (ci := 10) rfl rfl (oO_sp e2).1 (c_X10_method e2) rfl rfl hl.1 (Nat.le_of_ble_eq_true rfl) ⟨Nat.le_of_ble_eq_true rfl, Nat.le_of_ble_eq_true rfl⟩ ⟨Nat.le_of_succ_le hcs.1, Nat.le_trans (Nat.le_add_right _ _) hcs.2⟩ dL_law_786 (fun H locs hH => ?_)
  refine lv_icmp_eq (tgt := 1503) hx hb dL_law_789 (by decide) (fun cn => ?_) (fun cn => absurd rfl cn)
  refine W.widen (k := cells + 1) (n := slots + 6) (Nat.le_succ _) (Nat.le_add_right _ _) ?_
  exact K hI hH hl
set_option maxHeartbeats 4000000 in
set_option maxRecDepth 100000 in
theorem lk_16 (C : CT g RL cL_law 7 lw_tbl p s m #[.ref b] meth c) (hX : va_X b L xs s s.heap) (hbl : b < s.heap.size) (hbA : ¬ gB g ≤ b) (hin : ∀ k : Int32, 0 ≤ k.toInt → k.toInt < 6 → vp_in (x4 + k) L) (S : SIM_why Inv X M) {cells slots : Nat} (hcs : cells + 1 ≤ room_1.cells ∧ slots + 6 ≤ room_1.slots) (K : ∀ {h : PH} {H : Heap} {locs : List Loc} {ls : Array Slot}, Inv h → HS g s H locs h → lv_has ls 7 [(0, .ref b), (1, .ref (gB g + X)), (2, .ref (gB g + M)), (3, .ref (gB g + O)), (4, .int x4)] → W p l e room_1 s m #[.ref b] below meth c H locs (cells + 1) (slots + 6) (lw_Z below #[.ref b] s) (F0 m 1503 ls [])) {h : PH} {H : Heap} {locs : List Loc} {ls : Array Slot} (hI : Inv h) (hH : HS g s H locs h) (hl : lv_has ls 7 [(0, .ref b), (1, .ref (gB g + X)), (2, .ref (gB g + M)), (3, .ref (gB g + O)), (4, .int x4)]) : W p l e room_1 s m #[.ref b] below meth c H locs cells slots (lw_Z below #[.ref b] s) (F0 m 794 ls []) := by
  obtain ⟨⟨hx, hb, hml, hown, hts⟩, htb, hlk, hkk, hbs⟩ := id C
  refine lv_aload_n hx hb dL_law_794 rfl (lv_at hl 1 rfl) ?_
  refine lv_aload_n hx hb dL_law_795 rfl (lv_at hl 0 rfl) ?_
  refine lv_iload hx hb dL_law_796 (lv_at hl 4 rfl) ?_
  refine lv_iconst (v := (1 : Int32)) hx hb dL_law_798 (by decide) ?_
  refine lv_iadd hx hb dL_law_799 ?_
  refine va_sld hx hb hX hbl hbA hH.2 (hin (1 : Int32) (by decide) (by decide)) dL_law_800 ?_
  refine lv_aload_n hx hb dL_law_801 rfl (lv_at hl 0 rfl) ?_
  refine lv_iload hx hb dL_law_802 (lv_at hl 4 rfl) ?_
  refine lv_iconst (v := (2 : Int32)) hx hb dL_law_804 (by decide) ?_
  refine lv_iadd hx hb dL_law_805 ?_
  refine va_sld hx hb hX hbl hbA hH.2 (hin (2 : Int32) (by decide) (by decide)) dL_law_806 ?_
  obtain ⟨r, h1, h2, e1, e2, hI⟩ := S h (xs (x4 + (1 : Int32)).toNatClampNeg) (xs (x4 + (2 : Int32)).toNatClampNeg) hI
  refine pg_Wi (As := [.int (xs (x4 + (1 : Int32)).toNatClampNeg), .int (xs (x4 + (2 : Int32)).toNatClampNeg)]) C hH mi_X9_why vl_L_93 (q := (RX9, TX9, 11)) (ci := 9) rfl rfl (oO_sp e1).1 (c_X9_why e1) rfl rfl hl.1 (Nat.le_of_ble_eq_true rfl) ⟨Nat.le_of_ble_eq_true rfl, Nat.le_of_ble_eq_true rfl⟩ ⟨Nat.le_of_succ_le hcs.1, Nat.le_trans (Nat.le_add_right _ _) hcs.2⟩ dL_law_807 (fun H locs hH => ?_)
  refine lv_aload_n hx hb dL_law_810 rfl (lv_at hl 2 rfl) ?_
  refine lv_aload_n hx hb dL_law_811 rfl (lv_at hl 0 rfl) ?_
  refine lv_iload hx hb dL_law_812 (lv_at hl 4 rfl) ?_
  refine lv_iconst (v := (1 : Int32)) hx hb dL_law_814 (by decide) ?_
  refine lv_iadd hx hb dL_law_815 ?_
  refine va_sld hx hb hX hbl hbA hH.2 (hin (1 : Int32) (by decide) (by decide)) dL_law_816 ?_
  refine lv_aload_n hx hb dL_law_817 rfl (lv_at hl 0 rfl) ?_
  refine lv_iload hx hb dL_law_818 (lv_at hl 4 rfl) ?_
  refine lv_iconst (v := (2 : Int32)) hx hb dL_law_820 (by decide) ?_
  refine lv_iadd hx hb dL_law_821 ?_
  refine va_sld hx hb hX hbl hbA hH.2 (hin (2 : Int32) (by decide) (by decide)) dL_law_822 ?_
  refine pg_Wi (As := [.int (xs (x4 + (1 : Int32)).toNatClampNeg), .int (xs (x4 + (2 : Int32)).toNatClampNeg)]) C hH mi_X10_why vl_L_96 (q := (RX10, TX10, 34)) (ci := 10) rfl rfl (oO_sp e2).1 (c_X10_why e2) rfl rfl hl.1 (Nat.le_of_ble_eq_true rfl) ⟨Nat.le_of_ble_eq_true rfl, Nat.le_of_ble_eq_true rfl⟩ ⟨Nat.le_of_succ_le hcs.1, Nat.le_trans (Nat.le_add_right _ _) hcs.2⟩ dL_law_823 (fun H locs hH => ?_)
  refine lv_icmp_eq (tgt := 1503) hx hb dL_law_826 (by decide) (fun cn => ?_) (fun cn => absurd rfl cn)
  refine W.widen (k := cells + 1) (n := slots + 6) (Nat.le_succ _) (Nat.le_add_right _ _) ?_
  exact K hI hH hl
set_option maxHeartbeats 4000000 in
set_option maxRecDepth 100000 in
theorem lk_17 (C : CT g RL cL_law 7 lw_tbl p s m #[.ref b] meth c) (hX : va_X b L xs s s.heap) (hbl : b < s.heap.size) (hbA : ¬ gB g ≤ b) (hin : ∀ k : Int32, 0 ≤ k.toInt → k.toInt < 6 → vp_in (x4 + k) L) (S : SIM_test Inv X M) {cells slots : Nat} (hcs : cells + 1 ≤ room_1.cells ∧ slots + 6 ≤ room_1.slots) (K : ∀ {h : PH} {H : Heap} {locs : List Loc} {ls : Array Slot}, Inv h → HS g s H locs h → lv_has ls 7 [(0, .ref b), (1, .ref (gB g + X)), (2, .ref (gB g + M)), (3, .ref (gB g + O)), (4, .int x4)] → W p l e room_1 s m #[.ref b] below meth c H locs (cells + 1) (slots + 6) (lw_Z below #[.ref b] s) (F0 m 1503 ls [])) {h : PH} {H : Heap} {locs : List Loc} {ls : Array Slot} (hI : Inv h) (hH : HS g s H locs h) (hl : lv_has ls 7 [(0, .ref b), (1, .ref (gB g + X)), (2, .ref (gB g + M)), (3, .ref (gB g + O)), (4, .int x4)]) : W p l e room_1 s m #[.ref b] below meth c H locs cells slots (lw_Z below #[.ref b] s) (F0 m 831 ls []) := by
  obtain ⟨⟨hx, hb, hml, hown, hts⟩, htb, hlk, hkk, hbs⟩ := id C
  refine lv_aload_n hx hb dL_law_831 rfl (lv_at hl 1 rfl) ?_
  refine lv_aload_n hx hb dL_law_832 rfl (lv_at hl 0 rfl) ?_
  refine lv_iload hx hb dL_law_833 (lv_at hl 4 rfl) ?_
  refine lv_iconst (v := (1 : Int32)) hx hb dL_law_835 (by decide) ?_
  refine lv_iadd hx hb dL_law_836 ?_
  refine va_sld hx hb hX hbl hbA hH.2 (hin (1 : Int32) (by decide) (by decide)) dL_law_837 ?_
  refine lv_aload_n hx hb dL_law_838 rfl (lv_at hl 0 rfl) ?_
  refine lv_iload hx hb dL_law_839 (lv_at hl 4 rfl) ?_
  refine lv_iconst (v := (2 : Int32)) hx hb dL_law_841 (by decide) ?_
  refine lv_iadd hx hb dL_law_842 ?_
  refine va_sld hx hb hX hbl hbA hH.2 (hin (2 : Int32) (by decide) (by decide)) dL_law_843 ?_
  obtain ⟨r, h1, h2, e1, e2, hI⟩ := S h (xs (x4 + (1 : Int32)).toNatClampNeg) (xs (x4 + (2 : Int32)).toNatClampNeg) hI
  refine pg_Wl (As := [.int (xs (x4 + (1 : Int32)).toNatClampNeg), .int (xs (x4 + (2 : Int32)).toNatClampNeg)]) C hH mi_X9_test vl_L_97 (q := (RX9, TX9, 11)) (ci := 9) rfl rfl (oO_sp e1).1 (c_X9_test e1) rfl rfl hl.1 (Nat.le_of_ble_eq_true rfl) ⟨Nat.le_of_ble_eq_true rfl, Nat.le_of_ble_eq_true rfl⟩ ⟨Nat.le_of_succ_le hcs.1, Nat.le_trans (Nat.le_add_right _ _) hcs.2⟩ dL_law_844 (fun H locs hH => ?_)
  refine lv_aload_n hx hb dL_law_847 rfl (lv_at hl 2 rfl) ?_
  refine lv_aload_n hx hb dL_law_848 rfl (lv_at hl 0 rfl) ?_
  refine lv_iload hx hb dL_law_849 (lv_at hl 4 rfl) ?_
  refine lv_iconst (v := (1 : Int32)) hx hb dL_law_851 (by decide) ?_
  refine lv_iadd hx hb dL_law_852 ?_
  refine va_sld hx hb hX hbl hbA hH.2 (hin (1 : Int32) (by decide) (by decide)) dL_law_853 ?_
  refine lv_aload_n hx hb dL_law_854 rfl (lv_at hl 0 rfl) ?_
  refine lv_iload hx hb dL_law_855 (lv_at hl 4 rfl) ?_
  refine lv_iconst (v := (2 : Int32)) hx hb dL_law_857 (by decide) ?_
  refine lv_iadd hx hb dL_law_858 ?_
  refine va_sld hx hb hX hbl hbA hH.2 (hin (2 : Int32) (by decide) (by decide)) dL_law_859 ?_
  refine pg_Wl (As := [.int (xs (x4 + (1 : Int32)).toNatClampNeg), .int (xs (x4 + (2 : Int32)).toNatClampNeg)]) C hH mi_X10_test vl_L_100 (q := (RX10, TX10, 34)) (ci := 10) rfl rfl (oO_sp e2).1 (c_X10_test e2) rfl rfl hl.1 (Nat.le_of_ble_eq_true rfl) ⟨Nat.le_of_ble_eq_true rfl, Nat.le_of_ble_eq_true rfl⟩ ⟨Nat.le_of_succ_le hcs.1, Nat.le_trans (Nat.le_add_right _ _) hcs.2⟩ dL_law_860 (fun H locs hH => ?_)
  refine W.lcmp hx hb dL_law_863 ?_
  refine lv_if_eq (tgt := 1503) hx hb dL_law_864 (by decide) (fun cn => ?_) (fun cn => absurd ((lg_cmp_eq _ _).mpr rfl) cn)
  refine W.widen (k := cells + 1) (n := slots + 6) (Nat.le_succ _) (Nat.le_add_right _ _) ?_
  exact K hI hH hl
set_option maxHeartbeats 4000000 in
set_option maxRecDepth 100000 in
theorem lk_18 (C : CT g RL cL_law 7 lw_tbl p s m #[.ref b] meth c) (hX : va_X b L xs s s.heap) (hbl : b < s.heap.size) (hbA : ¬ gB g ≤ b) (hin : ∀ k : Int32, 0 ≤ k.toInt → k.toInt < 6 → vp_in (x4 + k) L) (S : SIM_passes Inv X M) {cells slots : Nat} (hcs : cells + 1 ≤ room_1.cells ∧ slots + 6 ≤ room_1.slots) (K : ∀ {h : PH} {H : Heap} {locs : List Loc} {ls : Array Slot}, Inv h → HS g s H locs h → lv_has ls 7 [(0, .ref b), (1, .ref (gB g + X)), (2, .ref (gB g + M)), (3, .ref (gB g + O)), (4, .int x4)] → W p l e room_1 s m #[.ref b] below meth c H locs (cells + 1) (slots + 6) (lw_Z below #[.ref b] s) (F0 m 1503 ls [])) {h : PH} {H : Heap} {locs : List Loc} {ls : Array Slot} (hI : Inv h) (hH : HS g s H locs h) (hl : lv_has ls 7 [(0, .ref b), (1, .ref (gB g + X)), (2, .ref (gB g + M)), (3, .ref (gB g + O)), (4, .int x4)]) : W p l e room_1 s m #[.ref b] below meth c H locs cells slots (lw_Z below #[.ref b] s) (F0 m 869 ls []) := by
  obtain ⟨⟨hx, hb, hml, hown, hts⟩, htb, hlk, hkk, hbs⟩ := id C
  refine lv_aload_n hx hb dL_law_869 rfl (lv_at hl 1 rfl) ?_
  refine lv_aload_n hx hb dL_law_870 rfl (lv_at hl 0 rfl) ?_
  refine lv_iload hx hb dL_law_871 (lv_at hl 4 rfl) ?_
  refine lv_iconst (v := (1 : Int32)) hx hb dL_law_873 (by decide) ?_
  refine lv_iadd hx hb dL_law_874 ?_
  refine va_sld hx hb hX hbl hbA hH.2 (hin (1 : Int32) (by decide) (by decide)) dL_law_875 ?_
  obtain ⟨r, h1, h2, e1, e2, hI⟩ := S h (xs (x4 + (1 : Int32)).toNatClampNeg) hI
  refine pg_Wi (As := [.int (xs (x4 + (1 : Int32)).toNatClampNeg)]) C hH mi_X9_passes vl_L_101 (q := (RX9, TX9, 11)) (ci := 9) rfl rfl (oO_sp e1).1 (c_X9_passes e1) rfl rfl hl.1 (Nat.le_of_ble_eq_true rfl) ⟨Nat.le_of_ble_eq_true rfl, Nat.le_of_ble_eq_true rfl⟩ ⟨Nat.le_of_succ_le hcs.1, Nat.le_trans (Nat.le_add_right _ _) hcs.2⟩ dL_law_876 (fun H locs hH => ?_)
  refine lv_aload_n hx hb dL_law_879 rfl (lv_at hl 2 rfl) ?_
  refine lv_aload_n hx hb dL_law_880 rfl (lv_at hl 0 rfl) ?_
  refine lv_iload hx hb dL_law_881 (lv_at hl 4 rfl) ?_
  refine lv_iconst (v := (1 : Int32)) hx hb dL_law_883 (by decide) ?_
  refine lv_iadd hx hb dL_law_884 ?_
  refine va_sld hx hb hX hbl hbA hH.2 (hin (1 : Int32) (by decide) (by decide)) dL_law_885 ?_
  refine pg_Wi (As := [.int (xs (x4 + (1 : Int32)).toNatClampNeg)]) C hH mi_X10_passes vl_L_104 (q := (RX10, TX10, 34)) (ci := 10) rfl rfl (oO_sp e2).1 (c_X10_passes e2) rfl rfl hl.1 (Nat.le_of_ble_eq_true rfl) ⟨Nat.le_of_ble_eq_true rfl, Nat.le_of_ble_eq_true rfl⟩ ⟨Nat.le_of_succ_le hcs.1, Nat.le_trans (Nat.le_add_right _ _) hcs.2⟩ dL_law_886 (fun H locs hH => ?_)
  refine lv_icmp_eq (tgt := 1503) hx hb dL_law_889 (by decide) (fun cn => ?_) (fun cn => absurd rfl cn)
  refine W.widen (k := cells + 1) (n := slots + 6) (Nat.le_succ _) (Nat.le_add_right _ _) ?_
  exact K hI hH hl
set_option maxHeartbeats 4000000 in
set_option maxRecDepth 100000 in
theorem lk_19 (C : CT g RL cL_law 7 lw_tbl p s m #[.ref b] meth c) (hX : va_X b L xs s s.heap) (hbl : b < s.heap.size) (hbA : ¬ gB g ≤ b) (hin : ∀ k : Int32, 0 ≤ k.toInt → k.toInt < 6 → vp_in (x4 + k) L) (S : SIM_prices Inv X M) {cells slots : Nat} (hcs : cells + 1 ≤ room_1.cells ∧ slots + 6 ≤ room_1.slots) (K : ∀ {h : PH} {H : Heap} {locs : List Loc} {ls : Array Slot}, Inv h → HS g s H locs h → lv_has ls 7 [(0, .ref b), (1, .ref (gB g + X)), (2, .ref (gB g + M)), (3, .ref (gB g + O)), (4, .int x4)] → W p l e room_1 s m #[.ref b] below meth c H locs (cells + 1) (slots + 6) (lw_Z below #[.ref b] s) (F0 m 1503 ls [])) {h : PH} {H : Heap} {locs : List Loc} {ls : Array Slot} (hI : Inv h) (hH : HS g s H locs h) (hl : lv_has ls 7 [(0, .ref b), (1, .ref (gB g + X)), (2, .ref (gB g + M)), (3, .ref (gB g + O)), (4, .int x4)]) : W p l e room_1 s m #[.ref b] below meth c H locs cells slots (lw_Z below #[.ref b] s) (F0 m 894 ls []) := by
  obtain ⟨⟨hx, hb, hml, hown, hts⟩, htb, hlk, hkk, hbs⟩ := id C
  refine lv_aload_n hx hb dL_law_894 rfl (lv_at hl 1 rfl) ?_
  refine lv_aload_n hx hb dL_law_895 rfl (lv_at hl 0 rfl) ?_
  refine lv_iload hx hb dL_law_896 (lv_at hl 4 rfl) ?_
  refine lv_iconst (v := (1 : Int32)) hx hb dL_law_898 (by decide) ?_
  refine lv_iadd hx hb dL_law_899 ?_
  refine va_sld hx hb hX hbl hbA hH.2 (hin (1 : Int32) (by decide) (by decide)) dL_law_900 ?_
  refine lv_aload_n hx hb dL_law_901 rfl (lv_at hl 0 rfl) ?_
  refine lv_iload hx hb dL_law_902 (lv_at hl 4 rfl) ?_
  refine lv_iconst (v := (2 : Int32)) hx hb dL_law_904 (by decide) ?_
  refine lv_iadd hx hb dL_law_905 ?_
  refine va_sld hx hb hX hbl hbA hH.2 (hin (2 : Int32) (by decide) (by decide)) dL_law_906 ?_
  obtain ⟨r, h1, h2, e1, e2, hI⟩ := S h (xs (x4 + (1 : Int32)).toNatClampNeg) (xs (x4 + (2 : Int32)).toNatClampNeg) hI
  refine pg_Wi (As := [.int (xs (x4 + (1 : Int32)).toNatClampNeg), .int (xs (x4 + (2 : Int32)).toNatClampNeg)]) C hH mi_X9_prices vl_L_105 (q := (RX9, TX9, 11)) (ci := 9) rfl rfl (oO_sp e1).1 (c_X9_prices e1) rfl rfl hl.1 (Nat.le_of_ble_eq_true rfl) ⟨Nat.le_of_ble_eq_true rfl, Nat.le_of_ble_eq_true rfl⟩ ⟨Nat.le_of_succ_le hcs.1, Nat.le_trans (Nat.le_add_right _ _) hcs.2⟩ dL_law_907 (fun H locs hH => ?_)
  refine lv_aload_n hx hb dL_law_910 rfl (lv_at hl 2 rfl) ?_
  refine lv_aload_n hx hb dL_law_911 rfl (lv_at hl 0 rfl) ?_
  refine lv_iload hx hb dL_law_912 (lv_at hl 4 rfl) ?_
  refine lv_iconst (v := (1 : Int32)) hx hb dL_law_914 (by decide) ?_
  refine lv_iadd hx hb dL_law_915 ?_
  refine va_sld hx hb hX hbl hbA hH.2 (hin (1 : Int32) (by decide) (by decide)) dL_law_916 ?_
  refine lv_aload_n hx hb dL_law_917 rfl (lv_at hl 0 rfl) ?_
  refine lv_iload hx hb dL_law_918 (lv_at hl 4 rfl) ?_
  refine lv_iconst (v := (2 : Int32)) hx hb dL_law_920 (by decide) ?_
  refine lv_iadd hx hb dL_law_921 ?_
  refine va_sld hx hb hX hbl hbA hH.2 (hin (2 : Int32) (by decide) (by decide)) dL_law_922 ?_
  refine pg_Wi (As := [.int (xs (x4 + (1 : Int32)).toNatClampNeg), .int (xs (x4 + (2 : Int32)).toNatClampNeg)]) C hH mi_X10_prices vl_L_108 (q := (RX10, TX10, 34)) (ci := 10) rfl rfl (oO_sp e2).1 (c_X10_prices e2) rfl rfl hl.1 (Nat.le_of_ble_eq_true rfl) ⟨Nat.le_of_ble_eq_true rfl, Nat.le_of_ble_eq_true rfl⟩ ⟨Nat.le_of_succ_le hcs.1, Nat.le_trans (Nat.le_add_right _ _) hcs.2⟩ dL_law_923 (fun H locs hH => ?_)
  refine lv_icmp_eq (tgt := 1503) hx hb dL_law_926 (by decide) (fun cn => ?_) (fun cn => absurd rfl cn)
  refine W.widen (k := cells + 1) (n := slots + 6) (Nat.le_succ _) (Nat.le_add_right _ _) ?_
  exact K hI hH hl
set_option maxHeartbeats 4000000 in
set_option maxRecDepth 100000 in
theorem lk_20 (C : CT g RL cL_law 7 lw_tbl p s m #[.ref b] meth c) (hX : va_X b L xs s s.heap) (hbl : b < s.heap.size) (hbA : ¬ gB g ≤ b) (hin : ∀ k : Int32, 0 ≤ k.toInt → k.toInt < 6 → vp_in (x4 + k) L) (S : SIM_needs Inv X M) {cells slots : Nat} (hcs : cells + 1 ≤ room_1.cells ∧ slots + 6 ≤ room_1.slots) (K : ∀ {h : PH} {H : Heap} {locs : List Loc} {ls : Array Slot}, Inv h → HS g s H locs h → lv_has ls 7 [(0, .ref b), (1, .ref (gB g + X)), (2, .ref (gB g + M)), (3, .ref (gB g + O)), (4, .int x4)] → W p l e room_1 s m #[.ref b] below meth c H locs (cells + 1) (slots + 6) (lw_Z below #[.ref b] s) (F0 m 1503 ls [])) {h : PH} {H : Heap} {locs : List Loc} {ls : Array Slot} (hI : Inv h) (hH : HS g s H locs h) (hl : lv_has ls 7 [(0, .ref b), (1, .ref (gB g + X)), (2, .ref (gB g + M)), (3, .ref (gB g + O)), (4, .int x4)]) : W p l e room_1 s m #[.ref b] below meth c H locs cells slots (lw_Z below #[.ref b] s) (F0 m 931 ls []) := by
  obtain ⟨⟨hx, hb, hml, hown, hts⟩, htb, hlk, hkk, hbs⟩ := id C
  refine lv_aload_n hx hb dL_law_931 rfl (lv_at hl 1 rfl) ?_
  refine lv_aload_n hx hb dL_law_932 rfl (lv_at hl 0 rfl) ?_
  refine lv_iload hx hb dL_law_933 (lv_at hl 4 rfl) ?_
  refine lv_iconst (v := (1 : Int32)) hx hb dL_law_935 (by decide) ?_
  refine lv_iadd hx hb dL_law_936 ?_
  refine va_sld hx hb hX hbl hbA hH.2 (hin (1 : Int32) (by decide) (by decide)) dL_law_937 ?_
  obtain ⟨r, h1, h2, e1, e2, hI⟩ := S h (xs (x4 + (1 : Int32)).toNatClampNeg) hI
  refine pg_Wi (As := [.int (xs (x4 + (1 : Int32)).toNatClampNeg)]) C hH mi_X9_needs vl_L_109 (q := (RX9, TX9, 11)) (ci := 9) rfl rfl (oO_sp e1).1 (c_X9_needs e1) rfl rfl hl.1 (Nat.le_of_ble_eq_true rfl) ⟨Nat.le_of_ble_eq_true rfl, Nat.le_of_ble_eq_true rfl⟩ ⟨Nat.le_of_succ_le hcs.1, Nat.le_trans (Nat.le_add_right _ _) hcs.2⟩ dL_law_938 (fun H locs hH => ?_)
  refine lv_aload_n hx hb dL_law_941 rfl (lv_at hl 2 rfl) ?_
  refine lv_aload_n hx hb dL_law_942 rfl (lv_at hl 0 rfl) ?_
  refine lv_iload hx hb dL_law_943 (lv_at hl 4 rfl) ?_
  refine lv_iconst (v := (1 : Int32)) hx hb dL_law_945 (by decide) ?_
  refine lv_iadd hx hb dL_law_946 ?_
  refine va_sld hx hb hX hbl hbA hH.2 (hin (1 : Int32) (by decide) (by decide)) dL_law_947 ?_
  refine pg_Wi (As := [.int (xs (x4 + (1 : Int32)).toNatClampNeg)]) C hH mi_X10_needs vl_L_112 (q := (RX10, TX10, 34)) (ci := 10) rfl rfl (oO_sp e2).1 (c_X10_needs e2) rfl rfl hl.1 (Nat.le_of_ble_eq_true rfl) ⟨Nat.le_of_ble_eq_true rfl, Nat.le_of_ble_eq_true rfl⟩ ⟨Nat.le_of_succ_le hcs.1, Nat.le_trans (Nat.le_add_right _ _) hcs.2⟩ dL_law_948 (fun H locs hH => ?_)
  refine lv_icmp_eq (tgt := 1503) hx hb dL_law_951 (by decide) (fun cn => ?_) (fun cn => absurd rfl cn)
  refine W.widen (k := cells + 1) (n := slots + 6) (Nat.le_succ _) (Nat.le_add_right _ _) ?_
  exact K hI hH hl
set_option maxHeartbeats 4000000 in
set_option maxRecDepth 100000 in
theorem lk_21 (C : CT g RL cL_law 7 lw_tbl p s m #[.ref b] meth c) (hX : va_X b L xs s s.heap) (hbl : b < s.heap.size) (hbA : ¬ gB g ≤ b) (hin : ∀ k : Int32, 0 ≤ k.toInt → k.toInt < 6 → vp_in (x4 + k) L) (S : SIM_rests Inv X M) {cells slots : Nat} (hcs : cells + 1 ≤ room_1.cells ∧ slots + 6 ≤ room_1.slots) (K : ∀ {h : PH} {H : Heap} {locs : List Loc} {ls : Array Slot}, Inv h → HS g s H locs h → lv_has ls 7 [(0, .ref b), (1, .ref (gB g + X)), (2, .ref (gB g + M)), (3, .ref (gB g + O)), (4, .int x4)] → W p l e room_1 s m #[.ref b] below meth c H locs (cells + 1) (slots + 6) (lw_Z below #[.ref b] s) (F0 m 1503 ls [])) {h : PH} {H : Heap} {locs : List Loc} {ls : Array Slot} (hI : Inv h) (hH : HS g s H locs h) (hl : lv_has ls 7 [(0, .ref b), (1, .ref (gB g + X)), (2, .ref (gB g + M)), (3, .ref (gB g + O)), (4, .int x4)]) : W p l e room_1 s m #[.ref b] below meth c H locs cells slots (lw_Z below #[.ref b] s) (F0 m 956 ls []) := by
  obtain ⟨⟨hx, hb, hml, hown, hts⟩, htb, hlk, hkk, hbs⟩ := id C
  refine lv_aload_n hx hb dL_law_956 rfl (lv_at hl 1 rfl) ?_
  refine lv_aload_n hx hb dL_law_957 rfl (lv_at hl 0 rfl) ?_
  refine lv_iload hx hb dL_law_958 (lv_at hl 4 rfl) ?_
  refine lv_iconst (v := (1 : Int32)) hx hb dL_law_960 (by decide) ?_
  refine lv_iadd hx hb dL_law_961 ?_
  refine va_sld hx hb hX hbl hbA hH.2 (hin (1 : Int32) (by decide) (by decide)) dL_law_962 ?_
  obtain ⟨r, h1, h2, e1, e2, hI⟩ := S h (xs (x4 + (1 : Int32)).toNatClampNeg) hI
  refine pg_Wi (As := [.int (xs (x4 + (1 : Int32)).toNatClampNeg)]) C hH mi_X9_rests vl_L_113 (q := (RX9, TX9, 11)) (ci := 9) rfl rfl (oO_sp e1).1 (c_X9_rests e1) rfl rfl hl.1 (Nat.le_of_ble_eq_true rfl) ⟨Nat.le_of_ble_eq_true rfl, Nat.le_of_ble_eq_true rfl⟩ ⟨Nat.le_of_succ_le hcs.1, Nat.le_trans (Nat.le_add_right _ _) hcs.2⟩ dL_law_963 (fun H locs hH => ?_)
  refine lv_aload_n hx hb dL_law_966 rfl (lv_at hl 2 rfl) ?_
  refine lv_aload_n hx hb dL_law_967 rfl (lv_at hl 0 rfl) ?_
  refine lv_iload hx hb dL_law_968 (lv_at hl 4 rfl) ?_
  refine lv_iconst (v := (1 : Int32)) hx hb dL_law_970 (by decide) ?_
  refine lv_iadd hx hb dL_law_971 ?_
  refine va_sld hx hb hX hbl hbA hH.2 (hin (1 : Int32) (by decide) (by decide)) dL_law_972 ?_
  refine pg_Wi (As := [.int (xs (x4 + (1 : Int32)).toNatClampNeg)]) C hH mi_X10_rests vl_L_116 (q := (RX10, TX10, 34)) (ci := 10) rfl rfl (oO_sp e2).1 (c_X10_rests e2) rfl rfl hl.1 (Nat.le_of_ble_eq_true rfl) ⟨Nat.le_of_ble_eq_true rfl, Nat.le_of_ble_eq_true rfl⟩ ⟨Nat.le_of_succ_le hcs.1, Nat.le_trans (Nat.le_add_right _ _) hcs.2⟩ dL_law_973 (fun H locs hH => ?_)
  refine lv_icmp_eq (tgt := 1503) hx hb dL_law_976 (by decide) (fun cn => ?_) (fun cn => absurd rfl cn)
  refine W.widen (k := cells + 1) (n := slots + 6) (Nat.le_succ _) (Nat.le_add_right _ _) ?_
  exact K hI hH hl
set_option maxHeartbeats 4000000 in
set_option maxRecDepth 100000 in
theorem lk_22 (C : CT g RL cL_law 7 lw_tbl p s m #[.ref b] meth c) (hX : va_X b L xs s s.heap) (hbl : b < s.heap.size) (hbA : ¬ gB g ≤ b) (hin : ∀ k : Int32, 0 ≤ k.toInt → k.toInt < 6 → vp_in (x4 + k) L) (S : SIM_turned Inv X M) {cells slots : Nat} (hcs : cells + 1 ≤ room_1.cells ∧ slots + 6 ≤ room_1.slots) (K : ∀ {h : PH} {H : Heap} {locs : List Loc} {ls : Array Slot}, Inv h → HS g s H locs h → lv_has ls 7 [(0, .ref b), (1, .ref (gB g + X)), (2, .ref (gB g + M)), (3, .ref (gB g + O)), (4, .int x4)] → W p l e room_1 s m #[.ref b] below meth c H locs (cells + 1) (slots + 6) (lw_Z below #[.ref b] s) (F0 m 1503 ls [])) {h : PH} {H : Heap} {locs : List Loc} {ls : Array Slot} (hI : Inv h) (hH : HS g s H locs h) (hl : lv_has ls 7 [(0, .ref b), (1, .ref (gB g + X)), (2, .ref (gB g + M)), (3, .ref (gB g + O)), (4, .int x4)]) : W p l e room_1 s m #[.ref b] below meth c H locs cells slots (lw_Z below #[.ref b] s) (F0 m 981 ls []) := by
  obtain ⟨⟨hx, hb, hml, hown, hts⟩, htb, hlk, hkk, hbs⟩ := id C
  refine lv_aload_n hx hb dL_law_981 rfl (lv_at hl 1 rfl) ?_
  refine lv_aload_n hx hb dL_law_982 rfl (lv_at hl 0 rfl) ?_
  refine lv_iload hx hb dL_law_983 (lv_at hl 4 rfl) ?_
  refine lv_iconst (v := (1 : Int32)) hx hb dL_law_985 (by decide) ?_
  refine lv_iadd hx hb dL_law_986 ?_
  refine va_sld hx hb hX hbl hbA hH.2 (hin (1 : Int32) (by decide) (by decide)) dL_law_987 ?_
  obtain ⟨r, h1, h2, e1, e2, hI⟩ := S h (xs (x4 + (1 : Int32)).toNatClampNeg) hI
  refine pg_Wl (As := [.int (xs (x4 + (1 : Int32)).toNatClampNeg)]) C hH mi_X9_turned vl_L_117 (q := (RX9, TX9, 11)) (ci := 9) rfl rfl (oO_sp e1).1 (c_X9_turned e1) rfl rfl hl.1 (Nat.le_of_ble_eq_true rfl) ⟨Nat.le_of_ble_eq_true rfl, Nat.le_of_ble_eq_true rfl⟩ ⟨Nat.le_of_succ_le hcs.1, Nat.le_trans (Nat.le_add_right _ _) hcs.2⟩ dL_law_988 (fun H locs hH => ?_)
  refine lv_aload_n hx hb dL_law_991 rfl (lv_at hl 2 rfl) ?_
  refine lv_aload_n hx hb dL_law_992 rfl (lv_at hl 0 rfl) ?_
  refine lv_iload hx hb dL_law_993 (lv_at hl 4 rfl) ?_
  refine lv_iconst (v := (1 : Int32)) hx hb dL_law_995 (by decide) ?_
  refine lv_iadd hx hb dL_law_996 ?_
  refine va_sld hx hb hX hbl hbA hH.2 (hin (1 : Int32) (by decide) (by decide)) dL_law_997 ?_
  refine pg_Wl (As := [.int (xs (x4 + (1 : Int32)).toNatClampNeg)]) C hH mi_X10_turned vl_L_120 (q := (RX10, TX10, 34)) (ci := 10) rfl rfl (oO_sp e2).1 (c_X10_turned e2) rfl rfl hl.1 (Nat.le_of_ble_eq_true rfl) ⟨Nat.le_of_ble_eq_true rfl, Nat.le_of_ble_eq_true rfl⟩ ⟨Nat.le_of_succ_le hcs.1, Nat.le_trans (Nat.le_add_right _ _) hcs.2⟩ dL_law_998 (fun H locs hH => ?_)
  refine W.lcmp hx hb dL_law_1001 ?_
  refine lv_if_eq (tgt := 1503) hx hb dL_law_1002 (by decide) (fun cn => ?_) (fun cn => absurd ((lg_cmp_eq _ _).mpr rfl) cn)
  refine W.widen (k := cells + 1) (n := slots + 6) (Nat.le_succ _) (Nat.le_add_right _ _) ?_
  exact K hI hH hl
set_option maxHeartbeats 4000000 in
set_option maxRecDepth 100000 in
theorem lk_23 (C : CT g RL cL_law 7 lw_tbl p s m #[.ref b] meth c) (hX : va_X b L xs s s.heap) (hbl : b < s.heap.size) (hbA : ¬ gB g ≤ b) (hin : ∀ k : Int32, 0 ≤ k.toInt → k.toInt < 6 → vp_in (x4 + k) L) (S : SIM_due Inv X M) {cells slots : Nat} (hcs : cells + 1 ≤ room_1.cells ∧ slots + 6 ≤ room_1.slots) (K : ∀ {h : PH} {H : Heap} {locs : List Loc} {ls : Array Slot}, Inv h → HS g s H locs h → lv_has ls 7 [(0, .ref b), (1, .ref (gB g + X)), (2, .ref (gB g + M)), (3, .ref (gB g + O)), (4, .int x4)] → W p l e room_1 s m #[.ref b] below meth c H locs (cells + 1) (slots + 6) (lw_Z below #[.ref b] s) (F0 m 1503 ls [])) {h : PH} {H : Heap} {locs : List Loc} {ls : Array Slot} (hI : Inv h) (hH : HS g s H locs h) (hl : lv_has ls 7 [(0, .ref b), (1, .ref (gB g + X)), (2, .ref (gB g + M)), (3, .ref (gB g + O)), (4, .int x4)]) : W p l e room_1 s m #[.ref b] below meth c H locs cells slots (lw_Z below #[.ref b] s) (F0 m 1007 ls []) := by
  obtain ⟨⟨hx, hb, hml, hown, hts⟩, htb, hlk, hkk, hbs⟩ := id C
  refine lv_aload_n hx hb dL_law_1007 rfl (lv_at hl 1 rfl) ?_
  refine lv_aload_n hx hb dL_law_1008 rfl (lv_at hl 0 rfl) ?_
  refine lv_iload hx hb dL_law_1009 (lv_at hl 4 rfl) ?_
  refine lv_iconst (v := (1 : Int32)) hx hb dL_law_1011 (by decide) ?_
  refine lv_iadd hx hb dL_law_1012 ?_
  refine va_sld hx hb hX hbl hbA hH.2 (hin (1 : Int32) (by decide) (by decide)) dL_law_1013 ?_
  obtain ⟨r, h1, h2, e1, e2, hI⟩ := S h (xs (x4 + (1 : Int32)).toNatClampNeg) hI
  refine pg_Wl (As := [.int (xs (x4 + (1 : Int32)).toNatClampNeg)]) C hH mi_X9_due vl_L_121 (q := (RX9, TX9, 11)) (ci := 9) rfl rfl (oO_sp e1).1 (c_X9_due e1) rfl rfl hl.1 (Nat.le_of_ble_eq_true rfl) ⟨Nat.le_of_ble_eq_true rfl, Nat.le_of_ble_eq_true rfl⟩ ⟨Nat.le_of_succ_le hcs.1, Nat.le_trans (Nat.le_add_right _ _) hcs.2⟩ dL_law_1014 (fun H locs hH => ?_)
  refine lv_aload_n hx hb dL_law_1017 rfl (lv_at hl 2 rfl) ?_
  refine lv_aload_n hx hb dL_law_1018 rfl (lv_at hl 0 rfl) ?_
  refine lv_iload hx hb dL_law_1019 (lv_at hl 4 rfl) ?_
  refine lv_iconst (v := (1 : Int32)) hx hb dL_law_1021 (by decide) ?_
  refine lv_iadd hx hb dL_law_1022 ?_
  refine va_sld hx hb hX hbl hbA hH.2 (hin (1 : Int32) (by decide) (by decide)) dL_law_1023 ?_
  refine pg_Wl (As := [.int (xs (x4 + (1 : Int32)).toNatClampNeg)]) C hH mi_X10_due vl_L_124 (q := (RX10, TX10, 34)) (ci := 10) rfl rfl (oO_sp e2).1 (c_X10_due e2) rfl rfl hl.1 (Nat.le_of_ble_eq_true rfl) ⟨Nat.le_of_ble_eq_true rfl, Nat.le_of_ble_eq_true rfl⟩ ⟨Nat.le_of_succ_le hcs.1, Nat.le_trans (Nat.le_add_right _ _) hcs.2⟩ dL_law_1024 (fun H locs hH => ?_)
  refine W.lcmp hx hb dL_law_1027 ?_
  refine lv_if_eq (tgt := 1503) hx hb dL_law_1028 (by decide) (fun cn => ?_) (fun cn => absurd ((lg_cmp_eq _ _).mpr rfl) cn)
  refine W.widen (k := cells + 1) (n := slots + 6) (Nat.le_succ _) (Nat.le_add_right _ _) ?_
  exact K hI hH hl
set_option maxHeartbeats 4000000 in
set_option maxRecDepth 100000 in
theorem lk_24 (C : CT g RL cL_law 7 lw_tbl p s m #[.ref b] meth c) (hX : va_X b L xs s s.heap) (hbl : b < s.heap.size) (hbA : ¬ gB g ≤ b) (hin : ∀ k : Int32, 0 ≤ k.toInt → k.toInt < 6 → vp_in (x4 + k) L) (S : SIM_dues Inv X M) {cells slots : Nat} (hcs : cells + 1 ≤ room_1.cells ∧ slots + 6 ≤ room_1.slots) (K : ∀ {h : PH} {H : Heap} {locs : List Loc} {ls : Array Slot}, Inv h → HS g s H locs h → lv_has ls 7 [(0, .ref b), (1, .ref (gB g + X)), (2, .ref (gB g + M)), (3, .ref (gB g + O)), (4, .int x4)] → W p l e room_1 s m #[.ref b] below meth c H locs (cells + 1) (slots + 6) (lw_Z below #[.ref b] s) (F0 m 1503 ls [])) {h : PH} {H : Heap} {locs : List Loc} {ls : Array Slot} (hI : Inv h) (hH : HS g s H locs h) (hl : lv_has ls 7 [(0, .ref b), (1, .ref (gB g + X)), (2, .ref (gB g + M)), (3, .ref (gB g + O)), (4, .int x4)]) : W p l e room_1 s m #[.ref b] below meth c H locs cells slots (lw_Z below #[.ref b] s) (F0 m 1033 ls []) := by
  obtain ⟨⟨hx, hb, hml, hown, hts⟩, htb, hlk, hkk, hbs⟩ := id C
  refine lv_aload_n hx hb dL_law_1033 rfl (lv_at hl 1 rfl) ?_
  obtain ⟨r, h1, h2, e1, e2, hI⟩ := S h  hI
  refine pg_Wl (As := []) C hH mi_X9_dues vl_L_125 (q := (RX9, TX9, 11)) (ci := 9) rfl rfl (oO_sp e1).1 (c_X9_dues e1) rfl rfl hl.1 (Nat.le_of_ble_eq_true rfl) ⟨Nat.le_of_ble_eq_true rfl, Nat.le_of_ble_eq_true rfl⟩ ⟨Nat.le_of_succ_le hcs.1, Nat.le_trans (Nat.le_add_right _ _) hcs.2⟩ dL_law_1034 (fun H locs hH => ?_)
  refine lv_aload_n hx hb dL_law_1037 rfl (lv_at hl 2 rfl) ?_
  refine pg_Wl (As := []) C hH mi_X10_dues vl_L_129 (q := (RX10, TX10, 34)) (ci := 10) rfl rfl (oO_sp e2).1 (c_X10_dues e2) rfl rfl hl.1 (Nat.le_of_ble_eq_true rfl) ⟨Nat.le_of_ble_eq_true rfl, Nat.le_of_ble_eq_true rfl⟩ ⟨Nat.le_of_succ_le hcs.1, Nat.le_trans (Nat.le_add_right _ _) hcs.2⟩ dL_law_1038 (fun H locs hH => ?_)
  refine W.lcmp hx hb dL_law_1041 ?_
  refine lv_if_eq (tgt := 1503) hx hb dL_law_1042 (by decide) (fun cn => ?_) (fun cn => absurd ((lg_cmp_eq _ _).mpr rfl) cn)
  refine W.widen (k := cells + 1) (n := slots + 6) (Nat.le_succ _) (Nat.le_add_right _ _) ?_
  exact K hI hH hl
set_option maxHeartbeats 4000000 in
set_option maxRecDepth 100000 in
theorem lk_25 (C : CT g RL cL_law 7 lw_tbl p s m #[.ref b] meth c) (hX : va_X b L xs s s.heap) (hbl : b < s.heap.size) (hbA : ¬ gB g ≤ b) (hin : ∀ k : Int32, 0 ≤ k.toInt → k.toInt < 6 → vp_in (x4 + k) L) (S : SIM_all Inv X M) {cells slots : Nat} (hcs : cells + 1 ≤ room_1.cells ∧ slots + 6 ≤ room_1.slots) (K : ∀ {h : PH} {H : Heap} {locs : List Loc} {ls : Array Slot}, Inv h → HS g s H locs h → lv_has ls 7 [(0, .ref b), (1, .ref (gB g + X)), (2, .ref (gB g + M)), (3, .ref (gB g + O)), (4, .int x4)] → W p l e room_1 s m #[.ref b] below meth c H locs (cells + 1) (slots + 6) (lw_Z below #[.ref b] s) (F0 m 1503 ls [])) {h : PH} {H : Heap} {locs : List Loc} {ls : Array Slot} (hI : Inv h) (hH : HS g s H locs h) (hl : lv_has ls 7 [(0, .ref b), (1, .ref (gB g + X)), (2, .ref (gB g + M)), (3, .ref (gB g + O)), (4, .int x4)]) : W p l e room_1 s m #[.ref b] below meth c H locs cells slots (lw_Z below #[.ref b] s) (F0 m 1047 ls []) := by
  obtain ⟨⟨hx, hb, hml, hown, hts⟩, htb, hlk, hkk, hbs⟩ := id C
  refine lv_aload_n hx hb dL_law_1047 rfl (lv_at hl 1 rfl) ?_
  refine lv_aload_n hx hb dL_law_1048 rfl (lv_at hl 0 rfl) ?_
  refine lv_iload hx hb dL_law_1049 (lv_at hl 4 rfl) ?_
  refine lv_iconst (v := (1 : Int32)) hx hb dL_law_1051 (by decide) ?_
  refine lv_iadd hx hb dL_law_1052 ?_
  refine va_sld hx hb hX hbl hbA hH.2 (hin (1 : Int32) (by decide) (by decide)) dL_law_1053 ?_
  obtain ⟨r, h1, h2, e1, e2, hI⟩ := S h (xs (x4 + (1 : Int32)).toNatClampNeg) hI
  refine pg_Wi (As := [.int (xs (x4 + (1 : Int32)).toNatClampNeg)]) C hH mi_X9_all vl_L_130 (q := (RX9, TX9, 11)) (ci := 9) rfl rfl (oO_sp e1).1 (c_X9_all e1) rfl rfl hl.1 (Nat.le_of_ble_eq_true rfl) ⟨Nat.le_of_ble_eq_true rfl, Nat.le_of_ble_eq_true rfl⟩ ⟨Nat.le_of_succ_le hcs.1, Nat.le_trans (Nat.le_add_right _ _) hcs.2⟩ dL_law_1054 (fun H locs hH => ?_)
  refine lv_aload_n hx hb dL_law_1057 rfl (lv_at hl 2 rfl) ?_
  refine lv_aload_n hx hb dL_law_1058 rfl (lv_at hl 0 rfl) ?_
  refine lv_iload hx hb dL_law_1059 (lv_at hl 4 rfl) ?_
  refine lv_iconst (v := (1 : Int32)) hx hb dL_law_1061 (by decide) ?_
  refine lv_iadd hx hb dL_law_1062 ?_
  refine va_sld hx hb hX hbl hbA hH.2 (hin (1 : Int32) (by decide) (by decide)) dL_law_1063 ?_
  refine pg_Wi (As := [.int (xs (x4 + (1 : Int32)).toNatClampNeg)]) C hH mi_X10_all vl_L_133 (q := (RX10, TX10, 34)) (ci := 10) rfl rfl (oO_sp e2).1 (c_X10_all e2) rfl rfl hl.1 (Nat.le_of_ble_eq_true rfl) ⟨Nat.le_of_ble_eq_true rfl, Nat.le_of_ble_eq_true rfl⟩ ⟨Nat.le_of_succ_le hcs.1, Nat.le_trans (Nat.le_add_right _ _) hcs.2⟩ dL_law_1064 (fun H locs hH => ?_)
  refine lv_icmp_eq (tgt := 1503) hx hb dL_law_1067 (by decide) (fun cn => ?_) (fun cn => absurd rfl cn)
  refine W.widen (k := cells + 1) (n := slots + 6) (Nat.le_succ _) (Nat.le_add_right _ _) ?_
  exact K hI hH hl
set_option maxHeartbeats 4000000 in
set_option maxRecDepth 100000 in
theorem lk_26 (C : CT g RL cL_law 7 lw_tbl p s m #[.ref b] meth c) (hX : va_X b L xs s s.heap) (hbl : b < s.heap.size) (hbA : ¬ gB g ≤ b) (hin : ∀ k : Int32, 0 ≤ k.toInt → k.toInt < 6 → vp_in (x4 + k) L) (S : SIM_report Inv X M) {cells slots : Nat} (hcs : cells + 1 ≤ room_1.cells ∧ slots + 6 ≤ room_1.slots) (K : ∀ {h : PH} {H : Heap} {locs : List Loc} {ls : Array Slot}, Inv h → HS g s H locs h → lv_has ls 7 [(0, .ref b), (1, .ref (gB g + X)), (2, .ref (gB g + M)), (3, .ref (gB g + O)), (4, .int x4)] → W p l e room_1 s m #[.ref b] below meth c H locs (cells + 1) (slots + 6) (lw_Z below #[.ref b] s) (F0 m 1503 ls [])) {h : PH} {H : Heap} {locs : List Loc} {ls : Array Slot} (hI : Inv h) (hH : HS g s H locs h) (hl : lv_has ls 7 [(0, .ref b), (1, .ref (gB g + X)), (2, .ref (gB g + M)), (3, .ref (gB g + O)), (4, .int x4)]) : W p l e room_1 s m #[.ref b] below meth c H locs cells slots (lw_Z below #[.ref b] s) (F0 m 1072 ls []) := by
  obtain ⟨⟨hx, hb, hml, hown, hts⟩, htb, hlk, hkk, hbs⟩ := id C
  refine lv_aload_n hx hb dL_law_1072 rfl (lv_at hl 1 rfl) ?_
  refine lv_aload_n hx hb dL_law_1073 rfl (lv_at hl 0 rfl) ?_
  refine lv_iload hx hb dL_law_1074 (lv_at hl 4 rfl) ?_
  refine lv_iconst (v := (1 : Int32)) hx hb dL_law_1076 (by decide) ?_
  refine lv_iadd hx hb dL_law_1077 ?_
  refine va_sld hx hb hX hbl hbA hH.2 (hin (1 : Int32) (by decide) (by decide)) dL_law_1078 ?_
  obtain ⟨r, h1, h2, e1, e2, hI⟩ := S h (xs (x4 + (1 : Int32)).toNatClampNeg) hI
  refine pg_Wi (As := [.int (xs (x4 + (1 : Int32)).toNatClampNeg)]) C hH mi_X9_report vl_L_134 (q := (RX9, TX9, 11)) (ci := 9) rfl rfl (oO_sp e1).1 (c_X9_report e1) rfl rfl hl.1 (Nat.le_of_ble_eq_true rfl) ⟨Nat.le_of_ble_eq_true rfl, Nat.le_of_ble_eq_true rfl⟩ ⟨Nat.le_of_succ_le hcs.1, Nat.le_trans (Nat.le_add_right _ _) hcs.2⟩ dL_law_1079 (fun H locs hH => ?_)
  refine lv_aload_n hx hb dL_law_1082 rfl (lv_at hl 2 rfl) ?_
  refine lv_aload_n hx hb dL_law_1083 rfl (lv_at hl 0 rfl) ?_
  refine lv_iload hx hb dL_law_1084 (lv_at hl 4 rfl) ?_
  refine lv_iconst (v := (1 : Int32)) hx hb dL_law_1086 (by decide) ?_
  refine lv_iadd hx hb dL_law_1087 ?_
  refine va_sld hx hb hX hbl hbA hH.2 (hin (1 : Int32) (by decide) (by decide)) dL_law_1088 ?_
  refine pg_Wi (As := [.int (xs (x4 + (1 : Int32)).toNatClampNeg)]) C hH mi_X10_report vl_L_137 (q := (RX10, TX10, 34)) (ci := 10) rfl rfl (oO_sp e2).1 (c_X10_report e2) rfl rfl hl.1 (Nat.le_of_ble_eq_true rfl) ⟨Nat.le_of_ble_eq_true rfl, Nat.le_of_ble_eq_true rfl⟩ ⟨Nat.le_of_succ_le hcs.1, Nat.le_trans (Nat.le_add_right _ _) hcs.2⟩ dL_law_1089 (fun H locs hH => ?_)
  refine lv_icmp_eq (tgt := 1503) hx hb dL_law_1092 (by decide) (fun cn => ?_) (fun cn => absurd rfl cn)
  refine W.widen (k := cells + 1) (n := slots + 6) (Nat.le_succ _) (Nat.le_add_right _ _) ?_
  exact K hI hH hl
set_option maxHeartbeats 4000000 in
set_option maxRecDepth 100000 in
theorem lk_27 (C : CT g RL cL_law 7 lw_tbl p s m #[.ref b] meth c) (hX : va_X b L xs s s.heap) (hbl : b < s.heap.size) (hbA : ¬ gB g ≤ b) (hin : ∀ k : Int32, 0 ≤ k.toInt → k.toInt < 6 → vp_in (x4 + k) L) (S : SIM_price Inv X M) {cells slots : Nat} (hcs : cells + 1 ≤ room_1.cells ∧ slots + 6 ≤ room_1.slots) (K : ∀ {h : PH} {H : Heap} {locs : List Loc} {ls : Array Slot}, Inv h → HS g s H locs h → lv_has ls 7 [(0, .ref b), (1, .ref (gB g + X)), (2, .ref (gB g + M)), (3, .ref (gB g + O)), (4, .int x4)] → W p l e room_1 s m #[.ref b] below meth c H locs (cells + 1) (slots + 6) (lw_Z below #[.ref b] s) (F0 m 1503 ls [])) {h : PH} {H : Heap} {locs : List Loc} {ls : Array Slot} (hI : Inv h) (hH : HS g s H locs h) (hl : lv_has ls 7 [(0, .ref b), (1, .ref (gB g + X)), (2, .ref (gB g + M)), (3, .ref (gB g + O)), (4, .int x4)]) : W p l e room_1 s m #[.ref b] below meth c H locs cells slots (lw_Z below #[.ref b] s) (F0 m 1097 ls []) := by
  obtain ⟨⟨hx, hb, hml, hown, hts⟩, htb, hlk, hkk, hbs⟩ := id C
  refine lv_aload_n hx hb dL_law_1097 rfl (lv_at hl 1 rfl) ?_
  refine lv_aload_n hx hb dL_law_1098 rfl (lv_at hl 0 rfl) ?_
  refine lv_iload hx hb dL_law_1099 (lv_at hl 4 rfl) ?_
  refine lv_iconst (v := (1 : Int32)) hx hb dL_law_1101 (by decide) ?_
  refine lv_iadd hx hb dL_law_1102 ?_
  refine va_sld hx hb hX hbl hbA hH.2 (hin (1 : Int32) (by decide) (by decide)) dL_law_1103 ?_
  refine lv_aload_n hx hb dL_law_1104 rfl (lv_at hl 0 rfl) ?_
  refine lv_iload hx hb dL_law_1105 (lv_at hl 4 rfl) ?_
  refine lv_iconst (v := (2 : Int32)) hx hb dL_law_1107 (by decide) ?_
  refine lv_iadd hx hb dL_law_1108 ?_
  refine va_sld hx hb hX hbl hbA hH.2 (hin (2 : Int32) (by decide) (by decide)) dL_law_1109 ?_
  obtain ⟨r, h1, h2, e1, e2, hI⟩ := S h (xs (x4 + (1 : Int32)).toNatClampNeg) (xs (x4 + (2 : Int32)).toNatClampNeg) hI
  refine pg_Wi (As := [.int (xs (x4 + (1 : Int32)).toNatClampNeg), .int (xs (x4 + (2 : Int32)).toNatClampNeg)]) C hH mi_X9_price vl_L_138 (q := (RX9, TX9, 11)) (ci := 9) rfl rfl (oO_sp e1).1 (c_X9_price e1) rfl rfl hl.1 (Nat.le_of_ble_eq_true rfl) ⟨Nat.le_of_ble_eq_true rfl, Nat.le_of_ble_eq_true rfl⟩ ⟨Nat.le_of_succ_le hcs.1, Nat.le_trans (Nat.le_add_right _ _) hcs.2⟩ dL_law_1110 (fun H locs hH => ?_)
  refine lv_aload_n hx hb dL_law_1113 rfl (lv_at hl 2 rfl) ?_
  refine lv_aload_n hx hb dL_law_1114 rfl (lv_at hl 0 rfl) ?_
  refine lv_iload hx hb dL_law_1115 (lv_at hl 4 rfl) ?_
  refine lv_iconst (v := (1 : Int32)) hx hb dL_law_1117 (by decide) ?_
  refine lv_iadd hx hb dL_law_1118 ?_
  refine va_sld hx hb hX hbl hbA hH.2 (hin (1 : Int32) (by decide) (by decide)) dL_law_1119 ?_
  refine lv_aload_n hx hb dL_law_1120 rfl (lv_at hl 0 rfl) ?_
  refine lv_iload hx hb dL_law_1121 (lv_at hl 4 rfl) ?_
  refine lv_iconst (v := (2 : Int32)) hx hb dL_law_1123 (by decide) ?_
  refine lv_iadd hx hb dL_law_1124 ?_
  refine va_sld hx hb hX hbl hbA hH.2 (hin (2 : Int32) (by decide) (by decide)) dL_law_1125 ?_
  refine pg_Wi (As := [.int (xs (x4 + (1 : Int32)).toNatClampNeg), .int (xs (x4 + (2 : Int32)).toNatClampNeg)]) C hH mi_X10_price vl_L_141 (q := (RX10, TX10, 34)) (ci := 10) rfl rfl (oO_sp e2).1 (c_X10_price e2) rfl rfl hl.1 (Nat.le_of_ble_eq_true rfl) ⟨Nat.le_of_ble_eq_true rfl, Nat.le_of_ble_eq_true rfl⟩ ⟨Nat.le_of_succ_le hcs.1, Nat.le_trans (Nat.le_add_right _ _) hcs.2⟩ dL_law_1126 (fun H locs hH => ?_)
  refine lv_icmp_eq (tgt := 1503) hx hb dL_law_1129 (by decide) (fun cn => ?_) (fun cn => absurd rfl cn)
  refine W.widen (k := cells + 1) (n := slots + 6) (Nat.le_succ _) (Nat.le_add_right _ _) ?_
  exact K hI hH hl
set_option maxHeartbeats 4000000 in
set_option maxRecDepth 100000 in
theorem lk_28 (C : CT g RL cL_law 7 lw_tbl p s m #[.ref b] meth c) (hX : va_X b L xs s s.heap) (hbl : b < s.heap.size) (hbA : ¬ gB g ≤ b) (hin : ∀ k : Int32, 0 ≤ k.toInt → k.toInt < 6 → vp_in (x4 + k) L) (S : SIM_bind Inv X M) {cells slots : Nat} (hcs : cells + 1 ≤ room_1.cells ∧ slots + 6 ≤ room_1.slots) (K : ∀ {h : PH} {H : Heap} {locs : List Loc} {ls : Array Slot}, Inv h → HS g s H locs h → lv_has ls 7 [(0, .ref b), (1, .ref (gB g + X)), (2, .ref (gB g + M)), (3, .ref (gB g + O)), (4, .int x4)] → W p l e room_1 s m #[.ref b] below meth c H locs (cells + 1) (slots + 6) (lw_Z below #[.ref b] s) (F0 m 1503 ls [])) {h : PH} {H : Heap} {locs : List Loc} {ls : Array Slot} (hI : Inv h) (hH : HS g s H locs h) (hl : lv_has ls 7 [(0, .ref b), (1, .ref (gB g + X)), (2, .ref (gB g + M)), (3, .ref (gB g + O)), (4, .int x4)]) : W p l e room_1 s m #[.ref b] below meth c H locs cells slots (lw_Z below #[.ref b] s) (F0 m 1134 ls []) := by
  obtain ⟨⟨hx, hb, hml, hown, hts⟩, htb, hlk, hkk, hbs⟩ := id C
  refine lv_aload_n hx hb dL_law_1134 rfl (lv_at hl 1 rfl) ?_
  refine lv_aload_n hx hb dL_law_1135 rfl (lv_at hl 0 rfl) ?_
  refine lv_iload hx hb dL_law_1136 (lv_at hl 4 rfl) ?_
  refine lv_iconst (v := (1 : Int32)) hx hb dL_law_1138 (by decide) ?_
  refine lv_iadd hx hb dL_law_1139 ?_
  refine va_sld hx hb hX hbl hbA hH.2 (hin (1 : Int32) (by decide) (by decide)) dL_law_1140 ?_
  refine lv_aload_n hx hb dL_law_1141 rfl (lv_at hl 0 rfl) ?_
  refine lv_iload hx hb dL_law_1142 (lv_at hl 4 rfl) ?_
  refine lv_iconst (v := (2 : Int32)) hx hb dL_law_1144 (by decide) ?_
  refine lv_iadd hx hb dL_law_1145 ?_
  refine va_sld hx hb hX hbl hbA hH.2 (hin (2 : Int32) (by decide) (by decide)) dL_law_1146 ?_
  refine lv_if_eq (tgt := 1154) hx hb dL_law_1147 (by decide) (fun cn0 => ?_) (fun cn0 => ?_)
  · refine lv_iconst (v := (0 : Int32)) hx hb dL_law_1154 (by decide) ?_
    obtain ⟨r, h1, h2, e1, e2, hI⟩ := S h (xs (x4 + (1 : Int32)).toNatClampNeg) (0 : Int32) (Or.inl rfl) hI
    refine pg_Wi (As := [.int (xs (x4 + (1 : Int32)).toNatClampNeg), .int (0 : Int32)]) C hH mi_X9_bind vl_L_142 (q := (RX9, TX9, 11)) (ci := 9) rfl rfl (oO_sp e1).1 (c_X9_bind e1) rfl rfl hl.1 (Nat.le_of_ble_eq_true rfl) ⟨Nat.le_of_ble_eq_true rfl, Nat.le_of_ble_eq_true rfl⟩ ⟨Nat.le_of_succ_le hcs.1, Nat.le_trans (Nat.le_add_right _ _) hcs.2⟩ dL_law_1155 (fun H locs hH => ?_)
    refine lv_aload_n hx hb dL_law_1158 rfl (lv_at hl 2 rfl) ?_
    refine lv_aload_n hx hb dL_law_1159 rfl (lv_at hl 0 rfl) ?_
    refine lv_iload hx hb dL_law_1160 (lv_at hl 4 rfl) ?_
    refine lv_iconst (v := (1 : Int32)) hx hb dL_law_1162 (by decide) ?_
    refine lv_iadd hx hb dL_law_1163 ?_
    refine va_sld hx hb hX hbl hbA hH.2 (hin (1 : Int32) (by decide) (by decide)) dL_law_1164 ?_
    refine lv_aload_n hx hb dL_law_1165 rfl (lv_at hl 0 rfl) ?_
    refine lv_iload hx hb dL_law_1166 (lv_at hl 4 rfl) ?_
    refine lv_iconst (v := (2 : Int32)) hx hb dL_law_1168 (by decide) ?_
    refine lv_iadd hx hb dL_law_1169 ?_
    refine va_sld hx hb hX hbl hbA hH.2 (hin (2 : Int32) (by decide) (by decide)) dL_law_1170 ?_
    refine lv_if_eq (tgt := 1178) hx hb dL_law_1171 (by decide) (fun cn => ?_) (fun cn => absurd cn0 cn)
    refine lv_iconst (v := (0 : Int32)) hx hb dL_law_1178 (by decide) ?_
    refine pg_Wi (As := [.int (xs (x4 + (1 : Int32)).toNatClampNeg), .int (0 : Int32)]) C hH mi_X10_bind vl_L_146 (q := (RX10, TX10, 34)) (ci := 10) rfl rfl (oO_sp e2).1 (c_X10_bind e2) rfl rfl hl.1 (Nat.le_of_ble_eq_true rfl) ⟨Nat.le_of_ble_eq_true rfl, Nat.le_of_ble_eq_true rfl⟩ ⟨Nat.le_of_succ_le hcs.1, Nat.le_trans (Nat.le_add_right _ _) hcs.2⟩ dL_law_1179 (fun H locs hH => ?_)
    refine lv_icmp_eq (tgt := 1503) hx hb dL_law_1182 (by decide) (fun cn => ?_) (fun cn => absurd rfl cn)
    refine W.widen (k := cells + 1) (n := slots + 6) (Nat.le_succ _) (Nat.le_add_right _ _) ?_
    exact K hI hH hl
  · refine lv_iconst (v := (1 : Int32)) hx hb dL_law_1150 (by decide) ?_
    refine lv_goto (tgt := 1155) hx hb dL_law_1151 (by decide) ?_
    obtain ⟨r, h1, h2, e1, e2, hI⟩ := S h (xs (x4 + (1 : Int32)).toNatClampNeg) (1 : Int32) (Or.inr rfl) hI
    refine pg_Wi (As := [.int (xs (x4 + (1 : Int32)).toNatClampNeg), .int (1 : Int32)]) C hH mi_X9_bind vl_L_142 (q := (RX9, TX9, 11)) (ci := 9) rfl rfl (oO_sp e1).1 (c_X9_bind e1) rfl rfl hl.1 (Nat.le_of_ble_eq_true rfl) ⟨Nat.le_of_ble_eq_true rfl, Nat.le_of_ble_eq_true rfl⟩ ⟨Nat.le_of_succ_le hcs.1, Nat.le_trans (Nat.le_add_right _ _) hcs.2⟩ dL_law_1155 (fun H locs hH => ?_)
    refine lv_aload_n hx hb dL_law_1158 rfl (lv_at hl 2 rfl) ?_
    refine lv_aload_n hx hb dL_law_1159 rfl (lv_at hl 0 rfl) ?_
    refine lv_iload hx hb dL_law_1160 (lv_at hl 4 rfl) ?_
    refine lv_iconst (v := (1 : Int32)) hx hb dL_law_1162 (by decide) ?_
    refine lv_iadd hx hb dL_law_1163 ?_
    refine va_sld hx hb hX hbl hbA hH.2 (hin (1 : Int32) (by decide) (by decide)) dL_law_1164 ?_
    refine lv_aload_n hx hb dL_law_1165 rfl (lv_at hl 0 rfl) ?_
    refine lv_iload hx hb dL_law_1166 (lv_at hl 4 rfl) ?_
    refine lv_iconst (v := (2 : Int32)) hx hb dL_law_1168 (by decide) ?_
    refine lv_iadd hx hb dL_law_1169 ?_
    refine va_sld hx hb hX hbl hbA hH.2 (hin (2 : Int32) (by decide) (by decide)) dL_law_1170 ?_
    refine lv_if_eq (tgt := 1178) hx hb dL_law_1171 (by decide) (fun cn => absurd cn cn0) (fun cn => ?_)
    refine lv_iconst (v := (1 : Int32)) hx hb dL_law_1174 (by decide) ?_
    refine lv_goto (tgt := 1179) hx hb dL_law_1175 (by decide) ?_
    refine pg_Wi (As := [.int (xs (x4 + (1 : Int32)).toNatClampNeg), .int (1 : Int32)]) C hH mi_X10_bind vl_L_146 (q := (RX10, TX10, 34)) (ci := 10) rfl rfl (oO_sp e2).1 (c_X10_bind e2) rfl rfl hl.1 (Nat.le_of_ble_eq_true rfl) ⟨Nat.le_of_ble_eq_true rfl, Nat.le_of_ble_eq_true rfl⟩ ⟨Nat.le_of_succ_le hcs.1, Nat.le_trans (Nat.le_add_right _ _) hcs.2⟩ dL_law_1179 (fun H locs hH => ?_)
    refine lv_icmp_eq (tgt := 1503) hx hb dL_law_1182 (by decide) (fun cn => ?_) (fun cn => absurd rfl cn)
    refine W.widen (k := cells + 1) (n := slots + 6) (Nat.le_succ _) (Nat.le_add_right _ _) ?_
    exact K hI hH hl
set_option maxHeartbeats 4000000 in
set_option maxRecDepth 100000 in
theorem lk_29 (C : CT g RL cL_law 7 lw_tbl p s m #[.ref b] meth c) (hX : va_X b L xs s s.heap) (hbl : b < s.heap.size) (hbA : ¬ gB g ≤ b) (hin : ∀ k : Int32, 0 ≤ k.toInt → k.toInt < 6 → vp_in (x4 + k) L) (S : SIM_relate Inv X M) {cells slots : Nat} (hcs : cells + 1 ≤ room_1.cells ∧ slots + 6 ≤ room_1.slots) (K : ∀ {h : PH} {H : Heap} {locs : List Loc} {ls : Array Slot}, Inv h → HS g s H locs h → lv_has ls 7 [(0, .ref b), (1, .ref (gB g + X)), (2, .ref (gB g + M)), (3, .ref (gB g + O)), (4, .int x4)] → W p l e room_1 s m #[.ref b] below meth c H locs (cells + 1) (slots + 6) (lw_Z below #[.ref b] s) (F0 m 1503 ls [])) {h : PH} {H : Heap} {locs : List Loc} {ls : Array Slot} (hI : Inv h) (hH : HS g s H locs h) (hl : lv_has ls 7 [(0, .ref b), (1, .ref (gB g + X)), (2, .ref (gB g + M)), (3, .ref (gB g + O)), (4, .int x4)]) : W p l e room_1 s m #[.ref b] below meth c H locs cells slots (lw_Z below #[.ref b] s) (F0 m 1187 ls []) := by
  obtain ⟨⟨hx, hb, hml, hown, hts⟩, htb, hlk, hkk, hbs⟩ := id C
  refine lv_aload_n hx hb dL_law_1187 rfl (lv_at hl 1 rfl) ?_
  refine lv_aload_n hx hb dL_law_1188 rfl (lv_at hl 0 rfl) ?_
  refine lv_iload hx hb dL_law_1189 (lv_at hl 4 rfl) ?_
  refine lv_iconst (v := (1 : Int32)) hx hb dL_law_1191 (by decide) ?_
  refine lv_iadd hx hb dL_law_1192 ?_
  refine va_sld hx hb hX hbl hbA hH.2 (hin (1 : Int32) (by decide) (by decide)) dL_law_1193 ?_
  refine lv_aload_n hx hb dL_law_1194 rfl (lv_at hl 0 rfl) ?_
  refine lv_iload hx hb dL_law_1195 (lv_at hl 4 rfl) ?_
  refine lv_iconst (v := (2 : Int32)) hx hb dL_law_1197 (by decide) ?_
  refine lv_iadd hx hb dL_law_1198 ?_
  refine va_sld hx hb hX hbl hbA hH.2 (hin (2 : Int32) (by decide) (by decide)) dL_law_1199 ?_
  refine lv_aload_n hx hb dL_law_1200 rfl (lv_at hl 0 rfl) ?_
  refine lv_iload hx hb dL_law_1201 (lv_at hl 4 rfl) ?_
  refine lv_iconst (v := (3 : Int32)) hx hb dL_law_1203 (by decide) ?_
  refine lv_iadd hx hb dL_law_1204 ?_
  refine va_sld hx hb hX hbl hbA hH.2 (hin (3 : Int32) (by decide) (by decide)) dL_law_1205 ?_
  refine lv_if_eq (tgt := 1213) hx hb dL_law_1206 (by decide) (fun cn0 => ?_) (fun cn0 => ?_)
  · refine lv_iconst (v := (0 : Int32)) hx hb dL_law_1213 (by decide) ?_
    obtain ⟨r, h1, h2, e1, e2, hI⟩ := S h (xs (x4 + (1 : Int32)).toNatClampNeg) (xs (x4 + (2 : Int32)).toNatClampNeg) (0 : Int32) (Or.inl rfl) hI
    refine pg_Wi (As := [.int (xs (x4 + (1 : Int32)).toNatClampNeg), .int (xs (x4 + (2 : Int32)).toNatClampNeg), .int (0 : Int32)]) C hH mi_X9_relate vl_L_147 (q := (RX9, TX9, 11)) (ci := 9) rfl rfl (oO_sp e1).1 (c_X9_relate e1) rfl rfl hl.1 (Nat.le_of_ble_eq_true rfl) ⟨Nat.le_of_ble_eq_true rfl, Nat.le_of_ble_eq_true rfl⟩ ⟨Nat.le_of_succ_le hcs.1, Nat.le_trans (Nat.le_add_right _ _) hcs.2⟩ dL_law_1214 (fun H locs hH => ?_)
    refine lv_aload_n hx hb dL_law_1217 rfl (lv_at hl 2 rfl) ?_
    refine lv_aload_n hx hb dL_law_1218 rfl (lv_at hl 0 rfl) ?_
    refine lv_iload hx hb dL_law_1219 (lv_at hl 4 rfl) ?_
    refine lv_iconst (v := (1 : Int32)) hx hb dL_law_1221 (by decide) ?_
    refine lv_iadd hx hb dL_law_1222 ?_
    refine va_sld hx hb hX hbl hbA hH.2 (hin (1 : Int32) (by decide) (by decide)) dL_law_1223 ?_
    refine lv_aload_n hx hb dL_law_1224 rfl (lv_at hl 0 rfl) ?_
    refine lv_iload hx hb dL_law_1225 (lv_at hl 4 rfl) ?_
    refine lv_iconst (v := (2 : Int32)) hx hb dL_law_1227 (by decide) ?_
    refine lv_iadd hx hb dL_law_1228 ?_
    refine va_sld hx hb hX hbl hbA hH.2 (hin (2 : Int32) (by decide) (by decide)) dL_law_1229 ?_
    refine lv_aload_n hx hb dL_law_1230 rfl (lv_at hl 0 rfl) ?_
    refine lv_iload hx hb dL_law_1231 (lv_at hl 4 rfl) ?_
    refine lv_iconst (v := (3 : Int32)) hx hb dL_law_1233 (by decide) ?_
    refine lv_iadd hx hb dL_law_1234 ?_
    refine va_sld hx hb hX hbl hbA hH.2 (hin (3 : Int32) (by decide) (by decide)) dL_law_1235 ?_
    refine lv_if_eq (tgt := 1243) hx hb dL_law_1236 (by decide) (fun cn => ?_) (fun cn => absurd cn0 cn)
    refine lv_iconst (v := (0 : Int32)) hx hb dL_law_1243 (by decide) ?_
    refine pg_Wi (As := [.int (xs (x4 + (1 : Int32)).toNatClampNeg), .int (xs (x4 + (2 : Int32)).toNatClampNeg), .int (0 : Int32)]) C hH mi_X10_relate vl_L_151 (q := (RX10, TX10, 34)) (ci := 10) rfl rfl (oO_sp e2).1 (c_X10_relate e2) rfl rfl hl.1 (Nat.le_of_ble_eq_true rfl) ⟨Nat.le_of_ble_eq_true rfl, Nat.le_of_ble_eq_true rfl⟩ ⟨Nat.le_of_succ_le hcs.1, Nat.le_trans (Nat.le_add_right _ _) hcs.2⟩ dL_law_1244 (fun H locs hH => ?_)
    refine lv_icmp_eq (tgt := 1503) hx hb dL_law_1247 (by decide) (fun cn => ?_) (fun cn => absurd rfl cn)
    refine W.widen (k := cells + 1) (n := slots + 6) (Nat.le_succ _) (Nat.le_add_right _ _) ?_
    exact K hI hH hl
  · refine lv_iconst (v := (1 : Int32)) hx hb dL_law_1209 (by decide) ?_
    refine lv_goto (tgt := 1214) hx hb dL_law_1210 (by decide) ?_
    obtain ⟨r, h1, h2, e1, e2, hI⟩ := S h (xs (x4 + (1 : Int32)).toNatClampNeg) (xs (x4 + (2 : Int32)).toNatClampNeg) (1 : Int32) (Or.inr rfl) hI
    refine pg_Wi (As := [.int (xs (x4 + (1 : Int32)).toNatClampNeg), .int (xs (x4 + (2 : Int32)).toNatClampNeg), .int (1 : Int32)]) C hH mi_X9_relate vl_L_147 (q := (RX9, TX9, 11)) (ci := 9) rfl rfl (oO_sp e1).1 (c_X9_relate e1) rfl rfl hl.1 (Nat.le_of_ble_eq_true rfl) ⟨Nat.le_of_ble_eq_true rfl, Nat.le_of_ble_eq_true rfl⟩ ⟨Nat.le_of_succ_le hcs.1, Nat.le_trans (Nat.le_add_right _ _) hcs.2⟩ dL_law_1214 (fun H locs hH => ?_)
    refine lv_aload_n hx hb dL_law_1217 rfl (lv_at hl 2 rfl) ?_
    refine lv_aload_n hx hb dL_law_1218 rfl (lv_at hl 0 rfl) ?_
    refine lv_iload hx hb dL_law_1219 (lv_at hl 4 rfl) ?_
    refine lv_iconst (v := (1 : Int32)) hx hb dL_law_1221 (by decide) ?_
    refine lv_iadd hx hb dL_law_1222 ?_
    refine va_sld hx hb hX hbl hbA hH.2 (hin (1 : Int32) (by decide) (by decide)) dL_law_1223 ?_
    refine lv_aload_n hx hb dL_law_1224 rfl (lv_at hl 0 rfl) ?_
    refine lv_iload hx hb dL_law_1225 (lv_at hl 4 rfl) ?_
    refine lv_iconst (v := (2 : Int32)) hx hb dL_law_1227 (by decide) ?_
    refine lv_iadd hx hb dL_law_1228 ?_
    refine va_sld hx hb hX hbl hbA hH.2 (hin (2 : Int32) (by decide) (by decide)) dL_law_1229 ?_
    refine lv_aload_n hx hb dL_law_1230 rfl (lv_at hl 0 rfl) ?_
    refine lv_iload hx hb dL_law_1231 (lv_at hl 4 rfl) ?_
    refine lv_iconst (v := (3 : Int32)) hx hb dL_law_1233 (by decide) ?_
    refine lv_iadd hx hb dL_law_1234 ?_
    refine va_sld hx hb hX hbl hbA hH.2 (hin (3 : Int32) (by decide) (by decide)) dL_law_1235 ?_
    refine lv_if_eq (tgt := 1243) hx hb dL_law_1236 (by decide) (fun cn => absurd cn cn0) (fun cn => ?_)
    refine lv_iconst (v := (1 : Int32)) hx hb dL_law_1239 (by decide) ?_
    refine lv_goto (tgt := 1244) hx hb dL_law_1240 (by decide) ?_
    refine pg_Wi (As := [.int (xs (x4 + (1 : Int32)).toNatClampNeg), .int (xs (x4 + (2 : Int32)).toNatClampNeg), .int (1 : Int32)]) C hH mi_X10_relate vl_L_151 (q := (RX10, TX10, 34)) (ci := 10) rfl rfl (oO_sp e2).1 (c_X10_relate e2) rfl rfl hl.1 (Nat.le_of_ble_eq_true rfl) ⟨Nat.le_of_ble_eq_true rfl, Nat.le_of_ble_eq_true rfl⟩ ⟨Nat.le_of_succ_le hcs.1, Nat.le_trans (Nat.le_add_right _ _) hcs.2⟩ dL_law_1244 (fun H locs hH => ?_)
    refine lv_icmp_eq (tgt := 1503) hx hb dL_law_1247 (by decide) (fun cn => ?_) (fun cn => absurd rfl cn)
    refine W.widen (k := cells + 1) (n := slots + 6) (Nat.le_succ _) (Nat.le_add_right _ _) ?_
    exact K hI hH hl
set_option maxHeartbeats 4000000 in
set_option maxRecDepth 100000 in
theorem lk_30 (C : CT g RL cL_law 7 lw_tbl p s m #[.ref b] meth c) (hX : va_X b L xs s s.heap) (hbl : b < s.heap.size) (hbA : ¬ gB g ≤ b) (hin : ∀ k : Int32, 0 ≤ k.toInt → k.toInt < 6 → vp_in (x4 + k) L) (S : SIM_rule Inv X M) {cells slots : Nat} (hcs : cells + 1 ≤ room_1.cells ∧ slots + 6 ≤ room_1.slots) (K : ∀ {h : PH} {H : Heap} {locs : List Loc} {ls : Array Slot}, Inv h → HS g s H locs h → lv_has ls 7 [(0, .ref b), (1, .ref (gB g + X)), (2, .ref (gB g + M)), (3, .ref (gB g + O)), (4, .int x4)] → W p l e room_1 s m #[.ref b] below meth c H locs (cells + 1) (slots + 6) (lw_Z below #[.ref b] s) (F0 m 1503 ls [])) {h : PH} {H : Heap} {locs : List Loc} {ls : Array Slot} (hI : Inv h) (hH : HS g s H locs h) (hl : lv_has ls 7 [(0, .ref b), (1, .ref (gB g + X)), (2, .ref (gB g + M)), (3, .ref (gB g + O)), (4, .int x4)]) : W p l e room_1 s m #[.ref b] below meth c H locs cells slots (lw_Z below #[.ref b] s) (F0 m 1252 ls []) := by
  obtain ⟨⟨hx, hb, hml, hown, hts⟩, htb, hlk, hkk, hbs⟩ := id C
  refine lv_aload_n hx hb dL_law_1252 rfl (lv_at hl 1 rfl) ?_
  refine lv_aload_n hx hb dL_law_1253 rfl (lv_at hl 0 rfl) ?_
  refine lv_iload hx hb dL_law_1254 (lv_at hl 4 rfl) ?_
  refine lv_iconst (v := (1 : Int32)) hx hb dL_law_1256 (by decide) ?_
  refine lv_iadd hx hb dL_law_1257 ?_
  refine va_sld hx hb hX hbl hbA hH.2 (hin (1 : Int32) (by decide) (by decide)) dL_law_1258 ?_
  refine lv_aload_n hx hb dL_law_1259 rfl (lv_at hl 0 rfl) ?_
  refine lv_iload hx hb dL_law_1260 (lv_at hl 4 rfl) ?_
  refine lv_iconst (v := (2 : Int32)) hx hb dL_law_1262 (by decide) ?_
  refine lv_iadd hx hb dL_law_1263 ?_
  refine va_sld hx hb hX hbl hbA hH.2 (hin (2 : Int32) (by decide) (by decide)) dL_law_1264 ?_
  obtain ⟨r, h1, h2, e1, e2, hI⟩ := S h (xs (x4 + (1 : Int32)).toNatClampNeg) (xs (x4 + (2 : Int32)).toNatClampNeg) hI
  refine pg_Wi (As := [.int (xs (x4 + (1 : Int32)).toNatClampNeg), .int (xs (x4 + (2 : Int32)).toNatClampNeg)]) C hH mi_X9_rule vl_L_152 (q := (RX9, TX9, 11)) (ci := 9) rfl rfl (oO_sp e1).1 (c_X9_rule e1) rfl rfl hl.1 (Nat.le_of_ble_eq_true rfl) ⟨Nat.le_of_ble_eq_true rfl, Nat.le_of_ble_eq_true rfl⟩ ⟨Nat.le_of_succ_le hcs.1, Nat.le_trans (Nat.le_add_right _ _) hcs.2⟩ dL_law_1265 (fun H locs hH => ?_)
  refine lv_aload_n hx hb dL_law_1268 rfl (lv_at hl 2 rfl) ?_
  refine lv_aload_n hx hb dL_law_1269 rfl (lv_at hl 0 rfl) ?_
  refine lv_iload hx hb dL_law_1270 (lv_at hl 4 rfl) ?_
  refine lv_iconst (v := (1 : Int32)) hx hb dL_law_1272 (by decide) ?_
  refine lv_iadd hx hb dL_law_1273 ?_
  refine va_sld hx hb hX hbl hbA hH.2 (hin (1 : Int32) (by decide) (by decide)) dL_law_1274 ?_
  refine lv_aload_n hx hb dL_law_1275 rfl (lv_at hl 0 rfl) ?_
  refine lv_iload hx hb dL_law_1276 (lv_at hl 4 rfl) ?_
  refine lv_iconst (v := (2 : Int32)) hx hb dL_law_1278 (by decide) ?_
  refine lv_iadd hx hb dL_law_1279 ?_
  refine va_sld hx hb hX hbl hbA hH.2 (hin (2 : Int32) (by decide) (by decide)) dL_law_1280 ?_
  refine pg_Wi (As := [.int (xs (x4 + (1 : Int32)).toNatClampNeg), .int (xs (x4 + (2 : Int32)).toNatClampNeg)]) C hH mi_X10_rule vl_L_155 (q := (RX10, TX10, 34)) (ci := 10) rfl rfl (oO_sp e2).1 (c_X10_rule e2) rfl rfl hl.1 (Nat.le_of_ble_eq_true rfl) ⟨Nat.le_of_ble_eq_true rfl, Nat.le_of_ble_eq_true rfl⟩ ⟨Nat.le_of_succ_le hcs.1, Nat.le_trans (Nat.le_add_right _ _) hcs.2⟩ dL_law_1281 (fun H locs hH => ?_)
  refine lv_icmp_eq (tgt := 1503) hx hb dL_law_1284 (by decide) (fun cn => ?_) (fun cn => absurd rfl cn)
  refine W.widen (k := cells + 1) (n := slots + 6) (Nat.le_succ _) (Nat.le_add_right _ _) ?_
  exact K hI hH hl
set_option maxHeartbeats 4000000 in
set_option maxRecDepth 100000 in
theorem lk_31 (C : CT g RL cL_law 7 lw_tbl p s m #[.ref b] meth c) (hX : va_X b L xs s s.heap) (hbl : b < s.heap.size) (hbA : ¬ gB g ≤ b) (hin : ∀ k : Int32, 0 ≤ k.toInt → k.toInt < 6 → vp_in (x4 + k) L) (S : SIM_turn Inv X M) {cells slots : Nat} (hcs : cells + 1 ≤ room_1.cells ∧ slots + 6 ≤ room_1.slots) (K : ∀ {h : PH} {H : Heap} {locs : List Loc} {ls : Array Slot}, Inv h → HS g s H locs h → lv_has ls 7 [(0, .ref b), (1, .ref (gB g + X)), (2, .ref (gB g + M)), (3, .ref (gB g + O)), (4, .int x4)] → W p l e room_1 s m #[.ref b] below meth c H locs (cells + 1) (slots + 6) (lw_Z below #[.ref b] s) (F0 m 1503 ls [])) {h : PH} {H : Heap} {locs : List Loc} {ls : Array Slot} (hI : Inv h) (hH : HS g s H locs h) (hl : lv_has ls 7 [(0, .ref b), (1, .ref (gB g + X)), (2, .ref (gB g + M)), (3, .ref (gB g + O)), (4, .int x4)]) : W p l e room_1 s m #[.ref b] below meth c H locs cells slots (lw_Z below #[.ref b] s) (F0 m 1289 ls []) := by
  obtain ⟨⟨hx, hb, hml, hown, hts⟩, htb, hlk, hkk, hbs⟩ := id C
  refine lv_aload_n hx hb dL_law_1289 rfl (lv_at hl 1 rfl) ?_
  obtain ⟨r, h1, h2, e1, e2, hI⟩ := S h  hI
  refine pg_Wi (As := []) C hH mi_X9_turn vl_L_156 (q := (RX9, TX9, 11)) (ci := 9) rfl rfl (oO_sp e1).1 (c_X9_turn e1) rfl rfl hl.1 (Nat.le_of_ble_eq_true rfl) ⟨Nat.le_of_ble_eq_true rfl, Nat.le_of_ble_eq_true rfl⟩ ⟨Nat.le_of_succ_le hcs.1, Nat.le_trans (Nat.le_add_right _ _) hcs.2⟩ dL_law_1290 (fun H locs hH => ?_)
  refine lv_aload_n hx hb dL_law_1293 rfl (lv_at hl 2 rfl) ?_
  refine pg_Wi (As := []) C hH mi_X10_turn vl_L_159 (q := (RX10, TX10, 34)) (ci := 10) rfl rfl (oO_sp e2).1 (c_X10_turn e2) rfl rfl hl.1 (Nat.le_of_ble_eq_true rfl) ⟨Nat.le_of_ble_eq_true rfl, Nat.le_of_ble_eq_true rfl⟩ ⟨Nat.le_of_succ_le hcs.1, Nat.le_trans (Nat.le_add_right _ _) hcs.2⟩ dL_law_1294 (fun H locs hH => ?_)
  refine lv_icmp_eq (tgt := 1503) hx hb dL_law_1297 (by decide) (fun cn => ?_) (fun cn => absurd rfl cn)
  refine W.widen (k := cells + 1) (n := slots + 6) (Nat.le_succ _) (Nat.le_add_right _ _) ?_
  exact K hI hH hl
set_option maxHeartbeats 4000000 in
set_option maxRecDepth 100000 in
theorem lk_32 (C : CT g RL cL_law 7 lw_tbl p s m #[.ref b] meth c) (hX : va_X b L xs s s.heap) (hbl : b < s.heap.size) (hbA : ¬ gB g ≤ b) (hin : ∀ k : Int32, 0 ≤ k.toInt → k.toInt < 6 → vp_in (x4 + k) L) (S : SIM_resell Inv X M) {cells slots : Nat} (hcs : cells + 1 ≤ room_1.cells ∧ slots + 6 ≤ room_1.slots) (K : ∀ {h : PH} {H : Heap} {locs : List Loc} {ls : Array Slot}, Inv h → HS g s H locs h → lv_has ls 7 [(0, .ref b), (1, .ref (gB g + X)), (2, .ref (gB g + M)), (3, .ref (gB g + O)), (4, .int x4)] → W p l e room_1 s m #[.ref b] below meth c H locs (cells + 1) (slots + 6) (lw_Z below #[.ref b] s) (F0 m 1503 ls [])) {h : PH} {H : Heap} {locs : List Loc} {ls : Array Slot} (hI : Inv h) (hH : HS g s H locs h) (hl : lv_has ls 7 [(0, .ref b), (1, .ref (gB g + X)), (2, .ref (gB g + M)), (3, .ref (gB g + O)), (4, .int x4)]) : W p l e room_1 s m #[.ref b] below meth c H locs cells slots (lw_Z below #[.ref b] s) (F0 m 1302 ls []) := by
  obtain ⟨⟨hx, hb, hml, hown, hts⟩, htb, hlk, hkk, hbs⟩ := id C
  refine lv_aload_n hx hb dL_law_1302 rfl (lv_at hl 1 rfl) ?_
  refine lv_aload_n hx hb dL_law_1303 rfl (lv_at hl 0 rfl) ?_
  refine lv_iload hx hb dL_law_1304 (lv_at hl 4 rfl) ?_
  refine lv_iconst (v := (1 : Int32)) hx hb dL_law_1306 (by decide) ?_
  refine lv_iadd hx hb dL_law_1307 ?_
  refine va_sld hx hb hX hbl hbA hH.2 (hin (1 : Int32) (by decide) (by decide)) dL_law_1308 ?_
  refine lv_aload_n hx hb dL_law_1309 rfl (lv_at hl 0 rfl) ?_
  refine lv_iload hx hb dL_law_1310 (lv_at hl 4 rfl) ?_
  refine lv_iconst (v := (2 : Int32)) hx hb dL_law_1312 (by decide) ?_
  refine lv_iadd hx hb dL_law_1313 ?_
  refine va_sld hx hb hX hbl hbA hH.2 (hin (2 : Int32) (by decide) (by decide)) dL_law_1314 ?_
  refine lv_aload_n hx hb dL_law_1315 rfl (lv_at hl 0 rfl) ?_
  refine lv_iload hx hb dL_law_1316 (lv_at hl 4 rfl) ?_
  refine lv_iconst (v := (3 : Int32)) hx hb dL_law_1318 (by decide) ?_
  refine lv_iadd hx hb dL_law_1319 ?_
  refine va_sld hx hb hX hbl hbA hH.2 (hin (3 : Int32) (by decide) (by decide)) dL_law_1320 ?_
  refine lv_aload_n hx hb dL_law_1321 rfl (lv_at hl 0 rfl) ?_
  refine lv_iload hx hb dL_law_1322 (lv_at hl 4 rfl) ?_
  refine lv_iconst (v := (4 : Int32)) hx hb dL_law_1324 (by decide) ?_
  refine lv_iadd hx hb dL_law_1325 ?_
  refine va_sld hx hb hX hbl hbA hH.2 (hin (4 : Int32) (by decide) (by decide)) dL_law_1326 ?_
  obtain ⟨r, h1, h2, e1, e2, hI⟩ := S h (xs (x4 + (1 : Int32)).toNatClampNeg) (xs (x4 + (2 : Int32)).toNatClampNeg) (xs (x4 + (3 : Int32)).toNatClampNeg) (xs (x4 + (4 : Int32)).toNatClampNeg) hI
  refine pg_Wi (As := [.int (xs (x4 + (1 : Int32)).toNatClampNeg), .int (xs (x4 + (2 : Int32)).toNatClampNeg), .int (xs (x4 + (3 : Int32)).toNatClampNeg), .int (xs (x4 + (4 : Int32)).toNatClampNeg)]) C hH mi_X9_resell vl_L_160 (q := (RX9, TX9, 11)) (ci := 9) rfl rfl (oO_sp e1).1 (c_X9_resell e1) rfl rfl hl.1 (Nat.le_of_ble_eq_true rfl) ⟨Nat.le_of_ble_eq_true rfl, Nat.le_of_ble_eq_true rfl⟩ ⟨Nat.le_of_succ_le hcs.1, Nat.le_trans (Nat.le_add_right _ _) hcs.2⟩ dL_law_1327 (fun H locs hH => ?_)
  refine lv_aload_n hx hb dL_law_1330 rfl (lv_at hl 2 rfl) ?_
  refine lv_aload_n hx hb dL_law_1331 rfl (lv_at hl 0 rfl) ?_
  refine lv_iload hx hb dL_law_1332 (lv_at hl 4 rfl) ?_
  refine lv_iconst (v := (1 : Int32)) hx hb dL_law_1334 (by decide) ?_
  refine lv_iadd hx hb dL_law_1335 ?_
  refine va_sld hx hb hX hbl hbA hH.2 (hin (1 : Int32) (by decide) (by decide)) dL_law_1336 ?_
  refine lv_aload_n hx hb dL_law_1337 rfl (lv_at hl 0 rfl) ?_
  refine lv_iload hx hb dL_law_1338 (lv_at hl 4 rfl) ?_
  refine lv_iconst (v := (2 : Int32)) hx hb dL_law_1340 (by decide) ?_
  refine lv_iadd hx hb dL_law_1341 ?_
  refine va_sld hx hb hX hbl hbA hH.2 (hin (2 : Int32) (by decide) (by decide)) dL_law_1342 ?_
  refine lv_aload_n hx hb dL_law_1343 rfl (lv_at hl 0 rfl) ?_
  refine lv_iload hx hb dL_law_1344 (lv_at hl 4 rfl) ?_
  refine lv_iconst (v := (3 : Int32)) hx hb dL_law_1346 (by decide) ?_
  refine lv_iadd hx hb dL_law_1347 ?_
  refine va_sld hx hb hX hbl hbA hH.2 (hin (3 : Int32) (by decide) (by decide)) dL_law_1348 ?_
  refine lv_aload_n hx hb dL_law_1349 rfl (lv_at hl 0 rfl) ?_
  refine lv_iload hx hb dL_law_1350 (lv_at hl 4 rfl) ?_
  refine lv_iconst (v := (4 : Int32)) hx hb dL_law_1352 (by decide) ?_
  refine lv_iadd hx hb dL_law_1353 ?_
  refine va_sld hx hb hX hbl hbA hH.2 (hin (4 : Int32) (by decide) (by decide)) dL_law_1354 ?_
  refine pg_Wi (As := [.int (xs (x4 + (1 : Int32)).toNatClampNeg), .int (xs (x4 + (2 : Int32)).toNatClampNeg), .int (xs (x4 + (3 : Int32)).toNatClampNeg), .int (xs (x4 + (4 : Int32)).toNatClampNeg)]) C hH mi_X10_resell vl_L_164 (q := (RX10, TX10, 34)) (ci := 10) rfl rfl (oO_sp e2).1 (c_X10_resell e2) rfl rfl hl.1 (Nat.le_of_ble_eq_true rfl) ⟨Nat.le_of_ble_eq_true rfl, Nat.le_of_ble_eq_true rfl⟩ ⟨Nat.le_of_succ_le hcs.1, Nat.le_trans (Nat.le_add_right _ _) hcs.2⟩ dL_law_1355 (fun H locs hH => ?_)
  refine lv_icmp_eq (tgt := 1503) hx hb dL_law_1358 (by decide) (fun cn => ?_) (fun cn => absurd rfl cn)
  refine W.widen (k := cells + 1) (n := slots + 6) (Nat.le_succ _) (Nat.le_add_right _ _) ?_
  exact K hI hH hl
set_option maxHeartbeats 4000000 in
set_option maxRecDepth 100000 in
theorem lk_33 (C : CT g RL cL_law 7 lw_tbl p s m #[.ref b] meth c) (hX : va_X b L xs s s.heap) (hbl : b < s.heap.size) (hbA : ¬ gB g ≤ b) (hin : ∀ k : Int32, 0 ≤ k.toInt → k.toInt < 6 → vp_in (x4 + k) L) (S : SIM_spread Inv X M) {cells slots : Nat} (hcs : cells + 1 ≤ room_1.cells ∧ slots + 6 ≤ room_1.slots) (K : ∀ {h : PH} {H : Heap} {locs : List Loc} {ls : Array Slot}, Inv h → HS g s H locs h → lv_has ls 7 [(0, .ref b), (1, .ref (gB g + X)), (2, .ref (gB g + M)), (3, .ref (gB g + O)), (4, .int x4)] → W p l e room_1 s m #[.ref b] below meth c H locs (cells + 1) (slots + 6) (lw_Z below #[.ref b] s) (F0 m 1503 ls [])) {h : PH} {H : Heap} {locs : List Loc} {ls : Array Slot} (hI : Inv h) (hH : HS g s H locs h) (hl : lv_has ls 7 [(0, .ref b), (1, .ref (gB g + X)), (2, .ref (gB g + M)), (3, .ref (gB g + O)), (4, .int x4)]) : W p l e room_1 s m #[.ref b] below meth c H locs cells slots (lw_Z below #[.ref b] s) (F0 m 1363 ls []) := by
  obtain ⟨⟨hx, hb, hml, hown, hts⟩, htb, hlk, hkk, hbs⟩ := id C
  refine lv_aload_n hx hb dL_law_1363 rfl (lv_at hl 1 rfl) ?_
  refine lv_aload_n hx hb dL_law_1364 rfl (lv_at hl 0 rfl) ?_
  refine lv_iload hx hb dL_law_1365 (lv_at hl 4 rfl) ?_
  refine lv_iconst (v := (1 : Int32)) hx hb dL_law_1367 (by decide) ?_
  refine lv_iadd hx hb dL_law_1368 ?_
  refine va_sld hx hb hX hbl hbA hH.2 (hin (1 : Int32) (by decide) (by decide)) dL_law_1369 ?_
  refine lv_aload_n hx hb dL_law_1370 rfl (lv_at hl 0 rfl) ?_
  refine lv_iload hx hb dL_law_1371 (lv_at hl 4 rfl) ?_
  refine lv_iconst (v := (2 : Int32)) hx hb dL_law_1373 (by decide) ?_
  refine lv_iadd hx hb dL_law_1374 ?_
  refine va_sld hx hb hX hbl hbA hH.2 (hin (2 : Int32) (by decide) (by decide)) dL_law_1375 ?_
  obtain ⟨r, h1, h2, e1, e2, hI⟩ := S h (xs (x4 + (1 : Int32)).toNatClampNeg) (xs (x4 + (2 : Int32)).toNatClampNeg) hI
  refine pg_Wi (As := [.int (xs (x4 + (1 : Int32)).toNatClampNeg), .int (xs (x4 + (2 : Int32)).toNatClampNeg)]) C hH mi_X9_spread vl_L_165 (q := (RX9, TX9, 11)) (ci := 9) rfl rfl (oO_sp e1).1 (c_X9_spread e1) rfl rfl hl.1 (Nat.le_of_ble_eq_true rfl) ⟨Nat.le_of_ble_eq_true rfl, Nat.le_of_ble_eq_true rfl⟩ ⟨Nat.le_of_succ_le hcs.1, Nat.le_trans (Nat.le_add_right _ _) hcs.2⟩ dL_law_1376 (fun H locs hH => ?_)
  refine lv_aload_n hx hb dL_law_1379 rfl (lv_at hl 2 rfl) ?_
  refine lv_aload_n hx hb dL_law_1380 rfl (lv_at hl 0 rfl) ?_
  refine lv_iload hx hb dL_law_1381 (lv_at hl 4 rfl) ?_
  refine lv_iconst (v := (1 : Int32)) hx hb dL_law_1383 (by decide) ?_
  refine lv_iadd hx hb dL_law_1384 ?_
  refine va_sld hx hb hX hbl hbA hH.2 (hin (1 : Int32) (by decide) (by decide)) dL_law_1385 ?_
  refine lv_aload_n hx hb dL_law_1386 rfl (lv_at hl 0 rfl) ?_
  refine lv_iload hx hb dL_law_1387 (lv_at hl 4 rfl) ?_
  refine lv_iconst (v := (2 : Int32)) hx hb dL_law_1389 (by decide) ?_
  refine lv_iadd hx hb dL_law_1390 ?_
  refine va_sld hx hb hX hbl hbA hH.2 (hin (2 : Int32) (by decide) (by decide)) dL_law_1391 ?_
  refine pg_Wi (As := [.int (xs (x4 + (1 : Int32)).toNatClampNeg), .int (xs (x4 + (2 : Int32)).toNatClampNeg)]) C hH mi_X10_spread vl_L_168 (q := (RX10, TX10, 34)) (ci := 10) rfl rfl (oO_sp e2).1 (c_X10_spread e2) rfl rfl hl.1 (Nat.le_of_ble_eq_true rfl) ⟨Nat.le_of_ble_eq_true rfl, Nat.le_of_ble_eq_true rfl⟩ ⟨Nat.le_of_succ_le hcs.1, Nat.le_trans (Nat.le_add_right _ _) hcs.2⟩ dL_law_1392 (fun H locs hH => ?_)
  refine lv_icmp_eq (tgt := 1503) hx hb dL_law_1395 (by decide) (fun cn => ?_) (fun cn => absurd rfl cn)
  refine W.widen (k := cells + 1) (n := slots + 6) (Nat.le_succ _) (Nat.le_add_right _ _) ?_
  exact K hI hH hl
set_option maxHeartbeats 4000000 in
set_option maxRecDepth 100000 in
theorem lk_34 (C : CT g RL cL_law 7 lw_tbl p s m #[.ref b] meth c) (hX : va_X b L xs s s.heap) (hbl : b < s.heap.size) (hbA : ¬ gB g ≤ b) (hin : ∀ k : Int32, 0 ≤ k.toInt → k.toInt < 6 → vp_in (x4 + k) L) (S : SIM_lessen Inv X M) {cells slots : Nat} (hcs : cells + 1 ≤ room_1.cells ∧ slots + 6 ≤ room_1.slots) (K : ∀ {h : PH} {H : Heap} {locs : List Loc} {ls : Array Slot}, Inv h → HS g s H locs h → lv_has ls 7 [(0, .ref b), (1, .ref (gB g + X)), (2, .ref (gB g + M)), (3, .ref (gB g + O)), (4, .int x4)] → W p l e room_1 s m #[.ref b] below meth c H locs (cells + 1) (slots + 6) (lw_Z below #[.ref b] s) (F0 m 1503 ls [])) {h : PH} {H : Heap} {locs : List Loc} {ls : Array Slot} (hI : Inv h) (hH : HS g s H locs h) (hl : lv_has ls 7 [(0, .ref b), (1, .ref (gB g + X)), (2, .ref (gB g + M)), (3, .ref (gB g + O)), (4, .int x4)]) : W p l e room_1 s m #[.ref b] below meth c H locs cells slots (lw_Z below #[.ref b] s) (F0 m 1400 ls []) := by
  obtain ⟨⟨hx, hb, hml, hown, hts⟩, htb, hlk, hkk, hbs⟩ := id C
  refine lv_aload_n hx hb dL_law_1400 rfl (lv_at hl 1 rfl) ?_
  refine lv_aload_n hx hb dL_law_1401 rfl (lv_at hl 0 rfl) ?_
  refine lv_iload hx hb dL_law_1402 (lv_at hl 4 rfl) ?_
  refine lv_iconst (v := (1 : Int32)) hx hb dL_law_1404 (by decide) ?_
  refine lv_iadd hx hb dL_law_1405 ?_
  refine va_sld hx hb hX hbl hbA hH.2 (hin (1 : Int32) (by decide) (by decide)) dL_law_1406 ?_
  refine lv_aload_n hx hb dL_law_1407 rfl (lv_at hl 0 rfl) ?_
  refine lv_iload hx hb dL_law_1408 (lv_at hl 4 rfl) ?_
  refine lv_iconst (v := (2 : Int32)) hx hb dL_law_1410 (by decide) ?_
  refine lv_iadd hx hb dL_law_1411 ?_
  refine va_sld hx hb hX hbl hbA hH.2 (hin (2 : Int32) (by decide) (by decide)) dL_law_1412 ?_
  obtain ⟨r, h1, h2, e1, e2, hI⟩ := S h (xs (x4 + (1 : Int32)).toNatClampNeg) (xs (x4 + (2 : Int32)).toNatClampNeg) hI
  refine pg_Wi (As := [.int (xs (x4 + (1 : Int32)).toNatClampNeg), .int (xs (x4 + (2 : Int32)).toNatClampNeg)]) C hH mi_X9_lessen vl_L_169 (q := (RX9, TX9, 11)) (ci := 9) rfl rfl (oO_sp e1).1 (c_X9_lessen e1) rfl rfl hl.1 (Nat.le_of_ble_eq_true rfl) ⟨Nat.le_of_ble_eq_true rfl, Nat.le_of_ble_eq_true rfl⟩ ⟨Nat.le_of_succ_le hcs.1, Nat.le_trans (Nat.le_add_right _ _) hcs.2⟩ dL_law_1413 (fun H locs hH => ?_)
  refine lv_aload_n hx hb dL_law_1416 rfl (lv_at hl 2 rfl) ?_
  refine lv_aload_n hx hb dL_law_1417 rfl (lv_at hl 0 rfl) ?_
  refine lv_iload hx hb dL_law_1418 (lv_at hl 4 rfl) ?_
  refine lv_iconst (v := (1 : Int32)) hx hb dL_law_1420 (by decide) ?_
  refine lv_iadd hx hb dL_law_1421 ?_
  refine va_sld hx hb hX hbl hbA hH.2 (hin (1 : Int32) (by decide) (by decide)) dL_law_1422 ?_
  refine lv_aload_n hx hb dL_law_1423 rfl (lv_at hl 0 rfl) ?_
  refine lv_iload hx hb dL_law_1424 (lv_at hl 4 rfl) ?_
  refine lv_iconst (v := (2 : Int32)) hx hb dL_law_1426 (by decide) ?_
  refine lv_iadd hx hb dL_law_1427 ?_
  refine va_sld hx hb hX hbl hbA hH.2 (hin (2 : Int32) (by decide) (by decide)) dL_law_1428 ?_
  refine pg_Wi (As := [.int (xs (x4 + (1 : Int32)).toNatClampNeg), .int (xs (x4 + (2 : Int32)).toNatClampNeg)]) C hH mi_X10_lessen vl_L_172 (q := (RX10, TX10, 34)) (ci := 10) rfl rfl (oO_sp e2).1 (c_X10_lessen e2) rfl rfl hl.1 (Nat.le_of_ble_eq_true rfl) ⟨Nat.le_of_ble_eq_true rfl, Nat.le_of_ble_eq_true rfl⟩ ⟨Nat.le_of_succ_le hcs.1, Nat.le_trans (Nat.le_add_right _ _) hcs.2⟩ dL_law_1429 (fun H locs hH => ?_)
  refine lv_icmp_eq (tgt := 1503) hx hb dL_law_1432 (by decide) (fun cn => ?_) (fun cn => absurd rfl cn)
  refine W.widen (k := cells + 1) (n := slots + 6) (Nat.le_succ _) (Nat.le_add_right _ _) ?_
  exact K hI hH hl
set_option maxHeartbeats 4000000 in
set_option maxRecDepth 100000 in
theorem lk_35 (C : CT g RL cL_law 7 lw_tbl p s m #[.ref b] meth c) (hX : va_X b L xs s s.heap) (hbl : b < s.heap.size) (hbA : ¬ gB g ≤ b) (hin : ∀ k : Int32, 0 ≤ k.toInt → k.toInt < 6 → vp_in (x4 + k) L) (S : SIM_undo Inv X M) {cells slots : Nat} (hcs : cells + 1 ≤ room_1.cells ∧ slots + 6 ≤ room_1.slots) (K : ∀ {h : PH} {H : Heap} {locs : List Loc} {ls : Array Slot}, Inv h → HS g s H locs h → lv_has ls 7 [(0, .ref b), (1, .ref (gB g + X)), (2, .ref (gB g + M)), (3, .ref (gB g + O)), (4, .int x4)] → W p l e room_1 s m #[.ref b] below meth c H locs (cells + 1) (slots + 6) (lw_Z below #[.ref b] s) (F0 m 1503 ls [])) {h : PH} {H : Heap} {locs : List Loc} {ls : Array Slot} (hI : Inv h) (hH : HS g s H locs h) (hl : lv_has ls 7 [(0, .ref b), (1, .ref (gB g + X)), (2, .ref (gB g + M)), (3, .ref (gB g + O)), (4, .int x4)]) : W p l e room_1 s m #[.ref b] below meth c H locs cells slots (lw_Z below #[.ref b] s) (F0 m 1437 ls []) := by
  obtain ⟨⟨hx, hb, hml, hown, hts⟩, htb, hlk, hkk, hbs⟩ := id C
  refine lv_aload_n hx hb dL_law_1437 rfl (lv_at hl 1 rfl) ?_
  obtain ⟨r, h1, h2, e1, e2, hI⟩ := S h  hI
  refine pg_Wi (As := []) C hH mi_X9_undo vl_L_173 (q := (RX9, TX9, 11)) (ci := 9) rfl rfl (oO_sp e1).1 (c_X9_undo e1) rfl rfl hl.1 (Nat.le_of_ble_eq_true rfl) ⟨Nat.le_of_ble_eq_true rfl, Nat.le_of_ble_eq_true rfl⟩ ⟨Nat.le_of_succ_le hcs.1, Nat.le_trans (Nat.le_add_right _ _) hcs.2⟩ dL_law_1438 (fun H locs hH => ?_)
  refine lv_aload_n hx hb dL_law_1441 rfl (lv_at hl 2 rfl) ?_
  refine pg_Wi (As := []) C hH mi_X10_undo vl_L_176 (q := (RX10, TX10, 34)) (ci := 10) rfl rfl (oO_sp e2).1 (c_X10_undo e2) rfl rfl hl.1 (Nat.le_of_ble_eq_true rfl) ⟨Nat.le_of_ble_eq_true rfl, Nat.le_of_ble_eq_true rfl⟩ ⟨Nat.le_of_succ_le hcs.1, Nat.le_trans (Nat.le_add_right _ _) hcs.2⟩ dL_law_1442 (fun H locs hH => ?_)
  refine lv_icmp_eq (tgt := 1503) hx hb dL_law_1445 (by decide) (fun cn => ?_) (fun cn => absurd rfl cn)
  refine W.widen (k := cells + 1) (n := slots + 6) (Nat.le_succ _) (Nat.le_add_right _ _) ?_
  exact K hI hH hl
set_option maxHeartbeats 4000000 in
set_option maxRecDepth 100000 in
theorem lk_36 (C : CT g RL cL_law 7 lw_tbl p s m #[.ref b] meth c) (hX : va_X b L xs s s.heap) (hbl : b < s.heap.size) (hbA : ¬ gB g ≤ b) (hin : ∀ k : Int32, 0 ≤ k.toInt → k.toInt < 6 → vp_in (x4 + k) L) (S : SIM_keep Inv X M) {cells slots : Nat} (hcs : cells + 1 ≤ room_1.cells ∧ slots + 6 ≤ room_1.slots) (K : ∀ {h : PH} {H : Heap} {locs : List Loc} {ls : Array Slot}, Inv h → HS g s H locs h → lv_has ls 7 [(0, .ref b), (1, .ref (gB g + X)), (2, .ref (gB g + M)), (3, .ref (gB g + O)), (4, .int x4)] → W p l e room_1 s m #[.ref b] below meth c H locs (cells + 1) (slots + 6) (lw_Z below #[.ref b] s) (F0 m 1503 ls [])) {h : PH} {H : Heap} {locs : List Loc} {ls : Array Slot} (hI : Inv h) (hH : HS g s H locs h) (hl : lv_has ls 7 [(0, .ref b), (1, .ref (gB g + X)), (2, .ref (gB g + M)), (3, .ref (gB g + O)), (4, .int x4)]) : W p l e room_1 s m #[.ref b] below meth c H locs cells slots (lw_Z below #[.ref b] s) (F0 m 1450 ls []) := by
  obtain ⟨⟨hx, hb, hml, hown, hts⟩, htb, hlk, hkk, hbs⟩ := id C
  refine lv_aload_n hx hb dL_law_1450 rfl (lv_at hl 1 rfl) ?_
  refine lv_aload_n hx hb dL_law_1451 rfl (lv_at hl 0 rfl) ?_
  refine lv_iload hx hb dL_law_1452 (lv_at hl 4 rfl) ?_
  refine lv_iconst (v := (1 : Int32)) hx hb dL_law_1454 (by decide) ?_
  refine lv_iadd hx hb dL_law_1455 ?_
  refine va_sld hx hb hX hbl hbA hH.2 (hin (1 : Int32) (by decide) (by decide)) dL_law_1456 ?_
  refine lv_aload_n hx hb dL_law_1457 rfl (lv_at hl 0 rfl) ?_
  refine lv_iload hx hb dL_law_1458 (lv_at hl 4 rfl) ?_
  refine lv_iconst (v := (2 : Int32)) hx hb dL_law_1460 (by decide) ?_
  refine lv_iadd hx hb dL_law_1461 ?_
  refine va_sld hx hb hX hbl hbA hH.2 (hin (2 : Int32) (by decide) (by decide)) dL_law_1462 ?_
  refine lv_if_eq (tgt := 1470) hx hb dL_law_1463 (by decide) (fun cn0 => ?_) (fun cn0 => ?_)
  · refine lv_iconst (v := (0 : Int32)) hx hb dL_law_1470 (by decide) ?_
    obtain ⟨r, h1, h2, e1, e2, hI⟩ := S h (xs (x4 + (1 : Int32)).toNatClampNeg) (0 : Int32) (Or.inl rfl) hI
    refine pg_Wi (As := [.int (xs (x4 + (1 : Int32)).toNatClampNeg), .int (0 : Int32)]) C hH mi_X9_keep vl_L_177 (q := (RX9, TX9, 11)) (ci := 9) rfl rfl (oO_sp e1).1 (c_X9_keep e1) rfl rfl hl.1 (Nat.le_of_ble_eq_true rfl) ⟨Nat.le_of_ble_eq_true rfl, Nat.le_of_ble_eq_true rfl⟩ ⟨Nat.le_of_succ_le hcs.1, Nat.le_trans (Nat.le_add_right _ _) hcs.2⟩ dL_law_1471 (fun H locs hH => ?_)
    refine lv_aload_n hx hb dL_law_1474 rfl (lv_at hl 2 rfl) ?_
    refine lv_aload_n hx hb dL_law_1475 rfl (lv_at hl 0 rfl) ?_
    refine lv_iload hx hb dL_law_1476 (lv_at hl 4 rfl) ?_
    refine lv_iconst (v := (1 : Int32)) hx hb dL_law_1478 (by decide) ?_
    refine lv_iadd hx hb dL_law_1479 ?_
    refine va_sld hx hb hX hbl hbA hH.2 (hin (1 : Int32) (by decide) (by decide)) dL_law_1480 ?_
    refine lv_aload_n hx hb dL_law_1481 rfl (lv_at hl 0 rfl) ?_
    refine lv_iload hx hb dL_law_1482 (lv_at hl 4 rfl) ?_
    refine lv_iconst (v := (2 : Int32)) hx hb dL_law_1484 (by decide) ?_
    refine lv_iadd hx hb dL_law_1485 ?_
    refine va_sld hx hb hX hbl hbA hH.2 (hin (2 : Int32) (by decide) (by decide)) dL_law_1486 ?_
    refine lv_if_eq (tgt := 1494) hx hb dL_law_1487 (by decide) (fun cn => ?_) (fun cn => absurd cn0 cn)
    refine lv_iconst (v := (0 : Int32)) hx hb dL_law_1494 (by decide) ?_
    refine pg_Wi (As := [.int (xs (x4 + (1 : Int32)).toNatClampNeg), .int (0 : Int32)]) C hH mi_X10_keep vl_L_180 (q := (RX10, TX10, 34)) (ci := 10) rfl rfl (oO_sp e2).1 (c_X10_keep e2) rfl rfl hl.1 (Nat.le_of_ble_eq_true rfl) ⟨Nat.le_of_ble_eq_true rfl, Nat.le_of_ble_eq_true rfl⟩ ⟨Nat.le_of_succ_le hcs.1, Nat.le_trans (Nat.le_add_right _ _) hcs.2⟩ dL_law_1495 (fun H locs hH => ?_)
    refine lv_icmp_eq (tgt := 1503) hx hb dL_law_1498 (by decide) (fun cn => ?_) (fun cn => absurd rfl cn)
    refine W.widen (k := cells + 1) (n := slots + 6) (Nat.le_succ _) (Nat.le_add_right _ _) ?_
    exact K hI hH hl
  · refine lv_iconst (v := (1 : Int32)) hx hb dL_law_1466 (by decide) ?_
    refine lv_goto (tgt := 1471) hx hb dL_law_1467 (by decide) ?_
    obtain ⟨r, h1, h2, e1, e2, hI⟩ := S h (xs (x4 + (1 : Int32)).toNatClampNeg) (1 : Int32) (Or.inr rfl) hI
    refine pg_Wi (As := [.int (xs (x4 + (1 : Int32)).toNatClampNeg), .int (1 : Int32)]) C hH mi_X9_keep vl_L_177 (q := (RX9, TX9, 11)) (ci := 9) rfl rfl (oO_sp e1).1 (c_X9_keep e1) rfl rfl hl.1 (Nat.le_of_ble_eq_true rfl) ⟨Nat.le_of_ble_eq_true rfl, Nat.le_of_ble_eq_true rfl⟩ ⟨Nat.le_of_succ_le hcs.1, Nat.le_trans (Nat.le_add_right _ _) hcs.2⟩ dL_law_1471 (fun H locs hH => ?_)
    refine lv_aload_n hx hb dL_law_1474 rfl (lv_at hl 2 rfl) ?_
    refine lv_aload_n hx hb dL_law_1475 rfl (lv_at hl 0 rfl) ?_
    refine lv_iload hx hb dL_law_1476 (lv_at hl 4 rfl) ?_
    refine lv_iconst (v := (1 : Int32)) hx hb dL_law_1478 (by decide) ?_
    refine lv_iadd hx hb dL_law_1479 ?_
    refine va_sld hx hb hX hbl hbA hH.2 (hin (1 : Int32) (by decide) (by decide)) dL_law_1480 ?_
    refine lv_aload_n hx hb dL_law_1481 rfl (lv_at hl 0 rfl) ?_
    refine lv_iload hx hb dL_law_1482 (lv_at hl 4 rfl) ?_
    refine lv_iconst (v := (2 : Int32)) hx hb dL_law_1484 (by decide) ?_
    refine lv_iadd hx hb dL_law_1485 ?_
    refine va_sld hx hb hX hbl hbA hH.2 (hin (2 : Int32) (by decide) (by decide)) dL_law_1486 ?_
    refine lv_if_eq (tgt := 1494) hx hb dL_law_1487 (by decide) (fun cn => absurd cn cn0) (fun cn => ?_)
    refine lv_iconst (v := (1 : Int32)) hx hb dL_law_1490 (by decide) ?_
    refine lv_goto (tgt := 1495) hx hb dL_law_1491 (by decide) ?_
    refine pg_Wi (As := [.int (xs (x4 + (1 : Int32)).toNatClampNeg), .int (1 : Int32)]) C hH mi_X10_keep vl_L_180 (q := (RX10, TX10, 34)) (ci := 10) rfl rfl (oO_sp e2).1 (c_X10_keep e2) rfl rfl hl.1 (Nat.le_of_ble_eq_true rfl) ⟨Nat.le_of_ble_eq_true rfl, Nat.le_of_ble_eq_true rfl⟩ ⟨Nat.le_of_succ_le hcs.1, Nat.le_trans (Nat.le_add_right _ _) hcs.2⟩ dL_law_1495 (fun H locs hH => ?_)
    refine lv_icmp_eq (tgt := 1503) hx hb dL_law_1498 (by decide) (fun cn => ?_) (fun cn => absurd rfl cn)
    refine W.widen (k := cells + 1) (n := slots + 6) (Nat.le_succ _) (Nat.le_add_right _ _) ?_
    exact K hI hH hl
end LK
