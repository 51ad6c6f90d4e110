theorem dX8_writeRings_99 : decode cX8_writeRings 99 = .ok (.getfield 319, 3) := by decide +kernel
theorem dX8_writeRings_102 : decode cX8_writeRings 102 = .ok (.ireturn, 1) := by decide +kernel
theorem dX8_lineAt_0 : decode cX8_lineAt 0 = .ok (.iload_n 1, 1) := by decide +kernel
theorem dX8_lineAt_1 : decode cX8_lineAt 1 = .ok (.ifCond .lt 14, 3) := by decide +kernel
theorem dX8_lineAt_4 : decode cX8_lineAt 4 = .ok (.iload_n 1, 1) := by decide +kernel
theorem dX8_lineAt_5 : decode cX8_lineAt 5 = .ok (.aload_n 0, 1) := by decide +kernel
theorem dX8_lineAt_6 : decode cX8_lineAt 6 = .ok (.getfield 61, 3) := by decide +kernel
theorem dX8_lineAt_9 : decode cX8_lineAt 9 = .ok (.getfield 319, 3) := by decide +kernel
theorem dX8_lineAt_12 : decode cX8_lineAt 12 = .ok (.if_icmp .lt 14, 3) := by decide +kernel
theorem dX8_lineAt_15 : decode cX8_lineAt 15 = .ok (.new 322, 3) := by decide +kernel
theorem dX8_lineAt_18 : decode cX8_lineAt 18 = .ok (.dup, 1) := by decide +kernel
theorem dX8_lineAt_19 : decode cX8_lineAt 19 = .ok (.ldc_w 324, 3) := by decide +kernel
theorem dX8_lineAt_22 : decode cX8_lineAt 22 = .ok (.invokespecial 326, 3) := by decide +kernel
theorem dX8_lineAt_25 : decode cX8_lineAt 25 = .ok (.athrow, 1) := by decide +kernel
theorem dX8_lineAt_26 : decode cX8_lineAt 26 = .ok (.aload_n 0, 1) := by decide +kernel
theorem dX8_lineAt_27 : decode cX8_lineAt 27 = .ok (.getfield 61, 3) := by decide +kernel
theorem dX8_lineAt_30 : decode cX8_lineAt 30 = .ok (.getfield 327, 3) := by decide +kernel
theorem dX8_lineAt_33 : decode cX8_lineAt 33 = .ok (.iload_n 1, 1) := by decide +kernel
theorem dX8_lineAt_34 : decode cX8_lineAt 34 = .ok (.caload, 1) := by decide +kernel
theorem dX8_lineAt_35 : decode cX8_lineAt 35 = .ok (.ireturn, 1) := by decide +kernel
theorem dX8_checkRange_0 : decode cX8_checkRange 0 = .ok (.iload_n 0, 1) := by decide +kernel
theorem dX8_checkRange_1 : decode cX8_checkRange 1 = .ok (.iload_n 1, 1) := by decide +kernel
theorem dX8_checkRange_2 : decode cX8_checkRange 2 = .ok (.if_icmp .lt 8, 3) := by decide +kernel
theorem dX8_checkRange_5 : decode cX8_checkRange 5 = .ok (.iload_n 0, 1) := by decide +kernel
theorem dX8_checkRange_6 : decode cX8_checkRange 6 = .ok (.iload_n 2, 1) := by decide +kernel
theorem dX8_checkRange_7 : decode cX8_checkRange 7 = .ok (.if_icmp .le 14, 3) := by decide +kernel
theorem dX8_checkRange_10 : decode cX8_checkRange 10 = .ok (.new 112, 3) := by decide +kernel
theorem dX8_checkRange_13 : decode cX8_checkRange 13 = .ok (.dup, 1) := by decide +kernel
theorem dX8_checkRange_14 : decode cX8_checkRange 14 = .ok (.ldc_w 331, 3) := by decide +kernel
theorem dX8_checkRange_17 : decode cX8_checkRange 17 = .ok (.invokespecial 116, 3) := by decide +kernel
theorem dX8_checkRange_20 : decode cX8_checkRange 20 = .ok (.athrow, 1) := by decide +kernel
theorem dX8_checkRange_21 : decode cX8_checkRange 21 = .ok (.return_, 1) := by decide +kernel
theorem dX8_checkStack_0 : decode cX8_checkStack 0 = .ok (.iload_n 0, 1) := by decide +kernel
theorem dX8_checkStack_1 : decode cX8_checkStack 1 = .ok (.ifCond .lt 8, 3) := by decide +kernel
theorem dX8_checkStack_4 : decode cX8_checkStack 4 = .ok (.iload_n 0, 1) := by decide +kernel
theorem dX8_checkStack_5 : decode cX8_checkStack 5 = .ok (.iconst 3, 1) := by decide +kernel
theorem dX8_checkStack_6 : decode cX8_checkStack 6 = .ok (.if_icmp .lt 14, 3) := by decide +kernel
theorem dX8_checkStack_9 : decode cX8_checkStack 9 = .ok (.new 322, 3) := by decide +kernel
theorem dX8_checkStack_12 : decode cX8_checkStack 12 = .ok (.dup, 1) := by decide +kernel
theorem dX8_checkStack_13 : decode cX8_checkStack 13 = .ok (.ldc_w 333, 3) := by decide +kernel
theorem dX8_checkStack_16 : decode cX8_checkStack 16 = .ok (.invokespecial 326, 3) := by decide +kernel
theorem dX8_checkStack_19 : decode cX8_checkStack 19 = .ok (.athrow, 1) := by decide +kernel
theorem dX8_checkStack_20 : decode cX8_checkStack 20 = .ok (.return_, 1) := by decide +kernel
theorem dX8_checkPosition_0 : decode cX8_checkPosition 0 = .ok (.iload_n 0, 1) := by decide +kernel
theorem dX8_checkPosition_1 : decode cX8_checkPosition 1 = .ok (.ifCond .lt 11, 3) := by decide +kernel
theorem dX8_checkPosition_4 : decode cX8_checkPosition 4 = .ok (.iload_n 0, 1) := by decide +kernel
theorem dX8_checkPosition_5 : decode cX8_checkPosition 5 = .ok (.getstatic 260, 3) := by decide +kernel
theorem dX8_checkPosition_8 : decode cX8_checkPosition 8 = .ok (.arraylength, 1) := by decide +kernel
theorem dX8_checkPosition_9 : decode cX8_checkPosition 9 = .ok (.if_icmp .lt 14, 3) := by decide +kernel
theorem dX8_checkPosition_12 : decode cX8_checkPosition 12 = .ok (.new 112, 3) := by decide +kernel
theorem dX8_checkPosition_15 : decode cX8_checkPosition 15 = .ok (.dup, 1) := by decide +kernel
theorem dX8_checkPosition_16 : decode cX8_checkPosition 16 = .ok (.ldc_w 335, 3) := by decide +kernel
theorem dX8_checkPosition_19 : decode cX8_checkPosition 19 = .ok (.invokespecial 116, 3) := by decide +kernel
theorem dX8_checkPosition_22 : decode cX8_checkPosition 22 = .ok (.athrow, 1) := by decide +kernel
theorem dX8_checkPosition_23 : decode cX8_checkPosition 23 = .ok (.return_, 1) := by decide +kernel
set_option maxRecDepth 20000 in
theorem ggX8_checkGround_X1_isKnown : GoodIn wsX8_checkGround wsX1_isKnown := goodIn_r _ [8, 9, 22, 23, 24, 25] (by decide +kernel) (by decide +kernel)
set_option maxRecDepth 20000 in
theorem gX8_checkGround_X1_isKnown : GoodIn wsX8_checkGround (wsV RX8 181 RX1 yX1_isKnown wsX1_isKnown) := goodIn_app (goodIn_of _ (by decide +kernel)) ggX8_checkGround_X1_isKnown
theorem dX8_checkGround_0 : decode cX8_checkGround 0 = .ok (.aload_n 0, 1) := by decide +kernel
theorem dX8_checkGround_1 : decode cX8_checkGround 1 = .ok (.getfield 10, 3) := by decide +kernel
theorem dX8_checkGround_4 : decode cX8_checkGround 4 = .ok (.iload_n 1, 1) := by decide +kernel
theorem dX8_checkGround_5 : decode cX8_checkGround 5 = .ok (.invokevirtual 181, 3) := by decide +kernel
theorem dX8_checkGround_8 : decode cX8_checkGround 8 = .ok (.ifCond .ne 14, 3) := by decide +kernel
theorem dX8_checkGround_11 : decode cX8_checkGround 11 = .ok (.new 322, 3) := by decide +kernel
theorem dX8_checkGround_14 : decode cX8_checkGround 14 = .ok (.dup, 1) := by decide +kernel
theorem dX8_checkGround_15 : decode cX8_checkGround 15 = .ok (.ldc_w 337, 3) := by decide +kernel
theorem dX8_checkGround_18 : decode cX8_checkGround 18 = .ok (.invokespecial 326, 3) := by decide +kernel
theorem dX8_checkGround_21 : decode cX8_checkGround 21 = .ok (.athrow, 1) := by decide +kernel
theorem dX8_checkGround_22 : decode cX8_checkGround 22 = .ok (.return_, 1) := by decide +kernel
theorem dX8_checkLaid_0 : decode cX8_checkLaid 0 = .ok (.iload_n 1, 1) := by decide +kernel
theorem dX8_checkLaid_1 : decode cX8_checkLaid 1 = .ok (.ifCond .lt 14, 3) := by decide +kernel
theorem dX8_checkLaid_4 : decode cX8_checkLaid 4 = .ok (.iload_n 1, 1) := by decide +kernel
theorem dX8_checkLaid_5 : decode cX8_checkLaid 5 = .ok (.aload_n 0, 1) := by decide +kernel
theorem dX8_checkLaid_6 : decode cX8_checkLaid 6 = .ok (.getfield 40, 3) := by decide +kernel
theorem dX8_checkLaid_9 : decode cX8_checkLaid 9 = .ok (.getfield 178, 3) := by decide +kernel
theorem dX8_checkLaid_12 : decode cX8_checkLaid 12 = .ok (.if_icmp .lt 14, 3) := by decide +kernel
theorem dX8_checkLaid_15 : decode cX8_checkLaid 15 = .ok (.new 322, 3) := by decide +kernel
theorem dX8_checkLaid_18 : decode cX8_checkLaid 18 = .ok (.dup, 1) := by decide +kernel
theorem dX8_checkLaid_19 : decode cX8_checkLaid 19 = .ok (.ldc_w 339, 3) := by decide +kernel
theorem dX8_checkLaid_22 : decode cX8_checkLaid 22 = .ok (.invokespecial 326, 3) := by decide +kernel
theorem dX8_checkLaid_25 : decode cX8_checkLaid 25 = .ok (.athrow, 1) := by decide +kernel
theorem dX8_checkLaid_26 : decode cX8_checkLaid 26 = .ok (.return_, 1) := by decide +kernel
theorem dX8_checkRings_0 : decode cX8_checkRings 0 = .ok (.aload_n 0, 1) := by decide +kernel
theorem dX8_checkRings_1 : decode cX8_checkRings 1 = .ok (.getfield 33, 3) := by decide +kernel
theorem dX8_checkRings_4 : decode cX8_checkRings 4 = .ok (.getfield 138, 3) := by decide +kernel
theorem dX8_checkRings_7 : decode cX8_checkRings 7 = .ok (.iload_n 1, 1) := by decide +kernel
theorem dX8_checkRings_8 : decode cX8_checkRings 8 = .ok (.iaload, 1) := by decide +kernel
theorem dX8_checkRings_9 : decode cX8_checkRings 9 = .ok (.iload_n 2, 1) := by decide +kernel
theorem dX8_checkRings_10 : decode cX8_checkRings 10 = .ok (.if_icmp .ge 14, 3) := by decide +kernel
theorem dX8_checkRings_13 : decode cX8_checkRings 13 = .ok (.new 142, 3) := by decide +kernel
theorem dX8_checkRings_16 : decode cX8_checkRings 16 = .ok (.dup, 1) := by decide +kernel
theorem dX8_checkRings_17 : decode cX8_checkRings 17 = .ok (.ldc_w 343, 3) := by decide +kernel
theorem dX8_checkRings_20 : decode cX8_checkRings 20 = .ok (.invokespecial 146, 3) := by decide +kernel
theorem dX8_checkRings_23 : decode cX8_checkRings 23 = .ok (.athrow, 1) := by decide +kernel
theorem dX8_checkRings_24 : decode cX8_checkRings 24 = .ok (.return_, 1) := by decide +kernel
theorem dX8_fits_0 : decode cX8_fits 0 = .ok (.iload_n 0, 1) := by decide +kernel
theorem dX8_fits_1 : decode cX8_fits 1 = .ok (.iconst (-1), 1) := by decide +kernel
theorem dX8_fits_2 : decode cX8_fits 2 = .ok (.if_icmp .eq 18, 3) := by decide +kernel
theorem dX8_fits_5 : decode cX8_fits 5 = .ok (.iload_n 1, 1) := by decide +kernel
theorem dX8_fits_6 : decode cX8_fits 6 = .ok (.iload_n 0, 1) := by decide +kernel
theorem dX8_fits_7 : decode cX8_fits 7 = .ok (.if_icmp .eq 17, 3) := by decide +kernel
theorem dX8_fits_10 : decode cX8_fits 10 = .ok (.iload_n 1, 1) := by decide +kernel
theorem dX8_fits_11 : decode cX8_fits 11 = .ok (.iload_n 0, 1) := by decide +kernel
theorem dX8_fits_12 : decode cX8_fits 12 = .ok (.isub, 1) := by decide +kernel
theorem dX8_fits_13 : decode cX8_fits 13 = .ok (.invokestatic 245, 3) := by decide +kernel
theorem dX8_fits_16 : decode cX8_fits 16 = .ok (.iconst 4, 1) := by decide +kernel
theorem dX8_fits_17 : decode cX8_fits 17 = .ok (.if_icmp .eq 7, 3) := by decide +kernel
theorem dX8_fits_20 : decode cX8_fits 20 = .ok (.iconst 1, 1) := by decide +kernel
theorem dX8_fits_21 : decode cX8_fits 21 = .ok (.goto 4, 3) := by decide +kernel
theorem dX8_fits_24 : decode cX8_fits 24 = .ok (.iconst 0, 1) := by decide +kernel
theorem dX8_fits_25 : decode cX8_fits 25 = .ok (.ireturn, 1) := by decide +kernel
set_option maxRecDepth 20000 in
theorem ggX8_firstReason_X1_isKnown : GoodIn wsX8_firstReason wsX1_isKnown := goodIn_r _ [14, 15, 169, 170, 171, 172] (by decide +kernel) (by decide +kernel)
set_option maxRecDepth 20000 in
theorem gX8_firstReason_X1_isKnown : GoodIn wsX8_firstReason (wsV RX8 181 RX1 yX1_isKnown wsX1_isKnown) := goodIn_app (goodIn_of _ (by decide +kernel)) ggX8_firstReason_X1_isKnown
set_option maxRecDepth 20000 in
theorem ggX8_firstReason_X7_hoursLeft : GoodIn wsX8_firstReason wsX7_hoursLeft := goodIn_ca (goodIn_r _ [20, 21, 22, 23, 24, 25, 166, 167, 168] (by decide +kernel) (by decide +kernel)) (goodIn_sub (fun _ h => List.mem_cons_of_mem _ (List.mem_append_right _ h)) (by decide +kernel))
set_option maxRecDepth 20000 in
theorem gX8_firstReason_X7_hoursLeft : GoodIn wsX8_firstReason (wsV RX8 155 RX7 yX7_hoursLeft wsX7_hoursLeft) := goodIn_app (goodIn_of _ (by decide +kernel)) ggX8_firstReason_X7_hoursLeft
set_option maxRecDepth 20000 in
theorem ggX8_firstReason_X6_lastPosition : GoodIn wsX8_firstReason wsX6_lastPosition := goodIn_ca (goodIn_r _ [30, 31, 32, 160, 161, 162, 163, 164, 165] (by decide +kernel) (by decide +kernel)) (goodIn_sub (fun _ h => List.mem_cons_of_mem _ (List.mem_append_right _ h)) (by decide +kernel))
set_option maxRecDepth 20000 in
theorem gX8_firstReason_X6_lastPosition : GoodIn wsX8_firstReason (wsV RX8 256 RX6 yX6_lastPosition wsX6_lastPosition) := goodIn_app (goodIn_of _ (by decide +kernel)) ggX8_firstReason_X6_lastPosition
set_option maxRecDepth 20000 in
theorem ggX8_firstReason_X8_fits : GoodIn wsX8_firstReason wsX8_fits := goodIn_r _ [36, 37, 38, 24, 39] (by decide +kernel) (by decide +kernel)
set_option maxRecDepth 20000 in
theorem gX8_firstReason_X8_fits : GoodIn wsX8_firstReason (va_wsS RX8 263 yX8_fits wsX8_fits) := goodIn_app (goodIn_of _ (by decide +kernel)) ggX8_firstReason_X8_fits
set_option maxRecDepth 20000 in
theorem ggX8_firstReason_X8_slurryTaken : GoodIn wsX8_firstReason wsX8_slurryTaken := goodIn_ca (goodIn_r _ [43, 44, 3, 45, 23, 24, 25, 46, 47, 48, 13, 49, 50, 51, 11, 12, 14, 15, 52, 53, 54, 55, 56, 148, 149, 150, 151, 152, 153, 154, 155, 156, 157, 158, 159, 169, 170, 171, 172] (by decide +kernel) (by decide +kernel)) (goodIn_sub (fun _ h => List.mem_cons_of_mem _ (List.mem_append_right _ h)) (by decide +kernel))
set_option maxRecDepth 20000 in
theorem gX8_firstReason_X8_slurryTaken : GoodIn wsX8_firstReason (wsV RX8 186 RX8 yX8_slurryTaken wsX8_slurryTaken) := goodIn_app (goodIn_of _ (by decide +kernel)) ggX8_firstReason_X8_slurryTaken
set_option maxRecDepth 20000 in
theorem ggX8_firstReason_X8_prepareSearch : GoodIn wsX8_firstReason wsX8_prepareSearch := goodIn_ca (goodIn_r _ [60, 1, 2, 8, 61, 62, 4, 5, 63, 64, 65, 66, 35, 67, 68, 69, 70, 71, 72, 73, 74, 75, 76, 77, 78, 79, 80, 81, 82, 83, 84, 85, 86, 87, 88, 89, 90, 91, 92, 93, 94, 95, 96, 97, 98, 99, 100, 101, 102, 103, 104, 105, 106, 107, 108, 19, 109, 110, 111, 112, 113, 114, 115, 116, 117, 148, 149, 150, 151, 152, 153, 154, 155, 156, 157, 158, 159, 160, 161, 162, 163, 164, 165, 166, 167, 168, 173, 174, 175, 176, 177, 178, 179, 180, 181, 182, 183, 184, 185] (by decide +kernel) (by decide +kernel)) (goodIn_sub (fun _ h => List.mem_cons_of_mem _ (List.mem_append_right _ h)) (by decide +kernel))
set_option maxRecDepth 20000 in
theorem gX8_firstReason_X8_prepareSearch : GoodIn wsX8_firstReason (wsV RX8 250 RX8 yX8_prepareSearch wsX8_prepareSearch) := goodIn_app (goodIn_of _ (by decide +kernel)) ggX8_firstReason_X8_prepareSearch
set_option maxRecDepth 20000 in
theorem ggX8_firstReason_X4_deviationIn : GoodIn wsX8_firstReason wsX4_deviationIn := goodIn_ca (goodIn_r _ [121, 122, 123, 124, 96, 125, 98, 126, 127, 128, 129, 115, 116, 130, 131, 132, 133, 117, 134, 90, 91, 71, 92, 75, 76, 73, 74, 135, 136, 137, 138, 99, 139, 38, 24, 39, 100, 140, 141, 142, 143, 144, 145, 146, 147, 180, 181, 182, 183, 184, 185, 173, 174, 175, 176] (by decide +kernel) (by decide +kernel)) (goodIn_sub (fun _ h => List.mem_cons_of_mem _ (List.mem_append_right _ h)) (by decide +kernel))
set_option maxRecDepth 20000 in
theorem gX8_firstReason_X4_deviationIn : GoodIn wsX8_firstReason (wsV RX8 253 RX4 yX4_deviationIn wsX4_deviationIn) := goodIn_app (goodIn_of _ (by decide +kernel)) ggX8_firstReason_X4_deviationIn
theorem dX8_firstReason_0 : decode cX8_firstReason 0 = .ok (.aload_n 0, 1) := by decide +kernel
theorem dX8_firstReason_1 : decode cX8_firstReason 1 = .ok (.getfield 40, 3) := by decide +kernel
theorem dX8_firstReason_4 : decode cX8_firstReason 4 = .ok (.getfield 178, 3) := by decide +kernel
theorem dX8_firstReason_7 : decode cX8_firstReason 7 = .ok (.istore_n 3, 1) := by decide +kernel
theorem dX8_firstReason_8 : decode cX8_firstReason 8 = .ok (.aload_n 0, 1) := by decide +kernel
theorem dX8_firstReason_9 : decode cX8_firstReason 9 = .ok (.getfield 10, 3) := by decide +kernel
theorem dX8_firstReason_12 : decode cX8_firstReason 12 = .ok (.iload_n 3, 1) := by decide +kernel
theorem dX8_firstReason_13 : decode cX8_firstReason 13 = .ok (.invokevirtual 181, 3) := by decide +kernel
theorem dX8_firstReason_16 : decode cX8_firstReason 16 = .ok (.ifCond .ne 6, 3) := by decide +kernel
theorem dX8_firstReason_19 : decode cX8_firstReason 19 = .ok (.bipush 103, 2) := by decide +kernel
theorem dX8_firstReason_21 : decode cX8_firstReason 21 = .ok (.ireturn, 1) := by decide +kernel
theorem dX8_firstReason_22 : decode cX8_firstReason 22 = .ok (.aload_n 0, 1) := by decide +kernel
theorem dX8_firstReason_23 : decode cX8_firstReason 23 = .ok (.getfield 33, 3) := by decide +kernel
theorem dX8_firstReason_26 : decode cX8_firstReason 26 = .ok (.getfield 138, 3) := by decide +kernel
theorem dX8_firstReason_29 : decode cX8_firstReason 29 = .ok (.iload_n 1, 1) := by decide +kernel
theorem dX8_firstReason_30 : decode cX8_firstReason 30 = .ok (.iaload, 1) := by decide +kernel
theorem dX8_firstReason_31 : decode cX8_firstReason 31 = .ok (.ifCond .ne 6, 3) := by decide +kernel
theorem dX8_firstReason_34 : decode cX8_firstReason 34 = .ok (.bipush 101, 2) := by decide +kernel
theorem dX8_firstReason_36 : decode cX8_firstReason 36 = .ok (.ireturn, 1) := by decide +kernel
theorem dX8_firstReason_37 : decode cX8_firstReason 37 = .ok (.aload_n 0, 1) := by decide +kernel
theorem dX8_firstReason_38 : decode cX8_firstReason 38 = .ok (.getfield 33, 3) := by decide +kernel
theorem dX8_firstReason_41 : decode cX8_firstReason 41 = .ok (.iload_n 1, 1) := by decide +kernel
theorem dX8_firstReason_42 : decode cX8_firstReason 42 = .ok (.aload_n 0, 1) := by decide +kernel
theorem dX8_firstReason_43 : decode cX8_firstReason 43 = .ok (.getfield 33, 3) := by decide +kernel
theorem dX8_firstReason_46 : decode cX8_firstReason 46 = .ok (.getfield 138, 3) := by decide +kernel
theorem dX8_firstReason_49 : decode cX8_firstReason 49 = .ok (.iload_n 1, 1) := by decide +kernel
theorem dX8_firstReason_50 : decode cX8_firstReason 50 = .ok (.iaload, 1) := by decide +kernel
theorem dX8_firstReason_51 : decode cX8_firstReason 51 = .ok (.iconst 1, 1) := by decide +kernel
theorem dX8_firstReason_52 : decode cX8_firstReason 52 = .ok (.isub, 1) := by decide +kernel
theorem dX8_firstReason_53 : decode cX8_firstReason 53 = .ok (.aload_n 0, 1) := by decide +kernel
theorem dX8_firstReason_54 : decode cX8_firstReason 54 = .ok (.getfield 75, 3) := by decide +kernel
theorem dX8_firstReason_57 : decode cX8_firstReason 57 = .ok (.invokevirtual 155, 3) := by decide +kernel
theorem dX8_firstReason_60 : decode cX8_firstReason 60 = .ok (.ifCond .le 6, 3) := by decide +kernel
theorem dX8_firstReason_63 : decode cX8_firstReason 63 = .ok (.bipush 99, 2) := by decide +kernel
theorem dX8_firstReason_65 : decode cX8_firstReason 65 = .ok (.ireturn, 1) := by decide +kernel
theorem dX8_firstReason_66 : decode cX8_firstReason 66 = .ok (.aload_n 0, 1) := by decide +kernel
theorem dX8_firstReason_67 : decode cX8_firstReason 67 = .ok (.getfield 40, 3) := by decide +kernel
theorem dX8_firstReason_70 : decode cX8_firstReason 70 = .ok (.invokevirtual 256, 3) := by decide +kernel
theorem dX8_firstReason_73 : decode cX8_firstReason 73 = .ok (.iload_n 2, 1) := by decide +kernel
theorem dX8_firstReason_74 : decode cX8_firstReason 74 = .ok (.invokestatic 263, 3) := by decide +kernel
theorem dX8_firstReason_77 : decode cX8_firstReason 77 = .ok (.ifCond .ne 6, 3) := by decide +kernel
theorem dX8_firstReason_80 : decode cX8_firstReason 80 = .ok (.bipush 106, 2) := by decide +kernel
theorem dX8_firstReason_82 : decode cX8_firstReason 82 = .ok (.ireturn, 1) := by decide +kernel
theorem dX8_firstReason_83 : decode cX8_firstReason 83 = .ok (.aload_n 0, 1) := by decide +kernel
theorem dX8_firstReason_84 : decode cX8_firstReason 84 = .ok (.getfield 69, 3) := by decide +kernel
theorem dX8_firstReason_87 : decode cX8_firstReason 87 = .ok (.aload_n 0, 1) := by decide +kernel
theorem dX8_firstReason_88 : decode cX8_firstReason 88 = .ok (.iload_n 3, 1) := by decide +kernel
theorem dX8_firstReason_89 : decode cX8_firstReason 89 = .ok (.invokevirtual 186, 3) := by decide +kernel
theorem dX8_firstReason_92 : decode cX8_firstReason 92 = .ok (.if_icmp .ge 6, 3) := by decide +kernel
theorem dX8_firstReason_95 : decode cX8_firstReason 95 = .ok (.bipush 115, 2) := by decide +kernel
theorem dX8_firstReason_97 : decode cX8_firstReason 97 = .ok (.ireturn, 1) := by decide +kernel
theorem dX8_firstReason_98 : decode cX8_firstReason 98 = .ok (.aload_n 0, 1) := by decide +kernel
theorem dX8_firstReason_99 : decode cX8_firstReason 99 = .ok (.iload_n 1, 1) := by decide +kernel
theorem dX8_firstReason_100 : decode cX8_firstReason 100 = .ok (.iconst 1, 1) := by decide +kernel
theorem dX8_firstReason_101 : decode cX8_firstReason 101 = .ok (.invokevirtual 250, 3) := by decide +kernel
theorem dX8_firstReason_104 : decode cX8_firstReason 104 = .ok (.aload_n 0, 1) := by decide +kernel
theorem dX8_firstReason_105 : decode cX8_firstReason 105 = .ok (.getfield 47, 3) := by decide +kernel
theorem dX8_firstReason_108 : decode cX8_firstReason 108 = .ok (.iload_n 2, 1) := by decide +kernel
theorem dX8_firstReason_109 : decode cX8_firstReason 109 = .ok (.invokevirtual 253, 3) := by decide +kernel
theorem dX8_firstReason_112 : decode cX8_firstReason 112 = .ok (.aload_n 0, 1) := by decide +kernel
theorem dX8_firstReason_113 : decode cX8_firstReason 113 = .ok (.getfield 72, 3) := by decide +kernel
theorem dX8_firstReason_116 : decode cX8_firstReason 116 = .ok (.if_icmp .le 8, 3) := by decide +kernel
theorem dX8_firstReason_119 : decode cX8_firstReason 119 = .ok (.bipush 116, 2) := by decide +kernel
theorem dX8_firstReason_121 : decode cX8_firstReason 121 = .ok (.goto 5, 3) := by decide +kernel
theorem dX8_firstReason_124 : decode cX8_firstReason 124 = .ok (.bipush 45, 2) := by decide +kernel
theorem dX8_firstReason_126 : decode cX8_firstReason 126 = .ok (.ireturn, 1) := by decide +kernel
set_option maxRecDepth 20000 in
theorem ggX8_slurryTaken_X1_needOf : GoodIn wsX8_slurryTaken wsX1_needOf := goodIn_ca (goodIn_r _ [11, 12, 13, 14, 15, 10, 16, 17, 35, 36, 37, 38] (by decide +kernel) (by decide +kernel)) (goodIn_sub (fun _ h => List.mem_cons_of_mem _ (List.mem_append_right _ h)) (by decide +kernel))
set_option maxRecDepth 20000 in
theorem gX8_slurryTaken_X1_needOf : GoodIn wsX8_slurryTaken (wsV RX8 105 RX1 yX1_needOf wsX1_needOf) := goodIn_app (goodIn_of _ (by decide +kernel)) ggX8_slurryTaken_X1_needOf
set_option maxRecDepth 20000 in
theorem ggX8_slurryTaken_X1_weaknessOf : GoodIn wsX8_slurryTaken wsX1_weaknessOf := goodIn_ca (goodIn_r _ [21, 22, 13, 14, 15, 10, 16, 17, 35, 36, 37, 38] (by decide +kernel) (by decide +kernel)) (goodIn_sub (fun _ h => List.mem_cons_of_mem _ (List.mem_append_right _ h)) (by decide +kernel))
set_option maxRecDepth 20000 in
theorem gX8_slurryTaken_X1_weaknessOf : GoodIn wsX8_slurryTaken (wsV RX8 109 RX1 yX1_weaknessOf wsX1_weaknessOf) := goodIn_app (goodIn_of _ (by decide +kernel)) ggX8_slurryTaken_X1_weaknessOf
theorem dX8_slurryTaken_0 : decode cX8_slurryTaken 0 = .ok (.iconst 0, 1) := by decide +kernel
theorem dX8_slurryTaken_1 : decode cX8_slurryTaken 1 = .ok (.aload_n 0, 1) := by decide +kernel
theorem dX8_slurryTaken_2 : decode cX8_slurryTaken 2 = .ok (.getfield 65, 3) := by decide +kernel
theorem dX8_slurryTaken_5 : decode cX8_slurryTaken 5 = .ok (.aload_n 0, 1) := by decide +kernel
theorem dX8_slurryTaken_6 : decode cX8_slurryTaken 6 = .ok (.getfield 10, 3) := by decide +kernel
theorem dX8_slurryTaken_9 : decode cX8_slurryTaken 9 = .ok (.iload_n 1, 1) := by decide +kernel
theorem dX8_slurryTaken_10 : decode cX8_slurryTaken 10 = .ok (.invokevirtual 105, 3) := by decide +kernel
theorem dX8_slurryTaken_13 : decode cX8_slurryTaken 13 = .ok (.bipush 20, 2) := by decide +kernel
theorem dX8_slurryTaken_15 : decode cX8_slurryTaken 15 = .ok (.iadd, 1) := by decide +kernel
theorem dX8_slurryTaken_16 : decode cX8_slurryTaken 16 = .ok (.isub, 1) := by decide +kernel
theorem dX8_slurryTaken_17 : decode cX8_slurryTaken 17 = .ok (.invokestatic 345, 3) := by decide +kernel
theorem dX8_slurryTaken_20 : decode cX8_slurryTaken 20 = .ok (.istore_n 2, 1) := by decide +kernel
theorem dX8_slurryTaken_21 : decode cX8_slurryTaken 21 = .ok (.bipush 10, 2) := by decide +kernel
theorem dX8_slurryTaken_23 : decode cX8_slurryTaken 23 = .ok (.aload_n 0, 1) := by decide +kernel
theorem dX8_slurryTaken_24 : decode cX8_slurryTaken 24 = .ok (.getfield 10, 3) := by decide +kernel
theorem dX8_slurryTaken_27 : decode cX8_slurryTaken 27 = .ok (.iload_n 1, 1) := by decide +kernel
theorem dX8_slurryTaken_28 : decode cX8_slurryTaken 28 = .ok (.invokevirtual 109, 3) := by decide +kernel
theorem dX8_slurryTaken_31 : decode cX8_slurryTaken 31 = .ok (.iadd, 1) := by decide +kernel
theorem dX8_slurryTaken_32 : decode cX8_slurryTaken 32 = .ok (.iload_n 2, 1) := by decide +kernel
theorem dX8_slurryTaken_33 : decode cX8_slurryTaken 33 = .ok (.iadd, 1) := by decide +kernel
theorem dX8_slurryTaken_34 : decode cX8_slurryTaken 34 = .ok (.ireturn, 1) := by decide +kernel
set_option maxRecDepth 20000 in
theorem ggX8_sinkWhileLaying_X1_missing : GoodIn wsX8_sinkWhileLaying wsX1_missing := goodIn_ca (goodIn_r _ [7, 8, 9, 10, 11, 12, 13, 14, 6, 15, 16, 17, 18, 19, 20, 21, 44, 45, 46, 47] (by decide +kernel) (by decide +kernel)) (goodIn_sub (fun _ h => List.mem_cons_of_mem _ (List.mem_append_right _ h)) (by decide +kernel))
set_option maxRecDepth 20000 in
theorem gX8_sinkWhileLaying_X1_missing : GoodIn wsX8_sinkWhileLaying (wsV RX8 348 RX1 yX1_missing wsX1_missing) := goodIn_app (goodIn_of _ (by decide +kernel)) ggX8_sinkWhileLaying_X1_missing
set_option maxRecDepth 20000 in
theorem ggX8_sinkWhileLaying_X1_weaknessOf : GoodIn wsX8_sinkWhileLaying wsX1_weaknessOf := goodIn_ca (goodIn_r _ [25, 26, 17, 18, 19, 6, 20, 21, 44, 45, 46, 47] (by decide +kernel) (by decide +kernel)) (goodIn_sub (fun _ h => List.mem_cons_of_mem _ (List.mem_append_right _ h)) (by decide +kernel))
set_option maxRecDepth 20000 in
theorem gX8_sinkWhileLaying_X1_weaknessOf : GoodIn wsX8_sinkWhileLaying (wsV RX8 109 RX1 yX1_weaknessOf wsX1_weaknessOf) := goodIn_app (goodIn_of _ (by decide +kernel)) ggX8_sinkWhileLaying_X1_weaknessOf
set_option maxRecDepth 20000 in
theorem ggX8_sinkWhileLaying_X1_sink : GoodIn wsX8_sinkWhileLaying wsX1_sink := goodIn_ca (goodIn_r _ [30, 31, 17, 18, 19, 6, 20, 21, 44, 45, 46, 47] (by decide +kernel) (by decide +kernel)) (goodIn_sub (fun _ h => List.mem_cons_of_mem _ (List.mem_append_right _ h)) (by decide +kernel))
set_option maxRecDepth 20000 in
theorem gX8_sinkWhileLaying_X1_sink : GoodIn wsX8_sinkWhileLaying (wsV RX8 351 RX1 yX1_sink wsX1_sink) := goodIn_app (goodIn_of _ (by decide +kernel)) ggX8_sinkWhileLaying_X1_sink
theorem dX8_sinkWhileLaying_0 : decode cX8_sinkWhileLaying 0 = .ok (.aload_n 0, 1) := by decide +kernel
theorem dX8_sinkWhileLaying_1 : decode cX8_sinkWhileLaying 1 = .ok (.getfield 10, 3) := by decide +kernel
theorem dX8_sinkWhileLaying_4 : decode cX8_sinkWhileLaying 4 = .ok (.iload_n 1, 1) := by decide +kernel
theorem dX8_sinkWhileLaying_5 : decode cX8_sinkWhileLaying 5 = .ok (.aload_n 0, 1) := by decide +kernel
theorem dX8_sinkWhileLaying_6 : decode cX8_sinkWhileLaying 6 = .ok (.getfield 65, 3) := by decide +kernel
theorem dX8_sinkWhileLaying_9 : decode cX8_sinkWhileLaying 9 = .ok (.invokevirtual 348, 3) := by decide +kernel
theorem dX8_sinkWhileLaying_12 : decode cX8_sinkWhileLaying 12 = .ok (.aload_n 0, 1) := by decide +kernel
theorem dX8_sinkWhileLaying_13 : decode cX8_sinkWhileLaying 13 = .ok (.getfield 10, 3) := by decide +kernel
theorem dX8_sinkWhileLaying_16 : decode cX8_sinkWhileLaying 16 = .ok (.iload_n 1, 1) := by decide +kernel
theorem dX8_sinkWhileLaying_17 : decode cX8_sinkWhileLaying 17 = .ok (.invokevirtual 109, 3) := by decide +kernel
theorem dX8_sinkWhileLaying_20 : decode cX8_sinkWhileLaying 20 = .ok (.imul, 1) := by decide +kernel
theorem dX8_sinkWhileLaying_21 : decode cX8_sinkWhileLaying 21 = .ok (.bipush 10, 2) := by decide +kernel
theorem dX8_sinkWhileLaying_23 : decode cX8_sinkWhileLaying 23 = .ok (.idiv, 1) := by decide +kernel
theorem dX8_sinkWhileLaying_24 : decode cX8_sinkWhileLaying 24 = .ok (.istore_n 2, 1) := by decide +kernel
theorem dX8_sinkWhileLaying_25 : decode cX8_sinkWhileLaying 25 = .ok (.aload_n 0, 1) := by decide +kernel
theorem dX8_sinkWhileLaying_26 : decode cX8_sinkWhileLaying 26 = .ok (.getfield 10, 3) := by decide +kernel
theorem dX8_sinkWhileLaying_29 : decode cX8_sinkWhileLaying 29 = .ok (.iload_n 1, 1) := by decide +kernel
theorem dX8_sinkWhileLaying_30 : decode cX8_sinkWhileLaying 30 = .ok (.iload_n 2, 1) := by decide +kernel
theorem dX8_sinkWhileLaying_31 : decode cX8_sinkWhileLaying 31 = .ok (.invokevirtual 351, 3) := by decide +kernel
theorem dX8_sinkWhileLaying_34 : decode cX8_sinkWhileLaying 34 = .ok (.aload_n 0, 1) := by decide +kernel
theorem dX8_sinkWhileLaying_35 : decode cX8_sinkWhileLaying 35 = .ok (.getfield 10, 3) := by decide +kernel
theorem dX8_sinkWhileLaying_38 : decode cX8_sinkWhileLaying 38 = .ok (.iload_n 1, 1) := by decide +kernel
theorem dX8_sinkWhileLaying_39 : decode cX8_sinkWhileLaying 39 = .ok (.iconst 1, 1) := by decide +kernel
theorem dX8_sinkWhileLaying_40 : decode cX8_sinkWhileLaying 40 = .ok (.isub, 1) := by decide +kernel
theorem dX8_sinkWhileLaying_41 : decode cX8_sinkWhileLaying 41 = .ok (.iload_n 2, 1) := by decide +kernel
theorem dX8_sinkWhileLaying_42 : decode cX8_sinkWhileLaying 42 = .ok (.iconst 2, 1) := by decide +kernel
theorem dX8_sinkWhileLaying_43 : decode cX8_sinkWhileLaying 43 = .ok (.idiv, 1) := by decide +kernel
theorem dX8_sinkWhileLaying_44 : decode cX8_sinkWhileLaying 44 = .ok (.invokevirtual 351, 3) := by decide +kernel
theorem dX8_sinkWhileLaying_47 : decode cX8_sinkWhileLaying 47 = .ok (.aload_n 0, 1) := by decide +kernel
theorem dX8_sinkWhileLaying_48 : decode cX8_sinkWhileLaying 48 = .ok (.getfield 10, 3) := by decide +kernel
theorem dX8_sinkWhileLaying_51 : decode cX8_sinkWhileLaying 51 = .ok (.iload_n 1, 1) := by decide +kernel
theorem dX8_sinkWhileLaying_52 : decode cX8_sinkWhileLaying 52 = .ok (.iconst 1, 1) := by decide +kernel
theorem dX8_sinkWhileLaying_53 : decode cX8_sinkWhileLaying 53 = .ok (.iadd, 1) := by decide +kernel
theorem dX8_sinkWhileLaying_54 : decode cX8_sinkWhileLaying 54 = .ok (.iload_n 2, 1) := by decide +kernel
theorem dX8_sinkWhileLaying_55 : decode cX8_sinkWhileLaying 55 = .ok (.iconst 2, 1) := by decide +kernel
theorem dX8_sinkWhileLaying_56 : decode cX8_sinkWhileLaying 56 = .ok (.idiv, 1) := by decide +kernel
theorem dX8_sinkWhileLaying_57 : decode cX8_sinkWhileLaying 57 = .ok (.invokevirtual 351, 3) := by decide +kernel
theorem dX8_sinkWhileLaying_60 : decode cX8_sinkWhileLaying 60 = .ok (.return_, 1) := by decide +kernel
set_option maxRecDepth 20000 in
theorem ggX8_sinkWhileStanding_X1_missing : GoodIn wsX8_sinkWhileStanding wsX1_missing := goodIn_ca (goodIn_r _ [7, 8, 9, 10, 11, 12, 13, 14, 6, 15, 16, 17, 18, 19, 20, 21, 44, 45, 46, 47] (by decide +kernel) (by decide +kernel)) (goodIn_sub (fun _ h => List.mem_cons_of_mem _ (List.mem_append_right _ h)) (by decide +kernel))
set_option maxRecDepth 20000 in
theorem gX8_sinkWhileStanding_X1_missing : GoodIn wsX8_sinkWhileStanding (wsV RX8 348 RX1 yX1_missing wsX1_missing) := goodIn_app (goodIn_of _ (by decide +kernel)) ggX8_sinkWhileStanding_X1_missing
set_option maxRecDepth 20000 in
theorem ggX8_sinkWhileStanding_X1_weaknessOf : GoodIn wsX8_sinkWhileStanding wsX1_weaknessOf := goodIn_ca (goodIn_r _ [25, 26, 17, 18, 19, 6, 20, 21, 44, 45, 46, 47] (by decide +kernel) (by decide +kernel)) (goodIn_sub (fun _ h => List.mem_cons_of_mem _ (List.mem_append_right _ h)) (by decide +kernel))
set_option maxRecDepth 20000 in
theorem gX8_sinkWhileStanding_X1_weaknessOf : GoodIn wsX8_sinkWhileStanding (wsV RX8 109 RX1 yX1_weaknessOf wsX1_weaknessOf) := goodIn_app (goodIn_of _ (by decide +kernel)) ggX8_sinkWhileStanding_X1_weaknessOf
set_option maxRecDepth 20000 in
theorem ggX8_sinkWhileStanding_X1_sink : GoodIn wsX8_sinkWhileStanding wsX1_sink := goodIn_ca (goodIn_r _ [30, 31, 17, 18, 19, 6, 20, 21, 44, 45, 46, 47] (by decide +kernel) (by decide +kernel)) (goodIn_sub (fun _ h => List.mem_cons_of_mem _ (List.mem_append_right _ h)) (by decide +kernel))
set_option maxRecDepth 20000 in
theorem gX8_sinkWhileStanding_X1_sink : GoodIn wsX8_sinkWhileStanding (wsV RX8 351 RX1 yX1_sink wsX1_sink) := goodIn_app (goodIn_of _ (by decide +kernel)) ggX8_sinkWhileStanding_X1_sink
theorem dX8_sinkWhileStanding_0 : decode cX8_sinkWhileStanding 0 = .ok (.aload_n 0, 1) := by decide +kernel
theorem dX8_sinkWhileStanding_1 : decode cX8_sinkWhileStanding 1 = .ok (.getfield 10, 3) := by decide +kernel
theorem dX8_sinkWhileStanding_4 : decode cX8_sinkWhileStanding 4 = .ok (.iload_n 1, 1) := by decide +kernel
theorem dX8_sinkWhileStanding_5 : decode cX8_sinkWhileStanding 5 = .ok (.aload_n 0, 1) := by decide +kernel
theorem dX8_sinkWhileStanding_6 : decode cX8_sinkWhileStanding 6 = .ok (.getfield 65, 3) := by decide +kernel
theorem dX8_sinkWhileStanding_9 : decode cX8_sinkWhileStanding 9 = .ok (.invokevirtual 348, 3) := by decide +kernel
theorem dX8_sinkWhileStanding_12 : decode cX8_sinkWhileStanding 12 = .ok (.aload_n 0, 1) := by decide +kernel
theorem dX8_sinkWhileStanding_13 : decode cX8_sinkWhileStanding 13 = .ok (.getfield 10, 3) := by decide +kernel
theorem dX8_sinkWhileStanding_16 : decode cX8_sinkWhileStanding 16 = .ok (.iload_n 1, 1) := by decide +kernel
theorem dX8_sinkWhileStanding_17 : decode cX8_sinkWhileStanding 17 = .ok (.invokevirtual 109, 3) := by decide +kernel
theorem dX8_sinkWhileStanding_20 : decode cX8_sinkWhileStanding 20 = .ok (.imul, 1) := by decide +kernel
theorem dX8_sinkWhileStanding_21 : decode cX8_sinkWhileStanding 21 = .ok (.bipush 50, 2) := by decide +kernel
theorem dX8_sinkWhileStanding_23 : decode cX8_sinkWhileStanding 23 = .ok (.idiv, 1) := by decide +kernel
theorem dX8_sinkWhileStanding_24 : decode cX8_sinkWhileStanding 24 = .ok (.istore_n 3, 1) := by decide +kernel
theorem dX8_sinkWhileStanding_25 : decode cX8_sinkWhileStanding 25 = .ok (.aload_n 0, 1) := by decide +kernel
theorem dX8_sinkWhileStanding_26 : decode cX8_sinkWhileStanding 26 = .ok (.getfield 10, 3) := by decide +kernel
theorem dX8_sinkWhileStanding_29 : decode cX8_sinkWhileStanding 29 = .ok (.iload_n 1, 1) := by decide +kernel
theorem dX8_sinkWhileStanding_30 : decode cX8_sinkWhileStanding 30 = .ok (.iload_n 3, 1) := by decide +kernel
theorem dX8_sinkWhileStanding_31 : decode cX8_sinkWhileStanding 31 = .ok (.iload_n 2, 1) := by decide +kernel
theorem dX8_sinkWhileStanding_32 : decode cX8_sinkWhileStanding 32 = .ok (.imul, 1) := by decide +kernel
theorem dX8_sinkWhileStanding_33 : decode cX8_sinkWhileStanding 33 = .ok (.invokevirtual 351, 3) := by decide +kernel
theorem dX8_sinkWhileStanding_36 : decode cX8_sinkWhileStanding 36 = .ok (.return_, 1) := by decide +kernel
set_option maxRecDepth 20000 in
theorem ggX8_followRings_X0_restart : GoodIn wsX8_followRings wsX0_restart := goodIn_r _ [9, 10, 11, 12, 13, 40, 41, 42, 43] (by decide +kernel) (by decide +kernel)
set_option maxRecDepth 20000 in
theorem gX8_followRings_X0_restart : GoodIn wsX8_followRings (wsV RX8 301 RX0 yX0_restart wsX0_restart) := goodIn_app (goodIn_of _ (by decide +kernel)) ggX8_followRings_X0_restart
set_option maxRecDepth 20000 in
theorem ggX8_followRings_X0_addRing : GoodIn wsX8_followRings wsX0_addRing := goodIn_ca (goodIn_r _ [17, 18, 19, 20, 8, 21, 12, 13, 10, 11, 40, 41, 42, 43] (by decide +kernel) (by decide +kernel)) (goodIn_sub (fun _ h => List.mem_cons_of_mem _ (List.mem_append_right _ h)) (by decide +kernel))
set_option maxRecDepth 20000 in
theorem gX8_followRings_X0_addRing : GoodIn wsX8_followRings (wsV RX8 304 RX0 yX0_addRing wsX0_addRing) := goodIn_app (goodIn_of _ (by decide +kernel)) ggX8_followRings_X0_addRing
theorem dX8_followRings_0 : decode cX8_followRings 0 = .ok (.aload_n 0, 1) := by decide +kernel
theorem dX8_followRings_1 : decode cX8_followRings 1 = .ok (.getfield 54, 3) := by decide +kernel
theorem dX8_followRings_4 : decode cX8_followRings 4 = .ok (.invokevirtual 301, 3) := by decide +kernel
theorem dX8_followRings_7 : decode cX8_followRings 7 = .ok (.iconst 0, 1) := by decide +kernel
theorem dX8_followRings_8 : decode cX8_followRings 8 = .ok (.istore_n 2, 1) := by decide +kernel
theorem dX8_followRings_9 : decode cX8_followRings 9 = .ok (.iload_n 2, 1) := by decide +kernel
theorem dX8_followRings_10 : decode cX8_followRings 10 = .ok (.iload_n 1, 1) := by decide +kernel
theorem dX8_followRings_11 : decode cX8_followRings 11 = .ok (.if_icmp .ge 34, 3) := by decide +kernel
theorem dX8_followRings_14 : decode cX8_followRings 14 = .ok (.aload_n 0, 1) := by decide +kernel
theorem dX8_followRings_15 : decode cX8_followRings 15 = .ok (.getfield 54, 3) := by decide +kernel
theorem dX8_followRings_18 : decode cX8_followRings 18 = .ok (.aload_n 0, 1) := by decide +kernel
theorem dX8_followRings_19 : decode cX8_followRings 19 = .ok (.getfield 40, 3) := by decide +kernel
theorem dX8_followRings_22 : decode cX8_followRings 22 = .ok (.getfield 221, 3) := by decide +kernel
theorem dX8_followRings_25 : decode cX8_followRings 25 = .ok (.iload_n 2, 1) := by decide +kernel
theorem dX8_followRings_26 : decode cX8_followRings 26 = .ok (.iaload, 1) := by decide +kernel
theorem dX8_followRings_27 : decode cX8_followRings 27 = .ok (.aload_n 0, 1) := by decide +kernel
theorem dX8_followRings_28 : decode cX8_followRings 28 = .ok (.getfield 40, 3) := by decide +kernel
theorem dX8_followRings_31 : decode cX8_followRings 31 = .ok (.getfield 224, 3) := by decide +kernel
theorem dX8_followRings_34 : decode cX8_followRings 34 = .ok (.iload_n 2, 1) := by decide +kernel
theorem dX8_followRings_35 : decode cX8_followRings 35 = .ok (.iaload, 1) := by decide +kernel
theorem dX8_followRings_36 : decode cX8_followRings 36 = .ok (.invokevirtual 304, 3) := by decide +kernel
theorem dX8_followRings_39 : decode cX8_followRings 39 = .ok (.iinc 2 1, 3) := by decide +kernel
theorem dX8_followRings_42 : decode cX8_followRings 42 = .ok (.goto (-33), 3) := by decide +kernel
theorem dX8_followRings_45 : decode cX8_followRings 45 = .ok (.return_, 1) := by decide +kernel
set_option maxRecDepth 20000 in
theorem ggX8_followPlan_X0_restart : GoodIn wsX8_followPlan wsX0_restart := goodIn_r _ [7, 8, 9, 10, 11, 40, 41, 42, 43] (by decide +kernel) (by decide +kernel)
set_option maxRecDepth 20000 in
theorem gX8_followPlan_X0_restart : GoodIn wsX8_followPlan (wsV RX8 301 RX0 yX0_restart wsX0_restart) := goodIn_app (goodIn_of _ (by decide +kernel)) ggX8_followPlan_X0_restart
set_option maxRecDepth 20000 in
theorem ggX8_followPlan_X3_sideBend : GoodIn wsX8_followPlan wsX3_sideBend := goodIn_ca (goodIn_r _ [16, 17, 18, 44, 45, 46] (by decide +kernel) (by decide +kernel)) (goodIn_sub (fun _ h => List.mem_cons_of_mem _ (List.mem_append_right _ h)) (by decide +kernel))
set_option maxRecDepth 20000 in
theorem gX8_followPlan_X3_sideBend : GoodIn wsX8_followPlan (wsV RX8 354 RX3 yX3_sideBend wsX3_sideBend) := goodIn_app (goodIn_of _ (by decide +kernel)) ggX8_followPlan_X3_sideBend
set_option maxRecDepth 20000 in
theorem ggX8_followPlan_X3_upBend : GoodIn wsX8_followPlan wsX3_upBend := goodIn_ca (goodIn_r _ [22, 17, 23, 44, 45, 46] (by decide +kernel) (by decide +kernel)) (goodIn_sub (fun _ h => List.mem_cons_of_mem _ (List.mem_append_right _ h)) (by decide +kernel))
set_option maxRecDepth 20000 in
theorem gX8_followPlan_X3_upBend : GoodIn wsX8_followPlan (wsV RX8 357 RX3 yX3_upBend wsX3_upBend) := goodIn_app (goodIn_of _ (by decide +kernel)) ggX8_followPlan_X3_upBend
set_option maxRecDepth 20000 in
theorem ggX8_followPlan_X0_bend : GoodIn wsX8_followPlan wsX0_bend := goodIn_r _ [27, 10, 11, 8, 9, 40, 41, 42, 43] (by decide +kernel) (by decide +kernel)
set_option maxRecDepth 20000 in
theorem gX8_followPlan_X0_bend : GoodIn wsX8_followPlan (wsV RX8 360 RX0 yX0_bend wsX0_bend) := goodIn_app (goodIn_of _ (by decide +kernel)) ggX8_followPlan_X0_bend
theorem dX8_followPlan_0 : decode cX8_followPlan 0 = .ok (.aload_n 0, 1) := by decide +kernel
theorem dX8_followPlan_1 : decode cX8_followPlan 1 = .ok (.getfield 54, 3) := by decide +kernel
theorem dX8_followPlan_4 : decode cX8_followPlan 4 = .ok (.invokevirtual 301, 3) := by decide +kernel
theorem dX8_followPlan_7 : decode cX8_followPlan 7 = .ok (.iconst 0, 1) := by decide +kernel
theorem dX8_followPlan_8 : decode cX8_followPlan 8 = .ok (.istore_n 2, 1) := by decide +kernel
theorem dX8_followPlan_9 : decode cX8_followPlan 9 = .ok (.iload_n 2, 1) := by decide +kernel
theorem dX8_followPlan_10 : decode cX8_followPlan 10 = .ok (.iload_n 1, 1) := by decide +kernel
theorem dX8_followPlan_11 : decode cX8_followPlan 11 = .ok (.if_icmp .ge 32, 3) := by decide +kernel
theorem dX8_followPlan_14 : decode cX8_followPlan 14 = .ok (.aload_n 0, 1) := by decide +kernel
theorem dX8_followPlan_15 : decode cX8_followPlan 15 = .ok (.getfield 54, 3) := by decide +kernel
theorem dX8_followPlan_18 : decode cX8_followPlan 18 = .ok (.aload_n 0, 1) := by decide +kernel
theorem dX8_followPlan_19 : decode cX8_followPlan 19 = .ok (.getfield 19, 3) := by decide +kernel
theorem dX8_followPlan_22 : decode cX8_followPlan 22 = .ok (.iload_n 2, 1) := by decide +kernel
theorem dX8_followPlan_23 : decode cX8_followPlan 23 = .ok (.invokevirtual 354, 3) := by decide +kernel
theorem dX8_followPlan_26 : decode cX8_followPlan 26 = .ok (.aload_n 0, 1) := by decide +kernel
theorem dX8_followPlan_27 : decode cX8_followPlan 27 = .ok (.getfield 19, 3) := by decide +kernel
theorem dX8_followPlan_30 : decode cX8_followPlan 30 = .ok (.iload_n 2, 1) := by decide +kernel
theorem dX8_followPlan_31 : decode cX8_followPlan 31 = .ok (.invokevirtual 357, 3) := by decide +kernel
theorem dX8_followPlan_34 : decode cX8_followPlan 34 = .ok (.invokevirtual 360, 3) := by decide +kernel
theorem dX8_followPlan_37 : decode cX8_followPlan 37 = .ok (.iinc 2 1, 3) := by decide +kernel
theorem dX8_followPlan_40 : decode cX8_followPlan 40 = .ok (.goto (-31), 3) := by decide +kernel
theorem dX8_followPlan_43 : decode cX8_followPlan 43 = .ok (.return_, 1) := by decide +kernel
set_option maxRecDepth 20000 in
theorem ggX8_prepareSearch_X8_followPlan : GoodIn wsX8_prepareSearch wsX8_followPlan := goodIn_ca (goodIn_r _ [13, 5, 8, 14, 15, 16, 17, 18, 19, 20, 21, 22, 23, 24, 25, 26, 27, 28, 29, 30, 31, 32, 33, 34, 35, 36, 37, 38, 65, 66, 67, 68, 69, 70, 71, 72, 73, 74, 75, 76, 86, 87, 88, 89, 90, 91, 92] (by decide +kernel) (by decide +kernel)) (goodIn_sub (fun _ h => List.mem_cons_of_mem _ (List.mem_append_right _ h)) (by decide +kernel))
set_option maxRecDepth 20000 in
theorem gX8_prepareSearch_X8_followPlan : GoodIn wsX8_prepareSearch (wsV RX8 242 RX8 yX8_followPlan wsX8_followPlan) := goodIn_app (goodIn_of _ (by decide +kernel)) ggX8_prepareSearch_X8_followPlan
set_option maxRecDepth 20000 in
theorem ggX8_prepareSearch_X4_restart : GoodIn wsX8_prepareSearch wsX4_restart := goodIn_r _ [43, 44, 45, 46, 47, 48, 49, 50, 51, 93, 94, 95, 96, 97, 98, 86, 87, 88, 89] (by decide +kernel) (by decide +kernel)
set_option maxRecDepth 20000 in
theorem gX8_prepareSearch_X4_restart : GoodIn wsX8_prepareSearch (wsV RX8 366 RX4 yX4_restart wsX4_restart) := goodIn_app (goodIn_of _ (by decide +kernel)) ggX8_prepareSearch_X4_restart
set_option maxRecDepth 20000 in
theorem ggX8_prepareSearch_X7_taperIn : GoodIn wsX8_prepareSearch wsX7_taperIn := goodIn_ca (goodIn_r _ [56, 57, 83, 84, 85] (by decide +kernel) (by decide +kernel)) (goodIn_sub (fun _ h => List.mem_cons_of_mem _ (List.mem_append_right _ h)) (by decide +kernel))
set_option maxRecDepth 20000 in
theorem gX8_prepareSearch_X7_taperIn : GoodIn wsX8_prepareSearch (wsV RX8 147 RX7 yX7_taperIn wsX7_taperIn) := goodIn_app (goodIn_of _ (by decide +kernel)) ggX8_prepareSearch_X7_taperIn
set_option maxRecDepth 20000 in
theorem ggX8_prepareSearch_X3_sideBend : GoodIn wsX8_prepareSearch wsX3_sideBend := goodIn_ca (goodIn_r _ [27, 28, 29, 90, 91, 92] (by decide +kernel) (by decide +kernel)) (goodIn_sub (fun _ h => List.mem_cons_of_mem _ (List.mem_append_right _ h)) (by decide +kernel))
set_option maxRecDepth 20000 in
theorem gX8_prepareSearch_X3_sideBend : GoodIn wsX8_prepareSearch (wsV RX8 354 RX3 yX3_sideBend wsX3_sideBend) := goodIn_app (goodIn_of _ (by decide +kernel)) ggX8_prepareSearch_X3_sideBend
set_option maxRecDepth 20000 in
theorem ggX8_prepareSearch_X3_upBend : GoodIn wsX8_prepareSearch wsX3_upBend := goodIn_ca (goodIn_r _ [33, 28, 34, 90, 91, 92] (by decide +kernel) (by decide +kernel)) (goodIn_sub (fun _ h => List.mem_cons_of_mem _ (List.mem_append_right _ h)) (by decide +kernel))
set_option maxRecDepth 20000 in
theorem gX8_prepareSearch_X3_upBend : GoodIn wsX8_prepareSearch (wsV RX8 357 RX3 yX3_upBend wsX3_upBend) := goodIn_app (goodIn_of _ (by decide +kernel)) ggX8_prepareSearch_X3_upBend
set_option maxRecDepth 20000 in
theorem ggX8_prepareSearch_X4_add : GoodIn wsX8_prepareSearch wsX4_add := goodIn_ca (goodIn_r _ [61, 49, 62, 63, 64, 93, 94, 95, 96, 97, 98] (by decide +kernel) (by decide +kernel)) (goodIn_sub (fun _ h => List.mem_cons_of_mem _ (List.mem_append_right _ h)) (by decide +kernel))
set_option maxRecDepth 20000 in
theorem gX8_prepareSearch_X4_add : GoodIn wsX8_prepareSearch (wsV RX8 369 RX4 yX4_add wsX4_add) := goodIn_app (goodIn_of _ (by decide +kernel)) ggX8_prepareSearch_X4_add
theorem dX8_prepareSearch_0 : decode cX8_prepareSearch 0 = .ok (.aload_n 0, 1) := by decide +kernel
theorem dX8_prepareSearch_1 : decode cX8_prepareSearch 1 = .ok (.aload_n 0, 1) := by decide +kernel
theorem dX8_prepareSearch_2 : decode cX8_prepareSearch 2 = .ok (.getfield 40, 3) := by decide +kernel
theorem dX8_prepareSearch_5 : decode cX8_prepareSearch 5 = .ok (.getfield 178, 3) := by decide +kernel
theorem dX8_prepareSearch_8 : decode cX8_prepareSearch 8 = .ok (.invokevirtual 242, 3) := by decide +kernel
theorem dX8_prepareSearch_11 : decode cX8_prepareSearch 11 = .ok (.aload_n 0, 1) := by decide +kernel
theorem dX8_prepareSearch_12 : decode cX8_prepareSearch 12 = .ok (.getfield 47, 3) := by decide +kernel
theorem dX8_prepareSearch_15 : decode cX8_prepareSearch 15 = .ok (.aload_n 0, 1) := by decide +kernel
theorem dX8_prepareSearch_16 : decode cX8_prepareSearch 16 = .ok (.getfield 40, 3) := by decide +kernel
theorem dX8_prepareSearch_19 : decode cX8_prepareSearch 19 = .ok (.getfield 363, 3) := by decide +kernel
theorem dX8_prepareSearch_22 : decode cX8_prepareSearch 22 = .ok (.aload_n 0, 1) := by decide +kernel
theorem dX8_prepareSearch_23 : decode cX8_prepareSearch 23 = .ok (.getfield 54, 3) := by decide +kernel
theorem dX8_prepareSearch_26 : decode cX8_prepareSearch 26 = .ok (.invokevirtual 366, 3) := by decide +kernel
theorem dX8_prepareSearch_29 : decode cX8_prepareSearch 29 = .ok (.aload_n 0, 1) := by decide +kernel
theorem dX8_prepareSearch_30 : decode cX8_prepareSearch 30 = .ok (.getfield 33, 3) := by decide +kernel
theorem dX8_prepareSearch_33 : decode cX8_prepareSearch 33 = .ok (.getfield 138, 3) := by decide +kernel
theorem dX8_prepareSearch_36 : decode cX8_prepareSearch 36 = .ok (.iload_n 1, 1) := by decide +kernel
theorem dX8_prepareSearch_37 : decode cX8_prepareSearch 37 = .ok (.iaload, 1) := by decide +kernel
theorem dX8_prepareSearch_38 : decode cX8_prepareSearch 38 = .ok (.iconst 1, 1) := by decide +kernel
theorem dX8_prepareSearch_39 : decode cX8_prepareSearch 39 = .ok (.isub, 1) := by decide +kernel
theorem dX8_prepareSearch_40 : decode cX8_prepareSearch 40 = .ok (.istore_n 3, 1) := by decide +kernel
theorem dX8_prepareSearch_41 : decode cX8_prepareSearch 41 = .ok (.iconst 0, 1) := by decide +kernel
theorem dX8_prepareSearch_42 : decode cX8_prepareSearch 42 = .ok (.istore 4, 2) := by decide +kernel
theorem dX8_prepareSearch_44 : decode cX8_prepareSearch 44 = .ok (.iload 4, 2) := by decide +kernel
theorem dX8_prepareSearch_46 : decode cX8_prepareSearch 46 = .ok (.iload_n 2, 1) := by decide +kernel
theorem dX8_prepareSearch_47 : decode cX8_prepareSearch 47 = .ok (.if_icmp .ge 58, 3) := by decide +kernel
theorem dX8_prepareSearch_50 : decode cX8_prepareSearch 50 = .ok (.aload_n 0, 1) := by decide +kernel
theorem dX8_prepareSearch_51 : decode cX8_prepareSearch 51 = .ok (.getfield 40, 3) := by decide +kernel
theorem dX8_prepareSearch_54 : decode cX8_prepareSearch 54 = .ok (.getfield 178, 3) := by decide +kernel
theorem dX8_prepareSearch_57 : decode cX8_prepareSearch 57 = .ok (.iload 4, 2) := by decide +kernel
theorem dX8_prepareSearch_59 : decode cX8_prepareSearch 59 = .ok (.iadd, 1) := by decide +kernel
theorem dX8_prepareSearch_60 : decode cX8_prepareSearch 60 = .ok (.istore 5, 2) := by decide +kernel
theorem dX8_prepareSearch_62 : decode cX8_prepareSearch 62 = .ok (.aload_n 0, 1) := by decide +kernel
theorem dX8_prepareSearch_63 : decode cX8_prepareSearch 63 = .ok (.getfield 47, 3) := by decide +kernel
theorem dX8_prepareSearch_66 : decode cX8_prepareSearch 66 = .ok (.aload_n 0, 1) := by decide +kernel
theorem dX8_prepareSearch_67 : decode cX8_prepareSearch 67 = .ok (.getfield 33, 3) := by decide +kernel
theorem dX8_prepareSearch_70 : decode cX8_prepareSearch 70 = .ok (.iload_n 1, 1) := by decide +kernel
theorem dX8_prepareSearch_71 : decode cX8_prepareSearch 71 = .ok (.iload_n 3, 1) := by decide +kernel
theorem dX8_prepareSearch_72 : decode cX8_prepareSearch 72 = .ok (.iload 4, 2) := by decide +kernel
theorem dX8_prepareSearch_74 : decode cX8_prepareSearch 74 = .ok (.isub, 1) := by decide +kernel
theorem dX8_prepareSearch_75 : decode cX8_prepareSearch 75 = .ok (.invokevirtual 147, 3) := by decide +kernel
theorem dX8_prepareSearch_78 : decode cX8_prepareSearch 78 = .ok (.aload_n 0, 1) := by decide +kernel
theorem dX8_prepareSearch_79 : decode cX8_prepareSearch 79 = .ok (.getfield 19, 3) := by decide +kernel
theorem dX8_prepareSearch_82 : decode cX8_prepareSearch 82 = .ok (.iload 5, 2) := by decide +kernel
theorem dX8_prepareSearch_84 : decode cX8_prepareSearch 84 = .ok (.invokevirtual 354, 3) := by decide +kernel
theorem dX8_prepareSearch_87 : decode cX8_prepareSearch 87 = .ok (.aload_n 0, 1) := by decide +kernel
theorem dX8_prepareSearch_88 : decode cX8_prepareSearch 88 = .ok (.getfield 19, 3) := by decide +kernel
theorem dX8_prepareSearch_91 : decode cX8_prepareSearch 91 = .ok (.iload 5, 2) := by decide +kernel
theorem dX8_prepareSearch_93 : decode cX8_prepareSearch 93 = .ok (.invokevirtual 357, 3) := by decide +kernel
theorem dX8_prepareSearch_96 : decode cX8_prepareSearch 96 = .ok (.invokevirtual 369, 3) := by decide +kernel
theorem dX8_prepareSearch_99 : decode cX8_prepareSearch 99 = .ok (.iinc 4 1, 3) := by decide +kernel
theorem dX8_prepareSearch_102 : decode cX8_prepareSearch 102 = .ok (.goto (-58), 3) := by decide +kernel
theorem dX8_prepareSearch_105 : decode cX8_prepareSearch 105 = .ok (.return_, 1) := by decide +kernel
