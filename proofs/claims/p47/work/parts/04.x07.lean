theorem dX0_init_0 : decode cX0_init 0 = .ok (.aload_n 0, 1) := by decide +kernel
theorem dX0_init_1 : decode cX0_init 1 = .ok (.invokespecial 1, 3) := by decide +kernel
theorem dX0_init_4 : decode cX0_init 4 = .ok (.return_, 1) := by decide +kernel
theorem dX0_restart_0 : decode cX0_restart 0 = .ok (.aload_n 0, 1) := by decide +kernel
theorem dX0_restart_1 : decode cX0_restart 1 = .ok (.iconst 0, 1) := by decide +kernel
theorem dX0_restart_2 : decode cX0_restart 2 = .ok (.putfield 7, 3) := by decide +kernel
theorem dX0_restart_5 : decode cX0_restart 5 = .ok (.aload_n 0, 1) := by decide +kernel
theorem dX0_restart_6 : decode cX0_restart 6 = .ok (.iconst 0, 1) := by decide +kernel
theorem dX0_restart_7 : decode cX0_restart 7 = .ok (.putfield 13, 3) := by decide +kernel
theorem dX0_restart_10 : decode cX0_restart 10 = .ok (.aload_n 0, 1) := by decide +kernel
theorem dX0_restart_11 : decode cX0_restart 11 = .ok (.iconst 0, 1) := by decide +kernel
theorem dX0_restart_12 : decode cX0_restart 12 = .ok (.putfield 16, 3) := by decide +kernel
theorem dX0_restart_15 : decode cX0_restart 15 = .ok (.aload_n 0, 1) := by decide +kernel
theorem dX0_restart_16 : decode cX0_restart 16 = .ok (.iconst 0, 1) := by decide +kernel
theorem dX0_restart_17 : decode cX0_restart 17 = .ok (.putfield 19, 3) := by decide +kernel
theorem dX0_restart_20 : decode cX0_restart 20 = .ok (.return_, 1) := by decide +kernel
theorem dX0_bend_0 : decode cX0_bend 0 = .ok (.aload_n 0, 1) := by decide +kernel
theorem dX0_bend_1 : decode cX0_bend 1 = .ok (.dup, 1) := by decide +kernel
theorem dX0_bend_2 : decode cX0_bend 2 = .ok (.getfield 16, 3) := by decide +kernel
theorem dX0_bend_5 : decode cX0_bend 5 = .ok (.iload_n 1, 1) := by decide +kernel
theorem dX0_bend_6 : decode cX0_bend 6 = .ok (.iadd, 1) := by decide +kernel
theorem dX0_bend_7 : decode cX0_bend 7 = .ok (.putfield 16, 3) := by decide +kernel
theorem dX0_bend_10 : decode cX0_bend 10 = .ok (.aload_n 0, 1) := by decide +kernel
theorem dX0_bend_11 : decode cX0_bend 11 = .ok (.dup, 1) := by decide +kernel
theorem dX0_bend_12 : decode cX0_bend 12 = .ok (.getfield 19, 3) := by decide +kernel
theorem dX0_bend_15 : decode cX0_bend 15 = .ok (.iload_n 2, 1) := by decide +kernel
theorem dX0_bend_16 : decode cX0_bend 16 = .ok (.iadd, 1) := by decide +kernel
theorem dX0_bend_17 : decode cX0_bend 17 = .ok (.putfield 19, 3) := by decide +kernel
theorem dX0_bend_20 : decode cX0_bend 20 = .ok (.aload_n 0, 1) := by decide +kernel
theorem dX0_bend_21 : decode cX0_bend 21 = .ok (.dup, 1) := by decide +kernel
theorem dX0_bend_22 : decode cX0_bend 22 = .ok (.getfield 7, 3) := by decide +kernel
theorem dX0_bend_25 : decode cX0_bend 25 = .ok (.aload_n 0, 1) := by decide +kernel
theorem dX0_bend_26 : decode cX0_bend 26 = .ok (.getfield 16, 3) := by decide +kernel
theorem dX0_bend_29 : decode cX0_bend 29 = .ok (.iadd, 1) := by decide +kernel
theorem dX0_bend_30 : decode cX0_bend 30 = .ok (.putfield 7, 3) := by decide +kernel
theorem dX0_bend_33 : decode cX0_bend 33 = .ok (.aload_n 0, 1) := by decide +kernel
theorem dX0_bend_34 : decode cX0_bend 34 = .ok (.dup, 1) := by decide +kernel
theorem dX0_bend_35 : decode cX0_bend 35 = .ok (.getfield 13, 3) := by decide +kernel
theorem dX0_bend_38 : decode cX0_bend 38 = .ok (.aload_n 0, 1) := by decide +kernel
theorem dX0_bend_39 : decode cX0_bend 39 = .ok (.getfield 19, 3) := by decide +kernel
theorem dX0_bend_42 : decode cX0_bend 42 = .ok (.iadd, 1) := by decide +kernel
theorem dX0_bend_43 : decode cX0_bend 43 = .ok (.putfield 13, 3) := by decide +kernel
theorem dX0_bend_46 : decode cX0_bend 46 = .ok (.return_, 1) := by decide +kernel
theorem dX0_unbend_0 : decode cX0_unbend 0 = .ok (.aload_n 0, 1) := by decide +kernel
theorem dX0_unbend_1 : decode cX0_unbend 1 = .ok (.dup, 1) := by decide +kernel
theorem dX0_unbend_2 : decode cX0_unbend 2 = .ok (.getfield 7, 3) := by decide +kernel
theorem dX0_unbend_5 : decode cX0_unbend 5 = .ok (.aload_n 0, 1) := by decide +kernel
theorem dX0_unbend_6 : decode cX0_unbend 6 = .ok (.getfield 16, 3) := by decide +kernel
theorem dX0_unbend_9 : decode cX0_unbend 9 = .ok (.isub, 1) := by decide +kernel
theorem dX0_unbend_10 : decode cX0_unbend 10 = .ok (.putfield 7, 3) := by decide +kernel
theorem dX0_unbend_13 : decode cX0_unbend 13 = .ok (.aload_n 0, 1) := by decide +kernel
theorem dX0_unbend_14 : decode cX0_unbend 14 = .ok (.dup, 1) := by decide +kernel
theorem dX0_unbend_15 : decode cX0_unbend 15 = .ok (.getfield 13, 3) := by decide +kernel
theorem dX0_unbend_18 : decode cX0_unbend 18 = .ok (.aload_n 0, 1) := by decide +kernel
theorem dX0_unbend_19 : decode cX0_unbend 19 = .ok (.getfield 19, 3) := by decide +kernel
theorem dX0_unbend_22 : decode cX0_unbend 22 = .ok (.isub, 1) := by decide +kernel
theorem dX0_unbend_23 : decode cX0_unbend 23 = .ok (.putfield 13, 3) := by decide +kernel
theorem dX0_unbend_26 : decode cX0_unbend 26 = .ok (.aload_n 0, 1) := by decide +kernel
theorem dX0_unbend_27 : decode cX0_unbend 27 = .ok (.dup, 1) := by decide +kernel
theorem dX0_unbend_28 : decode cX0_unbend 28 = .ok (.getfield 16, 3) := by decide +kernel
theorem dX0_unbend_31 : decode cX0_unbend 31 = .ok (.iload_n 1, 1) := by decide +kernel
theorem dX0_unbend_32 : decode cX0_unbend 32 = .ok (.isub, 1) := by decide +kernel
theorem dX0_unbend_33 : decode cX0_unbend 33 = .ok (.putfield 16, 3) := by decide +kernel
theorem dX0_unbend_36 : decode cX0_unbend 36 = .ok (.aload_n 0, 1) := by decide +kernel
theorem dX0_unbend_37 : decode cX0_unbend 37 = .ok (.dup, 1) := by decide +kernel
theorem dX0_unbend_38 : decode cX0_unbend 38 = .ok (.getfield 19, 3) := by decide +kernel
theorem dX0_unbend_41 : decode cX0_unbend 41 = .ok (.iload_n 2, 1) := by decide +kernel
theorem dX0_unbend_42 : decode cX0_unbend 42 = .ok (.isub, 1) := by decide +kernel
theorem dX0_unbend_43 : decode cX0_unbend 43 = .ok (.putfield 19, 3) := by decide +kernel
theorem dX0_unbend_46 : decode cX0_unbend 46 = .ok (.return_, 1) := by decide +kernel
set_option maxRecDepth 20000 in
theorem ggX0_addRing_X0_bend : GoodIn wsX0_addRing wsX0_bend := goodIn_r _ [5, 6, 7, 8, 9, 10, 11, 12, 13] (by decide +kernel) (by decide +kernel)
set_option maxRecDepth 20000 in
theorem gX0_addRing_X0_bend : GoodIn wsX0_addRing (wsV RX0 31 RX0 yX0_bend wsX0_bend) := goodIn_app (goodIn_of _ (by decide +kernel)) ggX0_addRing_X0_bend
theorem dX0_addRing_0 : decode cX0_addRing 0 = .ok (.aload_n 0, 1) := by decide +kernel
theorem dX0_addRing_1 : decode cX0_addRing 1 = .ok (.iload_n 2, 1) := by decide +kernel
theorem dX0_addRing_2 : decode cX0_addRing 2 = .ok (.getstatic 22, 3) := by decide +kernel
theorem dX0_addRing_5 : decode cX0_addRing 5 = .ok (.iload_n 1, 1) := by decide +kernel
theorem dX0_addRing_6 : decode cX0_addRing 6 = .ok (.iaload, 1) := by decide +kernel
theorem dX0_addRing_7 : decode cX0_addRing 7 = .ok (.imul, 1) := by decide +kernel
theorem dX0_addRing_8 : decode cX0_addRing 8 = .ok (.iload_n 2, 1) := by decide +kernel
theorem dX0_addRing_9 : decode cX0_addRing 9 = .ok (.getstatic 28, 3) := by decide +kernel
theorem dX0_addRing_12 : decode cX0_addRing 12 = .ok (.iload_n 1, 1) := by decide +kernel
theorem dX0_addRing_13 : decode cX0_addRing 13 = .ok (.iaload, 1) := by decide +kernel
theorem dX0_addRing_14 : decode cX0_addRing 14 = .ok (.imul, 1) := by decide +kernel
theorem dX0_addRing_15 : decode cX0_addRing 15 = .ok (.invokevirtual 31, 3) := by decide +kernel
theorem dX0_addRing_18 : decode cX0_addRing 18 = .ok (.return_, 1) := by decide +kernel
theorem dX1_init_0 : decode cX1_init 0 = .ok (.aload_n 0, 1) := by decide +kernel
theorem dX1_init_1 : decode cX1_init 1 = .ok (.invokespecial 3, 3) := by decide +kernel
theorem dX1_init_4 : decode cX1_init 4 = .ok (.aload_n 0, 1) := by decide +kernel
theorem dX1_init_5 : decode cX1_init 5 = .ok (.sipush 200, 3) := by decide +kernel
theorem dX1_init_8 : decode cX1_init 8 = .ok (.newarray .int, 2) := by decide +kernel
theorem dX1_init_10 : decode cX1_init 10 = .ok (.putfield 9, 3) := by decide +kernel
theorem dX1_init_13 : decode cX1_init 13 = .ok (.aload_n 0, 1) := by decide +kernel
theorem dX1_init_14 : decode cX1_init 14 = .ok (.sipush 200, 3) := by decide +kernel
theorem dX1_init_17 : decode cX1_init 17 = .ok (.newarray .int, 2) := by decide +kernel
theorem dX1_init_19 : decode cX1_init 19 = .ok (.putfield 15, 3) := by decide +kernel
theorem dX1_init_22 : decode cX1_init 22 = .ok (.aload_n 0, 1) := by decide +kernel
theorem dX1_init_23 : decode cX1_init 23 = .ok (.sipush 200, 3) := by decide +kernel
theorem dX1_init_26 : decode cX1_init 26 = .ok (.newarray .int, 2) := by decide +kernel
theorem dX1_init_28 : decode cX1_init 28 = .ok (.putfield 18, 3) := by decide +kernel
theorem dX1_init_31 : decode cX1_init 31 = .ok (.return_, 1) := by decide +kernel
theorem dX1_isKnown_0 : decode cX1_isKnown 0 = .ok (.iload_n 1, 1) := by decide +kernel
theorem dX1_isKnown_1 : decode cX1_isKnown 1 = .ok (.ifCond .lt 15, 3) := by decide +kernel
theorem dX1_isKnown_4 : decode cX1_isKnown 4 = .ok (.iload_n 1, 1) := by decide +kernel
theorem dX1_isKnown_5 : decode cX1_isKnown 5 = .ok (.aload_n 0, 1) := by decide +kernel
theorem dX1_isKnown_6 : decode cX1_isKnown 6 = .ok (.getfield 21, 3) := by decide +kernel
theorem dX1_isKnown_9 : decode cX1_isKnown 9 = .ok (.if_icmp .ge 7, 3) := by decide +kernel
theorem dX1_isKnown_12 : decode cX1_isKnown 12 = .ok (.iconst 1, 1) := by decide +kernel
theorem dX1_isKnown_13 : decode cX1_isKnown 13 = .ok (.goto 4, 3) := by decide +kernel
theorem dX1_isKnown_16 : decode cX1_isKnown 16 = .ok (.iconst 0, 1) := by decide +kernel
theorem dX1_isKnown_17 : decode cX1_isKnown 17 = .ok (.ireturn, 1) := by decide +kernel
theorem dX1_extend_0 : decode cX1_extend 0 = .ok (.sipush 200, 3) := by decide +kernel
theorem dX1_extend_3 : decode cX1_extend 3 = .ok (.aload_n 0, 1) := by decide +kernel
theorem dX1_extend_4 : decode cX1_extend 4 = .ok (.getfield 21, 3) := by decide +kernel
theorem dX1_extend_7 : decode cX1_extend 7 = .ok (.iload_n 1, 1) := by decide +kernel
theorem dX1_extend_8 : decode cX1_extend 8 = .ok (.iadd, 1) := by decide +kernel
theorem dX1_extend_9 : decode cX1_extend 9 = .ok (.invokestatic 25, 3) := by decide +kernel
theorem dX1_extend_12 : decode cX1_extend 12 = .ok (.istore 4, 2) := by decide +kernel
theorem dX1_extend_14 : decode cX1_extend 14 = .ok (.aload_n 0, 1) := by decide +kernel
theorem dX1_extend_15 : decode cX1_extend 15 = .ok (.getfield 21, 3) := by decide +kernel
theorem dX1_extend_18 : decode cX1_extend 18 = .ok (.istore 5, 2) := by decide +kernel
theorem dX1_extend_20 : decode cX1_extend 20 = .ok (.iload 5, 2) := by decide +kernel
theorem dX1_extend_22 : decode cX1_extend 22 = .ok (.iload 4, 2) := by decide +kernel
theorem dX1_extend_24 : decode cX1_extend 24 = .ok (.if_icmp .ge 25, 3) := by decide +kernel
theorem dX1_extend_27 : decode cX1_extend 27 = .ok (.aload_n 0, 1) := by decide +kernel
theorem dX1_extend_28 : decode cX1_extend 28 = .ok (.getfield 9, 3) := by decide +kernel
theorem dX1_extend_31 : decode cX1_extend 31 = .ok (.iload 5, 2) := by decide +kernel
theorem dX1_extend_33 : decode cX1_extend 33 = .ok (.iload_n 2, 1) := by decide +kernel
theorem dX1_extend_34 : decode cX1_extend 34 = .ok (.iastore, 1) := by decide +kernel
theorem dX1_extend_35 : decode cX1_extend 35 = .ok (.aload_n 0, 1) := by decide +kernel
theorem dX1_extend_36 : decode cX1_extend 36 = .ok (.getfield 15, 3) := by decide +kernel
theorem dX1_extend_39 : decode cX1_extend 39 = .ok (.iload 5, 2) := by decide +kernel
theorem dX1_extend_41 : decode cX1_extend 41 = .ok (.iload_n 3, 1) := by decide +kernel
theorem dX1_extend_42 : decode cX1_extend 42 = .ok (.iastore, 1) := by decide +kernel
theorem dX1_extend_43 : decode cX1_extend 43 = .ok (.iinc 5 1, 3) := by decide +kernel
theorem dX1_extend_46 : decode cX1_extend 46 = .ok (.goto (-26), 3) := by decide +kernel
theorem dX1_extend_49 : decode cX1_extend 49 = .ok (.aload_n 0, 1) := by decide +kernel
theorem dX1_extend_50 : decode cX1_extend 50 = .ok (.iload 4, 2) := by decide +kernel
theorem dX1_extend_52 : decode cX1_extend 52 = .ok (.putfield 21, 3) := by decide +kernel
theorem dX1_extend_55 : decode cX1_extend 55 = .ok (.return_, 1) := by decide +kernel
set_option maxRecDepth 20000 in
theorem ggX1_needOf_X1_isKnown : GoodIn wsX1_needOf wsX1_isKnown := goodIn_r _ [6, 7, 8, 9, 10, 11] (by decide +kernel) (by decide +kernel)
set_option maxRecDepth 20000 in
theorem gX1_needOf_X1_isKnown : GoodIn wsX1_needOf (wsV RX1 31 RX1 yX1_isKnown wsX1_isKnown) := goodIn_app (goodIn_of _ (by decide +kernel)) ggX1_needOf_X1_isKnown
theorem dX1_needOf_0 : decode cX1_needOf 0 = .ok (.aload_n 0, 1) := by decide +kernel
theorem dX1_needOf_1 : decode cX1_needOf 1 = .ok (.iload_n 1, 1) := by decide +kernel
theorem dX1_needOf_2 : decode cX1_needOf 2 = .ok (.invokevirtual 31, 3) := by decide +kernel
theorem dX1_needOf_5 : decode cX1_needOf 5 = .ok (.ifCond .eq 12, 3) := by decide +kernel
theorem dX1_needOf_8 : decode cX1_needOf 8 = .ok (.aload_n 0, 1) := by decide +kernel
theorem dX1_needOf_9 : decode cX1_needOf 9 = .ok (.getfield 9, 3) := by decide +kernel
theorem dX1_needOf_12 : decode cX1_needOf 12 = .ok (.iload_n 1, 1) := by decide +kernel
theorem dX1_needOf_13 : decode cX1_needOf 13 = .ok (.iaload, 1) := by decide +kernel
theorem dX1_needOf_14 : decode cX1_needOf 14 = .ok (.goto 4, 3) := by decide +kernel
theorem dX1_needOf_17 : decode cX1_needOf 17 = .ok (.iconst 0, 1) := by decide +kernel
theorem dX1_needOf_18 : decode cX1_needOf 18 = .ok (.ireturn, 1) := by decide +kernel
set_option maxRecDepth 20000 in
theorem ggX1_weaknessOf_X1_isKnown : GoodIn wsX1_weaknessOf wsX1_isKnown := goodIn_r _ [6, 7, 8, 9, 10, 11] (by decide +kernel) (by decide +kernel)
set_option maxRecDepth 20000 in
theorem gX1_weaknessOf_X1_isKnown : GoodIn wsX1_weaknessOf (wsV RX1 31 RX1 yX1_isKnown wsX1_isKnown) := goodIn_app (goodIn_of _ (by decide +kernel)) ggX1_weaknessOf_X1_isKnown
theorem dX1_weaknessOf_0 : decode cX1_weaknessOf 0 = .ok (.aload_n 0, 1) := by decide +kernel
theorem dX1_weaknessOf_1 : decode cX1_weaknessOf 1 = .ok (.iload_n 1, 1) := by decide +kernel
theorem dX1_weaknessOf_2 : decode cX1_weaknessOf 2 = .ok (.invokevirtual 31, 3) := by decide +kernel
theorem dX1_weaknessOf_5 : decode cX1_weaknessOf 5 = .ok (.ifCond .eq 12, 3) := by decide +kernel
theorem dX1_weaknessOf_8 : decode cX1_weaknessOf 8 = .ok (.aload_n 0, 1) := by decide +kernel
theorem dX1_weaknessOf_9 : decode cX1_weaknessOf 9 = .ok (.getfield 15, 3) := by decide +kernel
theorem dX1_weaknessOf_12 : decode cX1_weaknessOf 12 = .ok (.iload_n 1, 1) := by decide +kernel
theorem dX1_weaknessOf_13 : decode cX1_weaknessOf 13 = .ok (.iaload, 1) := by decide +kernel
theorem dX1_weaknessOf_14 : decode cX1_weaknessOf 14 = .ok (.goto 4, 3) := by decide +kernel
theorem dX1_weaknessOf_17 : decode cX1_weaknessOf 17 = .ok (.iconst 0, 1) := by decide +kernel
theorem dX1_weaknessOf_18 : decode cX1_weaknessOf 18 = .ok (.ireturn, 1) := by decide +kernel
set_option maxRecDepth 20000 in
theorem ggX1_missing_X1_needOf : GoodIn wsX1_missing wsX1_needOf := goodIn_ca (goodIn_r _ [9, 10, 11, 12, 13, 8, 14, 15, 16, 17, 18, 19] (by decide +kernel) (by decide +kernel)) (goodIn_sub (fun _ h => List.mem_cons_of_mem _ (List.mem_append_right _ h)) (by decide +kernel))
set_option maxRecDepth 20000 in
theorem gX1_missing_X1_needOf : GoodIn wsX1_missing (wsV RX1 35 RX1 yX1_needOf wsX1_needOf) := goodIn_app (goodIn_of _ (by decide +kernel)) ggX1_missing_X1_needOf
theorem dX1_missing_0 : decode cX1_missing 0 = .ok (.iconst 0, 1) := by decide +kernel
theorem dX1_missing_1 : decode cX1_missing 1 = .ok (.aload_n 0, 1) := by decide +kernel
theorem dX1_missing_2 : decode cX1_missing 2 = .ok (.iload_n 1, 1) := by decide +kernel
theorem dX1_missing_3 : decode cX1_missing 3 = .ok (.invokevirtual 35, 3) := by decide +kernel
theorem dX1_missing_6 : decode cX1_missing 6 = .ok (.iload_n 2, 1) := by decide +kernel
theorem dX1_missing_7 : decode cX1_missing 7 = .ok (.isub, 1) := by decide +kernel
theorem dX1_missing_8 : decode cX1_missing 8 = .ok (.invokestatic 39, 3) := by decide +kernel
theorem dX1_missing_11 : decode cX1_missing 11 = .ok (.ireturn, 1) := by decide +kernel
set_option maxRecDepth 20000 in
theorem ggX1_sink_X1_isKnown : GoodIn wsX1_sink wsX1_isKnown := goodIn_r _ [6, 7, 8, 9, 10, 11] (by decide +kernel) (by decide +kernel)
set_option maxRecDepth 20000 in
theorem gX1_sink_X1_isKnown : GoodIn wsX1_sink (wsV RX1 31 RX1 yX1_isKnown wsX1_isKnown) := goodIn_app (goodIn_of _ (by decide +kernel)) ggX1_sink_X1_isKnown
theorem dX1_sink_0 : decode cX1_sink 0 = .ok (.aload_n 0, 1) := by decide +kernel
theorem dX1_sink_1 : decode cX1_sink 1 = .ok (.iload_n 1, 1) := by decide +kernel
theorem dX1_sink_2 : decode cX1_sink 2 = .ok (.invokevirtual 31, 3) := by decide +kernel
theorem dX1_sink_5 : decode cX1_sink 5 = .ok (.ifCond .eq 13, 3) := by decide +kernel
theorem dX1_sink_8 : decode cX1_sink 8 = .ok (.aload_n 0, 1) := by decide +kernel
theorem dX1_sink_9 : decode cX1_sink 9 = .ok (.getfield 18, 3) := by decide +kernel
theorem dX1_sink_12 : decode cX1_sink 12 = .ok (.iload_n 1, 1) := by decide +kernel
theorem dX1_sink_13 : decode cX1_sink 13 = .ok (.dup2, 1) := by decide +kernel
theorem dX1_sink_14 : decode cX1_sink 14 = .ok (.iaload, 1) := by decide +kernel
theorem dX1_sink_15 : decode cX1_sink 15 = .ok (.iload_n 2, 1) := by decide +kernel
theorem dX1_sink_16 : decode cX1_sink 16 = .ok (.iadd, 1) := by decide +kernel
theorem dX1_sink_17 : decode cX1_sink 17 = .ok (.iastore, 1) := by decide +kernel
theorem dX1_sink_18 : decode cX1_sink 18 = .ok (.return_, 1) := by decide +kernel
theorem dX2_init_0 : decode cX2_init 0 = .ok (.aload_n 0, 1) := by decide +kernel
theorem dX2_init_1 : decode cX2_init 1 = .ok (.invokespecial 3, 3) := by decide +kernel
theorem dX2_init_4 : decode cX2_init 4 = .ok (.aload_n 0, 1) := by decide +kernel
theorem dX2_init_5 : decode cX2_init 5 = .ok (.bipush 8, 2) := by decide +kernel
theorem dX2_init_7 : decode cX2_init 7 = .ok (.newarray .int, 2) := by decide +kernel
theorem dX2_init_9 : decode cX2_init 9 = .ok (.putfield 9, 3) := by decide +kernel
theorem dX2_init_12 : decode cX2_init 12 = .ok (.aload_n 0, 1) := by decide +kernel
theorem dX2_init_13 : decode cX2_init 13 = .ok (.bipush 8, 2) := by decide +kernel
theorem dX2_init_15 : decode cX2_init 15 = .ok (.newarray .int, 2) := by decide +kernel
theorem dX2_init_17 : decode cX2_init 17 = .ok (.putfield 15, 3) := by decide +kernel
theorem dX2_init_20 : decode cX2_init 20 = .ok (.aload_n 0, 1) := by decide +kernel
theorem dX2_init_21 : decode cX2_init 21 = .ok (.bipush 8, 2) := by decide +kernel
theorem dX2_init_23 : decode cX2_init 23 = .ok (.newarray .int, 2) := by decide +kernel
theorem dX2_init_25 : decode cX2_init 25 = .ok (.putfield 18, 3) := by decide +kernel
theorem dX2_init_28 : decode cX2_init 28 = .ok (.aload_n 0, 1) := by decide +kernel
theorem dX2_init_29 : decode cX2_init 29 = .ok (.bipush 8, 2) := by decide +kernel
theorem dX2_init_31 : decode cX2_init 31 = .ok (.newarray .int, 2) := by decide +kernel
theorem dX2_init_33 : decode cX2_init 33 = .ok (.putfield 21, 3) := by decide +kernel
theorem dX2_init_36 : decode cX2_init 36 = .ok (.aload_n 0, 1) := by decide +kernel
theorem dX2_init_37 : decode cX2_init 37 = .ok (.bipush 8, 2) := by decide +kernel
theorem dX2_init_39 : decode cX2_init 39 = .ok (.newarray .int, 2) := by decide +kernel
theorem dX2_init_41 : decode cX2_init 41 = .ok (.putfield 24, 3) := by decide +kernel
theorem dX2_init_44 : decode cX2_init 44 = .ok (.return_, 1) := by decide +kernel
theorem dX2_build_0 : decode cX2_build 0 = .ok (.aload_n 0, 1) := by decide +kernel
theorem dX2_build_1 : decode cX2_build 1 = .ok (.getfield 27, 3) := by decide +kernel
theorem dX2_build_4 : decode cX2_build 4 = .ok (.istore 5, 2) := by decide +kernel
theorem dX2_build_6 : decode cX2_build 6 = .ok (.aload_n 0, 1) := by decide +kernel
theorem dX2_build_7 : decode cX2_build 7 = .ok (.getfield 9, 3) := by decide +kernel
theorem dX2_build_10 : decode cX2_build 10 = .ok (.iload 5, 2) := by decide +kernel
theorem dX2_build_12 : decode cX2_build 12 = .ok (.iload_n 1, 1) := by decide +kernel
theorem dX2_build_13 : decode cX2_build 13 = .ok (.iastore, 1) := by decide +kernel
theorem dX2_build_14 : decode cX2_build 14 = .ok (.aload_n 0, 1) := by decide +kernel
theorem dX2_build_15 : decode cX2_build 15 = .ok (.getfield 15, 3) := by decide +kernel
theorem dX2_build_18 : decode cX2_build 18 = .ok (.iload 5, 2) := by decide +kernel
theorem dX2_build_20 : decode cX2_build 20 = .ok (.iload_n 2, 1) := by decide +kernel
theorem dX2_build_21 : decode cX2_build 21 = .ok (.iastore, 1) := by decide +kernel
theorem dX2_build_22 : decode cX2_build 22 = .ok (.aload_n 0, 1) := by decide +kernel
theorem dX2_build_23 : decode cX2_build 23 = .ok (.getfield 18, 3) := by decide +kernel
theorem dX2_build_26 : decode cX2_build 26 = .ok (.iload 5, 2) := by decide +kernel
theorem dX2_build_28 : decode cX2_build 28 = .ok (.iload_n 3, 1) := by decide +kernel
theorem dX2_build_29 : decode cX2_build 29 = .ok (.iastore, 1) := by decide +kernel
theorem dX2_build_30 : decode cX2_build 30 = .ok (.aload_n 0, 1) := by decide +kernel
theorem dX2_build_31 : decode cX2_build 31 = .ok (.getfield 21, 3) := by decide +kernel
theorem dX2_build_34 : decode cX2_build 34 = .ok (.iload 5, 2) := by decide +kernel
theorem dX2_build_36 : decode cX2_build 36 = .ok (.iload 4, 2) := by decide +kernel
theorem dX2_build_38 : decode cX2_build 38 = .ok (.iastore, 1) := by decide +kernel
theorem dX2_build_39 : decode cX2_build 39 = .ok (.aload_n 0, 1) := by decide +kernel
theorem dX2_build_40 : decode cX2_build 40 = .ok (.iload 5, 2) := by decide +kernel
theorem dX2_build_42 : decode cX2_build 42 = .ok (.iconst 1, 1) := by decide +kernel
theorem dX2_build_43 : decode cX2_build 43 = .ok (.iadd, 1) := by decide +kernel
theorem dX2_build_44 : decode cX2_build 44 = .ok (.putfield 27, 3) := by decide +kernel
theorem dX2_build_47 : decode cX2_build 47 = .ok (.iload 5, 2) := by decide +kernel
theorem dX2_build_49 : decode cX2_build 49 = .ok (.ireturn, 1) := by decide +kernel
theorem dX3_init_0 : decode cX3_init 0 = .ok (.aload_n 0, 1) := by decide +kernel
theorem dX3_init_1 : decode cX3_init 1 = .ok (.invokespecial 3, 3) := by decide +kernel
theorem dX3_init_4 : decode cX3_init 4 = .ok (.aload_n 0, 1) := by decide +kernel
theorem dX3_init_5 : decode cX3_init 5 = .ok (.sipush 200, 3) := by decide +kernel
theorem dX3_init_8 : decode cX3_init 8 = .ok (.newarray .int, 2) := by decide +kernel
theorem dX3_init_10 : decode cX3_init 10 = .ok (.putfield 9, 3) := by decide +kernel
theorem dX3_init_13 : decode cX3_init 13 = .ok (.aload_n 0, 1) := by decide +kernel
theorem dX3_init_14 : decode cX3_init 14 = .ok (.sipush 200, 3) := by decide +kernel
theorem dX3_init_17 : decode cX3_init 17 = .ok (.newarray .int, 2) := by decide +kernel
theorem dX3_init_19 : decode cX3_init 19 = .ok (.putfield 15, 3) := by decide +kernel
theorem dX3_init_22 : decode cX3_init 22 = .ok (.return_, 1) := by decide +kernel
theorem dX3_extend_0 : decode cX3_extend 0 = .ok (.sipush 200, 3) := by decide +kernel
theorem dX3_extend_3 : decode cX3_extend 3 = .ok (.aload_n 0, 1) := by decide +kernel
theorem dX3_extend_4 : decode cX3_extend 4 = .ok (.getfield 18, 3) := by decide +kernel
theorem dX3_extend_7 : decode cX3_extend 7 = .ok (.iload_n 1, 1) := by decide +kernel
theorem dX3_extend_8 : decode cX3_extend 8 = .ok (.iadd, 1) := by decide +kernel
theorem dX3_extend_9 : decode cX3_extend 9 = .ok (.invokestatic 22, 3) := by decide +kernel
theorem dX3_extend_12 : decode cX3_extend 12 = .ok (.istore 4, 2) := by decide +kernel
theorem dX3_extend_14 : decode cX3_extend 14 = .ok (.aload_n 0, 1) := by decide +kernel
theorem dX3_extend_15 : decode cX3_extend 15 = .ok (.getfield 18, 3) := by decide +kernel
theorem dX3_extend_18 : decode cX3_extend 18 = .ok (.istore 5, 2) := by decide +kernel
theorem dX3_extend_20 : decode cX3_extend 20 = .ok (.iload 5, 2) := by decide +kernel
theorem dX3_extend_22 : decode cX3_extend 22 = .ok (.iload 4, 2) := by decide +kernel
theorem dX3_extend_24 : decode cX3_extend 24 = .ok (.if_icmp .ge 25, 3) := by decide +kernel
theorem dX3_extend_27 : decode cX3_extend 27 = .ok (.aload_n 0, 1) := by decide +kernel
theorem dX3_extend_28 : decode cX3_extend 28 = .ok (.getfield 9, 3) := by decide +kernel
theorem dX3_extend_31 : decode cX3_extend 31 = .ok (.iload 5, 2) := by decide +kernel
theorem dX3_extend_33 : decode cX3_extend 33 = .ok (.iload_n 2, 1) := by decide +kernel
theorem dX3_extend_34 : decode cX3_extend 34 = .ok (.iastore, 1) := by decide +kernel
theorem dX3_extend_35 : decode cX3_extend 35 = .ok (.aload_n 0, 1) := by decide +kernel
theorem dX3_extend_36 : decode cX3_extend 36 = .ok (.getfield 15, 3) := by decide +kernel
theorem dX3_extend_39 : decode cX3_extend 39 = .ok (.iload 5, 2) := by decide +kernel
theorem dX3_extend_41 : decode cX3_extend 41 = .ok (.iload_n 3, 1) := by decide +kernel
theorem dX3_extend_42 : decode cX3_extend 42 = .ok (.iastore, 1) := by decide +kernel
theorem dX3_extend_43 : decode cX3_extend 43 = .ok (.iinc 5 1, 3) := by decide +kernel
theorem dX3_extend_46 : decode cX3_extend 46 = .ok (.goto (-26), 3) := by decide +kernel
theorem dX3_extend_49 : decode cX3_extend 49 = .ok (.aload_n 0, 1) := by decide +kernel
theorem dX3_extend_50 : decode cX3_extend 50 = .ok (.iload 4, 2) := by decide +kernel
theorem dX3_extend_52 : decode cX3_extend 52 = .ok (.putfield 18, 3) := by decide +kernel
theorem dX3_extend_55 : decode cX3_extend 55 = .ok (.return_, 1) := by decide +kernel
theorem dX3_sideBend_0 : decode cX3_sideBend 0 = .ok (.iload_n 1, 1) := by decide +kernel
theorem dX3_sideBend_1 : decode cX3_sideBend 1 = .ok (.ifCond .lt 20, 3) := by decide +kernel
theorem dX3_sideBend_4 : decode cX3_sideBend 4 = .ok (.iload_n 1, 1) := by decide +kernel
theorem dX3_sideBend_5 : decode cX3_sideBend 5 = .ok (.aload_n 0, 1) := by decide +kernel
theorem dX3_sideBend_6 : decode cX3_sideBend 6 = .ok (.getfield 18, 3) := by decide +kernel
theorem dX3_sideBend_9 : decode cX3_sideBend 9 = .ok (.if_icmp .ge 12, 3) := by decide +kernel
theorem dX3_sideBend_12 : decode cX3_sideBend 12 = .ok (.aload_n 0, 1) := by decide +kernel
theorem dX3_sideBend_13 : decode cX3_sideBend 13 = .ok (.getfield 9, 3) := by decide +kernel
theorem dX3_sideBend_16 : decode cX3_sideBend 16 = .ok (.iload_n 1, 1) := by decide +kernel
theorem dX3_sideBend_17 : decode cX3_sideBend 17 = .ok (.iaload, 1) := by decide +kernel
theorem dX3_sideBend_18 : decode cX3_sideBend 18 = .ok (.goto 4, 3) := by decide +kernel
theorem dX3_sideBend_21 : decode cX3_sideBend 21 = .ok (.iconst 0, 1) := by decide +kernel
theorem dX3_sideBend_22 : decode cX3_sideBend 22 = .ok (.ireturn, 1) := by decide +kernel
theorem dX3_upBend_0 : decode cX3_upBend 0 = .ok (.iload_n 1, 1) := by decide +kernel
theorem dX3_upBend_1 : decode cX3_upBend 1 = .ok (.ifCond .lt 20, 3) := by decide +kernel
theorem dX3_upBend_4 : decode cX3_upBend 4 = .ok (.iload_n 1, 1) := by decide +kernel
theorem dX3_upBend_5 : decode cX3_upBend 5 = .ok (.aload_n 0, 1) := by decide +kernel
theorem dX3_upBend_6 : decode cX3_upBend 6 = .ok (.getfield 18, 3) := by decide +kernel
theorem dX3_upBend_9 : decode cX3_upBend 9 = .ok (.if_icmp .ge 12, 3) := by decide +kernel
theorem dX3_upBend_12 : decode cX3_upBend 12 = .ok (.aload_n 0, 1) := by decide +kernel
theorem dX3_upBend_13 : decode cX3_upBend 13 = .ok (.getfield 15, 3) := by decide +kernel
theorem dX3_upBend_16 : decode cX3_upBend 16 = .ok (.iload_n 1, 1) := by decide +kernel
theorem dX3_upBend_17 : decode cX3_upBend 17 = .ok (.iaload, 1) := by decide +kernel
theorem dX3_upBend_18 : decode cX3_upBend 18 = .ok (.goto 4, 3) := by decide +kernel
theorem dX3_upBend_21 : decode cX3_upBend 21 = .ok (.iconst 0, 1) := by decide +kernel
theorem dX3_upBend_22 : decode cX3_upBend 22 = .ok (.ireturn, 1) := by decide +kernel
set_option maxRecDepth 20000 in
theorem ggX4_init_X0_init : GoodIn wsX4_init wsX0_init := goodIn_r _ [13, 14, 2, 3] (by decide +kernel) (by decide +kernel)
set_option maxRecDepth 20000 in
theorem gX4_init_X0_init_n11 : GoodIn wsX4_init (wsX0_init) := ggX4_init_X0_init
theorem dX4_init_0 : decode cX4_init 0 = .ok (.aload_n 0, 1) := by decide +kernel
theorem dX4_init_1 : decode cX4_init 1 = .ok (.invokespecial 3, 3) := by decide +kernel
theorem dX4_init_4 : decode cX4_init 4 = .ok (.aload_n 0, 1) := by decide +kernel
theorem dX4_init_5 : decode cX4_init 5 = .ok (.new 9, 3) := by decide +kernel
theorem dX4_init_8 : decode cX4_init 8 = .ok (.dup, 1) := by decide +kernel
theorem dX4_init_9 : decode cX4_init 9 = .ok (.invokespecial 11, 3) := by decide +kernel
theorem dX4_init_12 : decode cX4_init 12 = .ok (.putfield 12, 3) := by decide +kernel
theorem dX4_init_15 : decode cX4_init 15 = .ok (.aload_n 0, 1) := by decide +kernel
theorem dX4_init_16 : decode cX4_init 16 = .ok (.iconst 4, 1) := by decide +kernel
theorem dX4_init_17 : decode cX4_init 17 = .ok (.newarray .int, 2) := by decide +kernel
theorem dX4_init_19 : decode cX4_init 19 = .ok (.putfield 18, 3) := by decide +kernel
theorem dX4_init_22 : decode cX4_init 22 = .ok (.aload_n 0, 1) := by decide +kernel
theorem dX4_init_23 : decode cX4_init 23 = .ok (.iconst 4, 1) := by decide +kernel
theorem dX4_init_24 : decode cX4_init 24 = .ok (.newarray .int, 2) := by decide +kernel
theorem dX4_init_26 : decode cX4_init 26 = .ok (.putfield 22, 3) := by decide +kernel
theorem dX4_init_29 : decode cX4_init 29 = .ok (.aload_n 0, 1) := by decide +kernel
theorem dX4_init_30 : decode cX4_init 30 = .ok (.iconst 4, 1) := by decide +kernel
theorem dX4_init_31 : decode cX4_init 31 = .ok (.newarray .int, 2) := by decide +kernel
theorem dX4_init_33 : decode cX4_init 33 = .ok (.putfield 25, 3) := by decide +kernel
theorem dX4_init_36 : decode cX4_init 36 = .ok (.return_, 1) := by decide +kernel
theorem dX4_restart_0 : decode cX4_restart 0 = .ok (.aload_n 0, 1) := by decide +kernel
theorem dX4_restart_1 : decode cX4_restart 1 = .ok (.getfield 12, 3) := by decide +kernel
theorem dX4_restart_4 : decode cX4_restart 4 = .ok (.aload_n 1, 1) := by decide +kernel
theorem dX4_restart_5 : decode cX4_restart 5 = .ok (.getfield 28, 3) := by decide +kernel
theorem dX4_restart_8 : decode cX4_restart 8 = .ok (.aload_n 2, 1) := by decide +kernel
theorem dX4_restart_9 : decode cX4_restart 9 = .ok (.getfield 28, 3) := by decide +kernel
theorem dX4_restart_12 : decode cX4_restart 12 = .ok (.isub, 1) := by decide +kernel
theorem dX4_restart_13 : decode cX4_restart 13 = .ok (.putfield 28, 3) := by decide +kernel
theorem dX4_restart_16 : decode cX4_restart 16 = .ok (.aload_n 0, 1) := by decide +kernel
theorem dX4_restart_17 : decode cX4_restart 17 = .ok (.getfield 12, 3) := by decide +kernel
theorem dX4_restart_20 : decode cX4_restart 20 = .ok (.aload_n 1, 1) := by decide +kernel
theorem dX4_restart_21 : decode cX4_restart 21 = .ok (.getfield 32, 3) := by decide +kernel
theorem dX4_restart_24 : decode cX4_restart 24 = .ok (.aload_n 2, 1) := by decide +kernel
theorem dX4_restart_25 : decode cX4_restart 25 = .ok (.getfield 32, 3) := by decide +kernel
theorem dX4_restart_28 : decode cX4_restart 28 = .ok (.isub, 1) := by decide +kernel
theorem dX4_restart_29 : decode cX4_restart 29 = .ok (.putfield 32, 3) := by decide +kernel
theorem dX4_restart_32 : decode cX4_restart 32 = .ok (.aload_n 0, 1) := by decide +kernel
theorem dX4_restart_33 : decode cX4_restart 33 = .ok (.getfield 12, 3) := by decide +kernel
theorem dX4_restart_36 : decode cX4_restart 36 = .ok (.aload_n 1, 1) := by decide +kernel
theorem dX4_restart_37 : decode cX4_restart 37 = .ok (.getfield 35, 3) := by decide +kernel
theorem dX4_restart_40 : decode cX4_restart 40 = .ok (.aload_n 2, 1) := by decide +kernel
theorem dX4_restart_41 : decode cX4_restart 41 = .ok (.getfield 35, 3) := by decide +kernel
theorem dX4_restart_44 : decode cX4_restart 44 = .ok (.isub, 1) := by decide +kernel
theorem dX4_restart_45 : decode cX4_restart 45 = .ok (.putfield 35, 3) := by decide +kernel
theorem dX4_restart_48 : decode cX4_restart 48 = .ok (.aload_n 0, 1) := by decide +kernel
theorem dX4_restart_49 : decode cX4_restart 49 = .ok (.getfield 12, 3) := by decide +kernel
theorem dX4_restart_52 : decode cX4_restart 52 = .ok (.aload_n 1, 1) := by decide +kernel
theorem dX4_restart_53 : decode cX4_restart 53 = .ok (.getfield 38, 3) := by decide +kernel
theorem dX4_restart_56 : decode cX4_restart 56 = .ok (.aload_n 2, 1) := by decide +kernel
theorem dX4_restart_57 : decode cX4_restart 57 = .ok (.getfield 38, 3) := by decide +kernel
theorem dX4_restart_60 : decode cX4_restart 60 = .ok (.isub, 1) := by decide +kernel
theorem dX4_restart_61 : decode cX4_restart 61 = .ok (.putfield 38, 3) := by decide +kernel
theorem dX4_restart_64 : decode cX4_restart 64 = .ok (.aload_n 0, 1) := by decide +kernel
theorem dX4_restart_65 : decode cX4_restart 65 = .ok (.iconst 0, 1) := by decide +kernel
theorem dX4_restart_66 : decode cX4_restart 66 = .ok (.putfield 41, 3) := by decide +kernel
theorem dX4_restart_69 : decode cX4_restart 69 = .ok (.aload_n 0, 1) := by decide +kernel
theorem dX4_restart_70 : decode cX4_restart 70 = .ok (.ldc 44, 2) := by decide +kernel
theorem dX4_restart_72 : decode cX4_restart 72 = .ok (.putfield 45, 3) := by decide +kernel
theorem dX4_restart_75 : decode cX4_restart 75 = .ok (.return_, 1) := by decide +kernel
theorem dX4_add_0 : decode cX4_add 0 = .ok (.aload_n 0, 1) := by decide +kernel
theorem dX4_add_1 : decode cX4_add 1 = .ok (.getfield 41, 3) := by decide +kernel
theorem dX4_add_4 : decode cX4_add 4 = .ok (.iconst 4, 1) := by decide +kernel
theorem dX4_add_5 : decode cX4_add 5 = .ok (.if_icmp .ge 43, 3) := by decide +kernel
theorem dX4_add_8 : decode cX4_add 8 = .ok (.aload_n 0, 1) := by decide +kernel
theorem dX4_add_9 : decode cX4_add 9 = .ok (.getfield 18, 3) := by decide +kernel
theorem dX4_add_12 : decode cX4_add 12 = .ok (.aload_n 0, 1) := by decide +kernel
theorem dX4_add_13 : decode cX4_add 13 = .ok (.getfield 41, 3) := by decide +kernel
theorem dX4_add_16 : decode cX4_add 16 = .ok (.iload_n 1, 1) := by decide +kernel
theorem dX4_add_17 : decode cX4_add 17 = .ok (.iastore, 1) := by decide +kernel
theorem dX4_add_18 : decode cX4_add 18 = .ok (.aload_n 0, 1) := by decide +kernel
theorem dX4_add_19 : decode cX4_add 19 = .ok (.getfield 22, 3) := by decide +kernel
theorem dX4_add_22 : decode cX4_add 22 = .ok (.aload_n 0, 1) := by decide +kernel
theorem dX4_add_23 : decode cX4_add 23 = .ok (.getfield 41, 3) := by decide +kernel
theorem dX4_add_26 : decode cX4_add 26 = .ok (.iload_n 2, 1) := by decide +kernel
theorem dX4_add_27 : decode cX4_add 27 = .ok (.iastore, 1) := by decide +kernel
theorem dX4_add_28 : decode cX4_add 28 = .ok (.aload_n 0, 1) := by decide +kernel
theorem dX4_add_29 : decode cX4_add 29 = .ok (.getfield 25, 3) := by decide +kernel
theorem dX4_add_32 : decode cX4_add 32 = .ok (.aload_n 0, 1) := by decide +kernel
theorem dX4_add_33 : decode cX4_add 33 = .ok (.getfield 41, 3) := by decide +kernel
theorem dX4_add_36 : decode cX4_add 36 = .ok (.iload_n 3, 1) := by decide +kernel
theorem dX4_add_37 : decode cX4_add 37 = .ok (.iastore, 1) := by decide +kernel
theorem dX4_add_38 : decode cX4_add 38 = .ok (.aload_n 0, 1) := by decide +kernel
theorem dX4_add_39 : decode cX4_add 39 = .ok (.dup, 1) := by decide +kernel
theorem dX4_add_40 : decode cX4_add 40 = .ok (.getfield 41, 3) := by decide +kernel
theorem dX4_add_43 : decode cX4_add 43 = .ok (.iconst 1, 1) := by decide +kernel
theorem dX4_add_44 : decode cX4_add 44 = .ok (.iadd, 1) := by decide +kernel
theorem dX4_add_45 : decode cX4_add 45 = .ok (.putfield 41, 3) := by decide +kernel
theorem dX4_add_48 : decode cX4_add 48 = .ok (.return_, 1) := by decide +kernel
set_option maxRecDepth 20000 in
theorem ggX4_tryOut_X4_changeX : GoodIn wsX4_tryOut wsX4_changeX := goodIn_ca (goodIn_r _ [6, 7, 8, 23, 24, 25, 26, 27, 28] (by decide +kernel) (by decide +kernel)) (goodIn_sub (fun _ h => List.mem_cons_of_mem _ (List.mem_append_right _ h)) (by decide +kernel))
set_option maxRecDepth 20000 in
theorem gX4_tryOut_X4_changeX : GoodIn wsX4_tryOut (wsV RX4 48 RX4 yX4_changeX wsX4_changeX) := goodIn_app (goodIn_of _ (by decide +kernel)) ggX4_tryOut_X4_changeX
set_option maxRecDepth 20000 in
theorem ggX4_tryOut_X4_changeY : GoodIn wsX4_tryOut wsX4_changeY := goodIn_ca (goodIn_r _ [12, 7, 13, 23, 24, 25, 26, 27, 28] (by decide +kernel) (by decide +kernel)) (goodIn_sub (fun _ h => List.mem_cons_of_mem _ (List.mem_append_right _ h)) (by decide +kernel))
set_option maxRecDepth 20000 in
theorem gX4_tryOut_X4_changeY : GoodIn wsX4_tryOut (wsV RX4 52 RX4 yX4_changeY wsX4_changeY) := goodIn_app (goodIn_of _ (by decide +kernel)) ggX4_tryOut_X4_changeY
set_option maxRecDepth 20000 in
theorem ggX4_tryOut_X0_bend : GoodIn wsX4_tryOut wsX0_bend := goodIn_r _ [18, 19, 20, 21, 22, 29, 30, 31, 32] (by decide +kernel) (by decide +kernel)
set_option maxRecDepth 20000 in
theorem gX4_tryOut_X0_bend : GoodIn wsX4_tryOut (wsV RX4 55 RX0 yX0_bend wsX0_bend) := goodIn_app (goodIn_of _ (by decide +kernel)) ggX4_tryOut_X0_bend
theorem dX4_tryOut_0 : decode cX4_tryOut 0 = .ok (.aload_n 0, 1) := by decide +kernel
theorem dX4_tryOut_1 : decode cX4_tryOut 1 = .ok (.getfield 12, 3) := by decide +kernel
theorem dX4_tryOut_4 : decode cX4_tryOut 4 = .ok (.aload_n 0, 1) := by decide +kernel
theorem dX4_tryOut_5 : decode cX4_tryOut 5 = .ok (.iload_n 1, 1) := by decide +kernel
theorem dX4_tryOut_6 : decode cX4_tryOut 6 = .ok (.iload_n 2, 1) := by decide +kernel
theorem dX4_tryOut_7 : decode cX4_tryOut 7 = .ok (.invokevirtual 48, 3) := by decide +kernel
theorem dX4_tryOut_10 : decode cX4_tryOut 10 = .ok (.aload_n 0, 1) := by decide +kernel
theorem dX4_tryOut_11 : decode cX4_tryOut 11 = .ok (.iload_n 1, 1) := by decide +kernel
theorem dX4_tryOut_12 : decode cX4_tryOut 12 = .ok (.iload_n 2, 1) := by decide +kernel
theorem dX4_tryOut_13 : decode cX4_tryOut 13 = .ok (.invokevirtual 52, 3) := by decide +kernel
theorem dX4_tryOut_16 : decode cX4_tryOut 16 = .ok (.invokevirtual 55, 3) := by decide +kernel
theorem dX4_tryOut_19 : decode cX4_tryOut 19 = .ok (.return_, 1) := by decide +kernel
set_option maxRecDepth 20000 in
theorem ggX4_takeBack_X4_changeX : GoodIn wsX4_takeBack wsX4_changeX := goodIn_ca (goodIn_r _ [6, 7, 8, 23, 24, 25, 26, 27, 28] (by decide +kernel) (by decide +kernel)) (goodIn_sub (fun _ h => List.mem_cons_of_mem _ (List.mem_append_right _ h)) (by decide +kernel))
set_option maxRecDepth 20000 in
theorem gX4_takeBack_X4_changeX : GoodIn wsX4_takeBack (wsV RX4 48 RX4 yX4_changeX wsX4_changeX) := goodIn_app (goodIn_of _ (by decide +kernel)) ggX4_takeBack_X4_changeX
set_option maxRecDepth 20000 in
theorem ggX4_takeBack_X4_changeY : GoodIn wsX4_takeBack wsX4_changeY := goodIn_ca (goodIn_r _ [12, 7, 13, 23, 24, 25, 26, 27, 28] (by decide +kernel) (by decide +kernel)) (goodIn_sub (fun _ h => List.mem_cons_of_mem _ (List.mem_append_right _ h)) (by decide +kernel))
set_option maxRecDepth 20000 in
theorem gX4_takeBack_X4_changeY : GoodIn wsX4_takeBack (wsV RX4 52 RX4 yX4_changeY wsX4_changeY) := goodIn_app (goodIn_of _ (by decide +kernel)) ggX4_takeBack_X4_changeY
set_option maxRecDepth 20000 in
theorem ggX4_takeBack_X0_unbend : GoodIn wsX4_takeBack wsX0_unbend := goodIn_r _ [18, 19, 20, 21, 22, 29, 30, 31, 32] (by decide +kernel) (by decide +kernel)
set_option maxRecDepth 20000 in
theorem gX4_takeBack_X0_unbend : GoodIn wsX4_takeBack (wsV RX4 59 RX0 yX0_unbend wsX0_unbend) := goodIn_app (goodIn_of _ (by decide +kernel)) ggX4_takeBack_X0_unbend
theorem dX4_takeBack_0 : decode cX4_takeBack 0 = .ok (.aload_n 0, 1) := by decide +kernel
theorem dX4_takeBack_1 : decode cX4_takeBack 1 = .ok (.getfield 12, 3) := by decide +kernel
theorem dX4_takeBack_4 : decode cX4_takeBack 4 = .ok (.aload_n 0, 1) := by decide +kernel
theorem dX4_takeBack_5 : decode cX4_takeBack 5 = .ok (.iload_n 1, 1) := by decide +kernel
theorem dX4_takeBack_6 : decode cX4_takeBack 6 = .ok (.iload_n 2, 1) := by decide +kernel
theorem dX4_takeBack_7 : decode cX4_takeBack 7 = .ok (.invokevirtual 48, 3) := by decide +kernel
theorem dX4_takeBack_10 : decode cX4_takeBack 10 = .ok (.aload_n 0, 1) := by decide +kernel
theorem dX4_takeBack_11 : decode cX4_takeBack 11 = .ok (.iload_n 1, 1) := by decide +kernel
theorem dX4_takeBack_12 : decode cX4_takeBack 12 = .ok (.iload_n 2, 1) := by decide +kernel
theorem dX4_takeBack_13 : decode cX4_takeBack 13 = .ok (.invokevirtual 52, 3) := by decide +kernel
theorem dX4_takeBack_16 : decode cX4_takeBack 16 = .ok (.invokevirtual 59, 3) := by decide +kernel
theorem dX4_takeBack_19 : decode cX4_takeBack 19 = .ok (.return_, 1) := by decide +kernel
theorem dX4_changeX_0 : decode cX4_changeX 0 = .ok (.aload_n 0, 1) := by decide +kernel
theorem dX4_changeX_1 : decode cX4_changeX 1 = .ok (.getfield 18, 3) := by decide +kernel
theorem dX4_changeX_4 : decode cX4_changeX 4 = .ok (.iload_n 1, 1) := by decide +kernel
theorem dX4_changeX_5 : decode cX4_changeX 5 = .ok (.iaload, 1) := by decide +kernel
theorem dX4_changeX_6 : decode cX4_changeX 6 = .ok (.getstatic 62, 3) := by decide +kernel
theorem dX4_changeX_9 : decode cX4_changeX 9 = .ok (.iload_n 2, 1) := by decide +kernel
theorem dX4_changeX_10 : decode cX4_changeX 10 = .ok (.iaload, 1) := by decide +kernel
theorem dX4_changeX_11 : decode cX4_changeX 11 = .ok (.imul, 1) := by decide +kernel
theorem dX4_changeX_12 : decode cX4_changeX 12 = .ok (.aload_n 0, 1) := by decide +kernel
theorem dX4_changeX_13 : decode cX4_changeX 13 = .ok (.getfield 22, 3) := by decide +kernel
theorem dX4_changeX_16 : decode cX4_changeX 16 = .ok (.iload_n 1, 1) := by decide +kernel
theorem dX4_changeX_17 : decode cX4_changeX 17 = .ok (.iaload, 1) := by decide +kernel
theorem dX4_changeX_18 : decode cX4_changeX 18 = .ok (.isub, 1) := by decide +kernel
theorem dX4_changeX_19 : decode cX4_changeX 19 = .ok (.ireturn, 1) := by decide +kernel
theorem dX4_changeY_0 : decode cX4_changeY 0 = .ok (.aload_n 0, 1) := by decide +kernel
theorem dX4_changeY_1 : decode cX4_changeY 1 = .ok (.getfield 18, 3) := by decide +kernel
theorem dX4_changeY_4 : decode cX4_changeY 4 = .ok (.iload_n 1, 1) := by decide +kernel
theorem dX4_changeY_5 : decode cX4_changeY 5 = .ok (.iaload, 1) := by decide +kernel
theorem dX4_changeY_6 : decode cX4_changeY 6 = .ok (.getstatic 65, 3) := by decide +kernel
theorem dX4_changeY_9 : decode cX4_changeY 9 = .ok (.iload_n 2, 1) := by decide +kernel
theorem dX4_changeY_10 : decode cX4_changeY 10 = .ok (.iaload, 1) := by decide +kernel
theorem dX4_changeY_11 : decode cX4_changeY 11 = .ok (.imul, 1) := by decide +kernel
theorem dX4_changeY_12 : decode cX4_changeY 12 = .ok (.aload_n 0, 1) := by decide +kernel
theorem dX4_changeY_13 : decode cX4_changeY 13 = .ok (.getfield 25, 3) := by decide +kernel
theorem dX4_changeY_16 : decode cX4_changeY 16 = .ok (.iload_n 1, 1) := by decide +kernel
theorem dX4_changeY_17 : decode cX4_changeY 17 = .ok (.iaload, 1) := by decide +kernel
theorem dX4_changeY_18 : decode cX4_changeY 18 = .ok (.isub, 1) := by decide +kernel
theorem dX4_changeY_19 : decode cX4_changeY 19 = .ok (.ireturn, 1) := by decide +kernel
theorem dX4_deviation_0 : decode cX4_deviation 0 = .ok (.aload_n 0, 1) := by decide +kernel
theorem dX4_deviation_1 : decode cX4_deviation 1 = .ok (.getfield 12, 3) := by decide +kernel
theorem dX4_deviation_4 : decode cX4_deviation 4 = .ok (.getfield 28, 3) := by decide +kernel
theorem dX4_deviation_7 : decode cX4_deviation 7 = .ok (.invokestatic 68, 3) := by decide +kernel
theorem dX4_deviation_10 : decode cX4_deviation 10 = .ok (.aload_n 0, 1) := by decide +kernel
theorem dX4_deviation_11 : decode cX4_deviation 11 = .ok (.getfield 12, 3) := by decide +kernel
theorem dX4_deviation_14 : decode cX4_deviation 14 = .ok (.getfield 32, 3) := by decide +kernel
theorem dX4_deviation_17 : decode cX4_deviation 17 = .ok (.invokestatic 68, 3) := by decide +kernel
theorem dX4_deviation_20 : decode cX4_deviation 20 = .ok (.iadd, 1) := by decide +kernel
theorem dX4_deviation_21 : decode cX4_deviation 21 = .ok (.ireturn, 1) := by decide +kernel
set_option maxRecDepth 20000 in
theorem ggX4_deviationIn_X4_tryOut : GoodIn wsX4_deviationIn wsX4_tryOut := goodIn_ca (goodIn_r _ [5, 6, 7, 8, 9, 4, 10, 11, 12, 13, 14, 15, 16, 17, 18, 19, 20, 21, 22, 23, 24, 25, 26, 45, 46, 47, 48, 49, 50, 51, 52, 53, 54] (by decide +kernel) (by decide +kernel)) (goodIn_sub (fun _ h => List.mem_cons_of_mem _ (List.mem_append_right _ h)) (by decide +kernel))
set_option maxRecDepth 20000 in
theorem gX4_deviationIn_X4_tryOut : GoodIn wsX4_deviationIn (wsV RX4 74 RX4 yX4_tryOut wsX4_tryOut) := goodIn_app (goodIn_of _ (by decide +kernel)) ggX4_deviationIn_X4_tryOut
set_option maxRecDepth 20000 in
theorem ggX4_deviationIn_X4_deviation : GoodIn wsX4_deviationIn wsX4_deviation := goodIn_r _ [30, 6, 31, 32, 33, 34, 35, 36, 45, 46, 47, 48, 49, 50, 51, 52, 53, 54] (by decide +kernel) (by decide +kernel)
set_option maxRecDepth 20000 in
theorem gX4_deviationIn_X4_deviation : GoodIn wsX4_deviationIn (wsV RX4 77 RX4 yX4_deviation wsX4_deviation) := goodIn_app (goodIn_of _ (by decide +kernel)) ggX4_deviationIn_X4_deviation
set_option maxRecDepth 20000 in
theorem ggX4_deviationIn_X4_takeBack : GoodIn wsX4_deviationIn wsX4_takeBack := goodIn_ca (goodIn_r _ [40, 6, 7, 8, 9, 4, 10, 11, 12, 13, 14, 15, 16, 17, 41, 42, 43, 21, 44, 25, 23, 26, 24, 45, 46, 47, 48, 49, 50, 51, 52, 53, 54] (by decide +kernel) (by decide +kernel)) (goodIn_sub (fun _ h => List.mem_cons_of_mem _ (List.mem_append_right _ h)) (by decide +kernel))
set_option maxRecDepth 20000 in
theorem gX4_deviationIn_X4_takeBack : GoodIn wsX4_deviationIn (wsV RX4 81 RX4 yX4_takeBack wsX4_takeBack) := goodIn_app (goodIn_of _ (by decide +kernel)) ggX4_deviationIn_X4_takeBack
theorem dX4_deviationIn_0 : decode cX4_deviationIn 0 = .ok (.aload_n 0, 1) := by decide +kernel
theorem dX4_deviationIn_1 : decode cX4_deviationIn 1 = .ok (.iconst 0, 1) := by decide +kernel
theorem dX4_deviationIn_2 : decode cX4_deviationIn 2 = .ok (.iload_n 1, 1) := by decide +kernel
theorem dX4_deviationIn_3 : decode cX4_deviationIn 3 = .ok (.invokevirtual 74, 3) := by decide +kernel
theorem dX4_deviationIn_6 : decode cX4_deviationIn 6 = .ok (.aload_n 0, 1) := by decide +kernel
theorem dX4_deviationIn_7 : decode cX4_deviationIn 7 = .ok (.invokevirtual 77, 3) := by decide +kernel
theorem dX4_deviationIn_10 : decode cX4_deviationIn 10 = .ok (.istore_n 2, 1) := by decide +kernel
theorem dX4_deviationIn_11 : decode cX4_deviationIn 11 = .ok (.aload_n 0, 1) := by decide +kernel
theorem dX4_deviationIn_12 : decode cX4_deviationIn 12 = .ok (.iconst 0, 1) := by decide +kernel
theorem dX4_deviationIn_13 : decode cX4_deviationIn 13 = .ok (.iload_n 1, 1) := by decide +kernel
theorem dX4_deviationIn_14 : decode cX4_deviationIn 14 = .ok (.invokevirtual 81, 3) := by decide +kernel
theorem dX4_deviationIn_17 : decode cX4_deviationIn 17 = .ok (.iload_n 2, 1) := by decide +kernel
theorem dX4_deviationIn_18 : decode cX4_deviationIn 18 = .ok (.ireturn, 1) := by decide +kernel
theorem dX5_init_0 : decode cX5_init 0 = .ok (.aload_n 0, 1) := by decide +kernel
theorem dX5_init_1 : decode cX5_init 1 = .ok (.invokespecial 3, 3) := by decide +kernel
theorem dX5_init_4 : decode cX5_init 4 = .ok (.aload_n 0, 1) := by decide +kernel
theorem dX5_init_5 : decode cX5_init 5 = .ok (.bipush 40, 2) := by decide +kernel
theorem dX5_init_7 : decode cX5_init 7 = .ok (.newarray .char, 2) := by decide +kernel
theorem dX5_init_9 : decode cX5_init 9 = .ok (.putfield 9, 3) := by decide +kernel
theorem dX5_init_12 : decode cX5_init 12 = .ok (.return_, 1) := by decide +kernel
theorem dX5_clear_0 : decode cX5_clear 0 = .ok (.aload_n 0, 1) := by decide +kernel
theorem dX5_clear_1 : decode cX5_clear 1 = .ok (.iconst 0, 1) := by decide +kernel
theorem dX5_clear_2 : decode cX5_clear 2 = .ok (.putfield 15, 3) := by decide +kernel
theorem dX5_clear_5 : decode cX5_clear 5 = .ok (.return_, 1) := by decide +kernel
theorem dX5_put_0 : decode cX5_put 0 = .ok (.aload_n 0, 1) := by decide +kernel
theorem dX5_put_1 : decode cX5_put 1 = .ok (.getfield 15, 3) := by decide +kernel
theorem dX5_put_4 : decode cX5_put 4 = .ok (.aload_n 0, 1) := by decide +kernel
theorem dX5_put_5 : decode cX5_put 5 = .ok (.getfield 9, 3) := by decide +kernel
theorem dX5_put_8 : decode cX5_put 8 = .ok (.arraylength, 1) := by decide +kernel
theorem dX5_put_9 : decode cX5_put 9 = .ok (.if_icmp .ge 23, 3) := by decide +kernel
theorem dX5_put_12 : decode cX5_put 12 = .ok (.aload_n 0, 1) := by decide +kernel
theorem dX5_put_13 : decode cX5_put 13 = .ok (.getfield 9, 3) := by decide +kernel
theorem dX5_put_16 : decode cX5_put 16 = .ok (.aload_n 0, 1) := by decide +kernel
theorem dX5_put_17 : decode cX5_put 17 = .ok (.getfield 15, 3) := by decide +kernel
theorem dX5_put_20 : decode cX5_put 20 = .ok (.iload_n 1, 1) := by decide +kernel
theorem dX5_put_21 : decode cX5_put 21 = .ok (.castore, 1) := by decide +kernel
theorem dX5_put_22 : decode cX5_put 22 = .ok (.aload_n 0, 1) := by decide +kernel
theorem dX5_put_23 : decode cX5_put 23 = .ok (.dup, 1) := by decide +kernel
theorem dX5_put_24 : decode cX5_put 24 = .ok (.getfield 15, 3) := by decide +kernel
theorem dX5_put_27 : decode cX5_put 27 = .ok (.iconst 1, 1) := by decide +kernel
theorem dX5_put_28 : decode cX5_put 28 = .ok (.iadd, 1) := by decide +kernel
theorem dX5_put_29 : decode cX5_put 29 = .ok (.putfield 15, 3) := by decide +kernel
theorem dX5_put_32 : decode cX5_put 32 = .ok (.return_, 1) := by decide +kernel
set_option maxRecDepth 20000 in
theorem ggX5_putDigit_X5_put : GoodIn wsX5_putDigit wsX5_put := goodIn_ca (goodIn_r _ [5, 6, 7, 8, 9] (by decide +kernel) (by decide +kernel)) (goodIn_sub (fun _ h => List.mem_cons_of_mem _ (List.mem_append_right _ h)) (by decide +kernel))
set_option maxRecDepth 20000 in
theorem gX5_putDigit_X5_put : GoodIn wsX5_putDigit (wsV RX5 19 RX5 yX5_put wsX5_put) := goodIn_app (goodIn_of _ (by decide +kernel)) ggX5_putDigit_X5_put
theorem dX5_putDigit_0 : decode cX5_putDigit 0 = .ok (.aload_n 0, 1) := by decide +kernel
theorem dX5_putDigit_1 : decode cX5_putDigit 1 = .ok (.bipush 48, 2) := by decide +kernel
theorem dX5_putDigit_3 : decode cX5_putDigit 3 = .ok (.iload_n 1, 1) := by decide +kernel
theorem dX5_putDigit_4 : decode cX5_putDigit 4 = .ok (.iadd, 1) := by decide +kernel
theorem dX5_putDigit_5 : decode cX5_putDigit 5 = .ok (.i2c, 1) := by decide +kernel
theorem dX5_putDigit_6 : decode cX5_putDigit 6 = .ok (.invokevirtual 19, 3) := by decide +kernel
theorem dX5_putDigit_9 : decode cX5_putDigit 9 = .ok (.return_, 1) := by decide +kernel
set_option maxRecDepth 20000 in
theorem ggX6_init_X0_init : GoodIn wsX6_init wsX0_init := goodIn_r _ [14, 15, 2, 3] (by decide +kernel) (by decide +kernel)
set_option maxRecDepth 20000 in
theorem gX6_init_X0_init_n26 : GoodIn wsX6_init (wsX0_init) := ggX6_init_X0_init
theorem dX6_init_0 : decode cX6_init 0 = .ok (.aload_n 0, 1) := by decide +kernel
theorem dX6_init_1 : decode cX6_init 1 = .ok (.invokespecial 3, 3) := by decide +kernel
theorem dX6_init_4 : decode cX6_init 4 = .ok (.aload_n 0, 1) := by decide +kernel
theorem dX6_init_5 : decode cX6_init 5 = .ok (.sipush 200, 3) := by decide +kernel
theorem dX6_init_8 : decode cX6_init 8 = .ok (.newarray .int, 2) := by decide +kernel
theorem dX6_init_10 : decode cX6_init 10 = .ok (.putfield 9, 3) := by decide +kernel
theorem dX6_init_13 : decode cX6_init 13 = .ok (.aload_n 0, 1) := by decide +kernel
theorem dX6_init_14 : decode cX6_init 14 = .ok (.sipush 200, 3) := by decide +kernel
theorem dX6_init_17 : decode cX6_init 17 = .ok (.newarray .int, 2) := by decide +kernel
theorem dX6_init_19 : decode cX6_init 19 = .ok (.putfield 15, 3) := by decide +kernel
theorem dX6_init_22 : decode cX6_init 22 = .ok (.aload_n 0, 1) := by decide +kernel
theorem dX6_init_23 : decode cX6_init 23 = .ok (.sipush 200, 3) := by decide +kernel
theorem dX6_init_26 : decode cX6_init 26 = .ok (.newarray .int, 2) := by decide +kernel
theorem dX6_init_28 : decode cX6_init 28 = .ok (.putfield 18, 3) := by decide +kernel
theorem dX6_init_31 : decode cX6_init 31 = .ok (.aload_n 0, 1) := by decide +kernel
theorem dX6_init_32 : decode cX6_init 32 = .ok (.sipush 200, 3) := by decide +kernel
theorem dX6_init_35 : decode cX6_init 35 = .ok (.newarray .int, 2) := by decide +kernel
theorem dX6_init_37 : decode cX6_init 37 = .ok (.putfield 21, 3) := by decide +kernel
theorem dX6_init_40 : decode cX6_init 40 = .ok (.aload_n 0, 1) := by decide +kernel
theorem dX6_init_41 : decode cX6_init 41 = .ok (.new 24, 3) := by decide +kernel
theorem dX6_init_44 : decode cX6_init 44 = .ok (.dup, 1) := by decide +kernel
theorem dX6_init_45 : decode cX6_init 45 = .ok (.invokespecial 26, 3) := by decide +kernel
theorem dX6_init_48 : decode cX6_init 48 = .ok (.putfield 27, 3) := by decide +kernel
theorem dX6_init_51 : decode cX6_init 51 = .ok (.return_, 1) := by decide +kernel
theorem dX6_lastPosition_0 : decode cX6_lastPosition 0 = .ok (.aload_n 0, 1) := by decide +kernel
theorem dX6_lastPosition_1 : decode cX6_lastPosition 1 = .ok (.getfield 31, 3) := by decide +kernel
theorem dX6_lastPosition_4 : decode cX6_lastPosition 4 = .ok (.ifCond .ne 7, 3) := by decide +kernel
theorem dX6_lastPosition_7 : decode cX6_lastPosition 7 = .ok (.iconst (-1), 1) := by decide +kernel
theorem dX6_lastPosition_8 : decode cX6_lastPosition 8 = .ok (.goto 14, 3) := by decide +kernel
theorem dX6_lastPosition_11 : decode cX6_lastPosition 11 = .ok (.aload_n 0, 1) := by decide +kernel
theorem dX6_lastPosition_12 : decode cX6_lastPosition 12 = .ok (.getfield 9, 3) := by decide +kernel
theorem dX6_lastPosition_15 : decode cX6_lastPosition 15 = .ok (.aload_n 0, 1) := by decide +kernel
theorem dX6_lastPosition_16 : decode cX6_lastPosition 16 = .ok (.getfield 31, 3) := by decide +kernel
theorem dX6_lastPosition_19 : decode cX6_lastPosition 19 = .ok (.iconst 1, 1) := by decide +kernel
theorem dX6_lastPosition_20 : decode cX6_lastPosition 20 = .ok (.isub, 1) := by decide +kernel
theorem dX6_lastPosition_21 : decode cX6_lastPosition 21 = .ok (.iaload, 1) := by decide +kernel
theorem dX6_lastPosition_22 : decode cX6_lastPosition 22 = .ok (.ireturn, 1) := by decide +kernel
set_option maxRecDepth 20000 in
theorem ggX6_append_X0_addRing : GoodIn wsX6_append wsX0_addRing := goodIn_ca (goodIn_r _ [13, 14, 15, 16, 12, 17, 18, 19, 20, 21, 28, 29, 30, 31] (by decide +kernel) (by decide +kernel)) (goodIn_sub (fun _ h => List.mem_cons_of_mem _ (List.mem_append_right _ h)) (by decide +kernel))
set_option maxRecDepth 20000 in
theorem gX6_append_X0_addRing : GoodIn wsX6_append (wsV RX6 35 RX0 yX0_addRing wsX0_addRing) := goodIn_app (goodIn_of _ (by decide +kernel)) ggX6_append_X0_addRing
theorem dX6_append_0 : decode cX6_append 0 = .ok (.aload_n 0, 1) := by decide +kernel
theorem dX6_append_1 : decode cX6_append 1 = .ok (.getfield 31, 3) := by decide +kernel
theorem dX6_append_4 : decode cX6_append 4 = .ok (.sipush 200, 3) := by decide +kernel
theorem dX6_append_7 : decode cX6_append 7 = .ok (.if_icmp .ge 74, 3) := by decide +kernel
theorem dX6_append_10 : decode cX6_append 10 = .ok (.aload_n 0, 1) := by decide +kernel
theorem dX6_append_11 : decode cX6_append 11 = .ok (.getfield 27, 3) := by decide +kernel
theorem dX6_append_14 : decode cX6_append 14 = .ok (.iload_n 1, 1) := by decide +kernel
theorem dX6_append_15 : decode cX6_append 15 = .ok (.iload_n 2, 1) := by decide +kernel
theorem dX6_append_16 : decode cX6_append 16 = .ok (.invokevirtual 35, 3) := by decide +kernel
theorem dX6_append_19 : decode cX6_append 19 = .ok (.aload_n 0, 1) := by decide +kernel
theorem dX6_append_20 : decode cX6_append 20 = .ok (.getfield 9, 3) := by decide +kernel
theorem dX6_append_23 : decode cX6_append 23 = .ok (.aload_n 0, 1) := by decide +kernel
theorem dX6_append_24 : decode cX6_append 24 = .ok (.getfield 31, 3) := by decide +kernel
theorem dX6_append_27 : decode cX6_append 27 = .ok (.iload_n 1, 1) := by decide +kernel
theorem dX6_append_28 : decode cX6_append 28 = .ok (.iastore, 1) := by decide +kernel
theorem dX6_append_29 : decode cX6_append 29 = .ok (.aload_n 0, 1) := by decide +kernel
theorem dX6_append_30 : decode cX6_append 30 = .ok (.getfield 15, 3) := by decide +kernel
theorem dX6_append_33 : decode cX6_append 33 = .ok (.aload_n 0, 1) := by decide +kernel
theorem dX6_append_34 : decode cX6_append 34 = .ok (.getfield 31, 3) := by decide +kernel
theorem dX6_append_37 : decode cX6_append 37 = .ok (.iload_n 2, 1) := by decide +kernel
theorem dX6_append_38 : decode cX6_append 38 = .ok (.iastore, 1) := by decide +kernel
theorem dX6_append_39 : decode cX6_append 39 = .ok (.aload_n 0, 1) := by decide +kernel
theorem dX6_append_40 : decode cX6_append 40 = .ok (.getfield 18, 3) := by decide +kernel
theorem dX6_append_43 : decode cX6_append 43 = .ok (.aload_n 0, 1) := by decide +kernel
theorem dX6_append_44 : decode cX6_append 44 = .ok (.getfield 31, 3) := by decide +kernel
theorem dX6_append_47 : decode cX6_append 47 = .ok (.aload_n 0, 1) := by decide +kernel
theorem dX6_append_48 : decode cX6_append 48 = .ok (.getfield 27, 3) := by decide +kernel
theorem dX6_append_51 : decode cX6_append 51 = .ok (.getfield 39, 3) := by decide +kernel
theorem dX6_append_54 : decode cX6_append 54 = .ok (.iastore, 1) := by decide +kernel
theorem dX6_append_55 : decode cX6_append 55 = .ok (.aload_n 0, 1) := by decide +kernel
theorem dX6_append_56 : decode cX6_append 56 = .ok (.getfield 21, 3) := by decide +kernel
theorem dX6_append_59 : decode cX6_append 59 = .ok (.aload_n 0, 1) := by decide +kernel
theorem dX6_append_60 : decode cX6_append 60 = .ok (.getfield 31, 3) := by decide +kernel
theorem dX6_append_63 : decode cX6_append 63 = .ok (.aload_n 0, 1) := by decide +kernel
theorem dX6_append_64 : decode cX6_append 64 = .ok (.getfield 27, 3) := by decide +kernel
theorem dX6_append_67 : decode cX6_append 67 = .ok (.getfield 42, 3) := by decide +kernel
theorem dX6_append_70 : decode cX6_append 70 = .ok (.iastore, 1) := by decide +kernel
theorem dX6_append_71 : decode cX6_append 71 = .ok (.aload_n 0, 1) := by decide +kernel
theorem dX6_append_72 : decode cX6_append 72 = .ok (.dup, 1) := by decide +kernel
theorem dX6_append_73 : decode cX6_append 73 = .ok (.getfield 31, 3) := by decide +kernel
theorem dX6_append_76 : decode cX6_append 76 = .ok (.iconst 1, 1) := by decide +kernel
theorem dX6_append_77 : decode cX6_append 77 = .ok (.iadd, 1) := by decide +kernel
theorem dX6_append_78 : decode cX6_append 78 = .ok (.putfield 31, 3) := by decide +kernel
theorem dX6_append_81 : decode cX6_append 81 = .ok (.return_, 1) := by decide +kernel
theorem dX7_init_0 : decode cX7_init 0 = .ok (.aload_n 0, 1) := by decide +kernel
theorem dX7_init_1 : decode cX7_init 1 = .ok (.invokespecial 3, 3) := by decide +kernel
theorem dX7_init_4 : decode cX7_init 4 = .ok (.aload_n 0, 1) := by decide +kernel
theorem dX7_init_5 : decode cX7_init 5 = .ok (.iconst 3, 1) := by decide +kernel
theorem dX7_init_6 : decode cX7_init 6 = .ok (.newarray .int, 2) := by decide +kernel
theorem dX7_init_8 : decode cX7_init 8 = .ok (.putfield 9, 3) := by decide +kernel
theorem dX7_init_11 : decode cX7_init 11 = .ok (.aload_n 0, 1) := by decide +kernel
theorem dX7_init_12 : decode cX7_init 12 = .ok (.bipush 36, 2) := by decide +kernel
theorem dX7_init_14 : decode cX7_init 14 = .ok (.newarray .int, 2) := by decide +kernel
theorem dX7_init_16 : decode cX7_init 16 = .ok (.putfield 15, 3) := by decide +kernel
theorem dX7_init_19 : decode cX7_init 19 = .ok (.aload_n 0, 1) := by decide +kernel
theorem dX7_init_20 : decode cX7_init 20 = .ok (.bipush 36, 2) := by decide +kernel
theorem dX7_init_22 : decode cX7_init 22 = .ok (.newarray .int, 2) := by decide +kernel
theorem dX7_init_24 : decode cX7_init 24 = .ok (.putfield 18, 3) := by decide +kernel
theorem dX7_init_27 : decode cX7_init 27 = .ok (.return_, 1) := by decide +kernel
theorem dX7_isFull_0 : decode cX7_isFull 0 = .ok (.aload_n 0, 1) := by decide +kernel
theorem dX7_isFull_1 : decode cX7_isFull 1 = .ok (.getfield 9, 3) := by decide +kernel
theorem dX7_isFull_4 : decode cX7_isFull 4 = .ok (.iload_n 1, 1) := by decide +kernel
theorem dX7_isFull_5 : decode cX7_isFull 5 = .ok (.iaload, 1) := by decide +kernel
theorem dX7_isFull_6 : decode cX7_isFull 6 = .ok (.bipush 12, 2) := by decide +kernel
theorem dX7_isFull_8 : decode cX7_isFull 8 = .ok (.if_icmp .lt 7, 3) := by decide +kernel
theorem dX7_isFull_11 : decode cX7_isFull 11 = .ok (.iconst 1, 1) := by decide +kernel
theorem dX7_isFull_12 : decode cX7_isFull 12 = .ok (.goto 4, 3) := by decide +kernel
theorem dX7_isFull_15 : decode cX7_isFull 15 = .ok (.iconst 0, 1) := by decide +kernel
theorem dX7_isFull_16 : decode cX7_isFull 16 = .ok (.ireturn, 1) := by decide +kernel
theorem dX7_put_0 : decode cX7_put 0 = .ok (.iload_n 1, 1) := by decide +kernel
theorem dX7_put_1 : decode cX7_put 1 = .ok (.bipush 12, 2) := by decide +kernel
theorem dX7_put_3 : decode cX7_put 3 = .ok (.imul, 1) := by decide +kernel
theorem dX7_put_4 : decode cX7_put 4 = .ok (.aload_n 0, 1) := by decide +kernel
theorem dX7_put_5 : decode cX7_put 5 = .ok (.getfield 9, 3) := by decide +kernel
theorem dX7_put_8 : decode cX7_put 8 = .ok (.iload_n 1, 1) := by decide +kernel
theorem dX7_put_9 : decode cX7_put 9 = .ok (.iaload, 1) := by decide +kernel
theorem dX7_put_10 : decode cX7_put 10 = .ok (.iadd, 1) := by decide +kernel
theorem dX7_put_11 : decode cX7_put 11 = .ok (.istore 4, 2) := by decide +kernel
theorem dX7_put_13 : decode cX7_put 13 = .ok (.aload_n 0, 1) := by decide +kernel
theorem dX7_put_14 : decode cX7_put 14 = .ok (.getfield 15, 3) := by decide +kernel
theorem dX7_put_17 : decode cX7_put 17 = .ok (.iload 4, 2) := by decide +kernel
theorem dX7_put_19 : decode cX7_put 19 = .ok (.iload_n 2, 1) := by decide +kernel
theorem dX7_put_20 : decode cX7_put 20 = .ok (.iastore, 1) := by decide +kernel
theorem dX7_put_21 : decode cX7_put 21 = .ok (.aload_n 0, 1) := by decide +kernel
theorem dX7_put_22 : decode cX7_put 22 = .ok (.getfield 18, 3) := by decide +kernel
theorem dX7_put_25 : decode cX7_put 25 = .ok (.iload 4, 2) := by decide +kernel
theorem dX7_put_27 : decode cX7_put 27 = .ok (.iload_n 3, 1) := by decide +kernel
theorem dX7_put_28 : decode cX7_put 28 = .ok (.iastore, 1) := by decide +kernel
theorem dX7_put_29 : decode cX7_put 29 = .ok (.aload_n 0, 1) := by decide +kernel
theorem dX7_put_30 : decode cX7_put 30 = .ok (.getfield 9, 3) := by decide +kernel
theorem dX7_put_33 : decode cX7_put 33 = .ok (.iload_n 1, 1) := by decide +kernel
theorem dX7_put_34 : decode cX7_put 34 = .ok (.dup2, 1) := by decide +kernel
theorem dX7_put_35 : decode cX7_put 35 = .ok (.iaload, 1) := by decide +kernel
theorem dX7_put_36 : decode cX7_put 36 = .ok (.iconst 1, 1) := by decide +kernel
theorem dX7_put_37 : decode cX7_put 37 = .ok (.iadd, 1) := by decide +kernel
theorem dX7_put_38 : decode cX7_put 38 = .ok (.iastore, 1) := by decide +kernel
theorem dX7_put_39 : decode cX7_put 39 = .ok (.return_, 1) := by decide +kernel
theorem dX7_taperIn_0 : decode cX7_taperIn 0 = .ok (.aload_n 0, 1) := by decide +kernel
theorem dX7_taperIn_1 : decode cX7_taperIn 1 = .ok (.getfield 15, 3) := by decide +kernel
theorem dX7_taperIn_4 : decode cX7_taperIn 4 = .ok (.iload_n 1, 1) := by decide +kernel
theorem dX7_taperIn_5 : decode cX7_taperIn 5 = .ok (.bipush 12, 2) := by decide +kernel
theorem dX7_taperIn_7 : decode cX7_taperIn 7 = .ok (.imul, 1) := by decide +kernel
theorem dX7_taperIn_8 : decode cX7_taperIn 8 = .ok (.iload_n 2, 1) := by decide +kernel
theorem dX7_taperIn_9 : decode cX7_taperIn 9 = .ok (.iadd, 1) := by decide +kernel
theorem dX7_taperIn_10 : decode cX7_taperIn 10 = .ok (.iaload, 1) := by decide +kernel
theorem dX7_taperIn_11 : decode cX7_taperIn 11 = .ok (.ireturn, 1) := by decide +kernel
set_option maxRecDepth 20000 in
theorem ggX7_topTaper_X7_taperIn : GoodIn wsX7_topTaper wsX7_taperIn := goodIn_ca (goodIn_r _ [6, 7, 8, 9, 10] (by decide +kernel) (by decide +kernel)) (goodIn_sub (fun _ h => List.mem_cons_of_mem _ (List.mem_append_right _ h)) (by decide +kernel))
set_option maxRecDepth 20000 in
theorem gX7_topTaper_X7_taperIn : GoodIn wsX7_topTaper (wsV RX7 21 RX7 yX7_taperIn wsX7_taperIn) := goodIn_app (goodIn_of _ (by decide +kernel)) ggX7_topTaper_X7_taperIn
theorem dX7_topTaper_0 : decode cX7_topTaper 0 = .ok (.aload_n 0, 1) := by decide +kernel
theorem dX7_topTaper_1 : decode cX7_topTaper 1 = .ok (.iload_n 1, 1) := by decide +kernel
theorem dX7_topTaper_2 : decode cX7_topTaper 2 = .ok (.aload_n 0, 1) := by decide +kernel
theorem dX7_topTaper_3 : decode cX7_topTaper 3 = .ok (.getfield 9, 3) := by decide +kernel
theorem dX7_topTaper_6 : decode cX7_topTaper 6 = .ok (.iload_n 1, 1) := by decide +kernel
theorem dX7_topTaper_7 : decode cX7_topTaper 7 = .ok (.iaload, 1) := by decide +kernel
theorem dX7_topTaper_8 : decode cX7_topTaper 8 = .ok (.iconst 1, 1) := by decide +kernel
theorem dX7_topTaper_9 : decode cX7_topTaper 9 = .ok (.isub, 1) := by decide +kernel
theorem dX7_topTaper_10 : decode cX7_topTaper 10 = .ok (.invokevirtual 21, 3) := by decide +kernel
theorem dX7_topTaper_13 : decode cX7_topTaper 13 = .ok (.ireturn, 1) := by decide +kernel
theorem dX7_takeTop_0 : decode cX7_takeTop 0 = .ok (.aload_n 0, 1) := by decide +kernel
theorem dX7_takeTop_1 : decode cX7_takeTop 1 = .ok (.getfield 9, 3) := by decide +kernel
theorem dX7_takeTop_4 : decode cX7_takeTop 4 = .ok (.iload_n 1, 1) := by decide +kernel
theorem dX7_takeTop_5 : decode cX7_takeTop 5 = .ok (.dup2, 1) := by decide +kernel
theorem dX7_takeTop_6 : decode cX7_takeTop 6 = .ok (.iaload, 1) := by decide +kernel
theorem dX7_takeTop_7 : decode cX7_takeTop 7 = .ok (.iconst 1, 1) := by decide +kernel
theorem dX7_takeTop_8 : decode cX7_takeTop 8 = .ok (.isub, 1) := by decide +kernel
theorem dX7_takeTop_9 : decode cX7_takeTop 9 = .ok (.iastore, 1) := by decide +kernel
theorem dX7_takeTop_10 : decode cX7_takeTop 10 = .ok (.return_, 1) := by decide +kernel
set_option maxRecDepth 20000 in
theorem ggX7_move_X7_takeTop : GoodIn wsX7_move wsX7_takeTop := goodIn_ca (goodIn_r _ [8, 1, 13, 14, 15] (by decide +kernel) (by decide +kernel)) (goodIn_sub (fun _ h => List.mem_cons_of_mem _ (List.mem_append_right _ h)) (by decide +kernel))
set_option maxRecDepth 20000 in
theorem gX7_move_X7_takeTop : GoodIn wsX7_move (wsV RX7 25 RX7 yX7_takeTop wsX7_takeTop) := goodIn_app (goodIn_of _ (by decide +kernel)) ggX7_move_X7_takeTop
set_option maxRecDepth 20000 in
theorem ggX7_move_X7_put : GoodIn wsX7_move wsX7_put := goodIn_ca (goodIn_r _ [12, 1, 2, 3, 13, 14, 15] (by decide +kernel) (by decide +kernel)) (goodIn_sub (fun _ h => List.mem_cons_of_mem _ (List.mem_append_right _ h)) (by decide +kernel))
set_option maxRecDepth 20000 in
theorem gX7_move_X7_put : GoodIn wsX7_move (wsV RX7 29 RX7 yX7_put wsX7_put) := goodIn_app (goodIn_of _ (by decide +kernel)) ggX7_move_X7_put
theorem dX7_move_0 : decode cX7_move 0 = .ok (.iload_n 1, 1) := by decide +kernel
theorem dX7_move_1 : decode cX7_move 1 = .ok (.bipush 12, 2) := by decide +kernel
theorem dX7_move_3 : decode cX7_move 3 = .ok (.imul, 1) := by decide +kernel
theorem dX7_move_4 : decode cX7_move 4 = .ok (.aload_n 0, 1) := by decide +kernel
theorem dX7_move_5 : decode cX7_move 5 = .ok (.getfield 9, 3) := by decide +kernel
theorem dX7_move_8 : decode cX7_move 8 = .ok (.iload_n 1, 1) := by decide +kernel
theorem dX7_move_9 : decode cX7_move 9 = .ok (.iaload, 1) := by decide +kernel
theorem dX7_move_10 : decode cX7_move 10 = .ok (.iadd, 1) := by decide +kernel
theorem dX7_move_11 : decode cX7_move 11 = .ok (.iconst 1, 1) := by decide +kernel
theorem dX7_move_12 : decode cX7_move 12 = .ok (.isub, 1) := by decide +kernel
theorem dX7_move_13 : decode cX7_move 13 = .ok (.istore_n 3, 1) := by decide +kernel
theorem dX7_move_14 : decode cX7_move 14 = .ok (.aload_n 0, 1) := by decide +kernel
theorem dX7_move_15 : decode cX7_move 15 = .ok (.iload_n 1, 1) := by decide +kernel
theorem dX7_move_16 : decode cX7_move 16 = .ok (.invokevirtual 25, 3) := by decide +kernel
theorem dX7_move_19 : decode cX7_move 19 = .ok (.aload_n 0, 1) := by decide +kernel
theorem dX7_move_20 : decode cX7_move 20 = .ok (.iload_n 2, 1) := by decide +kernel
theorem dX7_move_21 : decode cX7_move 21 = .ok (.aload_n 0, 1) := by decide +kernel
theorem dX7_move_22 : decode cX7_move 22 = .ok (.getfield 15, 3) := by decide +kernel
theorem dX7_move_25 : decode cX7_move 25 = .ok (.iload_n 3, 1) := by decide +kernel
theorem dX7_move_26 : decode cX7_move 26 = .ok (.iaload, 1) := by decide +kernel
theorem dX7_move_27 : decode cX7_move 27 = .ok (.aload_n 0, 1) := by decide +kernel
theorem dX7_move_28 : decode cX7_move 28 = .ok (.getfield 18, 3) := by decide +kernel
theorem dX7_move_31 : decode cX7_move 31 = .ok (.iload_n 3, 1) := by decide +kernel
theorem dX7_move_32 : decode cX7_move 32 = .ok (.iaload, 1) := by decide +kernel
theorem dX7_move_33 : decode cX7_move 33 = .ok (.invokevirtual 29, 3) := by decide +kernel
theorem dX7_move_36 : decode cX7_move 36 = .ok (.return_, 1) := by decide +kernel
theorem dX7_hoursLeft_0 : decode cX7_hoursLeft 0 = .ok (.iconst 0, 1) := by decide +kernel
theorem dX7_hoursLeft_1 : decode cX7_hoursLeft 1 = .ok (.aload_n 0, 1) := by decide +kernel
theorem dX7_hoursLeft_2 : decode cX7_hoursLeft 2 = .ok (.getfield 18, 3) := by decide +kernel
theorem dX7_hoursLeft_5 : decode cX7_hoursLeft 5 = .ok (.iload_n 1, 1) := by decide +kernel
theorem dX7_hoursLeft_6 : decode cX7_hoursLeft 6 = .ok (.bipush 12, 2) := by decide +kernel
theorem dX7_hoursLeft_8 : decode cX7_hoursLeft 8 = .ok (.imul, 1) := by decide +kernel
theorem dX7_hoursLeft_9 : decode cX7_hoursLeft 9 = .ok (.iload_n 2, 1) := by decide +kernel
theorem dX7_hoursLeft_10 : decode cX7_hoursLeft 10 = .ok (.iadd, 1) := by decide +kernel
theorem dX7_hoursLeft_11 : decode cX7_hoursLeft 11 = .ok (.iaload, 1) := by decide +kernel
theorem dX7_hoursLeft_12 : decode cX7_hoursLeft 12 = .ok (.bipush 24, 2) := by decide +kernel
theorem dX7_hoursLeft_14 : decode cX7_hoursLeft 14 = .ok (.iadd, 1) := by decide +kernel
theorem dX7_hoursLeft_15 : decode cX7_hoursLeft 15 = .ok (.iload_n 3, 1) := by decide +kernel
theorem dX7_hoursLeft_16 : decode cX7_hoursLeft 16 = .ok (.isub, 1) := by decide +kernel
theorem dX7_hoursLeft_17 : decode cX7_hoursLeft 17 = .ok (.invokestatic 33, 3) := by decide +kernel
theorem dX7_hoursLeft_20 : decode cX7_hoursLeft 20 = .ok (.ireturn, 1) := by decide +kernel
theorem dX7_countRings_0 : decode cX7_countRings 0 = .ok (.iconst 0, 1) := by decide +kernel
theorem dX7_countRings_1 : decode cX7_countRings 1 = .ok (.istore_n 1, 1) := by decide +kernel
theorem dX7_countRings_2 : decode cX7_countRings 2 = .ok (.iconst 0, 1) := by decide +kernel
theorem dX7_countRings_3 : decode cX7_countRings 3 = .ok (.istore_n 2, 1) := by decide +kernel
theorem dX7_countRings_4 : decode cX7_countRings 4 = .ok (.iload_n 2, 1) := by decide +kernel
theorem dX7_countRings_5 : decode cX7_countRings 5 = .ok (.iconst 3, 1) := by decide +kernel
theorem dX7_countRings_6 : decode cX7_countRings 6 = .ok (.if_icmp .ge 18, 3) := by decide +kernel
theorem dX7_countRings_9 : decode cX7_countRings 9 = .ok (.iload_n 1, 1) := by decide +kernel
theorem dX7_countRings_10 : decode cX7_countRings 10 = .ok (.aload_n 0, 1) := by decide +kernel
theorem dX7_countRings_11 : decode cX7_countRings 11 = .ok (.getfield 9, 3) := by decide +kernel
theorem dX7_countRings_14 : decode cX7_countRings 14 = .ok (.iload_n 2, 1) := by decide +kernel
theorem dX7_countRings_15 : decode cX7_countRings 15 = .ok (.iaload, 1) := by decide +kernel
theorem dX7_countRings_16 : decode cX7_countRings 16 = .ok (.iadd, 1) := by decide +kernel
theorem dX7_countRings_17 : decode cX7_countRings 17 = .ok (.istore_n 1, 1) := by decide +kernel
theorem dX7_countRings_18 : decode cX7_countRings 18 = .ok (.iinc 2 1, 3) := by decide +kernel
theorem dX7_countRings_21 : decode cX7_countRings 21 = .ok (.goto (-17), 3) := by decide +kernel
theorem dX7_countRings_24 : decode cX7_countRings 24 = .ok (.iload_n 1, 1) := by decide +kernel
theorem dX7_countRings_25 : decode cX7_countRings 25 = .ok (.ireturn, 1) := by decide +kernel
set_option maxRecDepth 20000 in
theorem ggX7_countCured_X7_hoursLeft : GoodIn wsX7_countCured wsX7_hoursLeft := goodIn_ca (goodIn_r _ [6, 7, 8, 9, 10, 11, 12, 13, 14] (by decide +kernel) (by decide +kernel)) (goodIn_sub (fun _ h => List.mem_cons_of_mem _ (List.mem_append_right _ h)) (by decide +kernel))
set_option maxRecDepth 20000 in
theorem gX7_countCured_X7_hoursLeft : GoodIn wsX7_countCured (wsV RX7 38 RX7 yX7_hoursLeft wsX7_hoursLeft) := goodIn_app (goodIn_of _ (by decide +kernel)) ggX7_countCured_X7_hoursLeft
theorem dX7_countCured_0 : decode cX7_countCured 0 = .ok (.iconst 0, 1) := by decide +kernel
theorem dX7_countCured_1 : decode cX7_countCured 1 = .ok (.istore_n 2, 1) := by decide +kernel
theorem dX7_countCured_2 : decode cX7_countCured 2 = .ok (.iconst 0, 1) := by decide +kernel
theorem dX7_countCured_3 : decode cX7_countCured 3 = .ok (.istore_n 3, 1) := by decide +kernel
theorem dX7_countCured_4 : decode cX7_countCured 4 = .ok (.iload_n 3, 1) := by decide +kernel
theorem dX7_countCured_5 : decode cX7_countCured 5 = .ok (.iconst 3, 1) := by decide +kernel
theorem dX7_countCured_6 : decode cX7_countCured 6 = .ok (.if_icmp .ge 43, 3) := by decide +kernel
theorem dX7_countCured_9 : decode cX7_countCured 9 = .ok (.iconst 0, 1) := by decide +kernel
theorem dX7_countCured_10 : decode cX7_countCured 10 = .ok (.istore 4, 2) := by decide +kernel
theorem dX7_countCured_12 : decode cX7_countCured 12 = .ok (.iload 4, 2) := by decide +kernel
theorem dX7_countCured_14 : decode cX7_countCured 14 = .ok (.aload_n 0, 1) := by decide +kernel
theorem dX7_countCured_15 : decode cX7_countCured 15 = .ok (.getfield 9, 3) := by decide +kernel
theorem dX7_countCured_18 : decode cX7_countCured 18 = .ok (.iload_n 3, 1) := by decide +kernel
theorem dX7_countCured_19 : decode cX7_countCured 19 = .ok (.iaload, 1) := by decide +kernel
theorem dX7_countCured_20 : decode cX7_countCured 20 = .ok (.if_icmp .ge 23, 3) := by decide +kernel
theorem dX7_countCured_23 : decode cX7_countCured 23 = .ok (.aload_n 0, 1) := by decide +kernel
theorem dX7_countCured_24 : decode cX7_countCured 24 = .ok (.iload_n 3, 1) := by decide +kernel
theorem dX7_countCured_25 : decode cX7_countCured 25 = .ok (.iload 4, 2) := by decide +kernel
theorem dX7_countCured_27 : decode cX7_countCured 27 = .ok (.iload_n 1, 1) := by decide +kernel
theorem dX7_countCured_28 : decode cX7_countCured 28 = .ok (.invokevirtual 38, 3) := by decide +kernel
theorem dX7_countCured_31 : decode cX7_countCured 31 = .ok (.ifCond .ne 6, 3) := by decide +kernel
theorem dX7_countCured_34 : decode cX7_countCured 34 = .ok (.iinc 2 1, 3) := by decide +kernel
theorem dX7_countCured_37 : decode cX7_countCured 37 = .ok (.iinc 4 1, 3) := by decide +kernel
theorem dX7_countCured_40 : decode cX7_countCured 40 = .ok (.goto (-28), 3) := by decide +kernel
theorem dX7_countCured_43 : decode cX7_countCured 43 = .ok (.iinc 3 1, 3) := by decide +kernel
theorem dX7_countCured_46 : decode cX7_countCured 46 = .ok (.goto (-42), 3) := by decide +kernel
theorem dX7_countCured_49 : decode cX7_countCured 49 = .ok (.iload_n 2, 1) := by decide +kernel
theorem dX7_countCured_50 : decode cX7_countCured 50 = .ok (.ireturn, 1) := by decide +kernel
