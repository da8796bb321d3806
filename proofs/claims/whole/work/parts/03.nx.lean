abbrev vwCl : List vw_C := [(RX0, TX0, 12), (RX1, TX1, 16)]
theorem dX0_init_0 : decode cX0_init 0 = .ok (.aload_n 0, 1) := by decide +kernel
theorem dX0_init_1 : decode cX0_init 1 = .ok (.invokespecial 1, 3) := by decide +kernel
theorem dX0_init_4 : decode cX0_init 4 = .ok (.aload_n 0, 1) := by decide +kernel
theorem dX0_init_5 : decode cX0_init 5 = .ok (.bipush 64, 2) := by decide +kernel
theorem dX0_init_7 : decode cX0_init 7 = .ok (.newarray .int, 2) := by decide +kernel
theorem dX0_init_9 : decode cX0_init 9 = .ok (.putfield 9, 3) := by decide +kernel
theorem dX0_init_12 : decode cX0_init 12 = .ok (.aload_n 0, 1) := by decide +kernel
theorem dX0_init_13 : decode cX0_init 13 = .ok (.bipush 64, 2) := by decide +kernel
theorem dX0_init_15 : decode cX0_init 15 = .ok (.newarray .int, 2) := by decide +kernel
theorem dX0_init_17 : decode cX0_init 17 = .ok (.putfield 13, 3) := by decide +kernel
theorem dX0_init_20 : decode cX0_init 20 = .ok (.aload_n 0, 1) := by decide +kernel
theorem dX0_init_21 : decode cX0_init 21 = .ok (.iconst 4, 1) := by decide +kernel
theorem dX0_init_22 : decode cX0_init 22 = .ok (.newarray .int, 2) := by decide +kernel
theorem dX0_init_24 : decode cX0_init 24 = .ok (.putfield 16, 3) := by decide +kernel
theorem dX0_init_27 : decode cX0_init 27 = .ok (.aload_n 0, 1) := by decide +kernel
theorem dX0_init_28 : decode cX0_init 28 = .ok (.bipush 8, 2) := by decide +kernel
theorem dX0_init_30 : decode cX0_init 30 = .ok (.newarray .int, 2) := by decide +kernel
theorem dX0_init_32 : decode cX0_init 32 = .ok (.putfield 19, 3) := by decide +kernel
theorem dX0_init_35 : decode cX0_init 35 = .ok (.aload_n 0, 1) := by decide +kernel
theorem dX0_init_36 : decode cX0_init 36 = .ok (.iconst 0, 1) := by decide +kernel
theorem dX0_init_37 : decode cX0_init 37 = .ok (.putfield 22, 3) := by decide +kernel
theorem dX0_init_40 : decode cX0_init 40 = .ok (.aload_n 0, 1) := by decide +kernel
theorem dX0_init_41 : decode cX0_init 41 = .ok (.iconst 0, 1) := by decide +kernel
theorem dX0_init_42 : decode cX0_init 42 = .ok (.putfield 26, 3) := by decide +kernel
theorem dX0_init_45 : decode cX0_init 45 = .ok (.aload_n 0, 1) := by decide +kernel
theorem dX0_init_46 : decode cX0_init 46 = .ok (.iconst 0, 1) := by decide +kernel
theorem dX0_init_47 : decode cX0_init 47 = .ok (.putfield 29, 3) := by decide +kernel
theorem dX0_init_50 : decode cX0_init 50 = .ok (.aload_n 0, 1) := by decide +kernel
theorem dX0_init_51 : decode cX0_init 51 = .ok (.iconst 0, 1) := by decide +kernel
theorem dX0_init_52 : decode cX0_init 52 = .ok (.putfield 32, 3) := by decide +kernel
theorem dX0_init_55 : decode cX0_init 55 = .ok (.aload_n 0, 1) := by decide +kernel
theorem dX0_init_56 : decode cX0_init 56 = .ok (.iconst 0, 1) := by decide +kernel
theorem dX0_init_57 : decode cX0_init 57 = .ok (.putfield 35, 3) := by decide +kernel
theorem dX0_init_60 : decode cX0_init 60 = .ok (.aload_n 0, 1) := by decide +kernel
theorem dX0_init_61 : decode cX0_init 61 = .ok (.iconst 0, 1) := by decide +kernel
theorem dX0_init_62 : decode cX0_init 62 = .ok (.putfield 38, 3) := by decide +kernel
theorem dX0_init_65 : decode cX0_init 65 = .ok (.aload_n 0, 1) := by decide +kernel
theorem dX0_init_66 : decode cX0_init 66 = .ok (.iconst 0, 1) := by decide +kernel
theorem dX0_init_67 : decode cX0_init 67 = .ok (.putfield 41, 3) := by decide +kernel
theorem dX0_init_70 : decode cX0_init 70 = .ok (.aload_n 0, 1) := by decide +kernel
theorem dX0_init_71 : decode cX0_init 71 = .ok (.iconst 0, 1) := by decide +kernel
theorem dX0_init_72 : decode cX0_init 72 = .ok (.putfield 44, 3) := by decide +kernel
theorem dX0_init_75 : decode cX0_init 75 = .ok (.return_, 1) := by decide +kernel
set_option maxRecDepth 20000 in
theorem ggX0_poke_X0_isAddress : GoodIn wsX0_poke wsX0_isAddress := goodIn_r _ [6] (by decide +kernel) (by decide +kernel)
set_option maxRecDepth 20000 in
theorem gX0_poke_X0_isAddress : GoodIn wsX0_poke (va_wsS RX0 47 yX0_isAddress wsX0_isAddress) := goodIn_app (goodIn_of _ (by decide +kernel)) ggX0_poke_X0_isAddress
theorem dX0_poke_0 : decode cX0_poke 0 = .ok (.aload_n 0, 1) := by decide +kernel
theorem dX0_poke_1 : decode cX0_poke 1 = .ok (.getfield 29, 3) := by decide +kernel
theorem dX0_poke_4 : decode cX0_poke 4 = .ok (.ifCond .ne 10, 3) := by decide +kernel
theorem dX0_poke_7 : decode cX0_poke 7 = .ok (.iload_n 1, 1) := by decide +kernel
theorem dX0_poke_8 : decode cX0_poke 8 = .ok (.invokestatic 47, 3) := by decide +kernel
theorem dX0_poke_11 : decode cX0_poke 11 = .ok (.ifCond .ne 5, 3) := by decide +kernel
theorem dX0_poke_14 : decode cX0_poke 14 = .ok (.iconst 0, 1) := by decide +kernel
theorem dX0_poke_15 : decode cX0_poke 15 = .ok (.ireturn, 1) := by decide +kernel
theorem dX0_poke_16 : decode cX0_poke 16 = .ok (.aload_n 0, 1) := by decide +kernel
theorem dX0_poke_17 : decode cX0_poke 17 = .ok (.getfield 9, 3) := by decide +kernel
theorem dX0_poke_20 : decode cX0_poke 20 = .ok (.iload_n 1, 1) := by decide +kernel
theorem dX0_poke_21 : decode cX0_poke 21 = .ok (.iload_n 2, 1) := by decide +kernel
theorem dX0_poke_22 : decode cX0_poke 22 = .ok (.iastore, 1) := by decide +kernel
theorem dX0_poke_23 : decode cX0_poke 23 = .ok (.iconst 1, 1) := by decide +kernel
theorem dX0_poke_24 : decode cX0_poke 24 = .ok (.ireturn, 1) := by decide +kernel
theorem dX0_begin_0 : decode cX0_begin 0 = .ok (.aload_n 0, 1) := by decide +kernel
theorem dX0_begin_1 : decode cX0_begin 1 = .ok (.getfield 29, 3) := by decide +kernel
theorem dX0_begin_4 : decode cX0_begin 4 = .ok (.ifCond .ne 24, 3) := by decide +kernel
theorem dX0_begin_7 : decode cX0_begin 7 = .ok (.iload_n 1, 1) := by decide +kernel
theorem dX0_begin_8 : decode cX0_begin 8 = .ok (.ifCond .lt 20, 3) := by decide +kernel
theorem dX0_begin_11 : decode cX0_begin 11 = .ok (.iload_n 1, 1) := by decide +kernel
theorem dX0_begin_12 : decode cX0_begin 12 = .ok (.bipush 8, 2) := by decide +kernel
theorem dX0_begin_14 : decode cX0_begin 14 = .ok (.if_icmp .gt 14, 3) := by decide +kernel
theorem dX0_begin_17 : decode cX0_begin 17 = .ok (.iload_n 2, 1) := by decide +kernel
theorem dX0_begin_18 : decode cX0_begin 18 = .ok (.iconst 1, 1) := by decide +kernel
theorem dX0_begin_19 : decode cX0_begin 19 = .ok (.if_icmp .lt 9, 3) := by decide +kernel
theorem dX0_begin_22 : decode cX0_begin 22 = .ok (.iload_n 2, 1) := by decide +kernel
theorem dX0_begin_23 : decode cX0_begin 23 = .ok (.bipush 20, 2) := by decide +kernel
theorem dX0_begin_25 : decode cX0_begin 25 = .ok (.if_icmp .le 5, 3) := by decide +kernel
theorem dX0_begin_28 : decode cX0_begin 28 = .ok (.iconst 0, 1) := by decide +kernel
theorem dX0_begin_29 : decode cX0_begin 29 = .ok (.ireturn, 1) := by decide +kernel
theorem dX0_begin_30 : decode cX0_begin 30 = .ok (.aload_n 0, 1) := by decide +kernel
theorem dX0_begin_31 : decode cX0_begin 31 = .ok (.iload_n 1, 1) := by decide +kernel
theorem dX0_begin_32 : decode cX0_begin 32 = .ok (.putfield 35, 3) := by decide +kernel
theorem dX0_begin_35 : decode cX0_begin 35 = .ok (.aload_n 0, 1) := by decide +kernel
theorem dX0_begin_36 : decode cX0_begin 36 = .ok (.iload_n 2, 1) := by decide +kernel
theorem dX0_begin_37 : decode cX0_begin 37 = .ok (.putfield 38, 3) := by decide +kernel
theorem dX0_begin_40 : decode cX0_begin 40 = .ok (.aload_n 0, 1) := by decide +kernel
theorem dX0_begin_41 : decode cX0_begin 41 = .ok (.iconst 1, 1) := by decide +kernel
theorem dX0_begin_42 : decode cX0_begin 42 = .ok (.putfield 29, 3) := by decide +kernel
theorem dX0_begin_45 : decode cX0_begin 45 = .ok (.aload_n 0, 1) := by decide +kernel
theorem dX0_begin_46 : decode cX0_begin 46 = .ok (.iconst 1, 1) := by decide +kernel
theorem dX0_begin_47 : decode cX0_begin 47 = .ok (.putfield 32, 3) := by decide +kernel
theorem dX0_begin_50 : decode cX0_begin 50 = .ok (.aload_n 0, 1) := by decide +kernel
theorem dX0_begin_51 : decode cX0_begin 51 = .ok (.sipush 255, 3) := by decide +kernel
theorem dX0_begin_54 : decode cX0_begin 54 = .ok (.putfield 44, 3) := by decide +kernel
theorem dX0_begin_57 : decode cX0_begin 57 = .ok (.aload_n 0, 1) := by decide +kernel
theorem dX0_begin_58 : decode cX0_begin 58 = .ok (.iconst 0, 1) := by decide +kernel
theorem dX0_begin_59 : decode cX0_begin 59 = .ok (.putfield 41, 3) := by decide +kernel
theorem dX0_begin_62 : decode cX0_begin 62 = .ok (.iconst 1, 1) := by decide +kernel
theorem dX0_begin_63 : decode cX0_begin 63 = .ok (.ireturn, 1) := by decide +kernel
set_option maxRecDepth 20000 in
theorem ggX0_run_X0_guestStep : GoodIn wsX0_run wsX0_guestStep := goodIn_r _ [6, 7, 8, 9, 10, 11, 5, 12, 1, 13, 14, 15, 16, 17, 18, 19, 20, 21, 22, 23, 24, 25, 26, 27, 28, 29, 30, 31, 32, 33, 34, 35, 36, 37] (by decide +kernel) (by decide +kernel)
set_option maxRecDepth 20000 in
theorem gX0_run_X0_guestStep : GoodIn wsX0_run (wsV RX0 51 RX0 yX0_guestStep wsX0_guestStep) := goodIn_app (goodIn_of _ (by decide +kernel)) ggX0_run_X0_guestStep
theorem dX0_run_0 : decode cX0_run 0 = .ok (.aload_n 0, 1) := by decide +kernel
theorem dX0_run_1 : decode cX0_run 1 = .ok (.getfield 29, 3) := by decide +kernel
theorem dX0_run_4 : decode cX0_run 4 = .ok (.iconst 2, 1) := by decide +kernel
theorem dX0_run_5 : decode cX0_run 5 = .ok (.if_icmp .eq 14, 3) := by decide +kernel
theorem dX0_run_8 : decode cX0_run 8 = .ok (.iload_n 1, 1) := by decide +kernel
theorem dX0_run_9 : decode cX0_run 9 = .ok (.ifCond .lt 10, 3) := by decide +kernel
theorem dX0_run_12 : decode cX0_run 12 = .ok (.iload_n 1, 1) := by decide +kernel
theorem dX0_run_13 : decode cX0_run 13 = .ok (.sipush 1000, 3) := by decide +kernel
theorem dX0_run_16 : decode cX0_run 16 = .ok (.if_icmp .le 5, 3) := by decide +kernel
theorem dX0_run_19 : decode cX0_run 19 = .ok (.iconst 0, 1) := by decide +kernel
theorem dX0_run_20 : decode cX0_run 20 = .ok (.ireturn, 1) := by decide +kernel
theorem dX0_run_21 : decode cX0_run 21 = .ok (.iconst 0, 1) := by decide +kernel
theorem dX0_run_22 : decode cX0_run 22 = .ok (.istore_n 2, 1) := by decide +kernel
theorem dX0_run_23 : decode cX0_run 23 = .ok (.iload_n 2, 1) := by decide +kernel
theorem dX0_run_24 : decode cX0_run 24 = .ok (.iload_n 1, 1) := by decide +kernel
theorem dX0_run_25 : decode cX0_run 25 = .ok (.if_icmp .ge 13, 3) := by decide +kernel
theorem dX0_run_28 : decode cX0_run 28 = .ok (.aload_n 0, 1) := by decide +kernel
theorem dX0_run_29 : decode cX0_run 29 = .ok (.invokevirtual 51, 3) := by decide +kernel
theorem dX0_run_32 : decode cX0_run 32 = .ok (.iinc 2 1, 3) := by decide +kernel
theorem dX0_run_35 : decode cX0_run 35 = .ok (.goto (-12), 3) := by decide +kernel
theorem dX0_run_38 : decode cX0_run 38 = .ok (.iload_n 1, 1) := by decide +kernel
theorem dX0_run_39 : decode cX0_run 39 = .ok (.ireturn, 1) := by decide +kernel
set_option maxRecDepth 20000 in
theorem ggX0_copy_X0_copyFirstWaiting : GoodIn wsX0_copy wsX0_copyFirstWaiting := goodIn_r _ [7, 2, 8, 9, 6, 10, 11, 12, 13, 14, 15, 16, 32, 33, 34, 35, 36, 37, 38, 39, 40, 41, 42, 43] (by decide +kernel) (by decide +kernel)
set_option maxRecDepth 20000 in
theorem gX0_copy_X0_copyFirstWaiting : GoodIn wsX0_copy (wsV RX0 54 RX0 yX0_copyFirstWaiting wsX0_copyFirstWaiting) := goodIn_app (goodIn_of _ (by decide +kernel)) ggX0_copy_X0_copyFirstWaiting
set_option maxRecDepth 20000 in
theorem ggX0_copy_X0_endRound : GoodIn wsX0_copy wsX0_endRound := goodIn_r _ [20, 21, 2, 22, 23, 24, 1, 25, 26, 27, 28, 29, 30, 31, 32, 33, 34, 35, 36, 37, 38, 39, 40, 41, 42, 43] (by decide +kernel) (by decide +kernel)
set_option maxRecDepth 20000 in
theorem gX0_copy_X0_endRound : GoodIn wsX0_copy (wsV RX0 58 RX0 yX0_endRound wsX0_endRound) := goodIn_app (goodIn_of _ (by decide +kernel)) ggX0_copy_X0_endRound
theorem dX0_copy_0 : decode cX0_copy 0 = .ok (.aload_n 0, 1) := by decide +kernel
theorem dX0_copy_1 : decode cX0_copy 1 = .ok (.getfield 29, 3) := by decide +kernel
theorem dX0_copy_4 : decode cX0_copy 4 = .ok (.iconst 1, 1) := by decide +kernel
theorem dX0_copy_5 : decode cX0_copy 5 = .ok (.if_icmp .eq 13, 3) := by decide +kernel
theorem dX0_copy_8 : decode cX0_copy 8 = .ok (.aload_n 0, 1) := by decide +kernel
theorem dX0_copy_9 : decode cX0_copy 9 = .ok (.getfield 29, 3) := by decide +kernel
theorem dX0_copy_12 : decode cX0_copy 12 = .ok (.iconst 2, 1) := by decide +kernel
theorem dX0_copy_13 : decode cX0_copy 13 = .ok (.if_icmp .eq 5, 3) := by decide +kernel
theorem dX0_copy_16 : decode cX0_copy 16 = .ok (.iconst (-1), 1) := by decide +kernel
theorem dX0_copy_17 : decode cX0_copy 17 = .ok (.ireturn, 1) := by decide +kernel
theorem dX0_copy_18 : decode cX0_copy 18 = .ok (.aload_n 0, 1) := by decide +kernel
theorem dX0_copy_19 : decode cX0_copy 19 = .ok (.getfield 44, 3) := by decide +kernel
theorem dX0_copy_22 : decode cX0_copy 22 = .ok (.ifCond .eq 8, 3) := by decide +kernel
theorem dX0_copy_25 : decode cX0_copy 25 = .ok (.aload_n 0, 1) := by decide +kernel
theorem dX0_copy_26 : decode cX0_copy 26 = .ok (.invokevirtual 54, 3) := by decide +kernel
theorem dX0_copy_29 : decode cX0_copy 29 = .ok (.ireturn, 1) := by decide +kernel
theorem dX0_copy_30 : decode cX0_copy 30 = .ok (.aload_n 0, 1) := by decide +kernel
theorem dX0_copy_31 : decode cX0_copy 31 = .ok (.getfield 29, 3) := by decide +kernel
theorem dX0_copy_34 : decode cX0_copy 34 = .ok (.iconst 1, 1) := by decide +kernel
theorem dX0_copy_35 : decode cX0_copy 35 = .ok (.if_icmp .ne 8, 3) := by decide +kernel
theorem dX0_copy_38 : decode cX0_copy 38 = .ok (.aload_n 0, 1) := by decide +kernel
theorem dX0_copy_39 : decode cX0_copy 39 = .ok (.invokevirtual 58, 3) := by decide +kernel
theorem dX0_copy_42 : decode cX0_copy 42 = .ok (.ireturn, 1) := by decide +kernel
theorem dX0_copy_43 : decode cX0_copy 43 = .ok (.aload_n 0, 1) := by decide +kernel
theorem dX0_copy_44 : decode cX0_copy 44 = .ok (.iconst 3, 1) := by decide +kernel
theorem dX0_copy_45 : decode cX0_copy 45 = .ok (.putfield 29, 3) := by decide +kernel
theorem dX0_copy_48 : decode cX0_copy 48 = .ok (.bipush 34, 2) := by decide +kernel
theorem dX0_copy_50 : decode cX0_copy 50 = .ok (.ireturn, 1) := by decide +kernel
theorem dX0_phase_0 : decode cX0_phase 0 = .ok (.aload_n 0, 1) := by decide +kernel
theorem dX0_phase_1 : decode cX0_phase 1 = .ok (.getfield 29, 3) := by decide +kernel
theorem dX0_phase_4 : decode cX0_phase 4 = .ok (.ireturn, 1) := by decide +kernel
theorem dX0_round_0 : decode cX0_round 0 = .ok (.aload_n 0, 1) := by decide +kernel
theorem dX0_round_1 : decode cX0_round 1 = .ok (.getfield 32, 3) := by decide +kernel
theorem dX0_round_4 : decode cX0_round 4 = .ok (.ireturn, 1) := by decide +kernel
set_option maxRecDepth 20000 in
theorem ggX0_dirty_X0_isPage : GoodIn wsX0_dirty wsX0_isPage := goodIn_r _ [5] (by decide +kernel) (by decide +kernel)
set_option maxRecDepth 20000 in
theorem gX0_dirty_X0_isPage : GoodIn wsX0_dirty (va_wsS RX0 61 yX0_isPage wsX0_isPage) := goodIn_app (goodIn_of _ (by decide +kernel)) ggX0_dirty_X0_isPage
set_option maxRecDepth 20000 in
theorem ggX0_dirty_X0_hasPage : GoodIn wsX0_dirty wsX0_hasPage := goodIn_r _ [8] (by decide +kernel) (by decide +kernel)
set_option maxRecDepth 20000 in
theorem gX0_dirty_X0_hasPage : GoodIn wsX0_dirty (va_wsS RX0 64 yX0_hasPage wsX0_hasPage) := goodIn_app (goodIn_of _ (by decide +kernel)) ggX0_dirty_X0_hasPage
theorem dX0_dirty_0 : decode cX0_dirty 0 = .ok (.iload_n 1, 1) := by decide +kernel
theorem dX0_dirty_1 : decode cX0_dirty 1 = .ok (.invokestatic 61, 3) := by decide +kernel
theorem dX0_dirty_4 : decode cX0_dirty 4 = .ok (.ifCond .eq 18, 3) := by decide +kernel
theorem dX0_dirty_7 : decode cX0_dirty 7 = .ok (.aload_n 0, 1) := by decide +kernel
theorem dX0_dirty_8 : decode cX0_dirty 8 = .ok (.getfield 41, 3) := by decide +kernel
theorem dX0_dirty_11 : decode cX0_dirty 11 = .ok (.iload_n 1, 1) := by decide +kernel
theorem dX0_dirty_12 : decode cX0_dirty 12 = .ok (.invokestatic 64, 3) := by decide +kernel
theorem dX0_dirty_15 : decode cX0_dirty 15 = .ok (.ifCond .eq 7, 3) := by decide +kernel
theorem dX0_dirty_18 : decode cX0_dirty 18 = .ok (.iconst 1, 1) := by decide +kernel
theorem dX0_dirty_19 : decode cX0_dirty 19 = .ok (.goto 4, 3) := by decide +kernel
theorem dX0_dirty_22 : decode cX0_dirty 22 = .ok (.iconst 0, 1) := by decide +kernel
theorem dX0_dirty_23 : decode cX0_dirty 23 = .ok (.ireturn, 1) := by decide +kernel
set_option maxRecDepth 20000 in
theorem ggX0_waits_X0_isPage : GoodIn wsX0_waits wsX0_isPage := goodIn_r _ [5] (by decide +kernel) (by decide +kernel)
set_option maxRecDepth 20000 in
theorem gX0_waits_X0_isPage : GoodIn wsX0_waits (va_wsS RX0 61 yX0_isPage wsX0_isPage) := goodIn_app (goodIn_of _ (by decide +kernel)) ggX0_waits_X0_isPage
set_option maxRecDepth 20000 in
theorem ggX0_waits_X0_hasPage : GoodIn wsX0_waits wsX0_hasPage := goodIn_r _ [8] (by decide +kernel) (by decide +kernel)
set_option maxRecDepth 20000 in
theorem gX0_waits_X0_hasPage : GoodIn wsX0_waits (va_wsS RX0 64 yX0_hasPage wsX0_hasPage) := goodIn_app (goodIn_of _ (by decide +kernel)) ggX0_waits_X0_hasPage
theorem dX0_waits_0 : decode cX0_waits 0 = .ok (.iload_n 1, 1) := by decide +kernel
theorem dX0_waits_1 : decode cX0_waits 1 = .ok (.invokestatic 61, 3) := by decide +kernel
theorem dX0_waits_4 : decode cX0_waits 4 = .ok (.ifCond .eq 18, 3) := by decide +kernel
theorem dX0_waits_7 : decode cX0_waits 7 = .ok (.aload_n 0, 1) := by decide +kernel
theorem dX0_waits_8 : decode cX0_waits 8 = .ok (.getfield 44, 3) := by decide +kernel
theorem dX0_waits_11 : decode cX0_waits 11 = .ok (.iload_n 1, 1) := by decide +kernel
theorem dX0_waits_12 : decode cX0_waits 12 = .ok (.invokestatic 64, 3) := by decide +kernel
theorem dX0_waits_15 : decode cX0_waits 15 = .ok (.ifCond .eq 7, 3) := by decide +kernel
theorem dX0_waits_18 : decode cX0_waits 18 = .ok (.iconst 1, 1) := by decide +kernel
theorem dX0_waits_19 : decode cX0_waits 19 = .ok (.goto 4, 3) := by decide +kernel
theorem dX0_waits_22 : decode cX0_waits 22 = .ok (.iconst 0, 1) := by decide +kernel
theorem dX0_waits_23 : decode cX0_waits 23 = .ok (.ireturn, 1) := by decide +kernel
set_option maxRecDepth 20000 in
theorem ggX0_source_X0_isAddress : GoodIn wsX0_source wsX0_isAddress := goodIn_r _ [5] (by decide +kernel) (by decide +kernel)
set_option maxRecDepth 20000 in
theorem gX0_source_X0_isAddress : GoodIn wsX0_source (va_wsS RX0 47 yX0_isAddress wsX0_isAddress) := goodIn_app (goodIn_of _ (by decide +kernel)) ggX0_source_X0_isAddress
theorem dX0_source_0 : decode cX0_source 0 = .ok (.iload_n 1, 1) := by decide +kernel
theorem dX0_source_1 : decode cX0_source 1 = .ok (.invokestatic 47, 3) := by decide +kernel
theorem dX0_source_4 : decode cX0_source 4 = .ok (.ifCond .eq 12, 3) := by decide +kernel
theorem dX0_source_7 : decode cX0_source 7 = .ok (.aload_n 0, 1) := by decide +kernel
theorem dX0_source_8 : decode cX0_source 8 = .ok (.getfield 9, 3) := by decide +kernel
theorem dX0_source_11 : decode cX0_source 11 = .ok (.iload_n 1, 1) := by decide +kernel
theorem dX0_source_12 : decode cX0_source 12 = .ok (.iaload, 1) := by decide +kernel
theorem dX0_source_13 : decode cX0_source 13 = .ok (.goto 4, 3) := by decide +kernel
theorem dX0_source_16 : decode cX0_source 16 = .ok (.iconst 0, 1) := by decide +kernel
theorem dX0_source_17 : decode cX0_source 17 = .ok (.ireturn, 1) := by decide +kernel
set_option maxRecDepth 20000 in
theorem ggX0_destination_X0_isAddress : GoodIn wsX0_destination wsX0_isAddress := goodIn_r _ [5] (by decide +kernel) (by decide +kernel)
set_option maxRecDepth 20000 in
theorem gX0_destination_X0_isAddress : GoodIn wsX0_destination (va_wsS RX0 47 yX0_isAddress wsX0_isAddress) := goodIn_app (goodIn_of _ (by decide +kernel)) ggX0_destination_X0_isAddress
theorem dX0_destination_0 : decode cX0_destination 0 = .ok (.iload_n 1, 1) := by decide +kernel
theorem dX0_destination_1 : decode cX0_destination 1 = .ok (.invokestatic 47, 3) := by decide +kernel
theorem dX0_destination_4 : decode cX0_destination 4 = .ok (.ifCond .eq 12, 3) := by decide +kernel
theorem dX0_destination_7 : decode cX0_destination 7 = .ok (.aload_n 0, 1) := by decide +kernel
theorem dX0_destination_8 : decode cX0_destination 8 = .ok (.getfield 13, 3) := by decide +kernel
theorem dX0_destination_11 : decode cX0_destination 11 = .ok (.iload_n 1, 1) := by decide +kernel
theorem dX0_destination_12 : decode cX0_destination 12 = .ok (.iaload, 1) := by decide +kernel
theorem dX0_destination_13 : decode cX0_destination 13 = .ok (.goto 4, 3) := by decide +kernel
theorem dX0_destination_16 : decode cX0_destination 16 = .ok (.iconst 0, 1) := by decide +kernel
theorem dX0_destination_17 : decode cX0_destination 17 = .ok (.ireturn, 1) := by decide +kernel
theorem dX0_register_0 : decode cX0_register 0 = .ok (.iload_n 1, 1) := by decide +kernel
theorem dX0_register_1 : decode cX0_register 1 = .ok (.ifCond .lt 17, 3) := by decide +kernel
theorem dX0_register_4 : decode cX0_register 4 = .ok (.iload_n 1, 1) := by decide +kernel
theorem dX0_register_5 : decode cX0_register 5 = .ok (.iconst 4, 1) := by decide +kernel
theorem dX0_register_6 : decode cX0_register 6 = .ok (.if_icmp .ge 12, 3) := by decide +kernel
theorem dX0_register_9 : decode cX0_register 9 = .ok (.aload_n 0, 1) := by decide +kernel
theorem dX0_register_10 : decode cX0_register 10 = .ok (.getfield 16, 3) := by decide +kernel
theorem dX0_register_13 : decode cX0_register 13 = .ok (.iload_n 1, 1) := by decide +kernel
theorem dX0_register_14 : decode cX0_register 14 = .ok (.iaload, 1) := by decide +kernel
theorem dX0_register_15 : decode cX0_register 15 = .ok (.goto 4, 3) := by decide +kernel
theorem dX0_register_18 : decode cX0_register 18 = .ok (.iconst 0, 1) := by decide +kernel
theorem dX0_register_19 : decode cX0_register 19 = .ok (.ireturn, 1) := by decide +kernel
theorem dX0_pc_0 : decode cX0_pc 0 = .ok (.aload_n 0, 1) := by decide +kernel
theorem dX0_pc_1 : decode cX0_pc 1 = .ok (.getfield 22, 3) := by decide +kernel
theorem dX0_pc_4 : decode cX0_pc 4 = .ok (.ireturn, 1) := by decide +kernel
theorem dX0_shows_0 : decode cX0_shows 0 = .ok (.aload_n 0, 1) := by decide +kernel
theorem dX0_shows_1 : decode cX0_shows 1 = .ok (.getfield 26, 3) := by decide +kernel
theorem dX0_shows_4 : decode cX0_shows 4 = .ok (.ireturn, 1) := by decide +kernel
theorem dX0_shown_0 : decode cX0_shown 0 = .ok (.iload_n 1, 1) := by decide +kernel
theorem dX0_shown_1 : decode cX0_shown 1 = .ok (.ifCond .lt 17, 3) := by decide +kernel
theorem dX0_shown_4 : decode cX0_shown 4 = .ok (.iload_n 1, 1) := by decide +kernel
theorem dX0_shown_5 : decode cX0_shown 5 = .ok (.bipush 8, 2) := by decide +kernel
theorem dX0_shown_7 : decode cX0_shown 7 = .ok (.if_icmp .ge 11, 3) := by decide +kernel
theorem dX0_shown_10 : decode cX0_shown 10 = .ok (.iload_n 1, 1) := by decide +kernel
theorem dX0_shown_11 : decode cX0_shown 11 = .ok (.aload_n 0, 1) := by decide +kernel
theorem dX0_shown_12 : decode cX0_shown 12 = .ok (.getfield 26, 3) := by decide +kernel
theorem dX0_shown_15 : decode cX0_shown 15 = .ok (.if_icmp .lt 5, 3) := by decide +kernel
theorem dX0_shown_18 : decode cX0_shown 18 = .ok (.iconst 0, 1) := by decide +kernel
theorem dX0_shown_19 : decode cX0_shown 19 = .ok (.ireturn, 1) := by decide +kernel
theorem dX0_shown_20 : decode cX0_shown 20 = .ok (.aload_n 0, 1) := by decide +kernel
theorem dX0_shown_21 : decode cX0_shown 21 = .ok (.getfield 19, 3) := by decide +kernel
theorem dX0_shown_24 : decode cX0_shown 24 = .ok (.aload_n 0, 1) := by decide +kernel
theorem dX0_shown_25 : decode cX0_shown 25 = .ok (.getfield 26, 3) := by decide +kernel
theorem dX0_shown_28 : decode cX0_shown 28 = .ok (.iconst 1, 1) := by decide +kernel
theorem dX0_shown_29 : decode cX0_shown 29 = .ok (.isub, 1) := by decide +kernel
theorem dX0_shown_30 : decode cX0_shown 30 = .ok (.iload_n 1, 1) := by decide +kernel
theorem dX0_shown_31 : decode cX0_shown 31 = .ok (.isub, 1) := by decide +kernel
theorem dX0_shown_32 : decode cX0_shown 32 = .ok (.bipush 7, 2) := by decide +kernel
theorem dX0_shown_34 : decode cX0_shown 34 = .ok (.iand, 1) := by decide +kernel
theorem dX0_shown_35 : decode cX0_shown 35 = .ok (.iaload, 1) := by decide +kernel
theorem dX0_shown_36 : decode cX0_shown 36 = .ok (.ireturn, 1) := by decide +kernel
theorem dX0_isAddress_0 : decode cX0_isAddress 0 = .ok (.iload_n 0, 1) := by decide +kernel
theorem dX0_isAddress_1 : decode cX0_isAddress 1 = .ok (.ifCond .lt 13, 3) := by decide +kernel
theorem dX0_isAddress_4 : decode cX0_isAddress 4 = .ok (.iload_n 0, 1) := by decide +kernel
theorem dX0_isAddress_5 : decode cX0_isAddress 5 = .ok (.bipush 64, 2) := by decide +kernel
theorem dX0_isAddress_7 : decode cX0_isAddress 7 = .ok (.if_icmp .ge 7, 3) := by decide +kernel
theorem dX0_isAddress_10 : decode cX0_isAddress 10 = .ok (.iconst 1, 1) := by decide +kernel
theorem dX0_isAddress_11 : decode cX0_isAddress 11 = .ok (.goto 4, 3) := by decide +kernel
theorem dX0_isAddress_14 : decode cX0_isAddress 14 = .ok (.iconst 0, 1) := by decide +kernel
theorem dX0_isAddress_15 : decode cX0_isAddress 15 = .ok (.ireturn, 1) := by decide +kernel
theorem dX0_isPage_0 : decode cX0_isPage 0 = .ok (.iload_n 0, 1) := by decide +kernel
theorem dX0_isPage_1 : decode cX0_isPage 1 = .ok (.ifCond .lt 13, 3) := by decide +kernel
theorem dX0_isPage_4 : decode cX0_isPage 4 = .ok (.iload_n 0, 1) := by decide +kernel
theorem dX0_isPage_5 : decode cX0_isPage 5 = .ok (.bipush 8, 2) := by decide +kernel
theorem dX0_isPage_7 : decode cX0_isPage 7 = .ok (.if_icmp .ge 7, 3) := by decide +kernel
theorem dX0_isPage_10 : decode cX0_isPage 10 = .ok (.iconst 1, 1) := by decide +kernel
theorem dX0_isPage_11 : decode cX0_isPage 11 = .ok (.goto 4, 3) := by decide +kernel
theorem dX0_isPage_14 : decode cX0_isPage 14 = .ok (.iconst 0, 1) := by decide +kernel
theorem dX0_isPage_15 : decode cX0_isPage 15 = .ok (.ireturn, 1) := by decide +kernel
theorem dX0_hasPage_0 : decode cX0_hasPage 0 = .ok (.iload_n 0, 1) := by decide +kernel
theorem dX0_hasPage_1 : decode cX0_hasPage 1 = .ok (.iload_n 1, 1) := by decide +kernel
theorem dX0_hasPage_2 : decode cX0_hasPage 2 = .ok (.ishr, 1) := by decide +kernel
theorem dX0_hasPage_3 : decode cX0_hasPage 3 = .ok (.iconst 1, 1) := by decide +kernel
theorem dX0_hasPage_4 : decode cX0_hasPage 4 = .ok (.iand, 1) := by decide +kernel
theorem dX0_hasPage_5 : decode cX0_hasPage 5 = .ok (.ifCond .eq 7, 3) := by decide +kernel
theorem dX0_hasPage_8 : decode cX0_hasPage 8 = .ok (.iconst 1, 1) := by decide +kernel
theorem dX0_hasPage_9 : decode cX0_hasPage 9 = .ok (.goto 4, 3) := by decide +kernel
theorem dX0_hasPage_12 : decode cX0_hasPage 12 = .ok (.iconst 0, 1) := by decide +kernel
theorem dX0_hasPage_13 : decode cX0_hasPage 13 = .ok (.ireturn, 1) := by decide +kernel
set_option maxRecDepth 20000 in
theorem ggX0_copyFirstWaiting_X0_hasPage : GoodIn wsX0_copyFirstWaiting wsX0_hasPage := goodIn_r _ [5] (by decide +kernel) (by decide +kernel)
set_option maxRecDepth 20000 in
theorem gX0_copyFirstWaiting_X0_hasPage : GoodIn wsX0_copyFirstWaiting (va_wsS RX0 64 yX0_hasPage wsX0_hasPage) := goodIn_app (goodIn_of _ (by decide +kernel)) ggX0_copyFirstWaiting_X0_hasPage
set_option maxRecDepth 20000 in
theorem ggX0_copyFirstWaiting_X0_copyPage : GoodIn wsX0_copyFirstWaiting wsX0_copyPage := goodIn_r _ [9, 10, 11, 12, 13, 14, 15, 16, 17, 18, 19, 20, 21, 22, 23] (by decide +kernel) (by decide +kernel)
set_option maxRecDepth 20000 in
theorem gX0_copyFirstWaiting_X0_copyPage : GoodIn wsX0_copyFirstWaiting (wsV RX0 68 RX0 yX0_copyPage wsX0_copyPage) := goodIn_app (goodIn_of _ (by decide +kernel)) ggX0_copyFirstWaiting_X0_copyPage
theorem dX0_copyFirstWaiting_0 : decode cX0_copyFirstWaiting 0 = .ok (.iconst 0, 1) := by decide +kernel
theorem dX0_copyFirstWaiting_1 : decode cX0_copyFirstWaiting 1 = .ok (.istore_n 1, 1) := by decide +kernel
theorem dX0_copyFirstWaiting_2 : decode cX0_copyFirstWaiting 2 = .ok (.iload_n 1, 1) := by decide +kernel
theorem dX0_copyFirstWaiting_3 : decode cX0_copyFirstWaiting 3 = .ok (.bipush 8, 2) := by decide +kernel
theorem dX0_copyFirstWaiting_5 : decode cX0_copyFirstWaiting 5 = .ok (.if_icmp .ge 41, 3) := by decide +kernel
theorem dX0_copyFirstWaiting_8 : decode cX0_copyFirstWaiting 8 = .ok (.aload_n 0, 1) := by decide +kernel
theorem dX0_copyFirstWaiting_9 : decode cX0_copyFirstWaiting 9 = .ok (.getfield 44, 3) := by decide +kernel
theorem dX0_copyFirstWaiting_12 : decode cX0_copyFirstWaiting 12 = .ok (.iload_n 1, 1) := by decide +kernel
theorem dX0_copyFirstWaiting_13 : decode cX0_copyFirstWaiting 13 = .ok (.invokestatic 64, 3) := by decide +kernel
theorem dX0_copyFirstWaiting_16 : decode cX0_copyFirstWaiting 16 = .ok (.ifCond .eq 24, 3) := by decide +kernel
theorem dX0_copyFirstWaiting_19 : decode cX0_copyFirstWaiting 19 = .ok (.aload_n 0, 1) := by decide +kernel
theorem dX0_copyFirstWaiting_20 : decode cX0_copyFirstWaiting 20 = .ok (.iload_n 1, 1) := by decide +kernel
theorem dX0_copyFirstWaiting_21 : decode cX0_copyFirstWaiting 21 = .ok (.invokevirtual 68, 3) := by decide +kernel
theorem dX0_copyFirstWaiting_24 : decode cX0_copyFirstWaiting 24 = .ok (.aload_n 0, 1) := by decide +kernel
theorem dX0_copyFirstWaiting_25 : decode cX0_copyFirstWaiting 25 = .ok (.dup, 1) := by decide +kernel
theorem dX0_copyFirstWaiting_26 : decode cX0_copyFirstWaiting 26 = .ok (.getfield 44, 3) := by decide +kernel
theorem dX0_copyFirstWaiting_29 : decode cX0_copyFirstWaiting 29 = .ok (.iconst 1, 1) := by decide +kernel
theorem dX0_copyFirstWaiting_30 : decode cX0_copyFirstWaiting 30 = .ok (.iload_n 1, 1) := by decide +kernel
theorem dX0_copyFirstWaiting_31 : decode cX0_copyFirstWaiting 31 = .ok (.ishl, 1) := by decide +kernel
theorem dX0_copyFirstWaiting_32 : decode cX0_copyFirstWaiting 32 = .ok (.iconst (-1), 1) := by decide +kernel
theorem dX0_copyFirstWaiting_33 : decode cX0_copyFirstWaiting 33 = .ok (.ixor, 1) := by decide +kernel
theorem dX0_copyFirstWaiting_34 : decode cX0_copyFirstWaiting 34 = .ok (.iand, 1) := by decide +kernel
theorem dX0_copyFirstWaiting_35 : decode cX0_copyFirstWaiting 35 = .ok (.putfield 44, 3) := by decide +kernel
theorem dX0_copyFirstWaiting_38 : decode cX0_copyFirstWaiting 38 = .ok (.iload_n 1, 1) := by decide +kernel
theorem dX0_copyFirstWaiting_39 : decode cX0_copyFirstWaiting 39 = .ok (.ireturn, 1) := by decide +kernel
theorem dX0_copyFirstWaiting_40 : decode cX0_copyFirstWaiting 40 = .ok (.iinc 1 1, 3) := by decide +kernel
theorem dX0_copyFirstWaiting_43 : decode cX0_copyFirstWaiting 43 = .ok (.goto (-41), 3) := by decide +kernel
theorem dX0_copyFirstWaiting_46 : decode cX0_copyFirstWaiting 46 = .ok (.iconst (-1), 1) := by decide +kernel
theorem dX0_copyFirstWaiting_47 : decode cX0_copyFirstWaiting 47 = .ok (.ireturn, 1) := by decide +kernel
theorem dX0_copyPage_0 : decode cX0_copyPage 0 = .ok (.iload_n 1, 1) := by decide +kernel
theorem dX0_copyPage_1 : decode cX0_copyPage 1 = .ok (.iconst 3, 1) := by decide +kernel
theorem dX0_copyPage_2 : decode cX0_copyPage 2 = .ok (.ishl, 1) := by decide +kernel
theorem dX0_copyPage_3 : decode cX0_copyPage 3 = .ok (.istore_n 2, 1) := by decide +kernel
theorem dX0_copyPage_4 : decode cX0_copyPage 4 = .ok (.iconst 0, 1) := by decide +kernel
theorem dX0_copyPage_5 : decode cX0_copyPage 5 = .ok (.istore_n 3, 1) := by decide +kernel
theorem dX0_copyPage_6 : decode cX0_copyPage 6 = .ok (.iload_n 3, 1) := by decide +kernel
theorem dX0_copyPage_7 : decode cX0_copyPage 7 = .ok (.bipush 8, 2) := by decide +kernel
theorem dX0_copyPage_9 : decode cX0_copyPage 9 = .ok (.if_icmp .ge 31, 3) := by decide +kernel
theorem dX0_copyPage_12 : decode cX0_copyPage 12 = .ok (.iload_n 2, 1) := by decide +kernel
theorem dX0_copyPage_13 : decode cX0_copyPage 13 = .ok (.iload_n 3, 1) := by decide +kernel
theorem dX0_copyPage_14 : decode cX0_copyPage 14 = .ok (.iadd, 1) := by decide +kernel
theorem dX0_copyPage_15 : decode cX0_copyPage 15 = .ok (.bipush 63, 2) := by decide +kernel
theorem dX0_copyPage_17 : decode cX0_copyPage 17 = .ok (.iand, 1) := by decide +kernel
theorem dX0_copyPage_18 : decode cX0_copyPage 18 = .ok (.istore 4, 2) := by decide +kernel
theorem dX0_copyPage_20 : decode cX0_copyPage 20 = .ok (.aload_n 0, 1) := by decide +kernel
theorem dX0_copyPage_21 : decode cX0_copyPage 21 = .ok (.getfield 13, 3) := by decide +kernel
theorem dX0_copyPage_24 : decode cX0_copyPage 24 = .ok (.iload 4, 2) := by decide +kernel
theorem dX0_copyPage_26 : decode cX0_copyPage 26 = .ok (.aload_n 0, 1) := by decide +kernel
theorem dX0_copyPage_27 : decode cX0_copyPage 27 = .ok (.getfield 9, 3) := by decide +kernel
theorem dX0_copyPage_30 : decode cX0_copyPage 30 = .ok (.iload 4, 2) := by decide +kernel
theorem dX0_copyPage_32 : decode cX0_copyPage 32 = .ok (.iaload, 1) := by decide +kernel
theorem dX0_copyPage_33 : decode cX0_copyPage 33 = .ok (.iastore, 1) := by decide +kernel
theorem dX0_copyPage_34 : decode cX0_copyPage 34 = .ok (.iinc 3 1, 3) := by decide +kernel
theorem dX0_copyPage_37 : decode cX0_copyPage 37 = .ok (.goto (-31), 3) := by decide +kernel
theorem dX0_copyPage_40 : decode cX0_copyPage 40 = .ok (.return_, 1) := by decide +kernel
set_option maxRecDepth 20000 in
theorem ggX0_endRound_J6_bitCount_0f7a4 : GoodIn wsX0_endRound wsJ6_bitCount_0f7a4 := goodIn_r _ [10, 11, 12, 13] (by decide +kernel) (by decide +kernel)
set_option maxRecDepth 20000 in
theorem gX0_endRound_J6_bitCount_0f7a4 : GoodIn wsX0_endRound (va_wsS RX0 72 yJ6_bitCount_0f7a4 wsJ6_bitCount_0f7a4) := goodIn_app (goodIn_of _ (by decide +kernel)) ggX0_endRound_J6_bitCount_0f7a4
theorem dX0_endRound_0 : decode cX0_endRound 0 = .ok (.aload_n 0, 1) := by decide +kernel
theorem dX0_endRound_1 : decode cX0_endRound 1 = .ok (.aload_n 0, 1) := by decide +kernel
theorem dX0_endRound_2 : decode cX0_endRound 2 = .ok (.getfield 41, 3) := by decide +kernel
theorem dX0_endRound_5 : decode cX0_endRound 5 = .ok (.putfield 44, 3) := by decide +kernel
theorem dX0_endRound_8 : decode cX0_endRound 8 = .ok (.aload_n 0, 1) := by decide +kernel
theorem dX0_endRound_9 : decode cX0_endRound 9 = .ok (.getfield 41, 3) := by decide +kernel
theorem dX0_endRound_12 : decode cX0_endRound 12 = .ok (.invokestatic 72, 3) := by decide +kernel
theorem dX0_endRound_15 : decode cX0_endRound 15 = .ok (.aload_n 0, 1) := by decide +kernel
theorem dX0_endRound_16 : decode cX0_endRound 16 = .ok (.getfield 35, 3) := by decide +kernel
theorem dX0_endRound_19 : decode cX0_endRound 19 = .ok (.if_icmp .le 14, 3) := by decide +kernel
theorem dX0_endRound_22 : decode cX0_endRound 22 = .ok (.aload_n 0, 1) := by decide +kernel
theorem dX0_endRound_23 : decode cX0_endRound 23 = .ok (.getfield 32, 3) := by decide +kernel
theorem dX0_endRound_26 : decode cX0_endRound 26 = .ok (.aload_n 0, 1) := by decide +kernel
theorem dX0_endRound_27 : decode cX0_endRound 27 = .ok (.getfield 38, 3) := by decide +kernel
theorem dX0_endRound_30 : decode cX0_endRound 30 = .ok (.if_icmp .ne 11, 3) := by decide +kernel
theorem dX0_endRound_33 : decode cX0_endRound 33 = .ok (.aload_n 0, 1) := by decide +kernel
theorem dX0_endRound_34 : decode cX0_endRound 34 = .ok (.iconst 2, 1) := by decide +kernel
theorem dX0_endRound_35 : decode cX0_endRound 35 = .ok (.putfield 29, 3) := by decide +kernel
theorem dX0_endRound_38 : decode cX0_endRound 38 = .ok (.bipush 33, 2) := by decide +kernel
theorem dX0_endRound_40 : decode cX0_endRound 40 = .ok (.ireturn, 1) := by decide +kernel
theorem dX0_endRound_41 : decode cX0_endRound 41 = .ok (.aload_n 0, 1) := by decide +kernel
theorem dX0_endRound_42 : decode cX0_endRound 42 = .ok (.iconst 0, 1) := by decide +kernel
theorem dX0_endRound_43 : decode cX0_endRound 43 = .ok (.putfield 41, 3) := by decide +kernel
theorem dX0_endRound_46 : decode cX0_endRound 46 = .ok (.aload_n 0, 1) := by decide +kernel
theorem dX0_endRound_47 : decode cX0_endRound 47 = .ok (.dup, 1) := by decide +kernel
theorem dX0_endRound_48 : decode cX0_endRound 48 = .ok (.getfield 32, 3) := by decide +kernel
theorem dX0_endRound_51 : decode cX0_endRound 51 = .ok (.iconst 1, 1) := by decide +kernel
theorem dX0_endRound_52 : decode cX0_endRound 52 = .ok (.iadd, 1) := by decide +kernel
theorem dX0_endRound_53 : decode cX0_endRound 53 = .ok (.putfield 32, 3) := by decide +kernel
theorem dX0_endRound_56 : decode cX0_endRound 56 = .ok (.bipush 32, 2) := by decide +kernel
theorem dX0_endRound_58 : decode cX0_endRound 58 = .ok (.ireturn, 1) := by decide +kernel
set_option maxRecDepth 20000 in
theorem ggX0_guestStep_X0_readWord : GoodIn wsX0_guestStep wsX0_readWord := goodIn_r _ [7, 8, 9, 10, 22, 23, 24, 25, 26, 27, 28, 29, 30, 31, 32, 33] (by decide +kernel) (by decide +kernel)
set_option maxRecDepth 20000 in
theorem gX0_guestStep_X0_readWord : GoodIn wsX0_guestStep (wsV RX0 78 RX0 yX0_readWord wsX0_readWord) := goodIn_app (goodIn_of _ (by decide +kernel)) ggX0_guestStep_X0_readWord
set_option maxRecDepth 20000 in
theorem ggX0_guestStep_X0_writeWord : GoodIn wsX0_guestStep wsX0_writeWord := goodIn_r _ [14, 8, 9, 10, 15, 22, 23, 24, 25, 26, 27, 28, 29, 30, 31, 32, 33] (by decide +kernel) (by decide +kernel)
set_option maxRecDepth 20000 in
theorem gX0_guestStep_X0_writeWord : GoodIn wsX0_guestStep (wsV RX0 81 RX0 yX0_writeWord wsX0_writeWord) := goodIn_app (goodIn_of _ (by decide +kernel)) ggX0_guestStep_X0_writeWord
set_option maxRecDepth 20000 in
theorem ggX0_guestStep_X0_show : GoodIn wsX0_guestStep wsX0_show := goodIn_r _ [19, 20, 21, 22, 23, 24, 25, 26, 27, 28, 29, 30, 31, 32, 33] (by decide +kernel) (by decide +kernel)
set_option maxRecDepth 20000 in
theorem gX0_guestStep_X0_show : GoodIn wsX0_guestStep (wsV RX0 85 RX0 yX0_show wsX0_show) := goodIn_app (goodIn_of _ (by decide +kernel)) ggX0_guestStep_X0_show
theorem dX0_guestStep_0 : decode cX0_guestStep 0 = .ok (.aload_n 0, 1) := by decide +kernel
theorem dX0_guestStep_1 : decode cX0_guestStep 1 = .ok (.aload_n 0, 1) := by decide +kernel
theorem dX0_guestStep_2 : decode cX0_guestStep 2 = .ok (.getfield 22, 3) := by decide +kernel
theorem dX0_guestStep_5 : decode cX0_guestStep 5 = .ok (.invokevirtual 78, 3) := by decide +kernel
theorem dX0_guestStep_8 : decode cX0_guestStep 8 = .ok (.istore_n 1, 1) := by decide +kernel
theorem dX0_guestStep_9 : decode cX0_guestStep 9 = .ok (.iload_n 1, 1) := by decide +kernel
theorem dX0_guestStep_10 : decode cX0_guestStep 10 = .ok (.iconst 3, 1) := by decide +kernel
theorem dX0_guestStep_11 : decode cX0_guestStep 11 = .ok (.ishr, 1) := by decide +kernel
theorem dX0_guestStep_12 : decode cX0_guestStep 12 = .ok (.iconst 3, 1) := by decide +kernel
theorem dX0_guestStep_13 : decode cX0_guestStep 13 = .ok (.iand, 1) := by decide +kernel
theorem dX0_guestStep_14 : decode cX0_guestStep 14 = .ok (.istore_n 2, 1) := by decide +kernel
theorem dX0_guestStep_15 : decode cX0_guestStep 15 = .ok (.iload_n 1, 1) := by decide +kernel
theorem dX0_guestStep_16 : decode cX0_guestStep 16 = .ok (.iconst 5, 1) := by decide +kernel
theorem dX0_guestStep_17 : decode cX0_guestStep 17 = .ok (.ishr, 1) := by decide +kernel
theorem dX0_guestStep_18 : decode cX0_guestStep 18 = .ok (.iconst 3, 1) := by decide +kernel
theorem dX0_guestStep_19 : decode cX0_guestStep 19 = .ok (.iand, 1) := by decide +kernel
theorem dX0_guestStep_20 : decode cX0_guestStep 20 = .ok (.istore_n 3, 1) := by decide +kernel
theorem dX0_guestStep_21 : decode cX0_guestStep 21 = .ok (.iload_n 1, 1) := by decide +kernel
theorem dX0_guestStep_22 : decode cX0_guestStep 22 = .ok (.bipush 7, 2) := by decide +kernel
theorem dX0_guestStep_24 : decode cX0_guestStep 24 = .ok (.ishr, 1) := by decide +kernel
theorem dX0_guestStep_25 : decode cX0_guestStep 25 = .ok (.bipush 127, 2) := by decide +kernel
theorem dX0_guestStep_27 : decode cX0_guestStep 27 = .ok (.iand, 1) := by decide +kernel
theorem dX0_guestStep_28 : decode cX0_guestStep 28 = .ok (.istore 4, 2) := by decide +kernel
theorem dX0_guestStep_30 : decode cX0_guestStep 30 = .ok (.aload_n 0, 1) := by decide +kernel
theorem dX0_guestStep_31 : decode cX0_guestStep 31 = .ok (.getfield 22, 3) := by decide +kernel
theorem dX0_guestStep_34 : decode cX0_guestStep 34 = .ok (.iconst 1, 1) := by decide +kernel
theorem dX0_guestStep_35 : decode cX0_guestStep 35 = .ok (.iadd, 1) := by decide +kernel
theorem dX0_guestStep_36 : decode cX0_guestStep 36 = .ok (.istore 5, 2) := by decide +kernel
theorem dX0_guestStep_38 : decode cX0_guestStep 38 = .ok (.iload_n 1, 1) := by decide +kernel
theorem dX0_guestStep_39 : decode cX0_guestStep 39 = .ok (.bipush 7, 2) := by decide +kernel
theorem dX0_guestStep_41 : decode cX0_guestStep 41 = .ok (.iand, 1) := by decide +kernel
theorem dX0_guestStep_42 : decode cX0_guestStep 42 = .ok (.tableswitch 171 0 6 #[42, 51, 62, 84, 106, 128, 150], 42) := by decide +kernel
theorem dX0_guestStep_84 : decode cX0_guestStep 84 = .ok (.aload_n 0, 1) := by decide +kernel
theorem dX0_guestStep_85 : decode cX0_guestStep 85 = .ok (.getfield 22, 3) := by decide +kernel
theorem dX0_guestStep_88 : decode cX0_guestStep 88 = .ok (.istore 5, 2) := by decide +kernel
theorem dX0_guestStep_90 : decode cX0_guestStep 90 = .ok (.goto 133, 3) := by decide +kernel
theorem dX0_guestStep_93 : decode cX0_guestStep 93 = .ok (.aload_n 0, 1) := by decide +kernel
theorem dX0_guestStep_94 : decode cX0_guestStep 94 = .ok (.getfield 16, 3) := by decide +kernel
theorem dX0_guestStep_97 : decode cX0_guestStep 97 = .ok (.iload_n 2, 1) := by decide +kernel
theorem dX0_guestStep_98 : decode cX0_guestStep 98 = .ok (.iload 4, 2) := by decide +kernel
theorem dX0_guestStep_100 : decode cX0_guestStep 100 = .ok (.iastore, 1) := by decide +kernel
theorem dX0_guestStep_101 : decode cX0_guestStep 101 = .ok (.goto 122, 3) := by decide +kernel
theorem dX0_guestStep_104 : decode cX0_guestStep 104 = .ok (.aload_n 0, 1) := by decide +kernel
theorem dX0_guestStep_105 : decode cX0_guestStep 105 = .ok (.getfield 16, 3) := by decide +kernel
theorem dX0_guestStep_108 : decode cX0_guestStep 108 = .ok (.iload_n 2, 1) := by decide +kernel
theorem dX0_guestStep_109 : decode cX0_guestStep 109 = .ok (.aload_n 0, 1) := by decide +kernel
theorem dX0_guestStep_110 : decode cX0_guestStep 110 = .ok (.aload_n 0, 1) := by decide +kernel
theorem dX0_guestStep_111 : decode cX0_guestStep 111 = .ok (.getfield 16, 3) := by decide +kernel
theorem dX0_guestStep_114 : decode cX0_guestStep 114 = .ok (.iload_n 3, 1) := by decide +kernel
theorem dX0_guestStep_115 : decode cX0_guestStep 115 = .ok (.iaload, 1) := by decide +kernel
theorem dX0_guestStep_116 : decode cX0_guestStep 116 = .ok (.iload 4, 2) := by decide +kernel
theorem dX0_guestStep_118 : decode cX0_guestStep 118 = .ok (.iadd, 1) := by decide +kernel
theorem dX0_guestStep_119 : decode cX0_guestStep 119 = .ok (.invokevirtual 78, 3) := by decide +kernel
theorem dX0_guestStep_122 : decode cX0_guestStep 122 = .ok (.iastore, 1) := by decide +kernel
theorem dX0_guestStep_123 : decode cX0_guestStep 123 = .ok (.goto 100, 3) := by decide +kernel
theorem dX0_guestStep_126 : decode cX0_guestStep 126 = .ok (.aload_n 0, 1) := by decide +kernel
theorem dX0_guestStep_127 : decode cX0_guestStep 127 = .ok (.aload_n 0, 1) := by decide +kernel
theorem dX0_guestStep_128 : decode cX0_guestStep 128 = .ok (.getfield 16, 3) := by decide +kernel
theorem dX0_guestStep_131 : decode cX0_guestStep 131 = .ok (.iload_n 3, 1) := by decide +kernel
theorem dX0_guestStep_132 : decode cX0_guestStep 132 = .ok (.iaload, 1) := by decide +kernel
theorem dX0_guestStep_133 : decode cX0_guestStep 133 = .ok (.iload 4, 2) := by decide +kernel
theorem dX0_guestStep_135 : decode cX0_guestStep 135 = .ok (.iadd, 1) := by decide +kernel
theorem dX0_guestStep_136 : decode cX0_guestStep 136 = .ok (.aload_n 0, 1) := by decide +kernel
theorem dX0_guestStep_137 : decode cX0_guestStep 137 = .ok (.getfield 16, 3) := by decide +kernel
theorem dX0_guestStep_140 : decode cX0_guestStep 140 = .ok (.iload_n 2, 1) := by decide +kernel
theorem dX0_guestStep_141 : decode cX0_guestStep 141 = .ok (.iaload, 1) := by decide +kernel
theorem dX0_guestStep_142 : decode cX0_guestStep 142 = .ok (.invokevirtual 81, 3) := by decide +kernel
theorem dX0_guestStep_145 : decode cX0_guestStep 145 = .ok (.goto 78, 3) := by decide +kernel
theorem dX0_guestStep_148 : decode cX0_guestStep 148 = .ok (.aload_n 0, 1) := by decide +kernel
theorem dX0_guestStep_149 : decode cX0_guestStep 149 = .ok (.getfield 16, 3) := by decide +kernel
theorem dX0_guestStep_152 : decode cX0_guestStep 152 = .ok (.iload_n 2, 1) := by decide +kernel
theorem dX0_guestStep_153 : decode cX0_guestStep 153 = .ok (.aload_n 0, 1) := by decide +kernel
theorem dX0_guestStep_154 : decode cX0_guestStep 154 = .ok (.getfield 16, 3) := by decide +kernel
theorem dX0_guestStep_157 : decode cX0_guestStep 157 = .ok (.iload_n 2, 1) := by decide +kernel
theorem dX0_guestStep_158 : decode cX0_guestStep 158 = .ok (.iaload, 1) := by decide +kernel
theorem dX0_guestStep_159 : decode cX0_guestStep 159 = .ok (.aload_n 0, 1) := by decide +kernel
theorem dX0_guestStep_160 : decode cX0_guestStep 160 = .ok (.getfield 16, 3) := by decide +kernel
theorem dX0_guestStep_163 : decode cX0_guestStep 163 = .ok (.iload_n 3, 1) := by decide +kernel
theorem dX0_guestStep_164 : decode cX0_guestStep 164 = .ok (.iaload, 1) := by decide +kernel
theorem dX0_guestStep_165 : decode cX0_guestStep 165 = .ok (.iadd, 1) := by decide +kernel
theorem dX0_guestStep_166 : decode cX0_guestStep 166 = .ok (.iastore, 1) := by decide +kernel
theorem dX0_guestStep_167 : decode cX0_guestStep 167 = .ok (.goto 56, 3) := by decide +kernel
theorem dX0_guestStep_170 : decode cX0_guestStep 170 = .ok (.aload_n 0, 1) := by decide +kernel
theorem dX0_guestStep_171 : decode cX0_guestStep 171 = .ok (.getfield 16, 3) := by decide +kernel
theorem dX0_guestStep_174 : decode cX0_guestStep 174 = .ok (.iload_n 2, 1) := by decide +kernel
theorem dX0_guestStep_175 : decode cX0_guestStep 175 = .ok (.aload_n 0, 1) := by decide +kernel
theorem dX0_guestStep_176 : decode cX0_guestStep 176 = .ok (.getfield 16, 3) := by decide +kernel
theorem dX0_guestStep_179 : decode cX0_guestStep 179 = .ok (.iload_n 2, 1) := by decide +kernel
theorem dX0_guestStep_180 : decode cX0_guestStep 180 = .ok (.iaload, 1) := by decide +kernel
theorem dX0_guestStep_181 : decode cX0_guestStep 181 = .ok (.aload_n 0, 1) := by decide +kernel
theorem dX0_guestStep_182 : decode cX0_guestStep 182 = .ok (.getfield 16, 3) := by decide +kernel
theorem dX0_guestStep_185 : decode cX0_guestStep 185 = .ok (.iload_n 3, 1) := by decide +kernel
theorem dX0_guestStep_186 : decode cX0_guestStep 186 = .ok (.iaload, 1) := by decide +kernel
theorem dX0_guestStep_187 : decode cX0_guestStep 187 = .ok (.isub, 1) := by decide +kernel
theorem dX0_guestStep_188 : decode cX0_guestStep 188 = .ok (.iastore, 1) := by decide +kernel
theorem dX0_guestStep_189 : decode cX0_guestStep 189 = .ok (.goto 34, 3) := by decide +kernel
theorem dX0_guestStep_192 : decode cX0_guestStep 192 = .ok (.aload_n 0, 1) := by decide +kernel
theorem dX0_guestStep_193 : decode cX0_guestStep 193 = .ok (.getfield 16, 3) := by decide +kernel
theorem dX0_guestStep_196 : decode cX0_guestStep 196 = .ok (.iload_n 2, 1) := by decide +kernel
theorem dX0_guestStep_197 : decode cX0_guestStep 197 = .ok (.iaload, 1) := by decide +kernel
theorem dX0_guestStep_198 : decode cX0_guestStep 198 = .ok (.ifCond .eq 8, 3) := by decide +kernel
theorem dX0_guestStep_201 : decode cX0_guestStep 201 = .ok (.iload 4, 2) := by decide +kernel
theorem dX0_guestStep_203 : decode cX0_guestStep 203 = .ok (.goto 5, 3) := by decide +kernel
theorem dX0_guestStep_206 : decode cX0_guestStep 206 = .ok (.iload 5, 2) := by decide +kernel
theorem dX0_guestStep_208 : decode cX0_guestStep 208 = .ok (.istore 5, 2) := by decide +kernel
theorem dX0_guestStep_210 : decode cX0_guestStep 210 = .ok (.goto 13, 3) := by decide +kernel
theorem dX0_guestStep_213 : decode cX0_guestStep 213 = .ok (.aload_n 0, 1) := by decide +kernel
theorem dX0_guestStep_214 : decode cX0_guestStep 214 = .ok (.aload_n 0, 1) := by decide +kernel
theorem dX0_guestStep_215 : decode cX0_guestStep 215 = .ok (.getfield 16, 3) := by decide +kernel
theorem dX0_guestStep_218 : decode cX0_guestStep 218 = .ok (.iload_n 2, 1) := by decide +kernel
theorem dX0_guestStep_219 : decode cX0_guestStep 219 = .ok (.iaload, 1) := by decide +kernel
theorem dX0_guestStep_220 : decode cX0_guestStep 220 = .ok (.invokevirtual 85, 3) := by decide +kernel
theorem dX0_guestStep_223 : decode cX0_guestStep 223 = .ok (.aload_n 0, 1) := by decide +kernel
theorem dX0_guestStep_224 : decode cX0_guestStep 224 = .ok (.iload 5, 2) := by decide +kernel
theorem dX0_guestStep_226 : decode cX0_guestStep 226 = .ok (.bipush 63, 2) := by decide +kernel
theorem dX0_guestStep_228 : decode cX0_guestStep 228 = .ok (.iand, 1) := by decide +kernel
theorem dX0_guestStep_229 : decode cX0_guestStep 229 = .ok (.putfield 22, 3) := by decide +kernel
theorem dX0_guestStep_232 : decode cX0_guestStep 232 = .ok (.return_, 1) := by decide +kernel
theorem dX0_readWord_0 : decode cX0_readWord 0 = .ok (.iload_n 1, 1) := by decide +kernel
theorem dX0_readWord_1 : decode cX0_readWord 1 = .ok (.bipush 63, 2) := by decide +kernel
theorem dX0_readWord_3 : decode cX0_readWord 3 = .ok (.iand, 1) := by decide +kernel
theorem dX0_readWord_4 : decode cX0_readWord 4 = .ok (.istore_n 2, 1) := by decide +kernel
theorem dX0_readWord_5 : decode cX0_readWord 5 = .ok (.aload_n 0, 1) := by decide +kernel
theorem dX0_readWord_6 : decode cX0_readWord 6 = .ok (.getfield 29, 3) := by decide +kernel
theorem dX0_readWord_9 : decode cX0_readWord 9 = .ok (.iconst 3, 1) := by decide +kernel
theorem dX0_readWord_10 : decode cX0_readWord 10 = .ok (.if_icmp .ne 12, 3) := by decide +kernel
theorem dX0_readWord_13 : decode cX0_readWord 13 = .ok (.aload_n 0, 1) := by decide +kernel
theorem dX0_readWord_14 : decode cX0_readWord 14 = .ok (.getfield 13, 3) := by decide +kernel
theorem dX0_readWord_17 : decode cX0_readWord 17 = .ok (.iload_n 2, 1) := by decide +kernel
theorem dX0_readWord_18 : decode cX0_readWord 18 = .ok (.iaload, 1) := by decide +kernel
theorem dX0_readWord_19 : decode cX0_readWord 19 = .ok (.goto 9, 3) := by decide +kernel
theorem dX0_readWord_22 : decode cX0_readWord 22 = .ok (.aload_n 0, 1) := by decide +kernel
theorem dX0_readWord_23 : decode cX0_readWord 23 = .ok (.getfield 9, 3) := by decide +kernel
theorem dX0_readWord_26 : decode cX0_readWord 26 = .ok (.iload_n 2, 1) := by decide +kernel
theorem dX0_readWord_27 : decode cX0_readWord 27 = .ok (.iaload, 1) := by decide +kernel
theorem dX0_readWord_28 : decode cX0_readWord 28 = .ok (.ireturn, 1) := by decide +kernel
theorem dX0_writeWord_0 : decode cX0_writeWord 0 = .ok (.iload_n 1, 1) := by decide +kernel
theorem dX0_writeWord_1 : decode cX0_writeWord 1 = .ok (.bipush 63, 2) := by decide +kernel
theorem dX0_writeWord_3 : decode cX0_writeWord 3 = .ok (.iand, 1) := by decide +kernel
theorem dX0_writeWord_4 : decode cX0_writeWord 4 = .ok (.istore_n 3, 1) := by decide +kernel
theorem dX0_writeWord_5 : decode cX0_writeWord 5 = .ok (.aload_n 0, 1) := by decide +kernel
theorem dX0_writeWord_6 : decode cX0_writeWord 6 = .ok (.getfield 29, 3) := by decide +kernel
theorem dX0_writeWord_9 : decode cX0_writeWord 9 = .ok (.iconst 3, 1) := by decide +kernel
theorem dX0_writeWord_10 : decode cX0_writeWord 10 = .ok (.if_icmp .ne 11, 3) := by decide +kernel
theorem dX0_writeWord_13 : decode cX0_writeWord 13 = .ok (.aload_n 0, 1) := by decide +kernel
theorem dX0_writeWord_14 : decode cX0_writeWord 14 = .ok (.getfield 13, 3) := by decide +kernel
theorem dX0_writeWord_17 : decode cX0_writeWord 17 = .ok (.iload_n 3, 1) := by decide +kernel
theorem dX0_writeWord_18 : decode cX0_writeWord 18 = .ok (.iload_n 2, 1) := by decide +kernel
theorem dX0_writeWord_19 : decode cX0_writeWord 19 = .ok (.iastore, 1) := by decide +kernel
theorem dX0_writeWord_20 : decode cX0_writeWord 20 = .ok (.return_, 1) := by decide +kernel
theorem dX0_writeWord_21 : decode cX0_writeWord 21 = .ok (.aload_n 0, 1) := by decide +kernel
theorem dX0_writeWord_22 : decode cX0_writeWord 22 = .ok (.getfield 9, 3) := by decide +kernel
theorem dX0_writeWord_25 : decode cX0_writeWord 25 = .ok (.iload_n 3, 1) := by decide +kernel
theorem dX0_writeWord_26 : decode cX0_writeWord 26 = .ok (.iload_n 2, 1) := by decide +kernel
theorem dX0_writeWord_27 : decode cX0_writeWord 27 = .ok (.iastore, 1) := by decide +kernel
theorem dX0_writeWord_28 : decode cX0_writeWord 28 = .ok (.aload_n 0, 1) := by decide +kernel
theorem dX0_writeWord_29 : decode cX0_writeWord 29 = .ok (.getfield 29, 3) := by decide +kernel
theorem dX0_writeWord_32 : decode cX0_writeWord 32 = .ok (.iconst 1, 1) := by decide +kernel
theorem dX0_writeWord_33 : decode cX0_writeWord 33 = .ok (.if_icmp .ne 17, 3) := by decide +kernel
theorem dX0_writeWord_36 : decode cX0_writeWord 36 = .ok (.aload_n 0, 1) := by decide +kernel
theorem dX0_writeWord_37 : decode cX0_writeWord 37 = .ok (.dup, 1) := by decide +kernel
theorem dX0_writeWord_38 : decode cX0_writeWord 38 = .ok (.getfield 41, 3) := by decide +kernel
theorem dX0_writeWord_41 : decode cX0_writeWord 41 = .ok (.iconst 1, 1) := by decide +kernel
theorem dX0_writeWord_42 : decode cX0_writeWord 42 = .ok (.iload_n 3, 1) := by decide +kernel
theorem dX0_writeWord_43 : decode cX0_writeWord 43 = .ok (.iconst 3, 1) := by decide +kernel
theorem dX0_writeWord_44 : decode cX0_writeWord 44 = .ok (.ishr, 1) := by decide +kernel
theorem dX0_writeWord_45 : decode cX0_writeWord 45 = .ok (.ishl, 1) := by decide +kernel
theorem dX0_writeWord_46 : decode cX0_writeWord 46 = .ok (.ior, 1) := by decide +kernel
theorem dX0_writeWord_47 : decode cX0_writeWord 47 = .ok (.putfield 41, 3) := by decide +kernel
theorem dX0_writeWord_50 : decode cX0_writeWord 50 = .ok (.return_, 1) := by decide +kernel
theorem dX0_show_0 : decode cX0_show 0 = .ok (.aload_n 0, 1) := by decide +kernel
theorem dX0_show_1 : decode cX0_show 1 = .ok (.getfield 19, 3) := by decide +kernel
theorem dX0_show_4 : decode cX0_show 4 = .ok (.aload_n 0, 1) := by decide +kernel
theorem dX0_show_5 : decode cX0_show 5 = .ok (.getfield 26, 3) := by decide +kernel
theorem dX0_show_8 : decode cX0_show 8 = .ok (.bipush 7, 2) := by decide +kernel
theorem dX0_show_10 : decode cX0_show 10 = .ok (.iand, 1) := by decide +kernel
theorem dX0_show_11 : decode cX0_show 11 = .ok (.iload_n 1, 1) := by decide +kernel
theorem dX0_show_12 : decode cX0_show 12 = .ok (.iastore, 1) := by decide +kernel
theorem dX0_show_13 : decode cX0_show 13 = .ok (.aload_n 0, 1) := by decide +kernel
theorem dX0_show_14 : decode cX0_show 14 = .ok (.dup, 1) := by decide +kernel
theorem dX0_show_15 : decode cX0_show 15 = .ok (.getfield 26, 3) := by decide +kernel
theorem dX0_show_18 : decode cX0_show 18 = .ok (.iconst 1, 1) := by decide +kernel
theorem dX0_show_19 : decode cX0_show 19 = .ok (.iadd, 1) := by decide +kernel
theorem dX0_show_20 : decode cX0_show 20 = .ok (.putfield 26, 3) := by decide +kernel
theorem dX0_show_23 : decode cX0_show 23 = .ok (.return_, 1) := by decide +kernel
