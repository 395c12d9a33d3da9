/-! Of the printed rows those that are used. -/
theorem q_gcons {big b : List Cond} {c : Cond} (hc : GoodIn big [c]) (hb : GoodIn big b) : GoodIn big (c :: b) := fun w h => (List.mem_cons.mp h).elim (fun e => hc w (by rw [e]; exact List.mem_cons_self)) (hb w)
theorem dX0_init_0 : decode cX0_init 0 = .ok (.aload_n 0, 1) := by decide +kernel
theorem dX0_init_1 : decode cX0_init 1 = .ok (.invokespecial 3, 3) := by decide +kernel
theorem dX0_init_4 : decode cX0_init 4 = .ok (.aload_n 0, 1) := by decide +kernel
theorem dX0_init_5 : decode cX0_init 5 = .ok (.iconst 2, 1) := by decide +kernel
theorem dX0_init_6 : decode cX0_init 6 = .ok (.bipush 8, 2) := by decide +kernel
theorem dX0_init_8 : decode cX0_init 8 = .ok (.iload_n 1, 1) := by decide +kernel
theorem dX0_init_9 : decode cX0_init 9 = .ok (.invokestatic 9, 3) := by decide +kernel
theorem dX0_init_12 : decode cX0_init 12 = .ok (.invokestatic 15, 3) := by decide +kernel
theorem dX0_init_15 : decode cX0_init 15 = .ok (.putfield 18, 3) := by decide +kernel
theorem dX0_init_18 : decode cX0_init 18 = .ok (.aload_n 0, 1) := by decide +kernel
theorem dX0_init_19 : decode cX0_init 19 = .ok (.iconst 2, 1) := by decide +kernel
theorem dX0_init_20 : decode cX0_init 20 = .ok (.bipush 8, 2) := by decide +kernel
theorem dX0_init_22 : decode cX0_init 22 = .ok (.iload_n 2, 1) := by decide +kernel
theorem dX0_init_23 : decode cX0_init 23 = .ok (.invokestatic 9, 3) := by decide +kernel
theorem dX0_init_26 : decode cX0_init 26 = .ok (.invokestatic 15, 3) := by decide +kernel
theorem dX0_init_29 : decode cX0_init 29 = .ok (.putfield 24, 3) := by decide +kernel
theorem dX0_init_32 : decode cX0_init 32 = .ok (.aload_n 0, 1) := by decide +kernel
theorem dX0_init_33 : decode cX0_init 33 = .ok (.bipush 64, 2) := by decide +kernel
theorem dX0_init_35 : decode cX0_init 35 = .ok (.newarray .int, 2) := by decide +kernel
theorem dX0_init_37 : decode cX0_init 37 = .ok (.putfield 27, 3) := by decide +kernel
theorem dX0_init_40 : decode cX0_init 40 = .ok (.aload_n 0, 1) := by decide +kernel
theorem dX0_init_41 : decode cX0_init 41 = .ok (.bipush 64, 2) := by decide +kernel
theorem dX0_init_43 : decode cX0_init 43 = .ok (.newarray .int, 2) := by decide +kernel
theorem dX0_init_45 : decode cX0_init 45 = .ok (.putfield 31, 3) := by decide +kernel
theorem dX0_init_48 : decode cX0_init 48 = .ok (.aload_n 0, 1) := by decide +kernel
theorem dX0_init_49 : decode cX0_init 49 = .ok (.bipush 8, 2) := by decide +kernel
theorem dX0_init_51 : decode cX0_init 51 = .ok (.newarray .boolean, 2) := by decide +kernel
theorem dX0_init_53 : decode cX0_init 53 = .ok (.putfield 34, 3) := by decide +kernel
theorem dX0_init_56 : decode cX0_init 56 = .ok (.return_, 1) := by decide +kernel
theorem dX0_numberOf_0 : decode cX0_numberOf 0 = .ok (.iload_n 1, 1) := by decide +kernel
theorem dX0_numberOf_1 : decode cX0_numberOf 1 = .ok (.ifCond .lt 27, 3) := by decide +kernel
theorem dX0_numberOf_4 : decode cX0_numberOf 4 = .ok (.iload_n 1, 1) := by decide +kernel
theorem dX0_numberOf_5 : decode cX0_numberOf 5 = .ok (.aload_n 0, 1) := by decide +kernel
theorem dX0_numberOf_6 : decode cX0_numberOf 6 = .ok (.getfield 18, 3) := by decide +kernel
theorem dX0_numberOf_9 : decode cX0_numberOf 9 = .ok (.if_icmp .ge 19, 3) := by decide +kernel
theorem dX0_numberOf_12 : decode cX0_numberOf 12 = .ok (.iload_n 2, 1) := by decide +kernel
theorem dX0_numberOf_13 : decode cX0_numberOf 13 = .ok (.ifCond .lt 15, 3) := by decide +kernel
theorem dX0_numberOf_16 : decode cX0_numberOf 16 = .ok (.iload_n 2, 1) := by decide +kernel
theorem dX0_numberOf_17 : decode cX0_numberOf 17 = .ok (.aload_n 0, 1) := by decide +kernel
theorem dX0_numberOf_18 : decode cX0_numberOf 18 = .ok (.getfield 24, 3) := by decide +kernel
theorem dX0_numberOf_21 : decode cX0_numberOf 21 = .ok (.if_icmp .ge 7, 3) := by decide +kernel
theorem dX0_numberOf_24 : decode cX0_numberOf 24 = .ok (.iconst 1, 1) := by decide +kernel
theorem dX0_numberOf_25 : decode cX0_numberOf 25 = .ok (.goto 4, 3) := by decide +kernel
theorem dX0_numberOf_28 : decode cX0_numberOf 28 = .ok (.iconst 0, 1) := by decide +kernel
theorem dX0_numberOf_29 : decode cX0_numberOf 29 = .ok (.istore_n 3, 1) := by decide +kernel
theorem dX0_numberOf_30 : decode cX0_numberOf 30 = .ok (.iload_n 3, 1) := by decide +kernel
theorem dX0_numberOf_31 : decode cX0_numberOf 31 = .ok (.ifCond .eq 12, 3) := by decide +kernel
theorem dX0_numberOf_34 : decode cX0_numberOf 34 = .ok (.bipush 8, 2) := by decide +kernel
theorem dX0_numberOf_36 : decode cX0_numberOf 36 = .ok (.iload_n 2, 1) := by decide +kernel
theorem dX0_numberOf_37 : decode cX0_numberOf 37 = .ok (.imul, 1) := by decide +kernel
theorem dX0_numberOf_38 : decode cX0_numberOf 38 = .ok (.iload_n 1, 1) := by decide +kernel
theorem dX0_numberOf_39 : decode cX0_numberOf 39 = .ok (.iadd, 1) := by decide +kernel
theorem dX0_numberOf_40 : decode cX0_numberOf 40 = .ok (.goto 4, 3) := by decide +kernel
theorem dX0_numberOf_43 : decode cX0_numberOf 43 = .ok (.iconst (-1), 1) := by decide +kernel
theorem dX0_numberOf_44 : decode cX0_numberOf 44 = .ok (.ireturn, 1) := by decide +kernel
theorem dX0_kindNow_0 : decode cX0_kindNow 0 = .ok (.iload_n 1, 1) := by decide +kernel
theorem dX0_kindNow_1 : decode cX0_kindNow 1 = .ok (.ifCond .lt 21, 3) := by decide +kernel
theorem dX0_kindNow_4 : decode cX0_kindNow 4 = .ok (.iload_n 1, 1) := by decide +kernel
theorem dX0_kindNow_5 : decode cX0_kindNow 5 = .ok (.bipush 64, 2) := by decide +kernel
theorem dX0_kindNow_7 : decode cX0_kindNow 7 = .ok (.if_icmp .ge 15, 3) := by decide +kernel
theorem dX0_kindNow_10 : decode cX0_kindNow 10 = .ok (.aload_n 0, 1) := by decide +kernel
theorem dX0_kindNow_11 : decode cX0_kindNow 11 = .ok (.getfield 34, 3) := by decide +kernel
theorem dX0_kindNow_14 : decode cX0_kindNow 14 = .ok (.iload_n 1, 1) := by decide +kernel
theorem dX0_kindNow_15 : decode cX0_kindNow 15 = .ok (.bipush 8, 2) := by decide +kernel
theorem dX0_kindNow_17 : decode cX0_kindNow 17 = .ok (.idiv, 1) := by decide +kernel
theorem dX0_kindNow_18 : decode cX0_kindNow 18 = .ok (.baload, 1) := by decide +kernel
theorem dX0_kindNow_19 : decode cX0_kindNow 19 = .ok (.ifCond .eq 5, 3) := by decide +kernel
theorem dX0_kindNow_22 : decode cX0_kindNow 22 = .ok (.iconst 0, 1) := by decide +kernel
theorem dX0_kindNow_23 : decode cX0_kindNow 23 = .ok (.ireturn, 1) := by decide +kernel
theorem dX0_kindNow_24 : decode cX0_kindNow 24 = .ok (.aload_n 0, 1) := by decide +kernel
theorem dX0_kindNow_25 : decode cX0_kindNow 25 = .ok (.getfield 27, 3) := by decide +kernel
theorem dX0_kindNow_28 : decode cX0_kindNow 28 = .ok (.iload_n 1, 1) := by decide +kernel
theorem dX0_kindNow_29 : decode cX0_kindNow 29 = .ok (.iaload, 1) := by decide +kernel
theorem dX0_kindNow_30 : decode cX0_kindNow 30 = .ok (.ireturn, 1) := by decide +kernel
set_option maxRecDepth 20000 in
theorem ggX0_lay_X8_isField : GoodIn wsX0_lay wsX8_isField := goodIn_r _ [5] (by decide +kernel) (by decide +kernel)
set_option maxRecDepth 20000 in
theorem gX0_lay_X8_isField_n38 : GoodIn wsX0_lay (wsX8_isField) := ggX0_lay_X8_isField
theorem dX0_lay_0 : decode cX0_lay 0 = .ok (.iload_n 1, 1) := by decide +kernel
theorem dX0_lay_1 : decode cX0_lay 1 = .ok (.invokestatic 38, 3) := by decide +kernel
theorem dX0_lay_4 : decode cX0_lay 4 = .ok (.ifCond .ne 5, 3) := by decide +kernel
theorem dX0_lay_9 : decode cX0_lay 9 = .ok (.aload_n 0, 1) := by decide +kernel
theorem dX0_lay_10 : decode cX0_lay 10 = .ok (.getfield 27, 3) := by decide +kernel
theorem dX0_lay_13 : decode cX0_lay 13 = .ok (.iload_n 1, 1) := by decide +kernel
theorem dX0_lay_14 : decode cX0_lay 14 = .ok (.iaload, 1) := by decide +kernel
theorem dX0_lay_15 : decode cX0_lay 15 = .ok (.istore 4, 2) := by decide +kernel
theorem dX0_lay_17 : decode cX0_lay 17 = .ok (.aload_n 0, 1) := by decide +kernel
theorem dX0_lay_18 : decode cX0_lay 18 = .ok (.getfield 27, 3) := by decide +kernel
theorem dX0_lay_21 : decode cX0_lay 21 = .ok (.iload_n 1, 1) := by decide +kernel
theorem dX0_lay_22 : decode cX0_lay 22 = .ok (.iload_n 2, 1) := by decide +kernel
theorem dX0_lay_23 : decode cX0_lay 23 = .ok (.iastore, 1) := by decide +kernel
theorem dX0_lay_24 : decode cX0_lay 24 = .ok (.aload_n 0, 1) := by decide +kernel
theorem dX0_lay_25 : decode cX0_lay 25 = .ok (.getfield 31, 3) := by decide +kernel
theorem dX0_lay_28 : decode cX0_lay 28 = .ok (.iload_n 1, 1) := by decide +kernel
theorem dX0_lay_29 : decode cX0_lay 29 = .ok (.iload_n 3, 1) := by decide +kernel
theorem dX0_lay_30 : decode cX0_lay 30 = .ok (.iastore, 1) := by decide +kernel
theorem dX0_lay_31 : decode cX0_lay 31 = .ok (.iload 4, 2) := by decide +kernel
theorem dX0_lay_33 : decode cX0_lay 33 = .ok (.ireturn, 1) := by decide +kernel
theorem dX0_letMiss_0 : decode cX0_letMiss 0 = .ok (.iload_n 1, 1) := by decide +kernel
theorem dX0_letMiss_1 : decode cX0_letMiss 1 = .ok (.ifCond .lt 9, 3) := by decide +kernel
theorem dX0_letMiss_4 : decode cX0_letMiss 4 = .ok (.iload_n 1, 1) := by decide +kernel
theorem dX0_letMiss_5 : decode cX0_letMiss 5 = .ok (.bipush 8, 2) := by decide +kernel
theorem dX0_letMiss_7 : decode cX0_letMiss 7 = .ok (.if_icmp .lt 5, 3) := by decide +kernel
theorem dX0_letMiss_12 : decode cX0_letMiss 12 = .ok (.aload_n 0, 1) := by decide +kernel
theorem dX0_letMiss_13 : decode cX0_letMiss 13 = .ok (.getfield 34, 3) := by decide +kernel
theorem dX0_letMiss_16 : decode cX0_letMiss 16 = .ok (.iload_n 1, 1) := by decide +kernel
theorem dX0_letMiss_17 : decode cX0_letMiss 17 = .ok (.baload, 1) := by decide +kernel
theorem dX0_letMiss_18 : decode cX0_letMiss 18 = .ok (.istore_n 3, 1) := by decide +kernel
theorem dX0_letMiss_19 : decode cX0_letMiss 19 = .ok (.aload_n 0, 1) := by decide +kernel
theorem dX0_letMiss_20 : decode cX0_letMiss 20 = .ok (.getfield 34, 3) := by decide +kernel
theorem dX0_letMiss_23 : decode cX0_letMiss 23 = .ok (.iload_n 1, 1) := by decide +kernel
theorem dX0_letMiss_24 : decode cX0_letMiss 24 = .ok (.iload_n 2, 1) := by decide +kernel
theorem dX0_letMiss_25 : decode cX0_letMiss 25 = .ok (.bastore, 1) := by decide +kernel
theorem dX0_letMiss_26 : decode cX0_letMiss 26 = .ok (.iload_n 3, 1) := by decide +kernel
theorem dX0_letMiss_27 : decode cX0_letMiss 27 = .ok (.ireturn, 1) := by decide +kernel
set_option maxRecDepth 20000 in
theorem ggX0_openFields_X0_kindNow : GoodIn wsX0_openFields wsX0_kindNow := goodIn_r _ [5, 6, 7, 8, 9, 10, 11, 12, 13] (by decide +kernel) (by decide +kernel)
set_option maxRecDepth 20000 in
theorem gX0_openFields_X0_kindNow : GoodIn wsX0_openFields (wsV RX0 54 RX0 yX0_kindNow wsX0_kindNow) := goodIn_app (goodIn_of _ (by decide +kernel)) ggX0_openFields_X0_kindNow
theorem dX0_openFields_0 : decode cX0_openFields 0 = .ok (.iconst 0, 1) := by decide +kernel
theorem dX0_openFields_1 : decode cX0_openFields 1 = .ok (.istore_n 1, 1) := by decide +kernel
theorem dX0_openFields_2 : decode cX0_openFields 2 = .ok (.iconst 0, 1) := by decide +kernel
theorem dX0_openFields_3 : decode cX0_openFields 3 = .ok (.istore_n 2, 1) := by decide +kernel
theorem dX0_openFields_4 : decode cX0_openFields 4 = .ok (.iload_n 2, 1) := by decide +kernel
theorem dX0_openFields_5 : decode cX0_openFields 5 = .ok (.bipush 64, 2) := by decide +kernel
theorem dX0_openFields_7 : decode cX0_openFields 7 = .ok (.if_icmp .ge 20, 3) := by decide +kernel
theorem dX0_openFields_10 : decode cX0_openFields 10 = .ok (.aload_n 0, 1) := by decide +kernel
theorem dX0_openFields_11 : decode cX0_openFields 11 = .ok (.iload_n 2, 1) := by decide +kernel
theorem dX0_openFields_12 : decode cX0_openFields 12 = .ok (.invokevirtual 54, 3) := by decide +kernel
theorem dX0_openFields_15 : decode cX0_openFields 15 = .ok (.ifCond .eq 6, 3) := by decide +kernel
theorem dX0_openFields_21 : decode cX0_openFields 21 = .ok (.iinc 2 1, 3) := by decide +kernel
theorem dX0_openFields_24 : decode cX0_openFields 24 = .ok (.goto (-20), 3) := by decide +kernel
theorem dX0_openFields_27 : decode cX0_openFields 27 = .ok (.iload_n 1, 1) := by decide +kernel
theorem dX0_openFields_28 : decode cX0_openFields 28 = .ok (.ireturn, 1) := by decide +kernel
set_option maxRecDepth 20000 in
theorem ggX0_isForMan_X0_kindNow : GoodIn wsX0_isForMan wsX0_kindNow := goodIn_r _ [5, 6, 7, 8, 9, 10, 11, 12, 13] (by decide +kernel) (by decide +kernel)
set_option maxRecDepth 20000 in
theorem gX0_isForMan_X0_kindNow : GoodIn wsX0_isForMan (wsV RX0 54 RX0 yX0_kindNow wsX0_kindNow) := goodIn_app (goodIn_of _ (by decide +kernel)) ggX0_isForMan_X0_kindNow
theorem dX0_isForMan_0 : decode cX0_isForMan 0 = .ok (.aload_n 0, 1) := by decide +kernel
theorem dX0_isForMan_1 : decode cX0_isForMan 1 = .ok (.iload_n 1, 1) := by decide +kernel
theorem dX0_isForMan_2 : decode cX0_isForMan 2 = .ok (.invokevirtual 54, 3) := by decide +kernel
theorem dX0_isForMan_5 : decode cX0_isForMan 5 = .ok (.istore_n 2, 1) := by decide +kernel
theorem dX0_isForMan_6 : decode cX0_isForMan 6 = .ok (.iload_n 2, 1) := by decide +kernel
theorem dX0_isForMan_7 : decode cX0_isForMan 7 = .ok (.ifCond .eq 12, 3) := by decide +kernel
theorem dX0_isForMan_19 : decode cX0_isForMan 19 = .ok (.iconst 0, 1) := by decide +kernel
theorem dX0_isForMan_20 : decode cX0_isForMan 20 = .ok (.ireturn, 1) := by decide +kernel
theorem dX1_init_0 : decode cX1_init 0 = .ok (.aload_n 0, 1) := by decide +kernel
theorem dX1_init_1 : decode cX1_init 1 = .ok (.invokespecial 3, 3) := by decide +kernel
theorem dX1_init_4 : decode cX1_init 4 = .ok (.aload_n 0, 1) := by decide +kernel
theorem dX1_init_5 : decode cX1_init 5 = .ok (.bipush 12, 2) := by decide +kernel
theorem dX1_init_7 : decode cX1_init 7 = .ok (.newarray .int, 2) := by decide +kernel
theorem dX1_init_9 : decode cX1_init 9 = .ok (.putfield 9, 3) := by decide +kernel
theorem dX1_init_12 : decode cX1_init 12 = .ok (.aload_n 0, 1) := by decide +kernel
theorem dX1_init_13 : decode cX1_init 13 = .ok (.sipush 4096, 3) := by decide +kernel
theorem dX1_init_16 : decode cX1_init 16 = .ok (.newarray .int, 2) := by decide +kernel
theorem dX1_init_18 : decode cX1_init 18 = .ok (.putfield 15, 3) := by decide +kernel
theorem dX1_init_21 : decode cX1_init 21 = .ok (.return_, 1) := by decide +kernel
theorem dX2_init_0 : decode cX2_init 0 = .ok (.aload_n 0, 1) := by decide +kernel
theorem dX2_init_1 : decode cX2_init 1 = .ok (.invokespecial 3, 3) := by decide +kernel
theorem dX2_init_4 : decode cX2_init 4 = .ok (.aload_n 0, 1) := by decide +kernel
theorem dX2_init_5 : decode cX2_init 5 = .ok (.bipush 64, 2) := by decide +kernel
theorem dX2_init_7 : decode cX2_init 7 = .ok (.newarray .int, 2) := by decide +kernel
theorem dX2_init_9 : decode cX2_init 9 = .ok (.putfield 9, 3) := by decide +kernel
theorem dX2_init_12 : decode cX2_init 12 = .ok (.aload_n 0, 1) := by decide +kernel
theorem dX2_init_13 : decode cX2_init 13 = .ok (.bipush 64, 2) := by decide +kernel
theorem dX2_init_15 : decode cX2_init 15 = .ok (.newarray .int, 2) := by decide +kernel
theorem dX2_init_17 : decode cX2_init 17 = .ok (.putfield 15, 3) := by decide +kernel
theorem dX2_init_20 : decode cX2_init 20 = .ok (.return_, 1) := by decide +kernel
set_option maxRecDepth 20000 in
theorem ggX2_isDead_X0_kindNow : GoodIn wsX2_isDead wsX0_kindNow := goodIn_r _ [7, 8, 9, 75, 76, 77, 78, 79, 80] (by decide +kernel) (by decide +kernel)
set_option maxRecDepth 20000 in
theorem gX2_isDead_X0_kindNow : GoodIn wsX2_isDead (wsV RX2 40 RX0 yX0_kindNow wsX0_kindNow) := goodIn_app (goodIn_of _ (by decide +kernel)) ggX2_isDead_X0_kindNow
theorem dX2_isDead_0 : decode cX2_isDead 0 = .ok (.aload_n 1, 1) := by decide +kernel
theorem dX2_isDead_1 : decode cX2_isDead 1 = .ok (.iload_n 2, 1) := by decide +kernel
theorem dX2_isDead_2 : decode cX2_isDead 2 = .ok (.invokevirtual 40, 3) := by decide +kernel
theorem dX2_isDead_5 : decode cX2_isDead 5 = .ok (.ifCond .ne 5, 3) := by decide +kernel
theorem dX2_isDead_8 : decode cX2_isDead 8 = .ok (.iconst 0, 1) := by decide +kernel
theorem dX2_isDead_9 : decode cX2_isDead 9 = .ok (.ireturn, 1) := by decide +kernel
theorem dX3_init_0 : decode cX3_init 0 = .ok (.aload_n 0, 1) := by decide +kernel
theorem dX3_init_1 : decode cX3_init 1 = .ok (.invokespecial 3, 3) := by decide +kernel
theorem dX3_init_4 : decode cX3_init 4 = .ok (.aload_n 0, 1) := by decide +kernel
theorem dX3_init_5 : decode cX3_init 5 = .ok (.iconst (-1), 1) := by decide +kernel
theorem dX3_init_6 : decode cX3_init 6 = .ok (.putfield 9, 3) := by decide +kernel
theorem dX3_init_9 : decode cX3_init 9 = .ok (.return_, 1) := by decide +kernel
theorem dX3_become_0 : decode cX3_become 0 = .ok (.aload_n 0, 1) := by decide +kernel
theorem dX3_become_1 : decode cX3_become 1 = .ok (.aload_n 1, 1) := by decide +kernel
theorem dX3_become_2 : decode cX3_become 2 = .ok (.getfield 9, 3) := by decide +kernel
theorem dX3_become_5 : decode cX3_become 5 = .ok (.putfield 9, 3) := by decide +kernel
theorem dX3_become_8 : decode cX3_become 8 = .ok (.aload_n 0, 1) := by decide +kernel
theorem dX3_become_9 : decode cX3_become 9 = .ok (.aload_n 1, 1) := by decide +kernel
theorem dX3_become_10 : decode cX3_become 10 = .ok (.getfield 15, 3) := by decide +kernel
theorem dX3_become_13 : decode cX3_become 13 = .ok (.putfield 15, 3) := by decide +kernel
theorem dX3_become_16 : decode cX3_become 16 = .ok (.aload_n 0, 1) := by decide +kernel
theorem dX3_become_17 : decode cX3_become 17 = .ok (.aload_n 1, 1) := by decide +kernel
theorem dX3_become_18 : decode cX3_become 18 = .ok (.getfield 19, 3) := by decide +kernel
theorem dX3_become_21 : decode cX3_become 21 = .ok (.putfield 19, 3) := by decide +kernel
theorem dX3_become_24 : decode cX3_become 24 = .ok (.aload_n 0, 1) := by decide +kernel
theorem dX3_become_25 : decode cX3_become 25 = .ok (.aload_n 1, 1) := by decide +kernel
theorem dX3_become_26 : decode cX3_become 26 = .ok (.getfield 22, 3) := by decide +kernel
theorem dX3_become_29 : decode cX3_become 29 = .ok (.putfield 22, 3) := by decide +kernel
theorem dX3_become_32 : decode cX3_become 32 = .ok (.return_, 1) := by decide +kernel
theorem dX3_hasMan_0 : decode cX3_hasMan 0 = .ok (.aload_n 0, 1) := by decide +kernel
theorem dX3_hasMan_1 : decode cX3_hasMan 1 = .ok (.getfield 9, 3) := by decide +kernel
theorem dX3_hasMan_4 : decode cX3_hasMan 4 = .ok (.iconst (-1), 1) := by decide +kernel
theorem dX3_hasMan_5 : decode cX3_hasMan 5 = .ok (.if_icmp .eq 7, 3) := by decide +kernel
theorem dX3_hasMan_12 : decode cX3_hasMan 12 = .ok (.iconst 0, 1) := by decide +kernel
theorem dX3_hasMan_13 : decode cX3_hasMan 13 = .ok (.ireturn, 1) := by decide +kernel
set_option maxRecDepth 20000 in
theorem ggX3_hasBarrel_X8_has : GoodIn wsX3_hasBarrel wsX8_has := goodIn_r _ [4, 5, 6, 3, 7] (by decide +kernel) (by decide +kernel)
set_option maxRecDepth 20000 in
theorem gX3_hasBarrel_X8_has_n25 : GoodIn wsX3_hasBarrel (wsX8_has) := ggX3_hasBarrel_X8_has
theorem dX3_hasBarrel_0 : decode cX3_hasBarrel 0 = .ok (.aload_n 0, 1) := by decide +kernel
theorem dX3_hasBarrel_1 : decode cX3_hasBarrel 1 = .ok (.getfield 15, 3) := by decide +kernel
theorem dX3_hasBarrel_4 : decode cX3_hasBarrel 4 = .ok (.iload_n 1, 1) := by decide +kernel
theorem dX3_hasBarrel_5 : decode cX3_hasBarrel 5 = .ok (.invokestatic 25, 3) := by decide +kernel
theorem dX3_hasBarrel_8 : decode cX3_hasBarrel 8 = .ok (.ireturn, 1) := by decide +kernel
set_option maxRecDepth 20000 in
theorem ggX3_isTaken_X3_hasBarrel : GoodIn wsX3_isTaken wsX3_hasBarrel := goodIn_r _ [6, 7, 8, 9, 10, 11, 12, 13, 14, 15, 16, 17] (by decide +kernel) (by decide +kernel)
set_option maxRecDepth 20000 in
theorem gX3_isTaken_X3_hasBarrel : GoodIn wsX3_isTaken (wsV RX3 29 RX3 yX3_hasBarrel wsX3_hasBarrel) := goodIn_app (goodIn_of _ (by decide +kernel)) ggX3_isTaken_X3_hasBarrel
theorem dX3_isTaken_0 : decode cX3_isTaken 0 = .ok (.aload_n 0, 1) := by decide +kernel
theorem dX3_isTaken_1 : decode cX3_isTaken 1 = .ok (.getfield 9, 3) := by decide +kernel
theorem dX3_isTaken_4 : decode cX3_isTaken 4 = .ok (.iload_n 1, 1) := by decide +kernel
theorem dX3_isTaken_5 : decode cX3_isTaken 5 = .ok (.if_icmp .eq 11, 3) := by decide +kernel
theorem dX3_isTaken_8 : decode cX3_isTaken 8 = .ok (.aload_n 0, 1) := by decide +kernel
theorem dX3_isTaken_9 : decode cX3_isTaken 9 = .ok (.iload_n 1, 1) := by decide +kernel
theorem dX3_isTaken_10 : decode cX3_isTaken 10 = .ok (.invokevirtual 29, 3) := by decide +kernel
theorem dX3_isTaken_13 : decode cX3_isTaken 13 = .ok (.ifCond .eq 7, 3) := by decide +kernel
theorem dX3_isTaken_20 : decode cX3_isTaken 20 = .ok (.iconst 0, 1) := by decide +kernel
theorem dX3_isTaken_21 : decode cX3_isTaken 21 = .ok (.ireturn, 1) := by decide +kernel
set_option maxRecDepth 20000 in
theorem ggX3_advance_X3_hasMan : GoodIn wsX3_advance wsX3_hasMan := goodIn_r _ [8, 1, 63, 64, 65, 66] (by decide +kernel) (by decide +kernel)
set_option maxRecDepth 20000 in
theorem gX3_advance_X3_hasMan : GoodIn wsX3_advance (wsV RX3 33 RX3 yX3_hasMan wsX3_hasMan) := goodIn_app (goodIn_of _ (by decide +kernel)) ggX3_advance_X3_hasMan
theorem dX3_advance_0 : decode cX3_advance 0 = .ok (.aload_n 0, 1) := by decide +kernel
theorem dX3_advance_1 : decode cX3_advance 1 = .ok (.invokevirtual 33, 3) := by decide +kernel
theorem dX3_advance_4 : decode cX3_advance 4 = .ok (.ifCond .eq 10, 3) := by decide +kernel
theorem dX3_advance_14 : decode cX3_advance 14 = .ok (.bipush (-2), 2) := by decide +kernel
theorem dX3_advance_16 : decode cX3_advance 16 = .ok (.ireturn, 1) := by decide +kernel
theorem dX3_advanceBy_0 : decode cX3_advanceBy 0 = .ok (.iconst 0, 1) := by decide +kernel
theorem dX3_advanceBy_1 : decode cX3_advanceBy 1 = .ok (.istore_n 3, 1) := by decide +kernel
theorem dX3_advanceBy_2 : decode cX3_advanceBy 2 = .ok (.iload_n 3, 1) := by decide +kernel
theorem dX3_advanceBy_3 : decode cX3_advanceBy 3 = .ok (.aload_n 2, 1) := by decide +kernel
theorem dX3_advanceBy_4 : decode cX3_advanceBy 4 = .ok (.getfield 54, 3) := by decide +kernel
theorem dX3_advanceBy_7 : decode cX3_advanceBy 7 = .ok (.if_icmp .ge 22, 3) := by decide +kernel
theorem dX3_advanceBy_29 : decode cX3_advanceBy 29 = .ok (.iload_n 3, 1) := by decide +kernel
theorem dX3_advanceBy_30 : decode cX3_advanceBy 30 = .ok (.ireturn, 1) := by decide +kernel
theorem dX4_init_0 : decode cX4_init 0 = .ok (.aload_n 0, 1) := by decide +kernel
theorem dX4_init_1 : decode cX4_init 1 = .ok (.invokespecial 5, 3) := by decide +kernel
theorem dX4_init_4 : decode cX4_init 4 = .ok (.aload_n 0, 1) := by decide +kernel
theorem dX4_init_5 : decode cX4_init 5 = .ok (.bipush 64, 2) := by decide +kernel
theorem dX4_init_7 : decode cX4_init 7 = .ok (.newarray .int, 2) := by decide +kernel
theorem dX4_init_9 : decode cX4_init 9 = .ok (.putfield 11, 3) := by decide +kernel
theorem dX4_init_12 : decode cX4_init 12 = .ok (.aload_n 0, 1) := by decide +kernel
theorem dX4_init_13 : decode cX4_init 13 = .ok (.bipush 120, 2) := by decide +kernel
theorem dX4_init_15 : decode cX4_init 15 = .ok (.newarray .int, 2) := by decide +kernel
theorem dX4_init_17 : decode cX4_init 17 = .ok (.putfield 15, 3) := by decide +kernel
theorem dX4_init_20 : decode cX4_init 20 = .ok (.aload_n 0, 1) := by decide +kernel
theorem dX4_init_21 : decode cX4_init 21 = .ok (.bipush 120, 2) := by decide +kernel
theorem dX4_init_23 : decode cX4_init 23 = .ok (.newarray .int, 2) := by decide +kernel
theorem dX4_init_25 : decode cX4_init 25 = .ok (.putfield 18, 3) := by decide +kernel
theorem dX4_init_28 : decode cX4_init 28 = .ok (.aload_n 0, 1) := by decide +kernel
theorem dX4_init_29 : decode cX4_init 29 = .ok (.bipush 30, 2) := by decide +kernel
theorem dX4_init_31 : decode cX4_init 31 = .ok (.newarray .boolean, 2) := by decide +kernel
theorem dX4_init_33 : decode cX4_init 33 = .ok (.putfield 21, 3) := by decide +kernel
theorem dX4_init_36 : decode cX4_init 36 = .ok (.aload_n 0, 1) := by decide +kernel
theorem dX4_init_37 : decode cX4_init 37 = .ok (.iconst 0, 1) := by decide +kernel
theorem dX4_init_38 : decode cX4_init 38 = .ok (.newarray .int, 2) := by decide +kernel
theorem dX4_init_40 : decode cX4_init 40 = .ok (.putfield 25, 3) := by decide +kernel
theorem dX4_init_43 : decode cX4_init 43 = .ok (.aload_n 0, 1) := by decide +kernel
theorem dX4_init_44 : decode cX4_init 44 = .ok (.iconst 0, 1) := by decide +kernel
theorem dX4_init_45 : decode cX4_init 45 = .ok (.newarray .int, 2) := by decide +kernel
theorem dX4_init_47 : decode cX4_init 47 = .ok (.putfield 28, 3) := by decide +kernel
theorem dX4_init_50 : decode cX4_init 50 = .ok (.aload_n 0, 1) := by decide +kernel
theorem dX4_init_51 : decode cX4_init 51 = .ok (.iconst 0, 1) := by decide +kernel
theorem dX4_init_52 : decode cX4_init 52 = .ok (.newarray .long, 2) := by decide +kernel
theorem dX4_init_54 : decode cX4_init 54 = .ok (.putfield 31, 3) := by decide +kernel
theorem dX4_init_57 : decode cX4_init 57 = .ok (.return_, 1) := by decide +kernel
theorem dX5_init_0 : decode cX5_init 0 = .ok (.aload_n 0, 1) := by decide +kernel
theorem dX5_init_1 : decode cX5_init 1 = .ok (.invokespecial 3, 3) := by decide +kernel
theorem dX5_init_4 : decode cX5_init 4 = .ok (.aload_n 0, 1) := by decide +kernel
theorem dX5_init_5 : decode cX5_init 5 = .ok (.sipush 513, 3) := by decide +kernel
theorem dX5_init_8 : decode cX5_init 8 = .ok (.newarray .int, 2) := by decide +kernel
theorem dX5_init_10 : decode cX5_init 10 = .ok (.putfield 9, 3) := by decide +kernel
theorem dX5_init_13 : decode cX5_init 13 = .ok (.aload_n 0, 1) := by decide +kernel
theorem dX5_init_14 : decode cX5_init 14 = .ok (.sipush 513, 3) := by decide +kernel
theorem dX5_init_17 : decode cX5_init 17 = .ok (.newarray .long, 2) := by decide +kernel
theorem dX5_init_19 : decode cX5_init 19 = .ok (.putfield 15, 3) := by decide +kernel
theorem dX5_init_22 : decode cX5_init 22 = .ok (.aload_n 0, 1) := by decide +kernel
theorem dX5_init_23 : decode cX5_init 23 = .ok (.sipush 513, 3) := by decide +kernel
theorem dX5_init_26 : decode cX5_init 26 = .ok (.newarray .int, 2) := by decide +kernel
theorem dX5_init_28 : decode cX5_init 28 = .ok (.putfield 19, 3) := by decide +kernel
theorem dX5_init_31 : decode cX5_init 31 = .ok (.aload_n 0, 1) := by decide +kernel
theorem dX5_init_32 : decode cX5_init 32 = .ok (.sipush 513, 3) := by decide +kernel
theorem dX5_init_35 : decode cX5_init 35 = .ok (.newarray .int, 2) := by decide +kernel
theorem dX5_init_37 : decode cX5_init 37 = .ok (.putfield 22, 3) := by decide +kernel
theorem dX5_init_40 : decode cX5_init 40 = .ok (.return_, 1) := by decide +kernel
theorem dX5_forget_0 : decode cX5_forget 0 = .ok (.aload_n 0, 1) := by decide +kernel
theorem dX5_forget_1 : decode cX5_forget 1 = .ok (.iconst 0, 1) := by decide +kernel
theorem dX5_forget_2 : decode cX5_forget 2 = .ok (.putfield 25, 3) := by decide +kernel
theorem dX5_forget_5 : decode cX5_forget 5 = .ok (.aload_n 0, 1) := by decide +kernel
theorem dX5_forget_6 : decode cX5_forget 6 = .ok (.iconst 0, 1) := by decide +kernel
theorem dX5_forget_7 : decode cX5_forget 7 = .ok (.putfield 29, 3) := by decide +kernel
theorem dX5_forget_10 : decode cX5_forget 10 = .ok (.return_, 1) := by decide +kernel
theorem dX5_goBack_0 : decode cX5_goBack 0 = .ok (.aload_n 0, 1) := by decide +kernel
theorem dX5_goBack_1 : decode cX5_goBack 1 = .ok (.getfield 25, 3) := by decide +kernel
theorem dX5_goBack_4 : decode cX5_goBack 4 = .ok (.ifCond .gt 6, 3) := by decide +kernel
theorem dX5_goBack_7 : decode cX5_goBack 7 = .ok (.bipush (-2), 2) := by decide +kernel
theorem dX5_goBack_9 : decode cX5_goBack 9 = .ok (.ireturn, 1) := by decide +kernel
theorem dX5_goForth_0 : decode cX5_goForth 0 = .ok (.aload_n 0, 1) := by decide +kernel
theorem dX5_goForth_1 : decode cX5_goForth 1 = .ok (.getfield 25, 3) := by decide +kernel
theorem dX5_goForth_4 : decode cX5_goForth 4 = .ok (.aload_n 0, 1) := by decide +kernel
theorem dX5_goForth_5 : decode cX5_goForth 5 = .ok (.getfield 29, 3) := by decide +kernel
theorem dX5_goForth_8 : decode cX5_goForth 8 = .ok (.if_icmp .lt 6, 3) := by decide +kernel
theorem dX5_goForth_11 : decode cX5_goForth 11 = .ok (.bipush (-2), 2) := by decide +kernel
theorem dX5_goForth_13 : decode cX5_goForth 13 = .ok (.ireturn, 1) := by decide +kernel
theorem dX6_init_0 : decode cX6_init 0 = .ok (.aload_n 0, 1) := by decide +kernel
theorem dX6_init_1 : decode cX6_init 1 = .ok (.invokespecial 3, 3) := by decide +kernel
theorem dX6_init_4 : decode cX6_init 4 = .ok (.aload_n 0, 1) := by decide +kernel
theorem dX6_init_5 : decode cX6_init 5 = .ok (.bipush 64, 2) := by decide +kernel
theorem dX6_init_7 : decode cX6_init 7 = .ok (.newarray .int, 2) := by decide +kernel
theorem dX6_init_9 : decode cX6_init 9 = .ok (.putfield 9, 3) := by decide +kernel
theorem dX6_init_12 : decode cX6_init 12 = .ok (.aload_n 0, 1) := by decide +kernel
theorem dX6_init_13 : decode cX6_init 13 = .ok (.bipush 64, 2) := by decide +kernel
theorem dX6_init_15 : decode cX6_init 15 = .ok (.newarray .int, 2) := by decide +kernel
theorem dX6_init_17 : decode cX6_init 17 = .ok (.putfield 15, 3) := by decide +kernel
theorem dX6_init_20 : decode cX6_init 20 = .ok (.return_, 1) := by decide +kernel
set_option maxRecDepth 20000 in
theorem ggX6_measure_J7_fill_53178 : GoodIn wsX6_measure wsJ7_fill_53178 := goodIn_r _ [8] (by decide +kernel) (by decide +kernel)
set_option maxRecDepth 20000 in
theorem gX6_measure_J7_fill_53178 : GoodIn wsX6_measure (va_wsS RX6 18 yJ7_fill_53178 wsJ7_fill_53178) := goodIn_app (goodIn_of _ (by decide +kernel)) ggX6_measure_J7_fill_53178
set_option maxRecDepth 20000 in
theorem ggX6_measure_X6_reach : GoodIn wsX6_measure wsX6_reach := goodIn_r _ [13, 1, 2, 4, 14, 15, 16, 58, 59, 60] (by decide +kernel) (by decide +kernel)
set_option maxRecDepth 20000 in
theorem gX6_measure_X6_reach : GoodIn wsX6_measure (wsV RX6 33 RX6 yX6_reach wsX6_reach) := goodIn_app (goodIn_of _ (by decide +kernel)) ggX6_measure_X6_reach
theorem dX6_measure_0 : decode cX6_measure 0 = .ok (.aload_n 0, 1) := by decide +kernel
theorem dX6_measure_1 : decode cX6_measure 1 = .ok (.getfield 9, 3) := by decide +kernel
theorem dX6_measure_4 : decode cX6_measure 4 = .ok (.iconst (-1), 1) := by decide +kernel
theorem dX6_measure_5 : decode cX6_measure 5 = .ok (.invokestatic 18, 3) := by decide +kernel
theorem dX6_measure_8 : decode cX6_measure 8 = .ok (.aload_n 0, 1) := by decide +kernel
theorem dX6_measure_9 : decode cX6_measure 9 = .ok (.iconst 0, 1) := by decide +kernel
theorem dX6_measure_10 : decode cX6_measure 10 = .ok (.putfield 24, 3) := by decide +kernel
theorem dX6_measure_13 : decode cX6_measure 13 = .ok (.aload_n 0, 1) := by decide +kernel
theorem dX6_measure_14 : decode cX6_measure 14 = .ok (.aload_n 2, 1) := by decide +kernel
theorem dX6_measure_15 : decode cX6_measure 15 = .ok (.getfield 28, 3) := by decide +kernel
theorem dX6_measure_18 : decode cX6_measure 18 = .ok (.iconst 0, 1) := by decide +kernel
theorem dX6_measure_19 : decode cX6_measure 19 = .ok (.invokevirtual 33, 3) := by decide +kernel
theorem dX6_measure_22 : decode cX6_measure 22 = .ok (.iconst 0, 1) := by decide +kernel
theorem dX6_measure_23 : decode cX6_measure 23 = .ok (.istore_n 3, 1) := by decide +kernel
theorem dX6_measure_24 : decode cX6_measure 24 = .ok (.iload_n 3, 1) := by decide +kernel
theorem dX6_measure_25 : decode cX6_measure 25 = .ok (.aload_n 0, 1) := by decide +kernel
theorem dX6_measure_26 : decode cX6_measure 26 = .ok (.getfield 24, 3) := by decide +kernel
theorem dX6_measure_29 : decode cX6_measure 29 = .ok (.if_icmp .ge 82, 3) := by decide +kernel
theorem dX6_measure_111 : decode cX6_measure 111 = .ok (.return_, 1) := by decide +kernel
set_option maxRecDepth 20000 in
theorem ggX6_reach_X8_isField : GoodIn wsX6_reach wsX8_isField := goodIn_r _ [6] (by decide +kernel) (by decide +kernel)
set_option maxRecDepth 20000 in
theorem gX6_reach_X8_isField_n55 : GoodIn wsX6_reach (wsX8_isField) := ggX6_reach_X8_isField
theorem dX6_reach_0 : decode cX6_reach 0 = .ok (.iload_n 1, 1) := by decide +kernel
theorem dX6_reach_1 : decode cX6_reach 1 = .ok (.invokestatic 55, 3) := by decide +kernel
theorem dX6_reach_4 : decode cX6_reach 4 = .ok (.ifCond .eq 49, 3) := by decide +kernel
theorem dX6_reach_53 : decode cX6_reach 53 = .ok (.return_, 1) := by decide +kernel
theorem dX7_init_0 : decode cX7_init 0 = .ok (.aload_n 0, 1) := by decide +kernel
theorem dX7_init_1 : decode cX7_init 1 = .ok (.invokespecial 3, 3) := by decide +kernel
theorem dX7_init_4 : decode cX7_init 4 = .ok (.aload_n 0, 1) := by decide +kernel
theorem dX7_init_5 : decode cX7_init 5 = .ok (.sipush 400, 3) := by decide +kernel
theorem dX7_init_8 : decode cX7_init 8 = .ok (.newarray .int, 2) := by decide +kernel
theorem dX7_init_10 : decode cX7_init 10 = .ok (.putfield 9, 3) := by decide +kernel
theorem dX7_init_13 : decode cX7_init 13 = .ok (.return_, 1) := by decide +kernel
set_option maxRecDepth 20000 in
theorem ggX7_wayAt_X7_isIn : GoodIn wsX7_wayAt wsX7_isIn := goodIn_r _ [6, 7, 1, 8, 9] (by decide +kernel) (by decide +kernel)
set_option maxRecDepth 20000 in
theorem gX7_wayAt_X7_isIn : GoodIn wsX7_wayAt (wsV RX7 15 RX7 yX7_isIn wsX7_isIn) := goodIn_app (goodIn_of _ (by decide +kernel)) ggX7_wayAt_X7_isIn
theorem dX7_wayAt_0 : decode cX7_wayAt 0 = .ok (.aload_n 0, 1) := by decide +kernel
theorem dX7_wayAt_1 : decode cX7_wayAt 1 = .ok (.iload_n 1, 1) := by decide +kernel
theorem dX7_wayAt_2 : decode cX7_wayAt 2 = .ok (.invokevirtual 15, 3) := by decide +kernel
theorem dX7_wayAt_5 : decode cX7_wayAt 5 = .ok (.ifCond .eq 12, 3) := by decide +kernel
theorem dX7_wayAt_17 : decode cX7_wayAt 17 = .ok (.bipush (-2), 2) := by decide +kernel
theorem dX7_wayAt_19 : decode cX7_wayAt 19 = .ok (.ireturn, 1) := by decide +kernel
theorem dX7_append_0 : decode cX7_append 0 = .ok (.aload_n 0, 1) := by decide +kernel
theorem dX7_append_1 : decode cX7_append 1 = .ok (.getfield 19, 3) := by decide +kernel
theorem dX7_append_4 : decode cX7_append 4 = .ok (.aload_n 0, 1) := by decide +kernel
theorem dX7_append_5 : decode cX7_append 5 = .ok (.getfield 9, 3) := by decide +kernel
theorem dX7_append_8 : decode cX7_append 8 = .ok (.arraylength, 1) := by decide +kernel
theorem dX7_append_9 : decode cX7_append 9 = .ok (.if_icmp .lt 31, 3) := by decide +kernel
theorem dX7_append_40 : decode cX7_append 40 = .ok (.aload_n 0, 1) := by decide +kernel
theorem dX7_append_41 : decode cX7_append 41 = .ok (.getfield 19, 3) := by decide +kernel
theorem dX7_append_44 : decode cX7_append 44 = .ok (.aload_n 0, 1) := by decide +kernel
theorem dX7_append_45 : decode cX7_append 45 = .ok (.getfield 9, 3) := by decide +kernel
theorem dX7_append_48 : decode cX7_append 48 = .ok (.arraylength, 1) := by decide +kernel
theorem dX7_append_49 : decode cX7_append 49 = .ok (.if_icmp .ge 23, 3) := by decide +kernel
theorem dX7_append_52 : decode cX7_append 52 = .ok (.aload_n 0, 1) := by decide +kernel
theorem dX7_append_53 : decode cX7_append 53 = .ok (.getfield 9, 3) := by decide +kernel
theorem dX7_append_56 : decode cX7_append 56 = .ok (.aload_n 0, 1) := by decide +kernel
theorem dX7_append_57 : decode cX7_append 57 = .ok (.getfield 19, 3) := by decide +kernel
theorem dX7_append_60 : decode cX7_append 60 = .ok (.iload_n 1, 1) := by decide +kernel
theorem dX7_append_61 : decode cX7_append 61 = .ok (.iastore, 1) := by decide +kernel
theorem dX7_append_62 : decode cX7_append 62 = .ok (.aload_n 0, 1) := by decide +kernel
theorem dX7_append_63 : decode cX7_append 63 = .ok (.dup, 1) := by decide +kernel
theorem dX7_append_64 : decode cX7_append 64 = .ok (.getfield 19, 3) := by decide +kernel
theorem dX7_append_67 : decode cX7_append 67 = .ok (.iconst 1, 1) := by decide +kernel
theorem dX7_append_68 : decode cX7_append 68 = .ok (.iadd, 1) := by decide +kernel
theorem dX7_append_69 : decode cX7_append 69 = .ok (.putfield 19, 3) := by decide +kernel
theorem dX7_append_72 : decode cX7_append 72 = .ok (.return_, 1) := by decide +kernel
theorem dX7_become_0 : decode cX7_become 0 = .ok (.aload_n 0, 1) := by decide +kernel
theorem dX7_become_1 : decode cX7_become 1 = .ok (.iconst 0, 1) := by decide +kernel
theorem dX7_become_2 : decode cX7_become 2 = .ok (.putfield 19, 3) := by decide +kernel
theorem dX7_become_5 : decode cX7_become 5 = .ok (.iconst 0, 1) := by decide +kernel
theorem dX7_become_6 : decode cX7_become 6 = .ok (.istore_n 2, 1) := by decide +kernel
theorem dX7_become_7 : decode cX7_become 7 = .ok (.iload_n 2, 1) := by decide +kernel
theorem dX7_become_8 : decode cX7_become 8 = .ok (.aload_n 1, 1) := by decide +kernel
theorem dX7_become_9 : decode cX7_become 9 = .ok (.getfield 19, 3) := by decide +kernel
theorem dX7_become_12 : decode cX7_become 12 = .ok (.if_icmp .ge 18, 3) := by decide +kernel
theorem dX7_become_30 : decode cX7_become 30 = .ok (.return_, 1) := by decide +kernel
theorem dX7_isIn_0 : decode cX7_isIn 0 = .ok (.iload_n 1, 1) := by decide +kernel
theorem dX7_isIn_1 : decode cX7_isIn 1 = .ok (.ifCond .lt 24, 3) := by decide +kernel
theorem dX7_isIn_4 : decode cX7_isIn 4 = .ok (.iload_n 1, 1) := by decide +kernel
theorem dX7_isIn_5 : decode cX7_isIn 5 = .ok (.aload_n 0, 1) := by decide +kernel
theorem dX7_isIn_6 : decode cX7_isIn 6 = .ok (.getfield 19, 3) := by decide +kernel
theorem dX7_isIn_9 : decode cX7_isIn 9 = .ok (.if_icmp .ge 16, 3) := by decide +kernel
theorem dX7_isIn_25 : decode cX7_isIn 25 = .ok (.iconst 0, 1) := by decide +kernel
theorem dX7_isIn_26 : decode cX7_isIn 26 = .ok (.ireturn, 1) := by decide +kernel
set_option maxRecDepth 20000 in
theorem ggX8_init_X0_init : GoodIn wsX8_init wsX0_init := goodIn_r _ [41, 42, 2, 3, 43, 44, 45, 46, 47, 48, 49, 50, 51, 52, 53, 54, 55, 56, 105, 106, 107, 108, 109, 110] (by decide +kernel) (by decide +kernel)
set_option maxRecDepth 20000 in
theorem gX8_init_X0_init : GoodIn wsX8_init (wsX0_init) := ggX8_init_X0_init
set_option maxRecDepth 20000 in
theorem ggX8_init_X3_init : GoodIn wsX8_init wsX3_init := goodIn_r _ [59, 60, 2, 3, 61, 122, 123, 124, 125] (by decide +kernel) (by decide +kernel)
set_option maxRecDepth 20000 in
theorem gX8_init_X3_init : GoodIn wsX8_init (wsX3_init) := ggX8_init_X3_init
set_option maxRecDepth 20000 in
theorem ggX8_init_X5_init : GoodIn wsX8_init wsX5_init := goodIn_r _ [64, 65, 2, 3, 52, 66, 67, 68, 69, 70, 126, 127, 128, 129, 130, 131] (by decide +kernel) (by decide +kernel)
set_option maxRecDepth 20000 in
theorem gX8_init_X5_init : GoodIn wsX8_init (wsX5_init) := ggX8_init_X5_init
set_option maxRecDepth 20000 in
theorem ggX8_init_X6_init : GoodIn wsX8_init wsX6_init := goodIn_r _ [73, 74, 2, 3, 52, 75, 76, 132, 133, 134] (by decide +kernel) (by decide +kernel)
set_option maxRecDepth 20000 in
theorem gX8_init_X6_init : GoodIn wsX8_init (wsX6_init) := ggX8_init_X6_init
set_option maxRecDepth 20000 in
theorem ggX8_init_X2_init : GoodIn wsX8_init wsX2_init := goodIn_r _ [79, 80, 2, 3, 52, 81, 82, 135, 136, 137] (by decide +kernel) (by decide +kernel)
set_option maxRecDepth 20000 in
theorem gX8_init_X2_init : GoodIn wsX8_init (wsX2_init) := ggX8_init_X2_init
set_option maxRecDepth 20000 in
theorem ggX8_init_X1_init : GoodIn wsX8_init wsX1_init := goodIn_r _ [85, 86, 2, 3, 52, 87, 88, 138, 139, 140] (by decide +kernel) (by decide +kernel)
set_option maxRecDepth 20000 in
theorem gX8_init_X1_init : GoodIn wsX8_init (wsX1_init) := ggX8_init_X1_init
set_option maxRecDepth 20000 in
theorem ggX8_init_X4_init : GoodIn wsX8_init wsX4_init := goodIn_r _ [91, 92, 2, 3, 52, 93, 94, 95, 55, 96, 97, 98, 67, 99, 141, 142, 143, 144, 145, 146, 147, 148, 149, 150, 151, 152] (by decide +kernel) (by decide +kernel)
set_option maxRecDepth 20000 in
theorem gX8_init_X4_init : GoodIn wsX8_init (wsX4_init) := ggX8_init_X4_init
set_option maxRecDepth 20000 in
theorem ggX8_init_X7_init : GoodIn wsX8_init wsX7_init := goodIn_r _ [102, 103, 2, 3, 52, 104, 153, 154] (by decide +kernel) (by decide +kernel)
set_option maxRecDepth 20000 in
theorem gX8_init_X7_init : GoodIn wsX8_init (wsX7_init) := ggX8_init_X7_init
theorem dX8_init_0 : decode cX8_init 0 = .ok (.aload_n 0, 1) := by decide +kernel
theorem dX8_init_1 : decode cX8_init 1 = .ok (.invokespecial 1, 3) := by decide +kernel
theorem dX8_init_4 : decode cX8_init 4 = .ok (.aload_n 0, 1) := by decide +kernel
theorem dX8_init_5 : decode cX8_init 5 = .ok (.new 7, 3) := by decide +kernel
theorem dX8_init_8 : decode cX8_init 8 = .ok (.dup, 1) := by decide +kernel
theorem dX8_init_9 : decode cX8_init 9 = .ok (.iload_n 1, 1) := by decide +kernel
theorem dX8_init_10 : decode cX8_init 10 = .ok (.iload_n 2, 1) := by decide +kernel
theorem dX8_init_11 : decode cX8_init 11 = .ok (.invokespecial 9, 3) := by decide +kernel
theorem dX8_init_14 : decode cX8_init 14 = .ok (.putfield 12, 3) := by decide +kernel
theorem dX8_init_17 : decode cX8_init 17 = .ok (.aload_n 0, 1) := by decide +kernel
theorem dX8_init_18 : decode cX8_init 18 = .ok (.new 18, 3) := by decide +kernel
theorem dX8_init_21 : decode cX8_init 21 = .ok (.dup, 1) := by decide +kernel
theorem dX8_init_22 : decode cX8_init 22 = .ok (.invokespecial 20, 3) := by decide +kernel
theorem dX8_init_25 : decode cX8_init 25 = .ok (.putfield 21, 3) := by decide +kernel
theorem dX8_init_28 : decode cX8_init 28 = .ok (.aload_n 0, 1) := by decide +kernel
theorem dX8_init_29 : decode cX8_init 29 = .ok (.new 18, 3) := by decide +kernel
theorem dX8_init_32 : decode cX8_init 32 = .ok (.dup, 1) := by decide +kernel
theorem dX8_init_33 : decode cX8_init 33 = .ok (.invokespecial 20, 3) := by decide +kernel
theorem dX8_init_36 : decode cX8_init 36 = .ok (.putfield 25, 3) := by decide +kernel
theorem dX8_init_39 : decode cX8_init 39 = .ok (.aload_n 0, 1) := by decide +kernel
theorem dX8_init_40 : decode cX8_init 40 = .ok (.new 28, 3) := by decide +kernel
theorem dX8_init_43 : decode cX8_init 43 = .ok (.dup, 1) := by decide +kernel
theorem dX8_init_44 : decode cX8_init 44 = .ok (.invokespecial 30, 3) := by decide +kernel
theorem dX8_init_47 : decode cX8_init 47 = .ok (.putfield 31, 3) := by decide +kernel
theorem dX8_init_50 : decode cX8_init 50 = .ok (.aload_n 0, 1) := by decide +kernel
theorem dX8_init_51 : decode cX8_init 51 = .ok (.new 35, 3) := by decide +kernel
theorem dX8_init_54 : decode cX8_init 54 = .ok (.dup, 1) := by decide +kernel
theorem dX8_init_55 : decode cX8_init 55 = .ok (.invokespecial 37, 3) := by decide +kernel
theorem dX8_init_58 : decode cX8_init 58 = .ok (.putfield 38, 3) := by decide +kernel
theorem dX8_init_61 : decode cX8_init 61 = .ok (.aload_n 0, 1) := by decide +kernel
theorem dX8_init_62 : decode cX8_init 62 = .ok (.new 42, 3) := by decide +kernel
theorem dX8_init_65 : decode cX8_init 65 = .ok (.dup, 1) := by decide +kernel
theorem dX8_init_66 : decode cX8_init 66 = .ok (.invokespecial 44, 3) := by decide +kernel
theorem dX8_init_69 : decode cX8_init 69 = .ok (.putfield 45, 3) := by decide +kernel
theorem dX8_init_72 : decode cX8_init 72 = .ok (.aload_n 0, 1) := by decide +kernel
theorem dX8_init_73 : decode cX8_init 73 = .ok (.new 49, 3) := by decide +kernel
theorem dX8_init_76 : decode cX8_init 76 = .ok (.dup, 1) := by decide +kernel
theorem dX8_init_77 : decode cX8_init 77 = .ok (.invokespecial 51, 3) := by decide +kernel
theorem dX8_init_80 : decode cX8_init 80 = .ok (.putfield 52, 3) := by decide +kernel
theorem dX8_init_83 : decode cX8_init 83 = .ok (.aload_n 0, 1) := by decide +kernel
theorem dX8_init_84 : decode cX8_init 84 = .ok (.new 56, 3) := by decide +kernel
theorem dX8_init_87 : decode cX8_init 87 = .ok (.dup, 1) := by decide +kernel
theorem dX8_init_88 : decode cX8_init 88 = .ok (.invokespecial 58, 3) := by decide +kernel
theorem dX8_init_91 : decode cX8_init 91 = .ok (.putfield 59, 3) := by decide +kernel
theorem dX8_init_94 : decode cX8_init 94 = .ok (.aload_n 0, 1) := by decide +kernel
theorem dX8_init_95 : decode cX8_init 95 = .ok (.new 63, 3) := by decide +kernel
theorem dX8_init_98 : decode cX8_init 98 = .ok (.dup, 1) := by decide +kernel
theorem dX8_init_99 : decode cX8_init 99 = .ok (.invokespecial 65, 3) := by decide +kernel
theorem dX8_init_102 : decode cX8_init 102 = .ok (.putfield 66, 3) := by decide +kernel
theorem dX8_init_105 : decode cX8_init 105 = .ok (.aload_n 0, 1) := by decide +kernel
theorem dX8_init_106 : decode cX8_init 106 = .ok (.new 63, 3) := by decide +kernel
theorem dX8_init_109 : decode cX8_init 109 = .ok (.dup, 1) := by decide +kernel
theorem dX8_init_110 : decode cX8_init 110 = .ok (.invokespecial 65, 3) := by decide +kernel
theorem dX8_init_113 : decode cX8_init 113 = .ok (.putfield 70, 3) := by decide +kernel
theorem dX8_init_116 : decode cX8_init 116 = .ok (.aload_n 0, 1) := by decide +kernel
theorem dX8_init_117 : decode cX8_init 117 = .ok (.iconst (-1), 1) := by decide +kernel
theorem dX8_init_118 : decode cX8_init 118 = .ok (.putfield 73, 3) := by decide +kernel
theorem dX8_init_121 : decode cX8_init 121 = .ok (.return_, 1) := by decide +kernel
set_option maxRecDepth 20000 in
theorem ggX8_field_X0_numberOf : GoodIn wsX8_field wsX0_numberOf := goodIn_r _ [7, 8, 9, 61, 62, 63, 64, 65, 66] (by decide +kernel) (by decide +kernel)
set_option maxRecDepth 20000 in
theorem gX8_field_X0_numberOf : GoodIn wsX8_field (wsV RX8 77 RX0 yX0_numberOf wsX0_numberOf) := goodIn_app (goodIn_of _ (by decide +kernel)) ggX8_field_X0_numberOf
set_option maxRecDepth 20000 in
theorem ggX8_field_X8_isWay : GoodIn wsX8_field wsX8_isWay := goodIn_r _ [13] (by decide +kernel) (by decide +kernel)
set_option maxRecDepth 20000 in
theorem gX8_field_X8_isWay : GoodIn wsX8_field (va_wsS RX8 81 yX8_isWay wsX8_isWay) := goodIn_app (goodIn_of _ (by decide +kernel)) ggX8_field_X8_isWay
set_option maxRecDepth 20000 in
theorem ggX8_field_X8_isInUse : GoodIn wsX8_field wsX8_isInUse := goodIn_r _ [17, 18, 1, 19, 20, 21, 22, 23, 24, 25, 26, 27, 28, 29, 30, 31, 12, 32, 33, 34, 35, 36, 50, 51, 52, 53, 54, 55, 56, 57, 58, 59, 60, 61, 62, 63, 64, 65, 66, 67, 68, 69, 70] (by decide +kernel) (by decide +kernel)
set_option maxRecDepth 20000 in
theorem gX8_field_X8_isInUse : GoodIn wsX8_field (wsV RX8 85 RX8 yX8_isInUse wsX8_isInUse) := goodIn_app (goodIn_of _ (by decide +kernel)) ggX8_field_X8_isInUse
set_option maxRecDepth 20000 in
theorem ggX8_field_X5_forget : GoodIn wsX8_field wsX5_forget := goodIn_r _ [41, 42, 43, 71, 72, 73, 74, 75, 76] (by decide +kernel) (by decide +kernel)
set_option maxRecDepth 20000 in
theorem gX8_field_X5_forget : GoodIn wsX8_field (wsV RX8 88 RX5 yX5_forget wsX5_forget) := goodIn_app (goodIn_of _ (by decide +kernel)) ggX8_field_X5_forget
set_option maxRecDepth 20000 in
theorem ggX8_field_X0_lay : GoodIn wsX8_field wsX0_lay := goodIn_r _ [47, 48, 49, 34, 12, 35, 61, 62, 63, 64, 65, 66] (by decide +kernel) (by decide +kernel)
set_option maxRecDepth 20000 in
theorem gX8_field_X0_lay : GoodIn wsX8_field (wsV RX8 91 RX0 yX0_lay wsX0_lay) := goodIn_app (goodIn_of _ (by decide +kernel)) ggX8_field_X0_lay
theorem dX8_field_0 : decode cX8_field 0 = .ok (.aload_n 0, 1) := by decide +kernel
theorem dX8_field_1 : decode cX8_field 1 = .ok (.getfield 12, 3) := by decide +kernel
theorem dX8_field_4 : decode cX8_field 4 = .ok (.iload_n 1, 1) := by decide +kernel
theorem dX8_field_5 : decode cX8_field 5 = .ok (.iload_n 2, 1) := by decide +kernel
theorem dX8_field_6 : decode cX8_field 6 = .ok (.invokevirtual 77, 3) := by decide +kernel
theorem dX8_field_9 : decode cX8_field 9 = .ok (.istore 5, 2) := by decide +kernel
theorem dX8_field_11 : decode cX8_field 11 = .ok (.iload 5, 2) := by decide +kernel
theorem dX8_field_13 : decode cX8_field 13 = .ok (.iconst (-1), 1) := by decide +kernel
theorem dX8_field_14 : decode cX8_field 14 = .ok (.if_icmp .eq 12, 3) := by decide +kernel
theorem dX8_field_17 : decode cX8_field 17 = .ok (.iload_n 3, 1) := by decide +kernel
theorem dX8_field_18 : decode cX8_field 18 = .ok (.ifCond .lt 8, 3) := by decide +kernel
theorem dX8_field_21 : decode cX8_field 21 = .ok (.iload_n 3, 1) := by decide +kernel
theorem dX8_field_22 : decode cX8_field 22 = .ok (.iconst 5, 1) := by decide +kernel
theorem dX8_field_23 : decode cX8_field 23 = .ok (.if_icmp .le 6, 3) := by decide +kernel
theorem dX8_field_26 : decode cX8_field 26 = .ok (.bipush (-2), 2) := by decide +kernel
theorem dX8_field_28 : decode cX8_field 28 = .ok (.ireturn, 1) := by decide +kernel
theorem dX8_field_29 : decode cX8_field 29 = .ok (.iload_n 3, 1) := by decide +kernel
theorem dX8_field_30 : decode cX8_field 30 = .ok (.iconst 4, 1) := by decide +kernel
theorem dX8_field_31 : decode cX8_field 31 = .ok (.if_icmp .ne 11, 3) := by decide +kernel
theorem dX8_field_34 : decode cX8_field 34 = .ok (.iload 4, 2) := by decide +kernel
theorem dX8_field_36 : decode cX8_field 36 = .ok (.invokestatic 81, 3) := by decide +kernel
theorem dX8_field_39 : decode cX8_field 39 = .ok (.goto 13, 3) := by decide +kernel
theorem dX8_field_42 : decode cX8_field 42 = .ok (.iload 4, 2) := by decide +kernel
theorem dX8_field_44 : decode cX8_field 44 = .ok (.ifCond .ne 7, 3) := by decide +kernel
theorem dX8_field_47 : decode cX8_field 47 = .ok (.iconst 1, 1) := by decide +kernel
theorem dX8_field_48 : decode cX8_field 48 = .ok (.goto 4, 3) := by decide +kernel
theorem dX8_field_51 : decode cX8_field 51 = .ok (.iconst 0, 1) := by decide +kernel
theorem dX8_field_52 : decode cX8_field 52 = .ok (.istore 6, 2) := by decide +kernel
theorem dX8_field_54 : decode cX8_field 54 = .ok (.iload 6, 2) := by decide +kernel
theorem dX8_field_56 : decode cX8_field 56 = .ok (.ifCond .eq 12, 3) := by decide +kernel
theorem dX8_field_59 : decode cX8_field 59 = .ok (.aload_n 0, 1) := by decide +kernel
theorem dX8_field_60 : decode cX8_field 60 = .ok (.iload 5, 2) := by decide +kernel
theorem dX8_field_62 : decode cX8_field 62 = .ok (.invokevirtual 85, 3) := by decide +kernel
theorem dX8_field_65 : decode cX8_field 65 = .ok (.ifCond .eq 6, 3) := by decide +kernel
theorem dX8_field_68 : decode cX8_field 68 = .ok (.bipush (-2), 2) := by decide +kernel
theorem dX8_field_70 : decode cX8_field 70 = .ok (.ireturn, 1) := by decide +kernel
theorem dX8_field_71 : decode cX8_field 71 = .ok (.aload_n 0, 1) := by decide +kernel
theorem dX8_field_72 : decode cX8_field 72 = .ok (.getfield 31, 3) := by decide +kernel
theorem dX8_field_75 : decode cX8_field 75 = .ok (.invokevirtual 88, 3) := by decide +kernel
theorem dX8_field_78 : decode cX8_field 78 = .ok (.aload_n 0, 1) := by decide +kernel
theorem dX8_field_79 : decode cX8_field 79 = .ok (.getfield 12, 3) := by decide +kernel
theorem dX8_field_82 : decode cX8_field 82 = .ok (.iload 5, 2) := by decide +kernel
theorem dX8_field_84 : decode cX8_field 84 = .ok (.iload_n 3, 1) := by decide +kernel
theorem dX8_field_85 : decode cX8_field 85 = .ok (.iload 4, 2) := by decide +kernel
theorem dX8_field_87 : decode cX8_field 87 = .ok (.invokevirtual 91, 3) := by decide +kernel
theorem dX8_field_90 : decode cX8_field 90 = .ok (.ireturn, 1) := by decide +kernel
set_option maxRecDepth 20000 in
theorem ggX8_line_X0_numberOf : GoodIn wsX8_line wsX0_numberOf := goodIn_r _ [9, 10, 11, 59, 60, 61, 62, 63, 64] (by decide +kernel) (by decide +kernel)
set_option maxRecDepth 20000 in
theorem gX8_line_X0_numberOf : GoodIn wsX8_line (wsV RX8 77 RX0 yX0_numberOf wsX0_numberOf) := goodIn_app (goodIn_of _ (by decide +kernel)) ggX8_line_X0_numberOf
set_option maxRecDepth 20000 in
theorem ggX8_line_X8_isInUse : GoodIn wsX8_line wsX8_isInUse := goodIn_r _ [16, 17, 1, 18, 19, 20, 21, 22, 23, 24, 25, 26, 27, 28, 29, 30, 15, 31, 32, 33, 34, 35, 48, 49, 50, 51, 52, 53, 54, 55, 56, 57, 58, 59, 60, 61, 62, 63, 64, 65, 66, 67, 68] (by decide +kernel) (by decide +kernel)
set_option maxRecDepth 20000 in
theorem gX8_line_X8_isInUse : GoodIn wsX8_line (wsV RX8 85 RX8 yX8_isInUse wsX8_isInUse) := goodIn_app (goodIn_of _ (by decide +kernel)) ggX8_line_X8_isInUse
set_option maxRecDepth 20000 in
theorem ggX8_line_X5_forget : GoodIn wsX8_line wsX5_forget := goodIn_r _ [40, 41, 42, 69, 70, 71, 72, 73, 74] (by decide +kernel) (by decide +kernel)
set_option maxRecDepth 20000 in
theorem gX8_line_X5_forget : GoodIn wsX8_line (wsV RX8 88 RX5 yX5_forget wsX5_forget) := goodIn_app (goodIn_of _ (by decide +kernel)) ggX8_line_X5_forget
set_option maxRecDepth 20000 in
theorem ggX8_line_X0_letMiss : GoodIn wsX8_line wsX0_letMiss := goodIn_r _ [46, 47, 59, 60, 61, 62, 63, 64] (by decide +kernel) (by decide +kernel)
set_option maxRecDepth 20000 in
theorem gX8_line_X0_letMiss : GoodIn wsX8_line (wsV RX8 101 RX0 yX0_letMiss wsX0_letMiss) := goodIn_app (goodIn_of _ (by decide +kernel)) ggX8_line_X0_letMiss
theorem dX8_line_0 : decode cX8_line 0 = .ok (.iload_n 1, 1) := by decide +kernel
theorem dX8_line_1 : decode cX8_line 1 = .ok (.ifCond .lt 14, 3) := by decide +kernel
theorem dX8_line_4 : decode cX8_line 4 = .ok (.iload_n 1, 1) := by decide +kernel
theorem dX8_line_5 : decode cX8_line 5 = .ok (.aload_n 0, 1) := by decide +kernel
theorem dX8_line_6 : decode cX8_line 6 = .ok (.getfield 12, 3) := by decide +kernel
theorem dX8_line_9 : decode cX8_line 9 = .ok (.getfield 95, 3) := by decide +kernel
theorem dX8_line_12 : decode cX8_line 12 = .ok (.if_icmp .lt 6, 3) := by decide +kernel
theorem dX8_line_15 : decode cX8_line 15 = .ok (.bipush (-2), 2) := by decide +kernel
theorem dX8_line_17 : decode cX8_line 17 = .ok (.ireturn, 1) := by decide +kernel
theorem dX8_line_18 : decode cX8_line 18 = .ok (.iconst 0, 1) := by decide +kernel
theorem dX8_line_19 : decode cX8_line 19 = .ok (.istore_n 3, 1) := by decide +kernel
theorem dX8_line_20 : decode cX8_line 20 = .ok (.iload_n 3, 1) := by decide +kernel
theorem dX8_line_21 : decode cX8_line 21 = .ok (.aload_n 0, 1) := by decide +kernel
theorem dX8_line_22 : decode cX8_line 22 = .ok (.getfield 12, 3) := by decide +kernel
theorem dX8_line_25 : decode cX8_line 25 = .ok (.getfield 98, 3) := by decide +kernel
theorem dX8_line_28 : decode cX8_line 28 = .ok (.if_icmp .ge 28, 3) := by decide +kernel
theorem dX8_line_31 : decode cX8_line 31 = .ok (.aload_n 0, 1) := by decide +kernel
theorem dX8_line_32 : decode cX8_line 32 = .ok (.aload_n 0, 1) := by decide +kernel
theorem dX8_line_33 : decode cX8_line 33 = .ok (.getfield 12, 3) := by decide +kernel
theorem dX8_line_36 : decode cX8_line 36 = .ok (.iload_n 3, 1) := by decide +kernel
theorem dX8_line_37 : decode cX8_line 37 = .ok (.iload_n 1, 1) := by decide +kernel
theorem dX8_line_38 : decode cX8_line 38 = .ok (.invokevirtual 77, 3) := by decide +kernel
theorem dX8_line_41 : decode cX8_line 41 = .ok (.invokevirtual 85, 3) := by decide +kernel
theorem dX8_line_44 : decode cX8_line 44 = .ok (.ifCond .eq 6, 3) := by decide +kernel
theorem dX8_line_50 : decode cX8_line 50 = .ok (.iinc 3 1, 3) := by decide +kernel
theorem dX8_line_53 : decode cX8_line 53 = .ok (.goto (-33), 3) := by decide +kernel
theorem dX8_line_56 : decode cX8_line 56 = .ok (.aload_n 0, 1) := by decide +kernel
theorem dX8_line_57 : decode cX8_line 57 = .ok (.getfield 31, 3) := by decide +kernel
theorem dX8_line_60 : decode cX8_line 60 = .ok (.invokevirtual 88, 3) := by decide +kernel
theorem dX8_line_63 : decode cX8_line 63 = .ok (.aload_n 0, 1) := by decide +kernel
theorem dX8_line_64 : decode cX8_line 64 = .ok (.getfield 12, 3) := by decide +kernel
theorem dX8_line_67 : decode cX8_line 67 = .ok (.iload_n 1, 1) := by decide +kernel
theorem dX8_line_68 : decode cX8_line 68 = .ok (.iload_n 2, 1) := by decide +kernel
theorem dX8_line_69 : decode cX8_line 69 = .ok (.invokevirtual 101, 3) := by decide +kernel
theorem dX8_line_72 : decode cX8_line 72 = .ok (.ifCond .eq 7, 3) := by decide +kernel
theorem dX8_line_79 : decode cX8_line 79 = .ok (.iconst 0, 1) := by decide +kernel
theorem dX8_line_80 : decode cX8_line 80 = .ok (.ireturn, 1) := by decide +kernel
set_option maxRecDepth 20000 in
theorem ggX8_barrel_X0_numberOf : GoodIn wsX8_barrel wsX0_numberOf := goodIn_r _ [9, 10, 11, 68, 69, 70, 71, 72, 73] (by decide +kernel) (by decide +kernel)
set_option maxRecDepth 20000 in
theorem gX8_barrel_X0_numberOf : GoodIn wsX8_barrel (wsV RX8 77 RX0 yX0_numberOf wsX0_numberOf) := goodIn_app (goodIn_of _ (by decide +kernel)) ggX8_barrel_X0_numberOf
set_option maxRecDepth 20000 in
theorem ggX8_barrel_X8_mayBeSetOn : GoodIn wsX8_barrel wsX8_mayBeSetOn := goodIn_r _ [16, 1, 3, 17, 4, 18, 19, 20, 8, 21, 22, 23, 24, 25, 26, 27, 28, 29, 30, 53, 54, 55, 56, 57, 58, 59, 60, 61, 62, 63, 64, 65, 66, 67, 68, 69, 70, 71, 72, 73] (by decide +kernel) (by decide +kernel)
set_option maxRecDepth 20000 in
theorem gX8_barrel_X8_mayBeSetOn : GoodIn wsX8_barrel (wsV RX8 105 RX8 yX8_mayBeSetOn wsX8_mayBeSetOn) := goodIn_app (goodIn_of _ (by decide +kernel)) ggX8_barrel_X8_mayBeSetOn
set_option maxRecDepth 20000 in
theorem ggX8_barrel_X5_forget : GoodIn wsX8_barrel wsX5_forget := goodIn_r _ [35, 36, 37, 74, 75, 76, 77, 78, 79] (by decide +kernel) (by decide +kernel)
set_option maxRecDepth 20000 in
theorem gX8_barrel_X5_forget : GoodIn wsX8_barrel (wsV RX8 88 RX5 yX5_forget wsX5_forget) := goodIn_app (goodIn_of _ (by decide +kernel)) ggX8_barrel_X5_forget
set_option maxRecDepth 20000 in
theorem ggX8_barrel_X3_hasBarrel : GoodIn wsX8_barrel wsX3_hasBarrel := goodIn_r _ [42, 43, 44, 15, 45, 46, 47, 48, 64, 65, 66, 67] (by decide +kernel) (by decide +kernel)
set_option maxRecDepth 20000 in
theorem gX8_barrel_X3_hasBarrel : GoodIn wsX8_barrel (wsV RX8 108 RX3 yX3_hasBarrel wsX3_hasBarrel) := goodIn_app (goodIn_of _ (by decide +kernel)) ggX8_barrel_X3_hasBarrel
set_option maxRecDepth 20000 in
theorem ggX8_barrel_X8_with : GoodIn wsX8_barrel wsX8_with := goodIn_r _ [51, 52, 46, 47, 15, 48] (by decide +kernel) (by decide +kernel)
set_option maxRecDepth 20000 in
theorem gX8_barrel_X8_with : GoodIn wsX8_barrel (va_wsS RX8 115 yX8_with wsX8_with) := goodIn_app (goodIn_of _ (by decide +kernel)) ggX8_barrel_X8_with
theorem dX8_barrel_0 : decode cX8_barrel 0 = .ok (.aload_n 0, 1) := by decide +kernel
theorem dX8_barrel_1 : decode cX8_barrel 1 = .ok (.getfield 12, 3) := by decide +kernel
theorem dX8_barrel_4 : decode cX8_barrel 4 = .ok (.iload_n 1, 1) := by decide +kernel
theorem dX8_barrel_5 : decode cX8_barrel 5 = .ok (.iload_n 2, 1) := by decide +kernel
theorem dX8_barrel_6 : decode cX8_barrel 6 = .ok (.invokevirtual 77, 3) := by decide +kernel
theorem dX8_barrel_9 : decode cX8_barrel 9 = .ok (.istore 4, 2) := by decide +kernel
theorem dX8_barrel_11 : decode cX8_barrel 11 = .ok (.iload 4, 2) := by decide +kernel
theorem dX8_barrel_13 : decode cX8_barrel 13 = .ok (.iconst (-1), 1) := by decide +kernel
theorem dX8_barrel_14 : decode cX8_barrel 14 = .ok (.if_icmp .eq 16, 3) := by decide +kernel
theorem dX8_barrel_17 : decode cX8_barrel 17 = .ok (.iload_n 3, 1) := by decide +kernel
theorem dX8_barrel_18 : decode cX8_barrel 18 = .ok (.ifCond .eq 15, 3) := by decide +kernel
theorem dX8_barrel_21 : decode cX8_barrel 21 = .ok (.aload_n 0, 1) := by decide +kernel
theorem dX8_barrel_22 : decode cX8_barrel 22 = .ok (.iload 4, 2) := by decide +kernel
theorem dX8_barrel_24 : decode cX8_barrel 24 = .ok (.invokevirtual 105, 3) := by decide +kernel
theorem dX8_barrel_27 : decode cX8_barrel 27 = .ok (.ifCond .ne 6, 3) := by decide +kernel
theorem dX8_barrel_30 : decode cX8_barrel 30 = .ok (.bipush (-2), 2) := by decide +kernel
theorem dX8_barrel_32 : decode cX8_barrel 32 = .ok (.ireturn, 1) := by decide +kernel
theorem dX8_barrel_33 : decode cX8_barrel 33 = .ok (.aload_n 0, 1) := by decide +kernel
theorem dX8_barrel_34 : decode cX8_barrel 34 = .ok (.getfield 31, 3) := by decide +kernel
theorem dX8_barrel_37 : decode cX8_barrel 37 = .ok (.invokevirtual 88, 3) := by decide +kernel
theorem dX8_barrel_40 : decode cX8_barrel 40 = .ok (.aload_n 0, 1) := by decide +kernel
theorem dX8_barrel_41 : decode cX8_barrel 41 = .ok (.getfield 21, 3) := by decide +kernel
theorem dX8_barrel_44 : decode cX8_barrel 44 = .ok (.iload 4, 2) := by decide +kernel
theorem dX8_barrel_46 : decode cX8_barrel 46 = .ok (.invokevirtual 108, 3) := by decide +kernel
theorem dX8_barrel_49 : decode cX8_barrel 49 = .ok (.istore 5, 2) := by decide +kernel
theorem dX8_barrel_51 : decode cX8_barrel 51 = .ok (.aload_n 0, 1) := by decide +kernel
theorem dX8_barrel_52 : decode cX8_barrel 52 = .ok (.getfield 21, 3) := by decide +kernel
theorem dX8_barrel_55 : decode cX8_barrel 55 = .ok (.aload_n 0, 1) := by decide +kernel
theorem dX8_barrel_56 : decode cX8_barrel 56 = .ok (.getfield 21, 3) := by decide +kernel
theorem dX8_barrel_59 : decode cX8_barrel 59 = .ok (.getfield 111, 3) := by decide +kernel
theorem dX8_barrel_62 : decode cX8_barrel 62 = .ok (.iload 4, 2) := by decide +kernel
theorem dX8_barrel_64 : decode cX8_barrel 64 = .ok (.iload_n 3, 1) := by decide +kernel
theorem dX8_barrel_65 : decode cX8_barrel 65 = .ok (.invokestatic 115, 3) := by decide +kernel
theorem dX8_barrel_68 : decode cX8_barrel 68 = .ok (.putfield 111, 3) := by decide +kernel
theorem dX8_barrel_71 : decode cX8_barrel 71 = .ok (.iload 5, 2) := by decide +kernel
theorem dX8_barrel_73 : decode cX8_barrel 73 = .ok (.ifCond .eq 7, 3) := by decide +kernel
theorem dX8_barrel_80 : decode cX8_barrel 80 = .ok (.iconst 0, 1) := by decide +kernel
theorem dX8_barrel_81 : decode cX8_barrel 81 = .ok (.ireturn, 1) := by decide +kernel
set_option maxRecDepth 20000 in
theorem ggX8_man_X0_numberOf : GoodIn wsX8_man wsX0_numberOf := goodIn_r _ [9, 10, 11, 61, 62, 63, 64, 65, 66] (by decide +kernel) (by decide +kernel)
set_option maxRecDepth 20000 in
theorem gX8_man_X0_numberOf : GoodIn wsX8_man (wsV RX8 77 RX0 yX0_numberOf wsX0_numberOf) := goodIn_app (goodIn_of _ (by decide +kernel)) ggX8_man_X0_numberOf
set_option maxRecDepth 20000 in
theorem ggX8_man_X0_isForMan : GoodIn wsX8_man wsX0_isForMan := goodIn_r _ [15, 16, 17, 18, 8, 19, 20, 21, 61, 62, 63, 64, 65, 66] (by decide +kernel) (by decide +kernel)
set_option maxRecDepth 20000 in
theorem gX8_man_X0_isForMan : GoodIn wsX8_man (wsV RX8 119 RX0 yX0_isForMan wsX0_isForMan) := goodIn_app (goodIn_of _ (by decide +kernel)) ggX8_man_X0_isForMan
theorem dX8_man_0 : decode cX8_man 0 = .ok (.aload_n 0, 1) := by decide +kernel
theorem dX8_man_1 : decode cX8_man 1 = .ok (.getfield 12, 3) := by decide +kernel
theorem dX8_man_4 : decode cX8_man 4 = .ok (.iload_n 1, 1) := by decide +kernel
theorem dX8_man_5 : decode cX8_man 5 = .ok (.iload_n 2, 1) := by decide +kernel
theorem dX8_man_6 : decode cX8_man 6 = .ok (.invokevirtual 77, 3) := by decide +kernel
theorem dX8_man_9 : decode cX8_man 9 = .ok (.istore_n 3, 1) := by decide +kernel
theorem dX8_man_10 : decode cX8_man 10 = .ok (.iload_n 3, 1) := by decide +kernel
theorem dX8_man_11 : decode cX8_man 11 = .ok (.iconst (-1), 1) := by decide +kernel
theorem dX8_man_12 : decode cX8_man 12 = .ok (.if_icmp .eq 25, 3) := by decide +kernel
theorem dX8_man_15 : decode cX8_man 15 = .ok (.aload_n 0, 1) := by decide +kernel
theorem dX8_man_16 : decode cX8_man 16 = .ok (.getfield 12, 3) := by decide +kernel
theorem dX8_man_19 : decode cX8_man 19 = .ok (.iload_n 3, 1) := by decide +kernel
theorem dX8_man_20 : decode cX8_man 20 = .ok (.invokevirtual 119, 3) := by decide +kernel
theorem dX8_man_23 : decode cX8_man 23 = .ok (.ifCond .eq 14, 3) := by decide +kernel
theorem dX8_man_37 : decode cX8_man 37 = .ok (.bipush (-2), 2) := by decide +kernel
theorem dX8_man_39 : decode cX8_man 39 = .ok (.ireturn, 1) := by decide +kernel
set_option maxRecDepth 20000 in
theorem ggX8_want_X0_numberOf : GoodIn wsX8_want wsX0_numberOf := goodIn_r _ [8, 9, 10, 46, 47, 48, 49, 50, 51] (by decide +kernel) (by decide +kernel)
set_option maxRecDepth 20000 in
theorem gX8_want_X0_numberOf : GoodIn wsX8_want (wsV RX8 77 RX0 yX0_numberOf wsX0_numberOf) := goodIn_app (goodIn_of _ (by decide +kernel)) ggX8_want_X0_numberOf
set_option maxRecDepth 20000 in
theorem ggX8_want_X0_kindNow : GoodIn wsX8_want wsX0_kindNow := goodIn_r _ [14, 15, 16, 46, 47, 48, 49, 50, 51] (by decide +kernel) (by decide +kernel)
set_option maxRecDepth 20000 in
theorem gX8_want_X0_kindNow : GoodIn wsX8_want (wsV RX8 129 RX0 yX0_kindNow wsX0_kindNow) := goodIn_app (goodIn_of _ (by decide +kernel)) ggX8_want_X0_kindNow
theorem dX8_want_0 : decode cX8_want 0 = .ok (.aload_n 0, 1) := by decide +kernel
theorem dX8_want_1 : decode cX8_want 1 = .ok (.getfield 12, 3) := by decide +kernel
theorem dX8_want_4 : decode cX8_want 4 = .ok (.iload_n 1, 1) := by decide +kernel
theorem dX8_want_5 : decode cX8_want 5 = .ok (.iload_n 2, 1) := by decide +kernel
theorem dX8_want_6 : decode cX8_want 6 = .ok (.invokevirtual 77, 3) := by decide +kernel
theorem dX8_want_9 : decode cX8_want 9 = .ok (.istore 4, 2) := by decide +kernel
theorem dX8_want_11 : decode cX8_want 11 = .ok (.aload_n 0, 1) := by decide +kernel
theorem dX8_want_12 : decode cX8_want 12 = .ok (.getfield 12, 3) := by decide +kernel
theorem dX8_want_15 : decode cX8_want 15 = .ok (.iload 4, 2) := by decide +kernel
theorem dX8_want_17 : decode cX8_want 17 = .ok (.invokevirtual 129, 3) := by decide +kernel
theorem dX8_want_20 : decode cX8_want 20 = .ok (.istore 5, 2) := by decide +kernel
theorem dX8_want_22 : decode cX8_want 22 = .ok (.iload 5, 2) := by decide +kernel
theorem dX8_want_24 : decode cX8_want 24 = .ok (.iconst 2, 1) := by decide +kernel
theorem dX8_want_25 : decode cX8_want 25 = .ok (.if_icmp .eq 12, 3) := by decide +kernel
theorem dX8_want_28 : decode cX8_want 28 = .ok (.iload 5, 2) := by decide +kernel
theorem dX8_want_30 : decode cX8_want 30 = .ok (.iconst 5, 1) := by decide +kernel
theorem dX8_want_31 : decode cX8_want 31 = .ok (.if_icmp .eq 6, 3) := by decide +kernel
theorem dX8_want_34 : decode cX8_want 34 = .ok (.bipush (-2), 2) := by decide +kernel
theorem dX8_want_36 : decode cX8_want 36 = .ok (.ireturn, 1) := by decide +kernel
set_option maxRecDepth 20000 in
theorem ggX8_step_X3_become : GoodIn wsX8_step wsX3_become := goodIn_r _ [8, 9, 10, 11, 12, 109, 110, 111, 112] (by decide +kernel) (by decide +kernel)
set_option maxRecDepth 20000 in
theorem gX8_step_X3_become : GoodIn wsX8_step (wsV RX8 140 RX3 yX3_become wsX3_become) := goodIn_app (goodIn_of _ (by decide +kernel)) ggX8_step_X3_become
theorem ggX8_step_X3_advance_h : GoodIn wsX8_step [.code yX3_advance cX3_advance 6 (some .int)] := goodIn_r _ [16] (by decide +kernel) (by decide +kernel)
theorem ggX8_step_X3_advance_wsX3_advance_r1 : GoodIn wsX8_step wsX3_advance_r1 := goodIn_r _ [9, 11, 12, 17, 18, 19, 7, 20, 21, 22, 23, 24, 25, 26, 27, 28, 29, 30, 31, 32, 33, 34, 35, 36] (by decide +kernel) (by decide +kernel)
theorem ggX8_step_X3_advance_wsX3_advance_r2 : GoodIn wsX8_step wsX3_advance_r2 := goodIn_r _ [37, 38, 39, 40, 10, 41, 42, 43, 44, 45, 46, 47, 48, 49, 50, 51, 52, 53, 54, 55, 56, 57, 58, 59] (by decide +kernel) (by decide +kernel)
theorem ggX8_step_X3_advance_wsX3_advance_r3 : GoodIn wsX8_step wsX3_advance_r3 := goodIn_r _ [60, 61, 62, 63, 64, 65, 66, 67, 68, 69, 70, 71, 72, 73] (by decide +kernel) (by decide +kernel)
theorem gw_wsX8_step_wsX30 : GoodIn wsX8_step wsX30 := goodIn_r _ [109, 110, 111, 112] (by decide +kernel) (by decide +kernel)
theorem gw_wsX8_step_wsX00 : GoodIn wsX8_step wsX00 := goodIn_r _ [113, 114, 115, 116, 117, 118] (by decide +kernel) (by decide +kernel)
theorem ggX8_step_X3_advance : GoodIn wsX8_step wsX3_advance := q_gcons ggX8_step_X3_advance_h (goodIn_app (goodIn_app (goodIn_app ggX8_step_X3_advance_wsX3_advance_r1 (goodIn_app ggX8_step_X3_advance_wsX3_advance_r2 (ggX8_step_X3_advance_wsX3_advance_r3))) gw_wsX8_step_wsX30) gw_wsX8_step_wsX00)
set_option maxRecDepth 20000 in
theorem gX8_step_X3_advance : GoodIn wsX8_step (wsV RX8 144 RX3 yX3_advance wsX3_advance) := goodIn_app (goodIn_of _ (by decide +kernel)) ggX8_step_X3_advance
set_option maxRecDepth 20000 in
theorem ggX8_step_X8_act : GoodIn wsX8_step wsX8_act := goodIn_r _ [77, 78, 2, 1, 79, 80, 81, 82, 83, 84, 85, 86, 87, 88, 89, 90, 91, 92, 93, 94, 95, 96, 97, 4, 5, 6, 7, 8, 9, 10, 11, 12, 98, 99, 100, 101, 102, 103, 104, 105, 106, 107, 108, 119, 120, 121, 122, 123, 124, 109, 110, 111, 112] (by decide +kernel) (by decide +kernel)
set_option maxRecDepth 20000 in
theorem gX8_step_X8_act : GoodIn wsX8_step (wsV RX8 148 RX8 yX8_act wsX8_act) := goodIn_app (goodIn_of _ (by decide +kernel)) ggX8_step_X8_act
theorem dX8_step_0 : decode cX8_step 0 = .ok (.aload_n 0, 1) := by decide +kernel
theorem dX8_step_1 : decode cX8_step 1 = .ok (.getfield 25, 3) := by decide +kernel
theorem dX8_step_4 : decode cX8_step 4 = .ok (.aload_n 0, 1) := by decide +kernel
theorem dX8_step_5 : decode cX8_step 5 = .ok (.getfield 21, 3) := by decide +kernel
theorem dX8_step_8 : decode cX8_step 8 = .ok (.invokevirtual 140, 3) := by decide +kernel
theorem dX8_step_11 : decode cX8_step 11 = .ok (.aload_n 0, 1) := by decide +kernel
theorem dX8_step_12 : decode cX8_step 12 = .ok (.aload_n 0, 1) := by decide +kernel
theorem dX8_step_13 : decode cX8_step 13 = .ok (.getfield 25, 3) := by decide +kernel
theorem dX8_step_16 : decode cX8_step 16 = .ok (.aload_n 0, 1) := by decide +kernel
theorem dX8_step_17 : decode cX8_step 17 = .ok (.getfield 12, 3) := by decide +kernel
theorem dX8_step_20 : decode cX8_step 20 = .ok (.iload_n 1, 1) := by decide +kernel
theorem dX8_step_21 : decode cX8_step 21 = .ok (.invokevirtual 144, 3) := by decide +kernel
theorem dX8_step_24 : decode cX8_step 24 = .ok (.invokevirtual 148, 3) := by decide +kernel
theorem dX8_step_27 : decode cX8_step 27 = .ok (.ireturn, 1) := by decide +kernel
set_option maxRecDepth 20000 in
theorem ggX8_walk_X0_numberOf : GoodIn wsX8_walk wsX0_numberOf := goodIn_r _ [7, 8, 9, 120, 121, 122, 123, 124, 125] (by decide +kernel) (by decide +kernel)
set_option maxRecDepth 20000 in
theorem gX8_walk_X0_numberOf : GoodIn wsX8_walk (wsV RX8 77 RX0 yX0_numberOf wsX0_numberOf) := goodIn_app (goodIn_of _ (by decide +kernel)) ggX8_walk_X0_numberOf
set_option maxRecDepth 20000 in
theorem ggX8_walk_X3_hasMan : GoodIn wsX8_walk wsX3_hasMan := goodIn_r _ [14, 15, 126, 127, 128, 129] (by decide +kernel) (by decide +kernel)
set_option maxRecDepth 20000 in
theorem gX8_walk_X3_hasMan : GoodIn wsX8_walk (wsV RX8 122 RX3 yX3_hasMan wsX3_hasMan) := goodIn_app (goodIn_of _ (by decide +kernel)) ggX8_walk_X3_hasMan
theorem dX8_walk_0 : decode cX8_walk 0 = .ok (.aload_n 0, 1) := by decide +kernel
theorem dX8_walk_1 : decode cX8_walk 1 = .ok (.getfield 12, 3) := by decide +kernel
theorem dX8_walk_4 : decode cX8_walk 4 = .ok (.iload_n 1, 1) := by decide +kernel
theorem dX8_walk_5 : decode cX8_walk 5 = .ok (.iload_n 2, 1) := by decide +kernel
theorem dX8_walk_6 : decode cX8_walk 6 = .ok (.invokevirtual 77, 3) := by decide +kernel
theorem dX8_walk_9 : decode cX8_walk 9 = .ok (.istore_n 3, 1) := by decide +kernel
theorem dX8_walk_10 : decode cX8_walk 10 = .ok (.aload_n 0, 1) := by decide +kernel
theorem dX8_walk_11 : decode cX8_walk 11 = .ok (.getfield 21, 3) := by decide +kernel
theorem dX8_walk_14 : decode cX8_walk 14 = .ok (.invokevirtual 122, 3) := by decide +kernel
theorem dX8_walk_17 : decode cX8_walk 17 = .ok (.ifCond .eq 8, 3) := by decide +kernel
theorem dX8_walk_25 : decode cX8_walk 25 = .ok (.bipush (-2), 2) := by decide +kernel
theorem dX8_walk_27 : decode cX8_walk 27 = .ok (.ireturn, 1) := by decide +kernel
theorem ggX8_push_X8_tryPush_h : GoodIn wsX8_push [.code yX8_tryPush cX8_tryPush 5 (some .int)] := goodIn_r _ [5] (by decide +kernel) (by decide +kernel)
theorem ggX8_push_X8_tryPush_wsX8_tryPush_r1 : GoodIn wsX8_push wsX8_tryPush_r1 := goodIn_r _ [6, 7, 8, 9, 10, 11, 12, 13, 14, 15, 16, 17, 18, 19, 20, 21, 22, 23, 4, 24, 25, 26, 27, 28] (by decide +kernel) (by decide +kernel)
theorem ggX8_push_X8_tryPush_wsX8_tryPush_r2 : GoodIn wsX8_push wsX8_tryPush_r2 := goodIn_r _ [29, 30, 31, 32, 33, 34, 35, 36, 37, 38, 39, 40, 41, 42, 43, 44, 45, 46, 47, 48, 49, 50, 51, 52] (by decide +kernel) (by decide +kernel)
theorem ggX8_push_X8_tryPush_wsX8_tryPush_r3 : GoodIn wsX8_push wsX8_tryPush_r3 := goodIn_r _ [53, 54, 55, 56, 57, 58, 59, 60, 61, 62, 63, 64, 65, 66, 67, 68, 69, 70, 71, 72, 73, 74, 75, 76] (by decide +kernel) (by decide +kernel)
theorem ggX8_push_X8_tryPush_wsX8_tryPush_r4 : GoodIn wsX8_push wsX8_tryPush_r4 := goodIn_r _ [77, 78, 79, 80, 81, 82, 83, 84, 85, 86, 87, 88, 89, 90, 91, 92, 93, 94, 95, 96, 97, 98, 99, 100] (by decide +kernel) (by decide +kernel)
theorem ggX8_push_X8_tryPush_wsX8_tryPush_r5 : GoodIn wsX8_push wsX8_tryPush_r5 := goodIn_r _ [101, 102, 103, 104, 105, 106, 107, 108, 109, 110, 111, 112, 113, 114, 115, 116, 117] (by decide +kernel) (by decide +kernel)
theorem gw_wsX8_push_wsX80 : GoodIn wsX8_push wsX80 := goodIn_r _ [142, 143, 144, 145, 146, 147, 148, 149, 150, 151, 152] (by decide +kernel) (by decide +kernel)
theorem gw_wsX8_push_wsX00 : GoodIn wsX8_push wsX00 := goodIn_r _ [153, 154, 155, 156, 157, 158] (by decide +kernel) (by decide +kernel)
theorem gw_wsX8_push_wsX30 : GoodIn wsX8_push wsX30 := goodIn_r _ [159, 160, 161, 162] (by decide +kernel) (by decide +kernel)
theorem gw_wsX8_push_wsX60 : GoodIn wsX8_push wsX60 := goodIn_r _ [163, 164, 165] (by decide +kernel) (by decide +kernel)
theorem ggX8_push_X8_tryPush : GoodIn wsX8_push wsX8_tryPush := q_gcons ggX8_push_X8_tryPush_h (goodIn_app (goodIn_app (goodIn_app (goodIn_app (goodIn_app ggX8_push_X8_tryPush_wsX8_tryPush_r1 (goodIn_app ggX8_push_X8_tryPush_wsX8_tryPush_r2 (goodIn_app ggX8_push_X8_tryPush_wsX8_tryPush_r3 (goodIn_app ggX8_push_X8_tryPush_wsX8_tryPush_r4 (ggX8_push_X8_tryPush_wsX8_tryPush_r5))))) gw_wsX8_push_wsX80) gw_wsX8_push_wsX00) gw_wsX8_push_wsX30) gw_wsX8_push_wsX60)
set_option maxRecDepth 20000 in
theorem gX8_push_X8_tryPush : GoodIn wsX8_push (wsV RX8 154 RX8 yX8_tryPush wsX8_tryPush) := goodIn_app (goodIn_of _ (by decide +kernel)) ggX8_push_X8_tryPush
set_option maxRecDepth 20000 in
theorem ggX8_push_X8_act : GoodIn wsX8_push wsX8_act := goodIn_r _ [121, 122, 7, 8, 123, 124, 125, 126, 127, 128, 129, 130, 131, 132, 133, 134, 135, 136, 137, 138, 139, 140, 141, 89, 90, 91, 19, 92, 21, 29, 93, 94, 142, 143, 144, 145, 146, 147, 148, 149, 150, 151, 152, 166, 167, 168, 169, 170, 171, 159, 160, 161, 162] (by decide +kernel) (by decide +kernel)
set_option maxRecDepth 20000 in
theorem gX8_push_X8_act : GoodIn wsX8_push (wsV RX8 148 RX8 yX8_act wsX8_act) := goodIn_app (goodIn_of _ (by decide +kernel)) ggX8_push_X8_act
theorem dX8_push_0 : decode cX8_push 0 = .ok (.aload_n 0, 1) := by decide +kernel
theorem dX8_push_1 : decode cX8_push 1 = .ok (.aload_n 0, 1) := by decide +kernel
theorem dX8_push_2 : decode cX8_push 2 = .ok (.iload_n 1, 1) := by decide +kernel
theorem dX8_push_3 : decode cX8_push 3 = .ok (.iload_n 2, 1) := by decide +kernel
theorem dX8_push_4 : decode cX8_push 4 = .ok (.iload_n 3, 1) := by decide +kernel
theorem dX8_push_5 : decode cX8_push 5 = .ok (.invokevirtual 154, 3) := by decide +kernel
theorem dX8_push_8 : decode cX8_push 8 = .ok (.invokevirtual 148, 3) := by decide +kernel
theorem dX8_push_11 : decode cX8_push 11 = .ok (.ireturn, 1) := by decide +kernel
theorem ggX8_can_X8_tryPush_h : GoodIn wsX8_can [.code yX8_tryPush cX8_tryPush 5 (some .int)] := goodIn_r _ [5] (by decide +kernel) (by decide +kernel)
theorem ggX8_can_X8_tryPush_wsX8_tryPush_r1 : GoodIn wsX8_can wsX8_tryPush_r1 := goodIn_r _ [6, 7, 8, 9, 10, 11, 12, 13, 14, 15, 16, 17, 18, 19, 20, 21, 22, 23, 4, 24, 25, 26, 27, 28] (by decide +kernel) (by decide +kernel)
theorem ggX8_can_X8_tryPush_wsX8_tryPush_r2 : GoodIn wsX8_can wsX8_tryPush_r2 := goodIn_r _ [29, 30, 31, 32, 33, 34, 35, 36, 37, 38, 39, 40, 41, 42, 43, 44, 45, 46, 47, 48, 49, 50, 51, 52] (by decide +kernel) (by decide +kernel)
theorem ggX8_can_X8_tryPush_wsX8_tryPush_r3 : GoodIn wsX8_can wsX8_tryPush_r3 := goodIn_r _ [53, 54, 55, 56, 57, 58, 59, 60, 61, 62, 63, 64, 65, 66, 67, 68, 69, 70, 71, 72, 73, 74, 75, 76] (by decide +kernel) (by decide +kernel)
theorem ggX8_can_X8_tryPush_wsX8_tryPush_r4 : GoodIn wsX8_can wsX8_tryPush_r4 := goodIn_r _ [77, 78, 79, 80, 81, 82, 83, 84, 85, 86, 87, 88, 89, 90, 91, 92, 93, 94, 95, 96, 97, 98, 99, 100] (by decide +kernel) (by decide +kernel)
theorem ggX8_can_X8_tryPush_wsX8_tryPush_r5 : GoodIn wsX8_can wsX8_tryPush_r5 := goodIn_r _ [101, 102, 103, 104, 105, 106, 107, 108, 109, 110, 111, 112, 113, 114, 115, 116, 117] (by decide +kernel) (by decide +kernel)
theorem gw_wsX8_can_wsX80 : GoodIn wsX8_can wsX80 := goodIn_r _ [118, 119, 120, 121, 122, 123, 124, 125, 126, 127, 128] (by decide +kernel) (by decide +kernel)
theorem gw_wsX8_can_wsX00 : GoodIn wsX8_can wsX00 := goodIn_r _ [129, 130, 131, 132, 133, 134] (by decide +kernel) (by decide +kernel)
theorem gw_wsX8_can_wsX30 : GoodIn wsX8_can wsX30 := goodIn_r _ [135, 136, 137, 138] (by decide +kernel) (by decide +kernel)
theorem gw_wsX8_can_wsX60 : GoodIn wsX8_can wsX60 := goodIn_r _ [139, 140, 141] (by decide +kernel) (by decide +kernel)
theorem ggX8_can_X8_tryPush : GoodIn wsX8_can wsX8_tryPush := q_gcons ggX8_can_X8_tryPush_h (goodIn_app (goodIn_app (goodIn_app (goodIn_app (goodIn_app ggX8_can_X8_tryPush_wsX8_tryPush_r1 (goodIn_app ggX8_can_X8_tryPush_wsX8_tryPush_r2 (goodIn_app ggX8_can_X8_tryPush_wsX8_tryPush_r3 (goodIn_app ggX8_can_X8_tryPush_wsX8_tryPush_r4 (ggX8_can_X8_tryPush_wsX8_tryPush_r5))))) gw_wsX8_can_wsX80) gw_wsX8_can_wsX00) gw_wsX8_can_wsX30) gw_wsX8_can_wsX60)
set_option maxRecDepth 20000 in
theorem gX8_can_X8_tryPush : GoodIn wsX8_can (wsV RX8 154 RX8 yX8_tryPush wsX8_tryPush) := goodIn_app (goodIn_of _ (by decide +kernel)) ggX8_can_X8_tryPush
theorem dX8_can_0 : decode cX8_can 0 = .ok (.aload_n 0, 1) := by decide +kernel
theorem dX8_can_1 : decode cX8_can 1 = .ok (.iload_n 1, 1) := by decide +kernel
theorem dX8_can_2 : decode cX8_can 2 = .ok (.iload_n 2, 1) := by decide +kernel
theorem dX8_can_3 : decode cX8_can 3 = .ok (.iload_n 3, 1) := by decide +kernel
theorem dX8_can_4 : decode cX8_can 4 = .ok (.invokevirtual 154, 3) := by decide +kernel
theorem dX8_can_7 : decode cX8_can 7 = .ok (.ireturn, 1) := by decide +kernel
set_option maxRecDepth 20000 in
theorem ggX8_undo_X5_goBack : GoodIn wsX8_undo wsX5_goBack := goodIn_r _ [7, 8, 9, 10, 11, 6, 12, 13, 14, 15, 16, 17, 18, 19, 20, 32, 33, 34, 35, 36, 37, 38, 39, 40, 41] (by decide +kernel) (by decide +kernel)
set_option maxRecDepth 20000 in
theorem gX8_undo_X5_goBack : GoodIn wsX8_undo (wsV RX8 157 RX5 yX5_goBack wsX5_goBack) := goodIn_app (goodIn_of _ (by decide +kernel)) ggX8_undo_X5_goBack
theorem dX8_undo_0 : decode cX8_undo 0 = .ok (.aload_n 0, 1) := by decide +kernel
theorem dX8_undo_1 : decode cX8_undo 1 = .ok (.getfield 31, 3) := by decide +kernel
theorem dX8_undo_4 : decode cX8_undo 4 = .ok (.aload_n 0, 1) := by decide +kernel
theorem dX8_undo_5 : decode cX8_undo 5 = .ok (.getfield 21, 3) := by decide +kernel
theorem dX8_undo_8 : decode cX8_undo 8 = .ok (.invokevirtual 157, 3) := by decide +kernel
theorem dX8_undo_11 : decode cX8_undo 11 = .ok (.ireturn, 1) := by decide +kernel
set_option maxRecDepth 20000 in
theorem ggX8_redo_X5_goForth : GoodIn wsX8_redo wsX5_goForth := goodIn_r _ [7, 8, 9, 10, 11, 12, 6, 13, 14, 15, 16, 17, 18, 19, 20, 21, 33, 34, 35, 36, 37, 38, 39, 40, 41, 42] (by decide +kernel) (by decide +kernel)
set_option maxRecDepth 20000 in
theorem gX8_redo_X5_goForth : GoodIn wsX8_redo (wsV RX8 161 RX5 yX5_goForth wsX5_goForth) := goodIn_app (goodIn_of _ (by decide +kernel)) ggX8_redo_X5_goForth
theorem dX8_redo_0 : decode cX8_redo 0 = .ok (.aload_n 0, 1) := by decide +kernel
theorem dX8_redo_1 : decode cX8_redo 1 = .ok (.getfield 31, 3) := by decide +kernel
theorem dX8_redo_4 : decode cX8_redo 4 = .ok (.aload_n 0, 1) := by decide +kernel
theorem dX8_redo_5 : decode cX8_redo 5 = .ok (.getfield 21, 3) := by decide +kernel
theorem dX8_redo_8 : decode cX8_redo 8 = .ok (.invokevirtual 161, 3) := by decide +kernel
theorem dX8_redo_11 : decode cX8_redo 11 = .ok (.ireturn, 1) := by decide +kernel
set_option maxRecDepth 20000 in
theorem ggX8_kind_X0_numberOf : GoodIn wsX8_kind wsX0_numberOf := goodIn_r _ [6, 7, 8, 26, 27, 28, 29, 30, 31] (by decide +kernel) (by decide +kernel)
set_option maxRecDepth 20000 in
theorem gX8_kind_X0_numberOf : GoodIn wsX8_kind (wsV RX8 77 RX0 yX0_numberOf wsX0_numberOf) := goodIn_app (goodIn_of _ (by decide +kernel)) ggX8_kind_X0_numberOf
set_option maxRecDepth 20000 in
theorem ggX8_kind_X0_kindNow : GoodIn wsX8_kind wsX0_kindNow := goodIn_r _ [12, 13, 14, 26, 27, 28, 29, 30, 31] (by decide +kernel) (by decide +kernel)
set_option maxRecDepth 20000 in
theorem gX8_kind_X0_kindNow : GoodIn wsX8_kind (wsV RX8 129 RX0 yX0_kindNow wsX0_kindNow) := goodIn_app (goodIn_of _ (by decide +kernel)) ggX8_kind_X0_kindNow
theorem dX8_kind_0 : decode cX8_kind 0 = .ok (.aload_n 0, 1) := by decide +kernel
theorem dX8_kind_1 : decode cX8_kind 1 = .ok (.getfield 12, 3) := by decide +kernel
theorem dX8_kind_4 : decode cX8_kind 4 = .ok (.iload_n 1, 1) := by decide +kernel
theorem dX8_kind_5 : decode cX8_kind 5 = .ok (.iload_n 2, 1) := by decide +kernel
theorem dX8_kind_6 : decode cX8_kind 6 = .ok (.invokevirtual 77, 3) := by decide +kernel
theorem dX8_kind_9 : decode cX8_kind 9 = .ok (.istore_n 3, 1) := by decide +kernel
theorem dX8_kind_10 : decode cX8_kind 10 = .ok (.iload_n 3, 1) := by decide +kernel
theorem dX8_kind_11 : decode cX8_kind 11 = .ok (.iconst (-1), 1) := by decide +kernel
theorem dX8_kind_12 : decode cX8_kind 12 = .ok (.if_icmp .ne 8, 3) := by decide +kernel
theorem dX8_kind_15 : decode cX8_kind 15 = .ok (.bipush (-2), 2) := by decide +kernel
theorem dX8_kind_17 : decode cX8_kind 17 = .ok (.goto 11, 3) := by decide +kernel
theorem dX8_kind_20 : decode cX8_kind 20 = .ok (.aload_n 0, 1) := by decide +kernel
theorem dX8_kind_21 : decode cX8_kind 21 = .ok (.getfield 12, 3) := by decide +kernel
theorem dX8_kind_24 : decode cX8_kind 24 = .ok (.iload_n 3, 1) := by decide +kernel
theorem dX8_kind_25 : decode cX8_kind 25 = .ok (.invokevirtual 129, 3) := by decide +kernel
theorem dX8_kind_28 : decode cX8_kind 28 = .ok (.ireturn, 1) := by decide +kernel
set_option maxRecDepth 20000 in
theorem ggX8_on_X0_numberOf : GoodIn wsX8_on wsX0_numberOf := goodIn_r _ [9, 10, 11, 40, 41, 42, 43, 44, 45] (by decide +kernel) (by decide +kernel)
set_option maxRecDepth 20000 in
theorem gX8_on_X0_numberOf : GoodIn wsX8_on (wsV RX8 77 RX0 yX0_numberOf wsX0_numberOf) := goodIn_app (goodIn_of _ (by decide +kernel)) ggX8_on_X0_numberOf
set_option maxRecDepth 20000 in
theorem ggX8_on_X3_hasBarrel : GoodIn wsX8_on wsX3_hasBarrel := goodIn_r _ [16, 17, 18, 19, 20, 21, 22, 23, 36, 37, 38, 39] (by decide +kernel) (by decide +kernel)
set_option maxRecDepth 20000 in
theorem gX8_on_X3_hasBarrel : GoodIn wsX8_on (wsV RX8 108 RX3 yX3_hasBarrel wsX3_hasBarrel) := goodIn_app (goodIn_of _ (by decide +kernel)) ggX8_on_X3_hasBarrel
set_option maxRecDepth 20000 in
theorem ggX8_on_X8_has : GoodIn wsX8_on wsX8_has := goodIn_r _ [20, 21, 22, 19, 23] (by decide +kernel) (by decide +kernel)
set_option maxRecDepth 20000 in
theorem gX8_on_X8_has : GoodIn wsX8_on (va_wsS RX8 136 yX8_has wsX8_has) := goodIn_app (goodIn_of _ (by decide +kernel)) ggX8_on_X8_has
theorem dX8_on_0 : decode cX8_on 0 = .ok (.aload_n 0, 1) := by decide +kernel
theorem dX8_on_1 : decode cX8_on 1 = .ok (.getfield 12, 3) := by decide +kernel
theorem dX8_on_4 : decode cX8_on 4 = .ok (.iload_n 1, 1) := by decide +kernel
theorem dX8_on_5 : decode cX8_on 5 = .ok (.iload_n 2, 1) := by decide +kernel
theorem dX8_on_6 : decode cX8_on 6 = .ok (.invokevirtual 77, 3) := by decide +kernel
theorem dX8_on_9 : decode cX8_on 9 = .ok (.istore_n 3, 1) := by decide +kernel
theorem dX8_on_10 : decode cX8_on 10 = .ok (.iload_n 3, 1) := by decide +kernel
theorem dX8_on_11 : decode cX8_on 11 = .ok (.iconst (-1), 1) := by decide +kernel
theorem dX8_on_12 : decode cX8_on 12 = .ok (.if_icmp .ne 6, 3) := by decide +kernel
theorem dX8_on_15 : decode cX8_on 15 = .ok (.bipush (-2), 2) := by decide +kernel
theorem dX8_on_17 : decode cX8_on 17 = .ok (.ireturn, 1) := by decide +kernel
theorem dX8_on_18 : decode cX8_on 18 = .ok (.aload_n 0, 1) := by decide +kernel
theorem dX8_on_19 : decode cX8_on 19 = .ok (.getfield 21, 3) := by decide +kernel
theorem dX8_on_22 : decode cX8_on 22 = .ok (.iload_n 3, 1) := by decide +kernel
theorem dX8_on_23 : decode cX8_on 23 = .ok (.invokevirtual 108, 3) := by decide +kernel
theorem dX8_on_26 : decode cX8_on 26 = .ok (.ifCond .eq 7, 3) := by decide +kernel
theorem dX8_on_33 : decode cX8_on 33 = .ok (.aload_n 0, 1) := by decide +kernel
theorem dX8_on_34 : decode cX8_on 34 = .ok (.getfield 21, 3) := by decide +kernel
theorem dX8_on_37 : decode cX8_on 37 = .ok (.getfield 126, 3) := by decide +kernel
theorem dX8_on_40 : decode cX8_on 40 = .ok (.iload_n 3, 1) := by decide +kernel
theorem dX8_on_41 : decode cX8_on 41 = .ok (.if_icmp .ne 7, 3) := by decide +kernel
theorem dX8_on_48 : decode cX8_on 48 = .ok (.iconst 0, 1) := by decide +kernel
theorem dX8_on_49 : decode cX8_on 49 = .ok (.istore 4, 2) := by decide +kernel
theorem dX8_on_51 : decode cX8_on 51 = .ok (.aload_n 0, 1) := by decide +kernel
theorem dX8_on_52 : decode cX8_on 52 = .ok (.getfield 12, 3) := by decide +kernel
theorem dX8_on_55 : decode cX8_on 55 = .ok (.getfield 133, 3) := by decide +kernel
theorem dX8_on_58 : decode cX8_on 58 = .ok (.iload_n 3, 1) := by decide +kernel
theorem dX8_on_59 : decode cX8_on 59 = .ok (.invokestatic 136, 3) := by decide +kernel
theorem dX8_on_62 : decode cX8_on 62 = .ok (.ifCond .eq 10, 3) := by decide +kernel
theorem dX8_on_72 : decode cX8_on 72 = .ok (.iload 4, 2) := by decide +kernel
theorem dX8_on_74 : decode cX8_on 74 = .ok (.ireturn, 1) := by decide +kernel
set_option maxRecDepth 20000 in
theorem ggX8_far_X0_numberOf : GoodIn wsX8_far wsX0_numberOf := goodIn_r _ [8, 9, 10, 83, 84, 85, 86, 87, 88] (by decide +kernel) (by decide +kernel)
set_option maxRecDepth 20000 in
theorem gX8_far_X0_numberOf : GoodIn wsX8_far (wsV RX8 77 RX0 yX0_numberOf wsX0_numberOf) := goodIn_app (goodIn_of _ (by decide +kernel)) ggX8_far_X0_numberOf
set_option maxRecDepth 20000 in
theorem ggX8_far_X3_hasMan : GoodIn wsX8_far wsX3_hasMan := goodIn_r _ [15, 16, 89, 90, 91, 92] (by decide +kernel) (by decide +kernel)
set_option maxRecDepth 20000 in
theorem gX8_far_X3_hasMan : GoodIn wsX8_far (wsV RX8 122 RX3 yX3_hasMan wsX3_hasMan) := goodIn_app (goodIn_of _ (by decide +kernel)) ggX8_far_X3_hasMan
theorem dX8_far_0 : decode cX8_far 0 = .ok (.aload_n 0, 1) := by decide +kernel
theorem dX8_far_1 : decode cX8_far 1 = .ok (.getfield 12, 3) := by decide +kernel
theorem dX8_far_4 : decode cX8_far 4 = .ok (.iload_n 1, 1) := by decide +kernel
theorem dX8_far_5 : decode cX8_far 5 = .ok (.iload_n 2, 1) := by decide +kernel
theorem dX8_far_6 : decode cX8_far 6 = .ok (.invokevirtual 77, 3) := by decide +kernel
theorem dX8_far_9 : decode cX8_far 9 = .ok (.istore_n 3, 1) := by decide +kernel
theorem dX8_far_10 : decode cX8_far 10 = .ok (.aload_n 0, 1) := by decide +kernel
theorem dX8_far_11 : decode cX8_far 11 = .ok (.getfield 21, 3) := by decide +kernel
theorem dX8_far_14 : decode cX8_far 14 = .ok (.invokevirtual 122, 3) := by decide +kernel
theorem dX8_far_17 : decode cX8_far 17 = .ok (.ifCond .eq 8, 3) := by decide +kernel
theorem dX8_far_25 : decode cX8_far 25 = .ok (.bipush (-2), 2) := by decide +kernel
theorem dX8_far_27 : decode cX8_far 27 = .ok (.ireturn, 1) := by decide +kernel
set_option maxRecDepth 20000 in
theorem ggX8_isDone_X8_isDoneIn : GoodIn wsX8_isDone wsX8_isDoneIn := goodIn_r _ [6, 7, 8, 9, 10, 11, 12, 13, 14, 15, 16, 17, 18, 19, 20, 21, 22, 23, 24, 25, 26, 27, 28, 29, 30, 31] (by decide +kernel) (by decide +kernel)
set_option maxRecDepth 20000 in
theorem gX8_isDone_X8_isDoneIn : GoodIn wsX8_isDone (wsV RX8 171 RX8 yX8_isDoneIn wsX8_isDoneIn) := goodIn_app (goodIn_of _ (by decide +kernel)) ggX8_isDone_X8_isDoneIn
theorem dX8_isDone_0 : decode cX8_isDone 0 = .ok (.aload_n 0, 1) := by decide +kernel
theorem dX8_isDone_1 : decode cX8_isDone 1 = .ok (.aload_n 0, 1) := by decide +kernel
theorem dX8_isDone_2 : decode cX8_isDone 2 = .ok (.getfield 21, 3) := by decide +kernel
theorem dX8_isDone_5 : decode cX8_isDone 5 = .ok (.invokevirtual 171, 3) := by decide +kernel
theorem dX8_isDone_8 : decode cX8_isDone 8 = .ok (.ireturn, 1) := by decide +kernel
set_option maxRecDepth 20000 in
theorem ggX8_isReady_J13_bitCount_95d88 : GoodIn wsX8_isReady wsJ13_bitCount_95d88 := goodIn_r _ [8, 9, 10, 11] (by decide +kernel) (by decide +kernel)
set_option maxRecDepth 20000 in
theorem gX8_isReady_J13_bitCount_95d88 : GoodIn wsX8_isReady (va_wsS RX8 175 yJ13_bitCount_95d88 wsJ13_bitCount_95d88) := goodIn_app (goodIn_of _ (by decide +kernel)) ggX8_isReady_J13_bitCount_95d88
set_option maxRecDepth 20000 in
theorem ggX8_isReady_X3_hasMan : GoodIn wsX8_isReady wsX3_hasMan := goodIn_r _ [16, 17, 29, 30, 31, 32] (by decide +kernel) (by decide +kernel)
set_option maxRecDepth 20000 in
theorem gX8_isReady_X3_hasMan : GoodIn wsX8_isReady (wsV RX8 122 RX3 yX3_hasMan wsX3_hasMan) := goodIn_app (goodIn_of _ (by decide +kernel)) ggX8_isReady_X3_hasMan
theorem dX8_isReady_0 : decode cX8_isReady 0 = .ok (.aload_n 0, 1) := by decide +kernel
theorem dX8_isReady_1 : decode cX8_isReady 1 = .ok (.getfield 21, 3) := by decide +kernel
theorem dX8_isReady_4 : decode cX8_isReady 4 = .ok (.getfield 111, 3) := by decide +kernel
theorem dX8_isReady_7 : decode cX8_isReady 7 = .ok (.invokestatic 175, 3) := by decide +kernel
theorem dX8_isReady_10 : decode cX8_isReady 10 = .ok (.istore_n 1, 1) := by decide +kernel
theorem dX8_isReady_11 : decode cX8_isReady 11 = .ok (.aload_n 0, 1) := by decide +kernel
theorem dX8_isReady_12 : decode cX8_isReady 12 = .ok (.getfield 21, 3) := by decide +kernel
theorem dX8_isReady_15 : decode cX8_isReady 15 = .ok (.invokevirtual 122, 3) := by decide +kernel
theorem dX8_isReady_18 : decode cX8_isReady 18 = .ok (.ifCond .eq 26, 3) := by decide +kernel
theorem dX8_isReady_44 : decode cX8_isReady 44 = .ok (.iconst 0, 1) := by decide +kernel
theorem dX8_isReady_45 : decode cX8_isReady 45 = .ok (.ireturn, 1) := by decide +kernel
set_option maxRecDepth 20000 in
theorem ggX8_dead_X0_numberOf : GoodIn wsX8_dead wsX0_numberOf := goodIn_r _ [7, 8, 9, 93, 94, 95, 96, 97, 98] (by decide +kernel) (by decide +kernel)
set_option maxRecDepth 20000 in
theorem gX8_dead_X0_numberOf : GoodIn wsX8_dead (wsV RX8 77 RX0 yX0_numberOf wsX0_numberOf) := goodIn_app (goodIn_of _ (by decide +kernel)) ggX8_dead_X0_numberOf
theorem ggX8_dead_X2_isDead_h : GoodIn wsX8_dead [.code yX2_isDead cX2_isDead 4 (some .boolean)] := goodIn_r _ [14] (by decide +kernel) (by decide +kernel)
theorem ggX8_dead_X2_isDead_wsX2_isDead_r1 : GoodIn wsX8_dead wsX2_isDead_r1 := goodIn_r _ [15, 16, 17, 18, 19, 6, 20, 21, 22, 23, 24, 25, 13, 26, 27, 28, 29, 30, 31, 32, 33, 34, 35, 36] (by decide +kernel) (by decide +kernel)
theorem ggX8_dead_X2_isDead_wsX2_isDead_r2 : GoodIn wsX8_dead wsX2_isDead_r2 := goodIn_r _ [37, 38, 39, 40, 41, 42, 43, 44, 45, 46, 47, 48, 49, 50, 51, 52, 4, 5, 7, 8, 9, 53, 54, 55] (by decide +kernel) (by decide +kernel)
theorem ggX8_dead_X2_isDead_wsX2_isDead_r3 : GoodIn wsX8_dead wsX2_isDead_r3 := goodIn_r _ [56, 57, 58, 59, 60, 61, 62, 63, 64, 65, 66, 67, 68, 69, 70, 71, 72, 73, 74, 75, 76, 77, 78, 79] (by decide +kernel) (by decide +kernel)
theorem ggX8_dead_X2_isDead_wsX2_isDead_r4 : GoodIn wsX8_dead wsX2_isDead_r4 := goodIn_r _ [80, 81] (by decide +kernel) (by decide +kernel)
theorem gw_wsX8_dead_wsX00 : GoodIn wsX8_dead wsX00 := goodIn_r _ [93, 94, 95, 96, 97, 98] (by decide +kernel) (by decide +kernel)
theorem gw_wsX8_dead_wsX20 : GoodIn wsX8_dead wsX20 := goodIn_r _ [99, 100, 101] (by decide +kernel) (by decide +kernel)
theorem ggX8_dead_X2_isDead : GoodIn wsX8_dead wsX2_isDead := q_gcons ggX8_dead_X2_isDead_h (goodIn_app (goodIn_app (goodIn_app ggX8_dead_X2_isDead_wsX2_isDead_r1 (goodIn_app ggX8_dead_X2_isDead_wsX2_isDead_r2 (goodIn_app ggX8_dead_X2_isDead_wsX2_isDead_r3 (ggX8_dead_X2_isDead_wsX2_isDead_r4)))) gw_wsX8_dead_wsX00) gw_wsX8_dead_wsX20)
set_option maxRecDepth 20000 in
theorem gX8_dead_X2_isDead : GoodIn wsX8_dead (wsV RX8 181 RX2 yX2_isDead wsX2_isDead) := goodIn_app (goodIn_of _ (by decide +kernel)) ggX8_dead_X2_isDead
theorem dX8_dead_0 : decode cX8_dead 0 = .ok (.aload_n 0, 1) := by decide +kernel
theorem dX8_dead_1 : decode cX8_dead 1 = .ok (.getfield 12, 3) := by decide +kernel
theorem dX8_dead_4 : decode cX8_dead 4 = .ok (.iload_n 1, 1) := by decide +kernel
theorem dX8_dead_5 : decode cX8_dead 5 = .ok (.iload_n 2, 1) := by decide +kernel
theorem dX8_dead_6 : decode cX8_dead 6 = .ok (.invokevirtual 77, 3) := by decide +kernel
theorem dX8_dead_9 : decode cX8_dead 9 = .ok (.istore_n 3, 1) := by decide +kernel
theorem dX8_dead_10 : decode cX8_dead 10 = .ok (.iload_n 3, 1) := by decide +kernel
theorem dX8_dead_11 : decode cX8_dead 11 = .ok (.iconst (-1), 1) := by decide +kernel
theorem dX8_dead_12 : decode cX8_dead 12 = .ok (.if_icmp .ne 6, 3) := by decide +kernel
theorem dX8_dead_15 : decode cX8_dead 15 = .ok (.bipush (-2), 2) := by decide +kernel
theorem dX8_dead_17 : decode cX8_dead 17 = .ok (.ireturn, 1) := by decide +kernel
theorem dX8_dead_18 : decode cX8_dead 18 = .ok (.aload_n 0, 1) := by decide +kernel
theorem dX8_dead_19 : decode cX8_dead 19 = .ok (.getfield 45, 3) := by decide +kernel
theorem dX8_dead_22 : decode cX8_dead 22 = .ok (.aload_n 0, 1) := by decide +kernel
theorem dX8_dead_23 : decode cX8_dead 23 = .ok (.getfield 12, 3) := by decide +kernel
theorem dX8_dead_26 : decode cX8_dead 26 = .ok (.iload_n 3, 1) := by decide +kernel
theorem dX8_dead_27 : decode cX8_dead 27 = .ok (.invokevirtual 181, 3) := by decide +kernel
theorem dX8_dead_30 : decode cX8_dead 30 = .ok (.ifCond .eq 7, 3) := by decide +kernel
theorem dX8_dead_37 : decode cX8_dead 37 = .ok (.iconst 0, 1) := by decide +kernel
theorem dX8_dead_38 : decode cX8_dead 38 = .ok (.ireturn, 1) := by decide +kernel
set_option maxRecDepth 20000 in
theorem ggX8_held_X0_numberOf : GoodIn wsX8_held wsX0_numberOf := goodIn_r _ [6, 7, 8, 58, 59, 60, 61, 62, 63] (by decide +kernel) (by decide +kernel)
set_option maxRecDepth 20000 in
theorem gX8_held_X0_numberOf : GoodIn wsX8_held (wsV RX8 77 RX0 yX0_numberOf wsX0_numberOf) := goodIn_app (goodIn_of _ (by decide +kernel)) ggX8_held_X0_numberOf
theorem ggX8_held_X8_heldBarrels_h : GoodIn wsX8_held [.code yX8_heldBarrels cX8_heldBarrels 7 (some .long)] := goodIn_r _ [13] (by decide +kernel) (by decide +kernel)
theorem ggX8_held_X8_heldBarrels_wsX8_heldBarrels_r1 : GoodIn wsX8_held wsX8_heldBarrels_r1 := goodIn_r _ [14, 15, 16, 17, 12, 18, 19, 20, 21, 22, 23, 24, 25, 1, 26, 27, 28, 5, 29, 30, 31, 32, 33, 34] (by decide +kernel) (by decide +kernel)
theorem ggX8_held_X8_heldBarrels_wsX8_heldBarrels_r2 : GoodIn wsX8_held wsX8_heldBarrels_r2 := goodIn_r _ [35, 36, 37, 38, 39, 40, 41, 42, 3, 4, 6, 7, 8, 43, 44, 45, 46] (by decide +kernel) (by decide +kernel)
theorem gw_wsX8_held_wsX80 : GoodIn wsX8_held wsX80 := goodIn_r _ [47, 48, 49, 50, 51, 52, 53, 54, 55, 56, 57] (by decide +kernel) (by decide +kernel)
theorem gw_wsX8_held_wsX30 : GoodIn wsX8_held wsX30 := goodIn_r _ [64, 65, 66, 67] (by decide +kernel) (by decide +kernel)
theorem gw_wsX8_held_wsX00 : GoodIn wsX8_held wsX00 := goodIn_r _ [58, 59, 60, 61, 62, 63] (by decide +kernel) (by decide +kernel)
theorem ggX8_held_X8_heldBarrels : GoodIn wsX8_held wsX8_heldBarrels := q_gcons ggX8_held_X8_heldBarrels_h (goodIn_app (goodIn_app (goodIn_app (goodIn_app ggX8_held_X8_heldBarrels_wsX8_heldBarrels_r1 (ggX8_held_X8_heldBarrels_wsX8_heldBarrels_r2)) gw_wsX8_held_wsX80) gw_wsX8_held_wsX30) gw_wsX8_held_wsX00)
set_option maxRecDepth 20000 in
theorem gX8_held_X8_heldBarrels : GoodIn wsX8_held (wsV RX8 185 RX8 yX8_heldBarrels wsX8_heldBarrels) := goodIn_app (goodIn_of _ (by decide +kernel)) ggX8_held_X8_heldBarrels
set_option maxRecDepth 20000 in
theorem ggX8_held_X8_has : GoodIn wsX8_held wsX8_has := goodIn_r _ [18, 19, 20, 12, 21] (by decide +kernel) (by decide +kernel)
set_option maxRecDepth 20000 in
theorem gX8_held_X8_has : GoodIn wsX8_held (va_wsS RX8 136 yX8_has wsX8_has) := goodIn_app (goodIn_of _ (by decide +kernel)) ggX8_held_X8_has
theorem dX8_held_0 : decode cX8_held 0 = .ok (.aload_n 0, 1) := by decide +kernel
theorem dX8_held_1 : decode cX8_held 1 = .ok (.getfield 12, 3) := by decide +kernel
theorem dX8_held_4 : decode cX8_held 4 = .ok (.iload_n 1, 1) := by decide +kernel
theorem dX8_held_5 : decode cX8_held 5 = .ok (.iload_n 2, 1) := by decide +kernel
theorem dX8_held_6 : decode cX8_held 6 = .ok (.invokevirtual 77, 3) := by decide +kernel
theorem dX8_held_9 : decode cX8_held 9 = .ok (.istore_n 3, 1) := by decide +kernel
theorem dX8_held_10 : decode cX8_held 10 = .ok (.iload_n 3, 1) := by decide +kernel
theorem dX8_held_11 : decode cX8_held 11 = .ok (.iconst (-1), 1) := by decide +kernel
theorem dX8_held_12 : decode cX8_held 12 = .ok (.if_icmp .ne 6, 3) := by decide +kernel
theorem dX8_held_15 : decode cX8_held 15 = .ok (.bipush (-2), 2) := by decide +kernel
theorem dX8_held_17 : decode cX8_held 17 = .ok (.ireturn, 1) := by decide +kernel
theorem dX8_held_18 : decode cX8_held 18 = .ok (.aload_n 0, 1) := by decide +kernel
theorem dX8_held_19 : decode cX8_held 19 = .ok (.invokevirtual 185, 3) := by decide +kernel
theorem dX8_held_22 : decode cX8_held 22 = .ok (.iload_n 3, 1) := by decide +kernel
theorem dX8_held_23 : decode cX8_held 23 = .ok (.invokestatic 136, 3) := by decide +kernel
theorem dX8_held_26 : decode cX8_held 26 = .ok (.ifCond .eq 7, 3) := by decide +kernel
theorem dX8_held_33 : decode cX8_held 33 = .ok (.iconst 0, 1) := by decide +kernel
theorem dX8_held_34 : decode cX8_held 34 = .ok (.ireturn, 1) := by decide +kernel
set_option maxRecDepth 20000 in
theorem ggX8_spoilt_X8_isReady : GoodIn wsX8_spoilt wsX8_isReady := goodIn_r _ [9, 10, 11, 2, 3, 12, 13, 14, 15, 16, 17, 18, 19, 20, 21, 22, 23, 24, 133, 134, 135, 136, 137, 138, 139, 140, 141, 142, 143, 150, 151, 152, 153, 144, 145, 146, 147, 148, 149] (by decide +kernel) (by decide +kernel)
set_option maxRecDepth 20000 in
theorem gX8_spoilt_X8_isReady : GoodIn wsX8_spoilt (wsV RX8 189 RX8 yX8_isReady wsX8_isReady) := goodIn_app (goodIn_of _ (by decide +kernel)) ggX8_spoilt_X8_isReady
theorem dX8_spoilt_0 : decode cX8_spoilt 0 = .ok (.aload_n 0, 1) := by decide +kernel
theorem dX8_spoilt_1 : decode cX8_spoilt 1 = .ok (.invokevirtual 189, 3) := by decide +kernel
theorem dX8_spoilt_4 : decode cX8_spoilt 4 = .ok (.ifCond .ne 6, 3) := by decide +kernel
theorem dX8_spoilt_7 : decode cX8_spoilt 7 = .ok (.bipush (-2), 2) := by decide +kernel
theorem dX8_spoilt_9 : decode cX8_spoilt 9 = .ok (.ireturn, 1) := by decide +kernel
theorem dX8_why_0 : decode cX8_why 0 = .ok (.aload_n 0, 1) := by decide +kernel
theorem dX8_why_1 : decode cX8_why 1 = .ok (.getfield 73, 3) := by decide +kernel
theorem dX8_why_4 : decode cX8_why 4 = .ok (.ireturn, 1) := by decide +kernel
set_option maxRecDepth 20000 in
theorem ggX8_low_X8_isReady : GoodIn wsX8_low wsX8_isReady := goodIn_r _ [10, 4, 5, 2, 11, 12, 13, 14, 15, 16, 17, 18, 19, 20, 21, 22, 23, 24, 131, 132, 133, 134, 135, 136, 137, 138, 139, 140, 141, 142, 143, 144, 145, 146, 147, 148, 149, 150, 151] (by decide +kernel) (by decide +kernel)
set_option maxRecDepth 20000 in
theorem gX8_low_X8_isReady : GoodIn wsX8_low (wsV RX8 189 RX8 yX8_isReady wsX8_isReady) := goodIn_app (goodIn_of _ (by decide +kernel)) ggX8_low_X8_isReady
theorem dX8_low_0 : decode cX8_low 0 = .ok (.aload_n 0, 1) := by decide +kernel
theorem dX8_low_1 : decode cX8_low 1 = .ok (.invokevirtual 189, 3) := by decide +kernel
theorem dX8_low_4 : decode cX8_low 4 = .ok (.ifCond .eq 28, 3) := by decide +kernel
theorem dX8_low_32 : decode cX8_low 32 = .ok (.bipush (-2), 2) := by decide +kernel
theorem dX8_low_34 : decode cX8_low 34 = .ok (.ireturn, 1) := by decide +kernel
set_option maxRecDepth 20000 in
theorem ggX8_price_X0_numberOf : GoodIn wsX8_price wsX0_numberOf := goodIn_r _ [7, 8, 9, 86, 87, 88, 89, 90, 91] (by decide +kernel) (by decide +kernel)
set_option maxRecDepth 20000 in
theorem gX8_price_X0_numberOf : GoodIn wsX8_price (wsV RX8 77 RX0 yX0_numberOf wsX0_numberOf) := goodIn_app (goodIn_of _ (by decide +kernel)) ggX8_price_X0_numberOf
set_option maxRecDepth 20000 in
theorem ggX8_price_X0_kindNow : GoodIn wsX8_price wsX0_kindNow := goodIn_r _ [13, 14, 15, 86, 87, 88, 89, 90, 91] (by decide +kernel) (by decide +kernel)
set_option maxRecDepth 20000 in
theorem gX8_price_X0_kindNow : GoodIn wsX8_price (wsV RX8 129 RX0 yX0_kindNow wsX0_kindNow) := goodIn_app (goodIn_of _ (by decide +kernel)) ggX8_price_X0_kindNow
theorem dX8_price_0 : decode cX8_price 0 = .ok (.aload_n 0, 1) := by decide +kernel
theorem dX8_price_1 : decode cX8_price 1 = .ok (.getfield 12, 3) := by decide +kernel
theorem dX8_price_4 : decode cX8_price 4 = .ok (.iload_n 1, 1) := by decide +kernel
theorem dX8_price_5 : decode cX8_price 5 = .ok (.iload_n 2, 1) := by decide +kernel
theorem dX8_price_6 : decode cX8_price 6 = .ok (.invokevirtual 77, 3) := by decide +kernel
theorem dX8_price_9 : decode cX8_price 9 = .ok (.istore 5, 2) := by decide +kernel
theorem dX8_price_11 : decode cX8_price 11 = .ok (.aload_n 0, 1) := by decide +kernel
theorem dX8_price_12 : decode cX8_price 12 = .ok (.getfield 12, 3) := by decide +kernel
theorem dX8_price_15 : decode cX8_price 15 = .ok (.iload_n 3, 1) := by decide +kernel
theorem dX8_price_16 : decode cX8_price 16 = .ok (.iload 4, 2) := by decide +kernel
theorem dX8_price_18 : decode cX8_price 18 = .ok (.invokevirtual 77, 3) := by decide +kernel
theorem dX8_price_21 : decode cX8_price 21 = .ok (.istore 6, 2) := by decide +kernel
theorem dX8_price_23 : decode cX8_price 23 = .ok (.aload_n 0, 1) := by decide +kernel
theorem dX8_price_24 : decode cX8_price 24 = .ok (.getfield 12, 3) := by decide +kernel
theorem dX8_price_27 : decode cX8_price 27 = .ok (.iload 5, 2) := by decide +kernel
theorem dX8_price_29 : decode cX8_price 29 = .ok (.invokevirtual 129, 3) := by decide +kernel
theorem dX8_price_32 : decode cX8_price 32 = .ok (.ifCond .eq 15, 3) := by decide +kernel
theorem dX8_price_47 : decode cX8_price 47 = .ok (.bipush (-2), 2) := by decide +kernel
theorem dX8_price_49 : decode cX8_price 49 = .ok (.ireturn, 1) := by decide +kernel
set_option maxRecDepth 20000 in
theorem ggX8_fewest_X8_isReady : GoodIn wsX8_fewest wsX8_isReady := goodIn_r _ [10, 1, 2, 3, 11, 12, 13, 14, 15, 16, 17, 18, 19, 20, 21, 22, 23, 24, 273, 274, 275, 276, 277, 278, 279, 280, 281, 282, 283, 284, 285, 286, 287, 288, 289, 290, 291, 292, 293] (by decide +kernel) (by decide +kernel)
set_option maxRecDepth 20000 in
theorem gX8_fewest_X8_isReady : GoodIn wsX8_fewest (wsV RX8 189 RX8 yX8_isReady wsX8_isReady) := goodIn_app (goodIn_of _ (by decide +kernel)) ggX8_fewest_X8_isReady
theorem dX8_fewest_0 : decode cX8_fewest 0 = .ok (.aload_n 0, 1) := by decide +kernel
theorem dX8_fewest_1 : decode cX8_fewest 1 = .ok (.invokevirtual 189, 3) := by decide +kernel
theorem dX8_fewest_4 : decode cX8_fewest 4 = .ok (.ifCond .eq 17, 3) := by decide +kernel
theorem dX8_fewest_21 : decode cX8_fewest 21 = .ok (.bipush (-2), 2) := by decide +kernel
theorem dX8_fewest_23 : decode cX8_fewest 23 = .ok (.ireturn, 1) := by decide +kernel
theorem dX8_steps_0 : decode cX8_steps 0 = .ok (.aload_n 0, 1) := by decide +kernel
theorem dX8_steps_1 : decode cX8_steps 1 = .ok (.getfield 66, 3) := by decide +kernel
theorem dX8_steps_4 : decode cX8_steps 4 = .ok (.getfield 221, 3) := by decide +kernel
theorem dX8_steps_7 : decode cX8_steps 7 = .ok (.ireturn, 1) := by decide +kernel
set_option maxRecDepth 20000 in
theorem ggX8_plan_X7_wayAt : GoodIn wsX8_plan wsX7_wayAt := goodIn_r _ [6, 7, 8, 9, 10, 5, 11, 12, 24, 25] (by decide +kernel) (by decide +kernel)
set_option maxRecDepth 20000 in
theorem gX8_plan_X7_wayAt : GoodIn wsX8_plan (wsV RX8 224 RX7 yX7_wayAt wsX7_wayAt) := goodIn_app (goodIn_of _ (by decide +kernel)) ggX8_plan_X7_wayAt
theorem dX8_plan_0 : decode cX8_plan 0 = .ok (.aload_n 0, 1) := by decide +kernel
theorem dX8_plan_1 : decode cX8_plan 1 = .ok (.getfield 66, 3) := by decide +kernel
theorem dX8_plan_4 : decode cX8_plan 4 = .ok (.iload_n 1, 1) := by decide +kernel
theorem dX8_plan_5 : decode cX8_plan 5 = .ok (.invokevirtual 224, 3) := by decide +kernel
theorem dX8_plan_8 : decode cX8_plan 8 = .ok (.ireturn, 1) := by decide +kernel
set_option maxRecDepth 20000 in
theorem ggX8_follow_X3_become : GoodIn wsX8_follow wsX3_become := goodIn_r _ [10, 11, 12, 13, 14, 129, 130, 131, 132] (by decide +kernel) (by decide +kernel)
set_option maxRecDepth 20000 in
theorem gX8_follow_X3_become : GoodIn wsX8_follow (wsV RX8 140 RX3 yX3_become wsX3_become) := goodIn_app (goodIn_of _ (by decide +kernel)) ggX8_follow_X3_become
theorem ggX8_follow_X3_advanceBy_h : GoodIn wsX8_follow [.code yX3_advanceBy cX3_advanceBy 4 (some .int)] := goodIn_r _ [18] (by decide +kernel) (by decide +kernel)
theorem ggX8_follow_X3_advanceBy_wsX3_advanceBy_r1 : GoodIn wsX8_follow wsX3_advanceBy_r1 := goodIn_r _ [19, 20, 21, 22, 23, 24, 25, 26, 27, 28, 29, 30, 31, 32, 33, 9, 34, 11, 13, 14, 35, 36, 37, 38] (by decide +kernel) (by decide +kernel)
theorem ggX8_follow_X3_advanceBy_wsX3_advanceBy_r2 : GoodIn wsX8_follow wsX3_advanceBy_r2 := goodIn_r _ [39, 40, 41, 42, 43, 44, 45, 46, 47, 48, 49, 50, 51, 52, 53, 54, 55, 56, 57, 58, 12, 59, 60, 61] (by decide +kernel) (by decide +kernel)
theorem ggX8_follow_X3_advanceBy_wsX3_advanceBy_r3 : GoodIn wsX8_follow wsX3_advanceBy_r3 := goodIn_r _ [62, 63, 64, 65, 66, 67, 68, 69, 70, 71, 72, 73, 74, 75, 76, 77, 78, 79, 80, 81, 82, 83, 84, 85] (by decide +kernel) (by decide +kernel)
theorem ggX8_follow_X3_advanceBy_wsX3_advanceBy_r4 : GoodIn wsX8_follow wsX3_advanceBy_r4 := goodIn_r _ [86, 87, 88, 89, 90, 91] (by decide +kernel) (by decide +kernel)
theorem gw_wsX8_follow_wsX70 : GoodIn wsX8_follow wsX70 := goodIn_r _ [127, 128] (by decide +kernel) (by decide +kernel)
theorem gw_wsX8_follow_wsX30 : GoodIn wsX8_follow wsX30 := goodIn_r _ [129, 130, 131, 132] (by decide +kernel) (by decide +kernel)
theorem gw_wsX8_follow_wsX00 : GoodIn wsX8_follow wsX00 := goodIn_r _ [133, 134, 135, 136, 137, 138] (by decide +kernel) (by decide +kernel)
theorem ggX8_follow_X3_advanceBy : GoodIn wsX8_follow wsX3_advanceBy := q_gcons ggX8_follow_X3_advanceBy_h (goodIn_app (goodIn_app (goodIn_app (goodIn_app ggX8_follow_X3_advanceBy_wsX3_advanceBy_r1 (goodIn_app ggX8_follow_X3_advanceBy_wsX3_advanceBy_r2 (goodIn_app ggX8_follow_X3_advanceBy_wsX3_advanceBy_r3 (ggX8_follow_X3_advanceBy_wsX3_advanceBy_r4)))) gw_wsX8_follow_wsX70) gw_wsX8_follow_wsX30) gw_wsX8_follow_wsX00)
set_option maxRecDepth 20000 in
theorem gX8_follow_X3_advanceBy : GoodIn wsX8_follow (wsV RX8 227 RX3 yX3_advanceBy wsX3_advanceBy) := goodIn_app (goodIn_of _ (by decide +kernel)) ggX8_follow_X3_advanceBy
theorem dX8_follow_0 : decode cX8_follow 0 = .ok (.aload_n 0, 1) := by decide +kernel
theorem dX8_follow_1 : decode cX8_follow 1 = .ok (.getfield 25, 3) := by decide +kernel
theorem dX8_follow_4 : decode cX8_follow 4 = .ok (.aload_n 0, 1) := by decide +kernel
theorem dX8_follow_5 : decode cX8_follow 5 = .ok (.getfield 21, 3) := by decide +kernel
theorem dX8_follow_8 : decode cX8_follow 8 = .ok (.invokevirtual 140, 3) := by decide +kernel
theorem dX8_follow_11 : decode cX8_follow 11 = .ok (.aload_n 0, 1) := by decide +kernel
theorem dX8_follow_12 : decode cX8_follow 12 = .ok (.getfield 25, 3) := by decide +kernel
theorem dX8_follow_15 : decode cX8_follow 15 = .ok (.aload_n 0, 1) := by decide +kernel
theorem dX8_follow_16 : decode cX8_follow 16 = .ok (.getfield 12, 3) := by decide +kernel
theorem dX8_follow_19 : decode cX8_follow 19 = .ok (.aload_n 0, 1) := by decide +kernel
theorem dX8_follow_20 : decode cX8_follow 20 = .ok (.getfield 66, 3) := by decide +kernel
theorem dX8_follow_23 : decode cX8_follow 23 = .ok (.invokevirtual 227, 3) := by decide +kernel
theorem dX8_follow_26 : decode cX8_follow 26 = .ok (.istore_n 1, 1) := by decide +kernel
theorem dX8_follow_27 : decode cX8_follow 27 = .ok (.iload_n 1, 1) := by decide +kernel
theorem dX8_follow_28 : decode cX8_follow 28 = .ok (.ifCond .eq 14, 3) := by decide +kernel
theorem dX8_follow_42 : decode cX8_follow 42 = .ok (.bipush (-2), 2) := by decide +kernel
theorem dX8_follow_44 : decode cX8_follow 44 = .ok (.ireturn, 1) := by decide +kernel
set_option maxRecDepth 20000 in
theorem ggX8_tell_X8_isWay : GoodIn wsX8_tell wsX8_isWay := goodIn_r _ [6] (by decide +kernel) (by decide +kernel)
set_option maxRecDepth 20000 in
theorem gX8_tell_X8_isWay : GoodIn wsX8_tell (va_wsS RX8 81 yX8_isWay wsX8_isWay) := goodIn_app (goodIn_of _ (by decide +kernel)) ggX8_tell_X8_isWay
set_option maxRecDepth 20000 in
theorem ggX8_tell_X7_append : GoodIn wsX8_tell wsX7_append := goodIn_r _ [11, 12, 13, 14, 15, 16, 17, 18, 19, 20, 21, 22, 23, 24, 25, 26, 27, 28, 29, 30, 31, 32, 33, 45, 46] (by decide +kernel) (by decide +kernel)
set_option maxRecDepth 20000 in
theorem gX8_tell_X7_append : GoodIn wsX8_tell (wsV RX8 231 RX7 yX7_append wsX7_append) := goodIn_app (goodIn_of _ (by decide +kernel)) ggX8_tell_X7_append
theorem dX8_tell_0 : decode cX8_tell 0 = .ok (.iload_n 1, 1) := by decide +kernel
theorem dX8_tell_1 : decode cX8_tell 1 = .ok (.invokestatic 81, 3) := by decide +kernel
theorem dX8_tell_4 : decode cX8_tell 4 = .ok (.ifCond .eq 16, 3) := by decide +kernel
theorem dX8_tell_7 : decode cX8_tell 7 = .ok (.aload_n 0, 1) := by decide +kernel
theorem dX8_tell_8 : decode cX8_tell 8 = .ok (.getfield 70, 3) := by decide +kernel
theorem dX8_tell_11 : decode cX8_tell 11 = .ok (.getfield 221, 3) := by decide +kernel
theorem dX8_tell_14 : decode cX8_tell 14 = .ok (.sipush 400, 3) := by decide +kernel
theorem dX8_tell_17 : decode cX8_tell 17 = .ok (.if_icmp .lt 6, 3) := by decide +kernel
theorem dX8_tell_20 : decode cX8_tell 20 = .ok (.bipush (-2), 2) := by decide +kernel
theorem dX8_tell_22 : decode cX8_tell 22 = .ok (.ireturn, 1) := by decide +kernel
theorem dX8_tell_23 : decode cX8_tell 23 = .ok (.aload_n 0, 1) := by decide +kernel
theorem dX8_tell_24 : decode cX8_tell 24 = .ok (.getfield 70, 3) := by decide +kernel
theorem dX8_tell_27 : decode cX8_tell 27 = .ok (.iload_n 1, 1) := by decide +kernel
theorem dX8_tell_28 : decode cX8_tell 28 = .ok (.invokevirtual 231, 3) := by decide +kernel
theorem dX8_tell_31 : decode cX8_tell 31 = .ok (.aload_n 0, 1) := by decide +kernel
theorem dX8_tell_32 : decode cX8_tell 32 = .ok (.getfield 70, 3) := by decide +kernel
theorem dX8_tell_35 : decode cX8_tell 35 = .ok (.getfield 221, 3) := by decide +kernel
theorem dX8_tell_38 : decode cX8_tell 38 = .ok (.ireturn, 1) := by decide +kernel
set_option maxRecDepth 20000 in
theorem ggX8_copy_X7_become : GoodIn wsX8_copy wsX7_become := goodIn_r _ [8, 9, 10, 11, 12, 7, 13, 14, 15, 16, 17, 18, 19, 20, 21, 22, 23, 24, 25, 26, 27, 28, 29, 30, 31, 32, 33, 34, 35, 36, 37, 38, 39, 40, 41, 42, 54, 55] (by decide +kernel) (by decide +kernel)
set_option maxRecDepth 20000 in
theorem gX8_copy_X7_become : GoodIn wsX8_copy (wsV RX8 235 RX7 yX7_become wsX7_become) := goodIn_app (goodIn_of _ (by decide +kernel)) ggX8_copy_X7_become
theorem dX8_copy_0 : decode cX8_copy 0 = .ok (.aload_n 0, 1) := by decide +kernel
theorem dX8_copy_1 : decode cX8_copy 1 = .ok (.getfield 66, 3) := by decide +kernel
theorem dX8_copy_4 : decode cX8_copy 4 = .ok (.getfield 221, 3) := by decide +kernel
theorem dX8_copy_7 : decode cX8_copy 7 = .ok (.sipush 400, 3) := by decide +kernel
theorem dX8_copy_10 : decode cX8_copy 10 = .ok (.if_icmp .le 6, 3) := by decide +kernel
theorem dX8_copy_16 : decode cX8_copy 16 = .ok (.aload_n 0, 1) := by decide +kernel
theorem dX8_copy_17 : decode cX8_copy 17 = .ok (.getfield 70, 3) := by decide +kernel
theorem dX8_copy_20 : decode cX8_copy 20 = .ok (.aload_n 0, 1) := by decide +kernel
theorem dX8_copy_21 : decode cX8_copy 21 = .ok (.getfield 66, 3) := by decide +kernel
theorem dX8_copy_24 : decode cX8_copy 24 = .ok (.invokevirtual 235, 3) := by decide +kernel
theorem dX8_copy_27 : decode cX8_copy 27 = .ok (.aload_n 0, 1) := by decide +kernel
theorem dX8_copy_28 : decode cX8_copy 28 = .ok (.getfield 70, 3) := by decide +kernel
theorem dX8_copy_31 : decode cX8_copy 31 = .ok (.getfield 221, 3) := by decide +kernel
theorem dX8_copy_34 : decode cX8_copy 34 = .ok (.ireturn, 1) := by decide +kernel
set_option maxRecDepth 20000 in
theorem ggX8_forge_X7_wayAt : GoodIn wsX8_forge wsX7_wayAt := goodIn_r _ [6, 7, 8, 9, 10, 5, 11, 12, 32, 33] (by decide +kernel) (by decide +kernel)
set_option maxRecDepth 20000 in
theorem gX8_forge_X7_wayAt : GoodIn wsX8_forge (wsV RX8 224 RX7 yX7_wayAt wsX7_wayAt) := goodIn_app (goodIn_of _ (by decide +kernel)) ggX8_forge_X7_wayAt
theorem dX8_forge_0 : decode cX8_forge 0 = .ok (.aload_n 0, 1) := by decide +kernel
theorem dX8_forge_1 : decode cX8_forge 1 = .ok (.getfield 70, 3) := by decide +kernel
theorem dX8_forge_4 : decode cX8_forge 4 = .ok (.iload_n 1, 1) := by decide +kernel
theorem dX8_forge_5 : decode cX8_forge 5 = .ok (.invokevirtual 224, 3) := by decide +kernel
theorem dX8_forge_8 : decode cX8_forge 8 = .ok (.istore_n 3, 1) := by decide +kernel
theorem dX8_forge_9 : decode cX8_forge 9 = .ok (.iload_n 3, 1) := by decide +kernel
theorem dX8_forge_10 : decode cX8_forge 10 = .ok (.bipush (-2), 2) := by decide +kernel
theorem dX8_forge_12 : decode cX8_forge 12 = .ok (.if_icmp .eq 10, 3) := by decide +kernel
theorem dX8_forge_22 : decode cX8_forge 22 = .ok (.bipush (-2), 2) := by decide +kernel
theorem dX8_forge_24 : decode cX8_forge 24 = .ok (.ireturn, 1) := by decide +kernel
theorem dX8_hush_0 : decode cX8_hush 0 = .ok (.aload_n 0, 1) := by decide +kernel
theorem dX8_hush_1 : decode cX8_hush 1 = .ok (.getfield 70, 3) := by decide +kernel
theorem dX8_hush_4 : decode cX8_hush 4 = .ok (.getfield 221, 3) := by decide +kernel
theorem dX8_hush_7 : decode cX8_hush 7 = .ok (.istore_n 1, 1) := by decide +kernel
theorem dX8_hush_8 : decode cX8_hush 8 = .ok (.aload_n 0, 1) := by decide +kernel
theorem dX8_hush_9 : decode cX8_hush 9 = .ok (.getfield 70, 3) := by decide +kernel
theorem dX8_hush_12 : decode cX8_hush 12 = .ok (.iconst 0, 1) := by decide +kernel
theorem dX8_hush_13 : decode cX8_hush 13 = .ok (.putfield 221, 3) := by decide +kernel
theorem dX8_hush_16 : decode cX8_hush 16 = .ok (.iload_n 1, 1) := by decide +kernel
theorem dX8_hush_17 : decode cX8_hush 17 = .ok (.ireturn, 1) := by decide +kernel
set_option maxRecDepth 20000 in
theorem ggX8_check_X3_hasMan : GoodIn wsX8_check wsX3_hasMan := goodIn_r _ [10, 11, 112, 113, 114, 115] (by decide +kernel) (by decide +kernel)
set_option maxRecDepth 20000 in
theorem gX8_check_X3_hasMan : GoodIn wsX8_check (wsV RX8 122 RX3 yX3_hasMan wsX3_hasMan) := goodIn_app (goodIn_of _ (by decide +kernel)) ggX8_check_X3_hasMan
theorem dX8_check_0 : decode cX8_check 0 = .ok (.aload_n 0, 1) := by decide +kernel
theorem dX8_check_1 : decode cX8_check 1 = .ok (.getfield 21, 3) := by decide +kernel
theorem dX8_check_4 : decode cX8_check 4 = .ok (.invokevirtual 122, 3) := by decide +kernel
theorem dX8_check_7 : decode cX8_check 7 = .ok (.ifCond .ne 6, 3) := by decide +kernel
theorem dX8_check_10 : decode cX8_check 10 = .ok (.bipush (-2), 2) := by decide +kernel
theorem dX8_check_12 : decode cX8_check 12 = .ok (.ireturn, 1) := by decide +kernel
set_option maxRecDepth 20000 in
theorem ggX8_count_X0_openFields : GoodIn wsX8_count wsX0_openFields := goodIn_r _ [18, 19, 20, 21, 17, 22, 23, 24, 101, 102, 103, 104, 105, 106] (by decide +kernel) (by decide +kernel)
set_option maxRecDepth 20000 in
theorem gX8_count_X0_openFields : GoodIn wsX8_count (wsV RX8 211 RX0 yX0_openFields wsX0_openFields) := goodIn_app (goodIn_of _ (by decide +kernel)) ggX8_count_X0_openFields
set_option maxRecDepth 20000 in
theorem ggX8_count_J13_bitCount_95d88 : GoodIn wsX8_count wsJ13_bitCount_95d88 := goodIn_r _ [28, 29, 30, 31] (by decide +kernel) (by decide +kernel)
set_option maxRecDepth 20000 in
theorem gX8_count_J13_bitCount_95d88 : GoodIn wsX8_count (va_wsS RX8 175 yJ13_bitCount_95d88 wsJ13_bitCount_95d88) := goodIn_app (goodIn_of _ (by decide +kernel)) ggX8_count_J13_bitCount_95d88
theorem ggX8_count_X6_measure_h : GoodIn wsX8_count [.code yX6_measure cX6_measure 7 none] := goodIn_r _ [36] (by decide +kernel) (by decide +kernel)
theorem ggX8_count_X6_measure_wsX6_measure_r1 : GoodIn wsX8_count wsX6_measure_r1 := goodIn_r _ [37, 38, 39, 40, 41, 42, 43, 44, 45, 46, 47, 35, 48, 49, 50, 51, 52, 53, 54, 17, 55, 56, 57, 58] (by decide +kernel) (by decide +kernel)
theorem ggX8_count_X6_measure_wsX6_measure_r2 : GoodIn wsX8_count wsX6_measure_r2 := goodIn_r _ [59, 60, 61, 62, 63, 64, 65, 66, 67, 19, 20, 21, 22, 23, 24, 68, 69, 70, 71, 72, 73, 74, 75, 76] (by decide +kernel) (by decide +kernel)
theorem ggX8_count_X6_measure_wsX6_measure_r3 : GoodIn wsX8_count wsX6_measure_r3 := goodIn_r _ [77, 78, 79, 80, 81, 82, 83, 84, 85] (by decide +kernel) (by decide +kernel)
theorem gw_wsX8_count_wsX60 : GoodIn wsX8_count wsX60 := goodIn_r _ [107, 108, 109] (by decide +kernel) (by decide +kernel)
theorem gw_wsX8_count_wsX30 : GoodIn wsX8_count wsX30 := goodIn_r _ [97, 98, 99, 100] (by decide +kernel) (by decide +kernel)
theorem gw_wsX8_count_wsX00 : GoodIn wsX8_count wsX00 := goodIn_r _ [101, 102, 103, 104, 105, 106] (by decide +kernel) (by decide +kernel)
theorem ggX8_count_X6_measure : GoodIn wsX8_count wsX6_measure := q_gcons ggX8_count_X6_measure_h (goodIn_app (goodIn_app (goodIn_app (goodIn_app ggX8_count_X6_measure_wsX6_measure_r1 (goodIn_app ggX8_count_X6_measure_wsX6_measure_r2 (ggX8_count_X6_measure_wsX6_measure_r3))) gw_wsX8_count_wsX60) gw_wsX8_count_wsX30) gw_wsX8_count_wsX00)
set_option maxRecDepth 20000 in
theorem gX8_count_X6_measure : GoodIn wsX8_count (wsV RX8 164 RX6 yX6_measure wsX6_measure) := goodIn_app (goodIn_of _ (by decide +kernel)) ggX8_count_X6_measure
theorem dX8_count_0 : decode cX8_count 0 = .ok (.iload_n 1, 1) := by decide +kernel
theorem dX8_count_1 : decode cX8_count 1 = .ok (.tableswitch 144 0 8 #[51, 59, 70, 81, 89, 97, 120, 128, 136], 51) := by decide +kernel
theorem dX8_count_52 : decode cX8_count 52 = .ok (.aload_n 0, 1) := by decide +kernel
theorem dX8_count_53 : decode cX8_count 53 = .ok (.getfield 12, 3) := by decide +kernel
theorem dX8_count_56 : decode cX8_count 56 = .ok (.invokevirtual 211, 3) := by decide +kernel
theorem dX8_count_59 : decode cX8_count 59 = .ok (.ireturn, 1) := by decide +kernel
theorem dX8_count_60 : decode cX8_count 60 = .ok (.aload_n 0, 1) := by decide +kernel
theorem dX8_count_61 : decode cX8_count 61 = .ok (.getfield 21, 3) := by decide +kernel
theorem dX8_count_64 : decode cX8_count 64 = .ok (.getfield 111, 3) := by decide +kernel
theorem dX8_count_67 : decode cX8_count 67 = .ok (.invokestatic 175, 3) := by decide +kernel
theorem dX8_count_70 : decode cX8_count 70 = .ok (.ireturn, 1) := by decide +kernel
theorem dX8_count_71 : decode cX8_count 71 = .ok (.aload_n 0, 1) := by decide +kernel
theorem dX8_count_72 : decode cX8_count 72 = .ok (.getfield 12, 3) := by decide +kernel
theorem dX8_count_75 : decode cX8_count 75 = .ok (.getfield 133, 3) := by decide +kernel
theorem dX8_count_78 : decode cX8_count 78 = .ok (.invokestatic 175, 3) := by decide +kernel
theorem dX8_count_81 : decode cX8_count 81 = .ok (.ireturn, 1) := by decide +kernel
theorem dX8_count_82 : decode cX8_count 82 = .ok (.aload_n 0, 1) := by decide +kernel
theorem dX8_count_83 : decode cX8_count 83 = .ok (.getfield 21, 3) := by decide +kernel
theorem dX8_count_86 : decode cX8_count 86 = .ok (.getfield 241, 3) := by decide +kernel
theorem dX8_count_89 : decode cX8_count 89 = .ok (.ireturn, 1) := by decide +kernel
theorem dX8_count_90 : decode cX8_count 90 = .ok (.aload_n 0, 1) := by decide +kernel
theorem dX8_count_91 : decode cX8_count 91 = .ok (.getfield 21, 3) := by decide +kernel
theorem dX8_count_94 : decode cX8_count 94 = .ok (.getfield 244, 3) := by decide +kernel
theorem dX8_count_97 : decode cX8_count 97 = .ok (.ireturn, 1) := by decide +kernel
theorem dX8_count_98 : decode cX8_count 98 = .ok (.aload_n 0, 1) := by decide +kernel
theorem dX8_count_99 : decode cX8_count 99 = .ok (.getfield 38, 3) := by decide +kernel
theorem dX8_count_102 : decode cX8_count 102 = .ok (.aload_n 0, 1) := by decide +kernel
theorem dX8_count_103 : decode cX8_count 103 = .ok (.getfield 12, 3) := by decide +kernel
theorem dX8_count_106 : decode cX8_count 106 = .ok (.aload_n 0, 1) := by decide +kernel
theorem dX8_count_107 : decode cX8_count 107 = .ok (.getfield 21, 3) := by decide +kernel
theorem dX8_count_110 : decode cX8_count 110 = .ok (.invokevirtual 164, 3) := by decide +kernel
theorem dX8_count_113 : decode cX8_count 113 = .ok (.aload_n 0, 1) := by decide +kernel
theorem dX8_count_114 : decode cX8_count 114 = .ok (.getfield 38, 3) := by decide +kernel
theorem dX8_count_117 : decode cX8_count 117 = .ok (.getfield 247, 3) := by decide +kernel
theorem dX8_count_120 : decode cX8_count 120 = .ok (.ireturn, 1) := by decide +kernel
theorem dX8_count_121 : decode cX8_count 121 = .ok (.aload_n 0, 1) := by decide +kernel
theorem dX8_count_122 : decode cX8_count 122 = .ok (.getfield 31, 3) := by decide +kernel
theorem dX8_count_125 : decode cX8_count 125 = .ok (.getfield 250, 3) := by decide +kernel
theorem dX8_count_128 : decode cX8_count 128 = .ok (.ireturn, 1) := by decide +kernel
theorem dX8_count_129 : decode cX8_count 129 = .ok (.aload_n 0, 1) := by decide +kernel
theorem dX8_count_130 : decode cX8_count 130 = .ok (.getfield 70, 3) := by decide +kernel
theorem dX8_count_133 : decode cX8_count 133 = .ok (.getfield 221, 3) := by decide +kernel
theorem dX8_count_136 : decode cX8_count 136 = .ok (.ireturn, 1) := by decide +kernel
theorem dX8_count_137 : decode cX8_count 137 = .ok (.aload_n 0, 1) := by decide +kernel
theorem dX8_count_138 : decode cX8_count 138 = .ok (.getfield 21, 3) := by decide +kernel
theorem dX8_count_141 : decode cX8_count 141 = .ok (.getfield 126, 3) := by decide +kernel
theorem dX8_count_144 : decode cX8_count 144 = .ok (.ireturn, 1) := by decide +kernel
theorem dX8_count_145 : decode cX8_count 145 = .ok (.bipush (-2), 2) := by decide +kernel
theorem dX8_count_147 : decode cX8_count 147 = .ok (.ireturn, 1) := by decide +kernel
theorem dX8_isWay_0 : decode cX8_isWay 0 = .ok (.iload_n 0, 1) := by decide +kernel
theorem dX8_isWay_1 : decode cX8_isWay 1 = .ok (.ifCond .lt 12, 3) := by decide +kernel
theorem dX8_isWay_4 : decode cX8_isWay 4 = .ok (.iload_n 0, 1) := by decide +kernel
theorem dX8_isWay_5 : decode cX8_isWay 5 = .ok (.iconst 4, 1) := by decide +kernel
theorem dX8_isWay_6 : decode cX8_isWay 6 = .ok (.if_icmp .ge 7, 3) := by decide +kernel
theorem dX8_isWay_9 : decode cX8_isWay 9 = .ok (.iconst 1, 1) := by decide +kernel
theorem dX8_isWay_10 : decode cX8_isWay 10 = .ok (.goto 4, 3) := by decide +kernel
theorem dX8_isWay_13 : decode cX8_isWay 13 = .ok (.iconst 0, 1) := by decide +kernel
theorem dX8_isWay_14 : decode cX8_isWay 14 = .ok (.ireturn, 1) := by decide +kernel
theorem dX8_isField_0 : decode cX8_isField 0 = .ok (.iload_n 0, 1) := by decide +kernel
theorem dX8_isField_1 : decode cX8_isField 1 = .ok (.ifCond .lt 13, 3) := by decide +kernel
theorem dX8_isField_4 : decode cX8_isField 4 = .ok (.iload_n 0, 1) := by decide +kernel
theorem dX8_isField_5 : decode cX8_isField 5 = .ok (.bipush 64, 2) := by decide +kernel
theorem dX8_isField_7 : decode cX8_isField 7 = .ok (.if_icmp .ge 7, 3) := by decide +kernel
theorem dX8_isField_10 : decode cX8_isField 10 = .ok (.iconst 1, 1) := by decide +kernel
theorem dX8_isField_11 : decode cX8_isField 11 = .ok (.goto 4, 3) := by decide +kernel
theorem dX8_isField_14 : decode cX8_isField 14 = .ok (.iconst 0, 1) := by decide +kernel
theorem dX8_isField_15 : decode cX8_isField 15 = .ok (.ireturn, 1) := by decide +kernel
set_option maxRecDepth 20000 in
theorem ggX8_has_X8_isField : GoodIn wsX8_has wsX8_isField := goodIn_r _ [4] (by decide +kernel) (by decide +kernel)
set_option maxRecDepth 20000 in
theorem gX8_has_X8_isField : GoodIn wsX8_has (va_wsS RX8 253 yX8_isField wsX8_isField) := goodIn_app (goodIn_of _ (by decide +kernel)) ggX8_has_X8_isField
theorem dX8_has_0 : decode cX8_has 0 = .ok (.iload_n 2, 1) := by decide +kernel
theorem dX8_has_1 : decode cX8_has 1 = .ok (.invokestatic 253, 3) := by decide +kernel
theorem dX8_has_4 : decode cX8_has 4 = .ok (.ifCond .eq 17, 3) := by decide +kernel
theorem dX8_has_7 : decode cX8_has 7 = .ok (.lload_n 0, 1) := by decide +kernel
theorem dX8_has_8 : decode cX8_has 8 = .ok (.iload_n 2, 1) := by decide +kernel
theorem dX8_has_9 : decode cX8_has 9 = .ok (.lushr, 1) := by decide +kernel
theorem dX8_has_10 : decode cX8_has 10 = .ok (.lconst 1, 1) := by decide +kernel
theorem dX8_has_11 : decode cX8_has 11 = .ok (.land, 1) := by decide +kernel
theorem dX8_has_12 : decode cX8_has 12 = .ok (.lconst 0, 1) := by decide +kernel
theorem dX8_has_13 : decode cX8_has 13 = .ok (.lcmp, 1) := by decide +kernel
theorem dX8_has_14 : decode cX8_has 14 = .ok (.ifCond .eq 7, 3) := by decide +kernel
theorem dX8_has_21 : decode cX8_has 21 = .ok (.iconst 0, 1) := by decide +kernel
theorem dX8_has_22 : decode cX8_has 22 = .ok (.ireturn, 1) := by decide +kernel
set_option maxRecDepth 20000 in
theorem ggX8_with_X8_isField : GoodIn wsX8_with wsX8_isField := goodIn_r _ [5] (by decide +kernel) (by decide +kernel)
set_option maxRecDepth 20000 in
theorem gX8_with_X8_isField : GoodIn wsX8_with (va_wsS RX8 253 yX8_isField wsX8_isField) := goodIn_app (goodIn_of _ (by decide +kernel)) ggX8_with_X8_isField
theorem dX8_with_0 : decode cX8_with 0 = .ok (.iload_n 2, 1) := by decide +kernel
theorem dX8_with_1 : decode cX8_with 1 = .ok (.invokestatic 253, 3) := by decide +kernel
theorem dX8_with_4 : decode cX8_with 4 = .ok (.ifCond .ne 5, 3) := by decide +kernel
theorem dX8_with_9 : decode cX8_with 9 = .ok (.lconst 1, 1) := by decide +kernel
theorem dX8_with_10 : decode cX8_with 10 = .ok (.iload_n 2, 1) := by decide +kernel
theorem dX8_with_11 : decode cX8_with 11 = .ok (.lshl, 1) := by decide +kernel
theorem dX8_with_12 : decode cX8_with 12 = .ok (.lstore 4, 2) := by decide +kernel
theorem dX8_with_14 : decode cX8_with 14 = .ok (.iload_n 3, 1) := by decide +kernel
theorem dX8_with_15 : decode cX8_with 15 = .ok (.ifCond .eq 10, 3) := by decide +kernel
theorem dX8_with_25 : decode cX8_with 25 = .ok (.lload_n 0, 1) := by decide +kernel
theorem dX8_with_26 : decode cX8_with 26 = .ok (.lload 4, 2) := by decide +kernel
theorem dX8_with_28 : decode cX8_with 28 = .ok (.ldc2_w 196, 3) := by decide +kernel
theorem dX8_with_31 : decode cX8_with 31 = .ok (.lxor, 1) := by decide +kernel
theorem dX8_with_32 : decode cX8_with 32 = .ok (.land, 1) := by decide +kernel
theorem dX8_with_33 : decode cX8_with 33 = .ok (.lreturn, 1) := by decide +kernel
set_option maxRecDepth 20000 in
theorem ggX8_isInUse_X3_isTaken : GoodIn wsX8_isInUse wsX3_isTaken := goodIn_r _ [8, 9, 10, 11, 12, 7, 13, 14, 15, 16, 17, 18, 19, 20, 39, 40, 41, 42] (by decide +kernel) (by decide +kernel)
set_option maxRecDepth 20000 in
theorem gX8_isInUse_X3_isTaken : GoodIn wsX8_isInUse (wsV RX8 256 RX3 yX3_isTaken wsX3_isTaken) := goodIn_app (goodIn_of _ (by decide +kernel)) ggX8_isInUse_X3_isTaken
set_option maxRecDepth 20000 in
theorem ggX8_isInUse_X8_has : GoodIn wsX8_isInUse wsX8_has := goodIn_r _ [17, 18, 19, 16, 20] (by decide +kernel) (by decide +kernel)
set_option maxRecDepth 20000 in
theorem gX8_isInUse_X8_has : GoodIn wsX8_isInUse (va_wsS RX8 136 yX8_has wsX8_has) := goodIn_app (goodIn_of _ (by decide +kernel)) ggX8_isInUse_X8_has
theorem dX8_isInUse_0 : decode cX8_isInUse 0 = .ok (.aload_n 0, 1) := by decide +kernel
theorem dX8_isInUse_1 : decode cX8_isInUse 1 = .ok (.getfield 21, 3) := by decide +kernel
theorem dX8_isInUse_4 : decode cX8_isInUse 4 = .ok (.iload_n 1, 1) := by decide +kernel
theorem dX8_isInUse_5 : decode cX8_isInUse 5 = .ok (.invokevirtual 256, 3) := by decide +kernel
theorem dX8_isInUse_8 : decode cX8_isInUse 8 = .ok (.ifCond .ne 17, 3) := by decide +kernel
theorem dX8_isInUse_11 : decode cX8_isInUse 11 = .ok (.aload_n 0, 1) := by decide +kernel
theorem dX8_isInUse_12 : decode cX8_isInUse 12 = .ok (.getfield 12, 3) := by decide +kernel
theorem dX8_isInUse_15 : decode cX8_isInUse 15 = .ok (.getfield 133, 3) := by decide +kernel
theorem dX8_isInUse_18 : decode cX8_isInUse 18 = .ok (.iload_n 1, 1) := by decide +kernel
theorem dX8_isInUse_19 : decode cX8_isInUse 19 = .ok (.invokestatic 136, 3) := by decide +kernel
theorem dX8_isInUse_22 : decode cX8_isInUse 22 = .ok (.ifCond .eq 7, 3) := by decide +kernel
theorem dX8_isInUse_29 : decode cX8_isInUse 29 = .ok (.iconst 0, 1) := by decide +kernel
theorem dX8_isInUse_30 : decode cX8_isInUse 30 = .ok (.ireturn, 1) := by decide +kernel
set_option maxRecDepth 20000 in
theorem ggX8_mayBeSetOn_X0_kindNow : GoodIn wsX8_mayBeSetOn wsX0_kindNow := goodIn_r _ [9, 10, 11, 34, 35, 36, 37, 38, 39] (by decide +kernel) (by decide +kernel)
set_option maxRecDepth 20000 in
theorem gX8_mayBeSetOn_X0_kindNow : GoodIn wsX8_mayBeSetOn (wsV RX8 129 RX0 yX0_kindNow wsX0_kindNow) := goodIn_app (goodIn_of _ (by decide +kernel)) ggX8_mayBeSetOn_X0_kindNow
theorem dX8_mayBeSetOn_0 : decode cX8_mayBeSetOn 0 = .ok (.aload_n 0, 1) := by decide +kernel
theorem dX8_mayBeSetOn_1 : decode cX8_mayBeSetOn 1 = .ok (.getfield 12, 3) := by decide +kernel
theorem dX8_mayBeSetOn_4 : decode cX8_mayBeSetOn 4 = .ok (.iload_n 1, 1) := by decide +kernel
theorem dX8_mayBeSetOn_5 : decode cX8_mayBeSetOn 5 = .ok (.invokevirtual 129, 3) := by decide +kernel
theorem dX8_mayBeSetOn_8 : decode cX8_mayBeSetOn 8 = .ok (.ifCond .eq 33, 3) := by decide +kernel
theorem dX8_mayBeSetOn_41 : decode cX8_mayBeSetOn 41 = .ok (.iconst 0, 1) := by decide +kernel
theorem dX8_mayBeSetOn_42 : decode cX8_mayBeSetOn 42 = .ok (.ireturn, 1) := by decide +kernel
theorem dX8_isDoneIn_0 : decode cX8_isDoneIn 0 = .ok (.aload_n 0, 1) := by decide +kernel
theorem dX8_isDoneIn_1 : decode cX8_isDoneIn 1 = .ok (.getfield 12, 3) := by decide +kernel
theorem dX8_isDoneIn_4 : decode cX8_isDoneIn 4 = .ok (.getfield 133, 3) := by decide +kernel
theorem dX8_isDoneIn_7 : decode cX8_isDoneIn 7 = .ok (.aload_n 1, 1) := by decide +kernel
theorem dX8_isDoneIn_8 : decode cX8_isDoneIn 8 = .ok (.getfield 111, 3) := by decide +kernel
theorem dX8_isDoneIn_11 : decode cX8_isDoneIn 11 = .ok (.ldc2_w 196, 3) := by decide +kernel
theorem dX8_isDoneIn_14 : decode cX8_isDoneIn 14 = .ok (.lxor, 1) := by decide +kernel
theorem dX8_isDoneIn_15 : decode cX8_isDoneIn 15 = .ok (.land, 1) := by decide +kernel
theorem dX8_isDoneIn_16 : decode cX8_isDoneIn 16 = .ok (.lconst 0, 1) := by decide +kernel
theorem dX8_isDoneIn_17 : decode cX8_isDoneIn 17 = .ok (.lcmp, 1) := by decide +kernel
theorem dX8_isDoneIn_18 : decode cX8_isDoneIn 18 = .ok (.ifCond .ne 7, 3) := by decide +kernel
theorem dX8_isDoneIn_21 : decode cX8_isDoneIn 21 = .ok (.iconst 1, 1) := by decide +kernel
theorem dX8_isDoneIn_22 : decode cX8_isDoneIn 22 = .ok (.goto 4, 3) := by decide +kernel
theorem dX8_isDoneIn_26 : decode cX8_isDoneIn 26 = .ok (.ireturn, 1) := by decide +kernel
theorem dX8_act_0 : decode cX8_act 0 = .ok (.iload_n 1, 1) := by decide +kernel
theorem dX8_act_1 : decode cX8_act 1 = .ok (.ifCond .lt 29, 3) := by decide +kernel
theorem dX8_act_30 : decode cX8_act 30 = .ok (.iload_n 1, 1) := by decide +kernel
theorem dX8_act_31 : decode cX8_act 31 = .ok (.ireturn, 1) := by decide +kernel
set_option maxRecDepth 20000 in
theorem ggX8_tryPush_X0_numberOf : GoodIn wsX8_tryPush wsX0_numberOf := goodIn_r _ [8, 9, 10, 125, 126, 127, 128, 129, 130] (by decide +kernel) (by decide +kernel)
set_option maxRecDepth 20000 in
theorem gX8_tryPush_X0_numberOf : GoodIn wsX8_tryPush (wsV RX8 77 RX0 yX0_numberOf wsX0_numberOf) := goodIn_app (goodIn_of _ (by decide +kernel)) ggX8_tryPush_X0_numberOf
set_option maxRecDepth 20000 in
theorem ggX8_tryPush_X3_hasMan : GoodIn wsX8_tryPush wsX3_hasMan := goodIn_r _ [15, 16, 131, 132, 133, 134] (by decide +kernel) (by decide +kernel)
set_option maxRecDepth 20000 in
theorem gX8_tryPush_X3_hasMan : GoodIn wsX8_tryPush (wsV RX8 122 RX3 yX3_hasMan wsX3_hasMan) := goodIn_app (goodIn_of _ (by decide +kernel)) ggX8_tryPush_X3_hasMan
theorem dX8_tryPush_0 : decode cX8_tryPush 0 = .ok (.aload_n 0, 1) := by decide +kernel
theorem dX8_tryPush_1 : decode cX8_tryPush 1 = .ok (.getfield 12, 3) := by decide +kernel
theorem dX8_tryPush_4 : decode cX8_tryPush 4 = .ok (.iload_n 1, 1) := by decide +kernel
theorem dX8_tryPush_5 : decode cX8_tryPush 5 = .ok (.iload_n 2, 1) := by decide +kernel
theorem dX8_tryPush_6 : decode cX8_tryPush 6 = .ok (.invokevirtual 77, 3) := by decide +kernel
theorem dX8_tryPush_9 : decode cX8_tryPush 9 = .ok (.istore 4, 2) := by decide +kernel
theorem dX8_tryPush_11 : decode cX8_tryPush 11 = .ok (.aload_n 0, 1) := by decide +kernel
theorem dX8_tryPush_12 : decode cX8_tryPush 12 = .ok (.getfield 21, 3) := by decide +kernel
theorem dX8_tryPush_15 : decode cX8_tryPush 15 = .ok (.invokevirtual 122, 3) := by decide +kernel
theorem dX8_tryPush_18 : decode cX8_tryPush 18 = .ok (.ifCond .eq 22, 3) := by decide +kernel
theorem dX8_tryPush_40 : decode cX8_tryPush 40 = .ok (.bipush (-2), 2) := by decide +kernel
theorem dX8_tryPush_42 : decode cX8_tryPush 42 = .ok (.ireturn, 1) := by decide +kernel
set_option maxRecDepth 20000 in
theorem ggX8_heldBarrels_X8_has : GoodIn wsX8_heldBarrels wsX8_has := goodIn_r _ [6, 7, 8, 5, 9] (by decide +kernel) (by decide +kernel)
set_option maxRecDepth 20000 in
theorem gX8_heldBarrels_X8_has : GoodIn wsX8_heldBarrels (va_wsS RX8 136 yX8_has wsX8_has) := goodIn_app (goodIn_of _ (by decide +kernel)) ggX8_heldBarrels_X8_has
theorem dX8_heldBarrels_0 : decode cX8_heldBarrels 0 = .ok (.aload_n 0, 1) := by decide +kernel
theorem dX8_heldBarrels_1 : decode cX8_heldBarrels 1 = .ok (.getfield 21, 3) := by decide +kernel
theorem dX8_heldBarrels_4 : decode cX8_heldBarrels 4 = .ok (.getfield 111, 3) := by decide +kernel
theorem dX8_heldBarrels_7 : decode cX8_heldBarrels 7 = .ok (.lstore_n 1, 1) := by decide +kernel
theorem dX8_heldBarrels_8 : decode cX8_heldBarrels 8 = .ok (.iconst 0, 1) := by decide +kernel
theorem dX8_heldBarrels_9 : decode cX8_heldBarrels 9 = .ok (.istore_n 3, 1) := by decide +kernel
theorem dX8_heldBarrels_10 : decode cX8_heldBarrels 10 = .ok (.iload_n 3, 1) := by decide +kernel
theorem dX8_heldBarrels_11 : decode cX8_heldBarrels 11 = .ok (.bipush 64, 2) := by decide +kernel
theorem dX8_heldBarrels_13 : decode cX8_heldBarrels 13 = .ok (.if_icmp .ge 65, 3) := by decide +kernel
theorem dX8_heldBarrels_16 : decode cX8_heldBarrels 16 = .ok (.lload_n 1, 1) := by decide +kernel
theorem dX8_heldBarrels_17 : decode cX8_heldBarrels 17 = .ok (.lstore 4, 2) := by decide +kernel
theorem dX8_heldBarrels_19 : decode cX8_heldBarrels 19 = .ok (.iconst 0, 1) := by decide +kernel
theorem dX8_heldBarrels_20 : decode cX8_heldBarrels 20 = .ok (.istore 6, 2) := by decide +kernel
theorem dX8_heldBarrels_22 : decode cX8_heldBarrels 22 = .ok (.iload 6, 2) := by decide +kernel
theorem dX8_heldBarrels_24 : decode cX8_heldBarrels 24 = .ok (.bipush 64, 2) := by decide +kernel
theorem dX8_heldBarrels_26 : decode cX8_heldBarrels 26 = .ok (.if_icmp .ge 36, 3) := by decide +kernel
theorem dX8_heldBarrels_29 : decode cX8_heldBarrels 29 = .ok (.lload_n 1, 1) := by decide +kernel
theorem dX8_heldBarrels_30 : decode cX8_heldBarrels 30 = .ok (.iload 6, 2) := by decide +kernel
theorem dX8_heldBarrels_32 : decode cX8_heldBarrels 32 = .ok (.invokestatic 136, 3) := by decide +kernel
theorem dX8_heldBarrels_35 : decode cX8_heldBarrels 35 = .ok (.ifCond .eq 21, 3) := by decide +kernel
theorem dX8_heldBarrels_56 : decode cX8_heldBarrels 56 = .ok (.iinc 6 1, 3) := by decide +kernel
theorem dX8_heldBarrels_59 : decode cX8_heldBarrels 59 = .ok (.goto (-37), 3) := by decide +kernel
theorem dX8_heldBarrels_62 : decode cX8_heldBarrels 62 = .ok (.lload_n 1, 1) := by decide +kernel
theorem dX8_heldBarrels_63 : decode cX8_heldBarrels 63 = .ok (.lload 4, 2) := by decide +kernel
theorem dX8_heldBarrels_65 : decode cX8_heldBarrels 65 = .ok (.lcmp, 1) := by decide +kernel
theorem dX8_heldBarrels_66 : decode cX8_heldBarrels 66 = .ok (.ifCond .ne 6, 3) := by decide +kernel
theorem dX8_heldBarrels_69 : decode cX8_heldBarrels 69 = .ok (.goto 9, 3) := by decide +kernel
theorem dX8_heldBarrels_78 : decode cX8_heldBarrels 78 = .ok (.lload_n 1, 1) := by decide +kernel
theorem dX8_heldBarrels_79 : decode cX8_heldBarrels 79 = .ok (.lreturn, 1) := by decide +kernel
theorem dX9_init_0 : decode cX9_init 0 = .ok (.aload_n 0, 1) := by decide +kernel
theorem dX9_init_1 : decode cX9_init 1 = .ok (.invokespecial 1, 3) := by decide +kernel
theorem dX9_init_4 : decode cX9_init 4 = .ok (.aload_n 0, 1) := by decide +kernel
theorem dX9_init_5 : decode cX9_init 5 = .ok (.bipush 64, 2) := by decide +kernel
theorem dX9_init_7 : decode cX9_init 7 = .ok (.newarray .int, 2) := by decide +kernel
theorem dX9_init_9 : decode cX9_init 9 = .ok (.putfield 7, 3) := by decide +kernel
theorem dX9_init_12 : decode cX9_init 12 = .ok (.aload_n 0, 1) := by decide +kernel
theorem dX9_init_13 : decode cX9_init 13 = .ok (.bipush 64, 2) := by decide +kernel
theorem dX9_init_15 : decode cX9_init 15 = .ok (.newarray .int, 2) := by decide +kernel
theorem dX9_init_17 : decode cX9_init 17 = .ok (.putfield 13, 3) := by decide +kernel
theorem dX9_init_20 : decode cX9_init 20 = .ok (.aload_n 0, 1) := by decide +kernel
theorem dX9_init_21 : decode cX9_init 21 = .ok (.bipush 8, 2) := by decide +kernel
theorem dX9_init_23 : decode cX9_init 23 = .ok (.newarray .boolean, 2) := by decide +kernel
theorem dX9_init_25 : decode cX9_init 25 = .ok (.putfield 16, 3) := by decide +kernel
theorem dX9_init_28 : decode cX9_init 28 = .ok (.aload_n 0, 1) := by decide +kernel
theorem dX9_init_29 : decode cX9_init 29 = .ok (.bipush 64, 2) := by decide +kernel
theorem dX9_init_31 : decode cX9_init 31 = .ok (.newarray .boolean, 2) := by decide +kernel
theorem dX9_init_33 : decode cX9_init 33 = .ok (.putfield 20, 3) := by decide +kernel
theorem dX9_init_36 : decode cX9_init 36 = .ok (.aload_n 0, 1) := by decide +kernel
theorem dX9_init_37 : decode cX9_init 37 = .ok (.bipush 64, 2) := by decide +kernel
theorem dX9_init_39 : decode cX9_init 39 = .ok (.newarray .boolean, 2) := by decide +kernel
theorem dX9_init_41 : decode cX9_init 41 = .ok (.putfield 23, 3) := by decide +kernel
theorem dX9_init_44 : decode cX9_init 44 = .ok (.aload_n 0, 1) := by decide +kernel
theorem dX9_init_45 : decode cX9_init 45 = .ok (.iconst (-1), 1) := by decide +kernel
theorem dX9_init_46 : decode cX9_init 46 = .ok (.putfield 26, 3) := by decide +kernel
theorem dX9_init_49 : decode cX9_init 49 = .ok (.aload_n 0, 1) := by decide +kernel
theorem dX9_init_50 : decode cX9_init 50 = .ok (.sipush 5000, 3) := by decide +kernel
theorem dX9_init_53 : decode cX9_init 53 = .ok (.newarray .int, 2) := by decide +kernel
theorem dX9_init_55 : decode cX9_init 55 = .ok (.putfield 30, 3) := by decide +kernel
theorem dX9_init_58 : decode cX9_init 58 = .ok (.aload_n 0, 1) := by decide +kernel
theorem dX9_init_59 : decode cX9_init 59 = .ok (.sipush 5000, 3) := by decide +kernel
theorem dX9_init_62 : decode cX9_init 62 = .ok (.newarray .int, 2) := by decide +kernel
theorem dX9_init_64 : decode cX9_init 64 = .ok (.putfield 33, 3) := by decide +kernel
theorem dX9_init_67 : decode cX9_init 67 = .ok (.aload_n 0, 1) := by decide +kernel
theorem dX9_init_68 : decode cX9_init 68 = .ok (.sipush 5000, 3) := by decide +kernel
theorem dX9_init_71 : decode cX9_init 71 = .ok (.newarray .int, 2) := by decide +kernel
theorem dX9_init_73 : decode cX9_init 73 = .ok (.putfield 36, 3) := by decide +kernel
theorem dX9_init_76 : decode cX9_init 76 = .ok (.aload_n 0, 1) := by decide +kernel
theorem dX9_init_77 : decode cX9_init 77 = .ok (.sipush 5000, 3) := by decide +kernel
theorem dX9_init_80 : decode cX9_init 80 = .ok (.newarray .long, 2) := by decide +kernel
theorem dX9_init_82 : decode cX9_init 82 = .ok (.putfield 39, 3) := by decide +kernel
theorem dX9_init_85 : decode cX9_init 85 = .ok (.aload_n 0, 1) := by decide +kernel
theorem dX9_init_86 : decode cX9_init 86 = .ok (.sipush 20000, 3) := by decide +kernel
theorem dX9_init_89 : decode cX9_init 89 = .ok (.newarray .int, 2) := by decide +kernel
theorem dX9_init_91 : decode cX9_init 91 = .ok (.putfield 43, 3) := by decide +kernel
theorem dX9_init_94 : decode cX9_init 94 = .ok (.aload_n 0, 1) := by decide +kernel
theorem dX9_init_95 : decode cX9_init 95 = .ok (.sipush 400, 3) := by decide +kernel
theorem dX9_init_98 : decode cX9_init 98 = .ok (.newarray .int, 2) := by decide +kernel
theorem dX9_init_100 : decode cX9_init 100 = .ok (.putfield 46, 3) := by decide +kernel
theorem dX9_init_103 : decode cX9_init 103 = .ok (.aload_n 0, 1) := by decide +kernel
theorem dX9_init_104 : decode cX9_init 104 = .ok (.iconst (-1), 1) := by decide +kernel
theorem dX9_init_105 : decode cX9_init 105 = .ok (.putfield 49, 3) := by decide +kernel
theorem dX9_init_108 : decode cX9_init 108 = .ok (.aload_n 0, 1) := by decide +kernel
theorem dX9_init_109 : decode cX9_init 109 = .ok (.bipush 64, 2) := by decide +kernel
theorem dX9_init_111 : decode cX9_init 111 = .ok (.newarray .int, 2) := by decide +kernel
theorem dX9_init_113 : decode cX9_init 113 = .ok (.putfield 52, 3) := by decide +kernel
theorem dX9_init_116 : decode cX9_init 116 = .ok (.aload_n 0, 1) := by decide +kernel
theorem dX9_init_117 : decode cX9_init 117 = .ok (.bipush 64, 2) := by decide +kernel
theorem dX9_init_119 : decode cX9_init 119 = .ok (.newarray .int, 2) := by decide +kernel
theorem dX9_init_121 : decode cX9_init 121 = .ok (.putfield 55, 3) := by decide +kernel
theorem dX9_init_124 : decode cX9_init 124 = .ok (.aload_n 0, 1) := by decide +kernel
theorem dX9_init_125 : decode cX9_init 125 = .ok (.bipush 64, 2) := by decide +kernel
theorem dX9_init_127 : decode cX9_init 127 = .ok (.newarray .boolean, 2) := by decide +kernel
theorem dX9_init_129 : decode cX9_init 129 = .ok (.putfield 58, 3) := by decide +kernel
theorem dX9_init_132 : decode cX9_init 132 = .ok (.aload_n 0, 1) := by decide +kernel
theorem dX9_init_133 : decode cX9_init 133 = .ok (.sipush 4096, 3) := by decide +kernel
theorem dX9_init_136 : decode cX9_init 136 = .ok (.newarray .int, 2) := by decide +kernel
theorem dX9_init_138 : decode cX9_init 138 = .ok (.putfield 61, 3) := by decide +kernel
theorem dX9_init_141 : decode cX9_init 141 = .ok (.aload_n 0, 1) := by decide +kernel
theorem dX9_init_142 : decode cX9_init 142 = .ok (.sipush 4096, 3) := by decide +kernel
theorem dX9_init_145 : decode cX9_init 145 = .ok (.newarray .int, 2) := by decide +kernel
theorem dX9_init_147 : decode cX9_init 147 = .ok (.putfield 64, 3) := by decide +kernel
theorem dX9_init_150 : decode cX9_init 150 = .ok (.aload_n 0, 1) := by decide +kernel
theorem dX9_init_151 : decode cX9_init 151 = .ok (.bipush 64, 2) := by decide +kernel
theorem dX9_init_153 : decode cX9_init 153 = .ok (.newarray .int, 2) := by decide +kernel
theorem dX9_init_155 : decode cX9_init 155 = .ok (.putfield 67, 3) := by decide +kernel
theorem dX9_init_158 : decode cX9_init 158 = .ok (.aload_n 0, 1) := by decide +kernel
theorem dX9_init_159 : decode cX9_init 159 = .ok (.bipush 30, 2) := by decide +kernel
theorem dX9_init_161 : decode cX9_init 161 = .ok (.newarray .int, 2) := by decide +kernel
theorem dX9_init_163 : decode cX9_init 163 = .ok (.putfield 70, 3) := by decide +kernel
theorem dX9_init_166 : decode cX9_init 166 = .ok (.aload_n 0, 1) := by decide +kernel
theorem dX9_init_167 : decode cX9_init 167 = .ok (.ldc 73, 2) := by decide +kernel
theorem dX9_init_169 : decode cX9_init 169 = .ok (.newarray .int, 2) := by decide +kernel
theorem dX9_init_171 : decode cX9_init 171 = .ok (.putfield 74, 3) := by decide +kernel
theorem dX9_init_174 : decode cX9_init 174 = .ok (.aload_n 0, 1) := by decide +kernel
theorem dX9_init_175 : decode cX9_init 175 = .ok (.ldc 73, 2) := by decide +kernel
theorem dX9_init_177 : decode cX9_init 177 = .ok (.newarray .int, 2) := by decide +kernel
theorem dX9_init_179 : decode cX9_init 179 = .ok (.putfield 77, 3) := by decide +kernel
theorem dX9_init_182 : decode cX9_init 182 = .ok (.aload_n 0, 1) := by decide +kernel
theorem dX9_init_183 : decode cX9_init 183 = .ok (.sipush 20000, 3) := by decide +kernel
theorem dX9_init_186 : decode cX9_init 186 = .ok (.newarray .int, 2) := by decide +kernel
theorem dX9_init_188 : decode cX9_init 188 = .ok (.putfield 80, 3) := by decide +kernel
theorem dX9_init_191 : decode cX9_init 191 = .ok (.aload_n 0, 1) := by decide +kernel
theorem dX9_init_192 : decode cX9_init 192 = .ok (.sipush 20000, 3) := by decide +kernel
theorem dX9_init_195 : decode cX9_init 195 = .ok (.newarray .int, 2) := by decide +kernel
theorem dX9_init_197 : decode cX9_init 197 = .ok (.putfield 83, 3) := by decide +kernel
theorem dX9_init_200 : decode cX9_init 200 = .ok (.aload_n 0, 1) := by decide +kernel
theorem dX9_init_201 : decode cX9_init 201 = .ok (.ldc 73, 2) := by decide +kernel
theorem dX9_init_203 : decode cX9_init 203 = .ok (.newarray .boolean, 2) := by decide +kernel
theorem dX9_init_205 : decode cX9_init 205 = .ok (.putfield 86, 3) := by decide +kernel
theorem dX9_init_208 : decode cX9_init 208 = .ok (.aload_n 0, 1) := by decide +kernel
theorem dX9_init_209 : decode cX9_init 209 = .ok (.ldc 73, 2) := by decide +kernel
theorem dX9_init_211 : decode cX9_init 211 = .ok (.newarray .boolean, 2) := by decide +kernel
theorem dX9_init_213 : decode cX9_init 213 = .ok (.putfield 89, 3) := by decide +kernel
theorem dX9_init_216 : decode cX9_init 216 = .ok (.aload_n 0, 1) := by decide +kernel
theorem dX9_init_217 : decode cX9_init 217 = .ok (.iload_n 1, 1) := by decide +kernel
theorem dX9_init_218 : decode cX9_init 218 = .ok (.iconst 2, 1) := by decide +kernel
theorem dX9_init_219 : decode cX9_init 219 = .ok (.if_icmp .ge 7, 3) := by decide +kernel
theorem dX9_init_222 : decode cX9_init 222 = .ok (.iconst 2, 1) := by decide +kernel
theorem dX9_init_223 : decode cX9_init 223 = .ok (.goto 15, 3) := by decide +kernel
theorem dX9_init_226 : decode cX9_init 226 = .ok (.iload_n 1, 1) := by decide +kernel
theorem dX9_init_227 : decode cX9_init 227 = .ok (.bipush 8, 2) := by decide +kernel
theorem dX9_init_229 : decode cX9_init 229 = .ok (.if_icmp .le 8, 3) := by decide +kernel
theorem dX9_init_232 : decode cX9_init 232 = .ok (.bipush 8, 2) := by decide +kernel
theorem dX9_init_234 : decode cX9_init 234 = .ok (.goto 4, 3) := by decide +kernel
theorem dX9_init_237 : decode cX9_init 237 = .ok (.iload_n 1, 1) := by decide +kernel
theorem dX9_init_238 : decode cX9_init 238 = .ok (.putfield 92, 3) := by decide +kernel
theorem dX9_init_241 : decode cX9_init 241 = .ok (.aload_n 0, 1) := by decide +kernel
theorem dX9_init_242 : decode cX9_init 242 = .ok (.iload_n 2, 1) := by decide +kernel
theorem dX9_init_243 : decode cX9_init 243 = .ok (.iconst 2, 1) := by decide +kernel
theorem dX9_init_244 : decode cX9_init 244 = .ok (.if_icmp .ge 7, 3) := by decide +kernel
theorem dX9_init_247 : decode cX9_init 247 = .ok (.iconst 2, 1) := by decide +kernel
theorem dX9_init_248 : decode cX9_init 248 = .ok (.goto 15, 3) := by decide +kernel
theorem dX9_init_251 : decode cX9_init 251 = .ok (.iload_n 2, 1) := by decide +kernel
theorem dX9_init_252 : decode cX9_init 252 = .ok (.bipush 8, 2) := by decide +kernel
theorem dX9_init_254 : decode cX9_init 254 = .ok (.if_icmp .le 8, 3) := by decide +kernel
theorem dX9_init_257 : decode cX9_init 257 = .ok (.bipush 8, 2) := by decide +kernel
theorem dX9_init_259 : decode cX9_init 259 = .ok (.goto 4, 3) := by decide +kernel
theorem dX9_init_262 : decode cX9_init 262 = .ok (.iload_n 2, 1) := by decide +kernel
theorem dX9_init_263 : decode cX9_init 263 = .ok (.putfield 95, 3) := by decide +kernel
theorem dX9_init_266 : decode cX9_init 266 = .ok (.return_, 1) := by decide +kernel
theorem dX9_isField_0 : decode cX9_isField 0 = .ok (.iload_n 1, 1) := by decide +kernel
theorem dX9_isField_1 : decode cX9_isField 1 = .ok (.ifCond .lt 27, 3) := by decide +kernel
theorem dX9_isField_4 : decode cX9_isField 4 = .ok (.iload_n 1, 1) := by decide +kernel
theorem dX9_isField_5 : decode cX9_isField 5 = .ok (.aload_n 0, 1) := by decide +kernel
theorem dX9_isField_6 : decode cX9_isField 6 = .ok (.getfield 92, 3) := by decide +kernel
theorem dX9_isField_9 : decode cX9_isField 9 = .ok (.if_icmp .ge 19, 3) := by decide +kernel
theorem dX9_isField_12 : decode cX9_isField 12 = .ok (.iload_n 2, 1) := by decide +kernel
theorem dX9_isField_13 : decode cX9_isField 13 = .ok (.ifCond .lt 15, 3) := by decide +kernel
theorem dX9_isField_16 : decode cX9_isField 16 = .ok (.iload_n 2, 1) := by decide +kernel
theorem dX9_isField_17 : decode cX9_isField 17 = .ok (.aload_n 0, 1) := by decide +kernel
theorem dX9_isField_18 : decode cX9_isField 18 = .ok (.getfield 95, 3) := by decide +kernel
theorem dX9_isField_21 : decode cX9_isField 21 = .ok (.if_icmp .ge 7, 3) := by decide +kernel
theorem dX9_isField_24 : decode cX9_isField 24 = .ok (.iconst 1, 1) := by decide +kernel
theorem dX9_isField_25 : decode cX9_isField 25 = .ok (.goto 4, 3) := by decide +kernel
theorem dX9_isField_28 : decode cX9_isField 28 = .ok (.iconst 0, 1) := by decide +kernel
theorem dX9_isField_29 : decode cX9_isField 29 = .ok (.ireturn, 1) := by decide +kernel
theorem dX9_kindOf_0 : decode cX9_kindOf 0 = .ok (.iload_n 1, 1) := by decide +kernel
theorem dX9_kindOf_1 : decode cX9_kindOf 1 = .ok (.ifCond .lt 15, 3) := by decide +kernel
theorem dX9_kindOf_4 : decode cX9_kindOf 4 = .ok (.aload_n 0, 1) := by decide +kernel
theorem dX9_kindOf_5 : decode cX9_kindOf 5 = .ok (.getfield 16, 3) := by decide +kernel
theorem dX9_kindOf_8 : decode cX9_kindOf 8 = .ok (.iload_n 1, 1) := by decide +kernel
theorem dX9_kindOf_9 : decode cX9_kindOf 9 = .ok (.bipush 8, 2) := by decide +kernel
theorem dX9_kindOf_11 : decode cX9_kindOf 11 = .ok (.idiv, 1) := by decide +kernel
theorem dX9_kindOf_12 : decode cX9_kindOf 12 = .ok (.baload, 1) := by decide +kernel
theorem dX9_kindOf_13 : decode cX9_kindOf 13 = .ok (.ifCond .eq 7, 3) := by decide +kernel
theorem dX9_kindOf_20 : decode cX9_kindOf 20 = .ok (.aload_n 0, 1) := by decide +kernel
theorem dX9_kindOf_21 : decode cX9_kindOf 21 = .ok (.getfield 7, 3) := by decide +kernel
theorem dX9_kindOf_24 : decode cX9_kindOf 24 = .ok (.iload_n 1, 1) := by decide +kernel
theorem dX9_kindOf_25 : decode cX9_kindOf 25 = .ok (.iaload, 1) := by decide +kernel
theorem dX9_kindOf_26 : decode cX9_kindOf 26 = .ok (.ireturn, 1) := by decide +kernel
theorem dX9_isWay_0 : decode cX9_isWay 0 = .ok (.iload_n 0, 1) := by decide +kernel
theorem dX9_isWay_1 : decode cX9_isWay 1 = .ok (.ifCond .lt 12, 3) := by decide +kernel
theorem dX9_isWay_4 : decode cX9_isWay 4 = .ok (.iload_n 0, 1) := by decide +kernel
theorem dX9_isWay_5 : decode cX9_isWay 5 = .ok (.iconst 4, 1) := by decide +kernel
theorem dX9_isWay_6 : decode cX9_isWay 6 = .ok (.if_icmp .ge 7, 3) := by decide +kernel
theorem dX9_isWay_9 : decode cX9_isWay 9 = .ok (.iconst 1, 1) := by decide +kernel
theorem dX9_isWay_10 : decode cX9_isWay 10 = .ok (.goto 4, 3) := by decide +kernel
theorem dX9_isWay_13 : decode cX9_isWay 13 = .ok (.iconst 0, 1) := by decide +kernel
theorem dX9_isWay_14 : decode cX9_isWay 14 = .ok (.ireturn, 1) := by decide +kernel
theorem dX9_number_0 : decode cX9_number 0 = .ok (.iconst 0, 1) := by decide +kernel
theorem dX9_number_1 : decode cX9_number 1 = .ok (.istore_n 2, 1) := by decide +kernel
theorem dX9_number_2 : decode cX9_number 2 = .ok (.iconst 0, 1) := by decide +kernel
theorem dX9_number_3 : decode cX9_number 3 = .ok (.istore_n 3, 1) := by decide +kernel
theorem dX9_number_4 : decode cX9_number 4 = .ok (.iload_n 3, 1) := by decide +kernel
theorem dX9_number_5 : decode cX9_number 5 = .ok (.bipush 64, 2) := by decide +kernel
theorem dX9_number_7 : decode cX9_number 7 = .ok (.if_icmp .ge 23, 3) := by decide +kernel
theorem dX9_number_10 : decode cX9_number 10 = .ok (.iload_n 2, 1) := by decide +kernel
theorem dX9_number_11 : decode cX9_number 11 = .ok (.aload_n 1, 1) := by decide +kernel
theorem dX9_number_12 : decode cX9_number 12 = .ok (.iload_n 3, 1) := by decide +kernel
theorem dX9_number_13 : decode cX9_number 13 = .ok (.baload, 1) := by decide +kernel
theorem dX9_number_14 : decode cX9_number 14 = .ok (.ifCond .eq 7, 3) := by decide +kernel
theorem dX9_number_21 : decode cX9_number 21 = .ok (.iconst 0, 1) := by decide +kernel
theorem dX9_number_22 : decode cX9_number 22 = .ok (.iadd, 1) := by decide +kernel
theorem dX9_number_23 : decode cX9_number 23 = .ok (.istore_n 2, 1) := by decide +kernel
theorem dX9_number_24 : decode cX9_number 24 = .ok (.iinc 3 1, 3) := by decide +kernel
theorem dX9_number_27 : decode cX9_number 27 = .ok (.goto (-23), 3) := by decide +kernel
theorem dX9_number_30 : decode cX9_number 30 = .ok (.iload_n 2, 1) := by decide +kernel
theorem dX9_number_31 : decode cX9_number 31 = .ok (.ireturn, 1) := by decide +kernel
theorem dX9_forget_0 : decode cX9_forget 0 = .ok (.aload_n 0, 1) := by decide +kernel
theorem dX9_forget_1 : decode cX9_forget 1 = .ok (.iconst 0, 1) := by decide +kernel
theorem dX9_forget_2 : decode cX9_forget 2 = .ok (.putfield 112, 3) := by decide +kernel
theorem dX9_forget_5 : decode cX9_forget 5 = .ok (.aload_n 0, 1) := by decide +kernel
theorem dX9_forget_6 : decode cX9_forget 6 = .ok (.iconst 0, 1) := by decide +kernel
theorem dX9_forget_7 : decode cX9_forget 7 = .ok (.putfield 115, 3) := by decide +kernel
theorem dX9_forget_10 : decode cX9_forget 10 = .ok (.return_, 1) := by decide +kernel
set_option maxRecDepth 20000 in
theorem ggX9_field_X9_isField : GoodIn wsX9_field wsX9_isField := goodIn_r _ [10, 11, 12, 22, 23, 24, 25, 26, 27, 28, 29, 30, 31, 32, 33, 34, 35, 36, 37, 38, 39, 40, 41, 42, 43, 44, 45, 46, 47, 48, 49, 50, 51, 52, 53, 54, 55, 56, 57] (by decide +kernel) (by decide +kernel)
set_option maxRecDepth 20000 in
theorem gX9_field_X9_isField : GoodIn wsX9_field (wsV RX9 98 RX9 yX9_isField wsX9_isField) := goodIn_app (goodIn_of _ (by decide +kernel)) ggX9_field_X9_isField
set_option maxRecDepth 20000 in
theorem ggX9_field_X9_isWay : GoodIn wsX9_field wsX9_isWay := goodIn_r _ [15] (by decide +kernel) (by decide +kernel)
set_option maxRecDepth 20000 in
theorem gX9_field_X9_isWay : GoodIn wsX9_field (va_wsS RX9 118 yX9_isWay wsX9_isWay) := goodIn_app (goodIn_of _ (by decide +kernel)) ggX9_field_X9_isWay
set_option maxRecDepth 20000 in
theorem ggX9_field_X9_forget : GoodIn wsX9_field wsX9_forget := goodIn_r _ [19, 20, 21, 22, 23, 24, 25, 26, 27, 28, 29, 30, 31, 32, 33, 34, 35, 36, 37, 38, 39, 40, 41, 42, 43, 44, 45, 46, 47, 48, 49, 50, 51, 52, 53, 54, 55, 56, 57] (by decide +kernel) (by decide +kernel)
set_option maxRecDepth 20000 in
theorem gX9_field_X9_forget : GoodIn wsX9_field (wsV RX9 122 RX9 yX9_forget wsX9_forget) := goodIn_app (goodIn_of _ (by decide +kernel)) ggX9_field_X9_forget
theorem dX9_field_0 : decode cX9_field 0 = .ok (.aload_n 0, 1) := by decide +kernel
theorem dX9_field_1 : decode cX9_field 1 = .ok (.iload_n 1, 1) := by decide +kernel
theorem dX9_field_2 : decode cX9_field 2 = .ok (.iload_n 2, 1) := by decide +kernel
theorem dX9_field_3 : decode cX9_field 3 = .ok (.invokevirtual 98, 3) := by decide +kernel
theorem dX9_field_6 : decode cX9_field 6 = .ok (.ifCond .eq 33, 3) := by decide +kernel
theorem dX9_field_9 : decode cX9_field 9 = .ok (.iload_n 3, 1) := by decide +kernel
theorem dX9_field_10 : decode cX9_field 10 = .ok (.ifCond .lt 29, 3) := by decide +kernel
theorem dX9_field_13 : decode cX9_field 13 = .ok (.iload_n 3, 1) := by decide +kernel
theorem dX9_field_14 : decode cX9_field 14 = .ok (.iconst 5, 1) := by decide +kernel
theorem dX9_field_15 : decode cX9_field 15 = .ok (.if_icmp .gt 24, 3) := by decide +kernel
theorem dX9_field_18 : decode cX9_field 18 = .ok (.iload_n 3, 1) := by decide +kernel
theorem dX9_field_19 : decode cX9_field 19 = .ok (.iconst 4, 1) := by decide +kernel
theorem dX9_field_20 : decode cX9_field 20 = .ok (.if_icmp .ne 14, 3) := by decide +kernel
theorem dX9_field_23 : decode cX9_field 23 = .ok (.iload 4, 2) := by decide +kernel
theorem dX9_field_25 : decode cX9_field 25 = .ok (.invokestatic 118, 3) := by decide +kernel
theorem dX9_field_28 : decode cX9_field 28 = .ok (.ifCond .ne 14, 3) := by decide +kernel
theorem dX9_field_31 : decode cX9_field 31 = .ok (.goto 8, 3) := by decide +kernel
theorem dX9_field_34 : decode cX9_field 34 = .ok (.iload 4, 2) := by decide +kernel
theorem dX9_field_36 : decode cX9_field 36 = .ok (.ifCond .eq 6, 3) := by decide +kernel
theorem dX9_field_39 : decode cX9_field 39 = .ok (.bipush (-2), 2) := by decide +kernel
theorem dX9_field_41 : decode cX9_field 41 = .ok (.ireturn, 1) := by decide +kernel
theorem dX9_field_42 : decode cX9_field 42 = .ok (.bipush 8, 2) := by decide +kernel
theorem dX9_field_44 : decode cX9_field 44 = .ok (.iload_n 2, 1) := by decide +kernel
theorem dX9_field_45 : decode cX9_field 45 = .ok (.imul, 1) := by decide +kernel
theorem dX9_field_46 : decode cX9_field 46 = .ok (.iload_n 1, 1) := by decide +kernel
theorem dX9_field_47 : decode cX9_field 47 = .ok (.iadd, 1) := by decide +kernel
theorem dX9_field_48 : decode cX9_field 48 = .ok (.istore 5, 2) := by decide +kernel
theorem dX9_field_50 : decode cX9_field 50 = .ok (.aload_n 0, 1) := by decide +kernel
theorem dX9_field_51 : decode cX9_field 51 = .ok (.getfield 20, 3) := by decide +kernel
theorem dX9_field_54 : decode cX9_field 54 = .ok (.iload 5, 2) := by decide +kernel
theorem dX9_field_56 : decode cX9_field 56 = .ok (.baload, 1) := by decide +kernel
theorem dX9_field_57 : decode cX9_field 57 = .ok (.ifCond .ne 22, 3) := by decide +kernel
theorem dX9_field_60 : decode cX9_field 60 = .ok (.aload_n 0, 1) := by decide +kernel
theorem dX9_field_61 : decode cX9_field 61 = .ok (.getfield 26, 3) := by decide +kernel
theorem dX9_field_64 : decode cX9_field 64 = .ok (.iload 5, 2) := by decide +kernel
theorem dX9_field_66 : decode cX9_field 66 = .ok (.if_icmp .eq 13, 3) := by decide +kernel
theorem dX9_field_69 : decode cX9_field 69 = .ok (.aload_n 0, 1) := by decide +kernel
theorem dX9_field_70 : decode cX9_field 70 = .ok (.getfield 23, 3) := by decide +kernel
theorem dX9_field_73 : decode cX9_field 73 = .ok (.iload 5, 2) := by decide +kernel
theorem dX9_field_75 : decode cX9_field 75 = .ok (.baload, 1) := by decide +kernel
theorem dX9_field_76 : decode cX9_field 76 = .ok (.ifCond .eq 6, 3) := by decide +kernel
theorem dX9_field_82 : decode cX9_field 82 = .ok (.aload_n 0, 1) := by decide +kernel
theorem dX9_field_83 : decode cX9_field 83 = .ok (.getfield 7, 3) := by decide +kernel
theorem dX9_field_86 : decode cX9_field 86 = .ok (.iload 5, 2) := by decide +kernel
theorem dX9_field_88 : decode cX9_field 88 = .ok (.iaload, 1) := by decide +kernel
theorem dX9_field_89 : decode cX9_field 89 = .ok (.istore 6, 2) := by decide +kernel
theorem dX9_field_91 : decode cX9_field 91 = .ok (.aload_n 0, 1) := by decide +kernel
theorem dX9_field_92 : decode cX9_field 92 = .ok (.getfield 7, 3) := by decide +kernel
theorem dX9_field_95 : decode cX9_field 95 = .ok (.iload 5, 2) := by decide +kernel
theorem dX9_field_97 : decode cX9_field 97 = .ok (.iload_n 3, 1) := by decide +kernel
theorem dX9_field_98 : decode cX9_field 98 = .ok (.iastore, 1) := by decide +kernel
theorem dX9_field_99 : decode cX9_field 99 = .ok (.aload_n 0, 1) := by decide +kernel
theorem dX9_field_100 : decode cX9_field 100 = .ok (.getfield 13, 3) := by decide +kernel
theorem dX9_field_103 : decode cX9_field 103 = .ok (.iload 5, 2) := by decide +kernel
theorem dX9_field_105 : decode cX9_field 105 = .ok (.iload 4, 2) := by decide +kernel
theorem dX9_field_107 : decode cX9_field 107 = .ok (.iastore, 1) := by decide +kernel
theorem dX9_field_108 : decode cX9_field 108 = .ok (.aload_n 0, 1) := by decide +kernel
theorem dX9_field_109 : decode cX9_field 109 = .ok (.invokevirtual 122, 3) := by decide +kernel
theorem dX9_field_112 : decode cX9_field 112 = .ok (.iload 6, 2) := by decide +kernel
theorem dX9_field_114 : decode cX9_field 114 = .ok (.ireturn, 1) := by decide +kernel
set_option maxRecDepth 20000 in
theorem ggX9_line_X9_forget : GoodIn wsX9_line wsX9_forget := goodIn_r _ [10, 11, 12, 13, 14, 15, 16, 17, 18, 19, 20, 21, 22, 23, 24, 25, 26, 27, 28, 29, 30, 31, 32, 33, 34, 35, 36, 37, 38, 39, 40, 41, 42, 43, 44, 45, 46, 47, 48] (by decide +kernel) (by decide +kernel)
set_option maxRecDepth 20000 in
theorem gX9_line_X9_forget : GoodIn wsX9_line (wsV RX9 122 RX9 yX9_forget wsX9_forget) := goodIn_app (goodIn_of _ (by decide +kernel)) ggX9_line_X9_forget
theorem dX9_line_0 : decode cX9_line 0 = .ok (.iload_n 1, 1) := by decide +kernel
theorem dX9_line_1 : decode cX9_line 1 = .ok (.ifCond .lt 11, 3) := by decide +kernel
theorem dX9_line_4 : decode cX9_line 4 = .ok (.iload_n 1, 1) := by decide +kernel
theorem dX9_line_5 : decode cX9_line 5 = .ok (.aload_n 0, 1) := by decide +kernel
theorem dX9_line_6 : decode cX9_line 6 = .ok (.getfield 95, 3) := by decide +kernel
theorem dX9_line_9 : decode cX9_line 9 = .ok (.if_icmp .lt 6, 3) := by decide +kernel
theorem dX9_line_12 : decode cX9_line 12 = .ok (.bipush (-2), 2) := by decide +kernel
theorem dX9_line_14 : decode cX9_line 14 = .ok (.ireturn, 1) := by decide +kernel
theorem dX9_line_15 : decode cX9_line 15 = .ok (.bipush 8, 2) := by decide +kernel
theorem dX9_line_17 : decode cX9_line 17 = .ok (.iload_n 1, 1) := by decide +kernel
theorem dX9_line_18 : decode cX9_line 18 = .ok (.imul, 1) := by decide +kernel
theorem dX9_line_19 : decode cX9_line 19 = .ok (.istore_n 3, 1) := by decide +kernel
theorem dX9_line_20 : decode cX9_line 20 = .ok (.iload_n 3, 1) := by decide +kernel
theorem dX9_line_21 : decode cX9_line 21 = .ok (.bipush 8, 2) := by decide +kernel
theorem dX9_line_23 : decode cX9_line 23 = .ok (.iload_n 1, 1) := by decide +kernel
theorem dX9_line_24 : decode cX9_line 24 = .ok (.imul, 1) := by decide +kernel
theorem dX9_line_25 : decode cX9_line 25 = .ok (.bipush 8, 2) := by decide +kernel
theorem dX9_line_27 : decode cX9_line 27 = .ok (.iadd, 1) := by decide +kernel
theorem dX9_line_28 : decode cX9_line 28 = .ok (.if_icmp .ge 38, 3) := by decide +kernel
theorem dX9_line_31 : decode cX9_line 31 = .ok (.aload_n 0, 1) := by decide +kernel
theorem dX9_line_32 : decode cX9_line 32 = .ok (.getfield 20, 3) := by decide +kernel
theorem dX9_line_35 : decode cX9_line 35 = .ok (.iload_n 3, 1) := by decide +kernel
theorem dX9_line_36 : decode cX9_line 36 = .ok (.baload, 1) := by decide +kernel
theorem dX9_line_37 : decode cX9_line 37 = .ok (.ifCond .ne 20, 3) := by decide +kernel
theorem dX9_line_40 : decode cX9_line 40 = .ok (.aload_n 0, 1) := by decide +kernel
theorem dX9_line_41 : decode cX9_line 41 = .ok (.getfield 26, 3) := by decide +kernel
theorem dX9_line_44 : decode cX9_line 44 = .ok (.iload_n 3, 1) := by decide +kernel
theorem dX9_line_45 : decode cX9_line 45 = .ok (.if_icmp .eq 12, 3) := by decide +kernel
theorem dX9_line_48 : decode cX9_line 48 = .ok (.aload_n 0, 1) := by decide +kernel
theorem dX9_line_49 : decode cX9_line 49 = .ok (.getfield 23, 3) := by decide +kernel
theorem dX9_line_52 : decode cX9_line 52 = .ok (.iload_n 3, 1) := by decide +kernel
theorem dX9_line_53 : decode cX9_line 53 = .ok (.baload, 1) := by decide +kernel
theorem dX9_line_54 : decode cX9_line 54 = .ok (.ifCond .eq 6, 3) := by decide +kernel
theorem dX9_line_60 : decode cX9_line 60 = .ok (.iinc 3 1, 3) := by decide +kernel
theorem dX9_line_63 : decode cX9_line 63 = .ok (.goto (-43), 3) := by decide +kernel
theorem dX9_line_66 : decode cX9_line 66 = .ok (.aload_n 0, 1) := by decide +kernel
theorem dX9_line_67 : decode cX9_line 67 = .ok (.getfield 16, 3) := by decide +kernel
theorem dX9_line_70 : decode cX9_line 70 = .ok (.iload_n 1, 1) := by decide +kernel
theorem dX9_line_71 : decode cX9_line 71 = .ok (.baload, 1) := by decide +kernel
theorem dX9_line_72 : decode cX9_line 72 = .ok (.istore_n 3, 1) := by decide +kernel
theorem dX9_line_73 : decode cX9_line 73 = .ok (.aload_n 0, 1) := by decide +kernel
theorem dX9_line_74 : decode cX9_line 74 = .ok (.getfield 16, 3) := by decide +kernel
theorem dX9_line_77 : decode cX9_line 77 = .ok (.iload_n 1, 1) := by decide +kernel
theorem dX9_line_78 : decode cX9_line 78 = .ok (.iload_n 2, 1) := by decide +kernel
theorem dX9_line_79 : decode cX9_line 79 = .ok (.bastore, 1) := by decide +kernel
theorem dX9_line_80 : decode cX9_line 80 = .ok (.aload_n 0, 1) := by decide +kernel
theorem dX9_line_81 : decode cX9_line 81 = .ok (.invokevirtual 122, 3) := by decide +kernel
theorem dX9_line_84 : decode cX9_line 84 = .ok (.iload_n 3, 1) := by decide +kernel
theorem dX9_line_85 : decode cX9_line 85 = .ok (.ifCond .eq 7, 3) := by decide +kernel
theorem dX9_line_92 : decode cX9_line 92 = .ok (.iconst 0, 1) := by decide +kernel
theorem dX9_line_93 : decode cX9_line 93 = .ok (.ireturn, 1) := by decide +kernel
set_option maxRecDepth 20000 in
theorem ggX9_barrel_X9_isField : GoodIn wsX9_barrel wsX9_isField := goodIn_r _ [7, 8, 9, 26, 27, 28, 29, 30, 31, 32, 33, 34, 35, 36, 37, 38, 39, 40, 41, 42, 43, 44, 45, 46, 47, 48, 49, 50, 51, 52, 53, 54, 55, 56, 57, 58, 59, 60, 61] (by decide +kernel) (by decide +kernel)
set_option maxRecDepth 20000 in
theorem gX9_barrel_X9_isField : GoodIn wsX9_barrel (wsV RX9 98 RX9 yX9_isField wsX9_isField) := goodIn_app (goodIn_of _ (by decide +kernel)) ggX9_barrel_X9_isField
set_option maxRecDepth 20000 in
theorem ggX9_barrel_X9_kindOf : GoodIn wsX9_barrel wsX9_kindOf := goodIn_r _ [13, 14, 15, 26, 27, 28, 29, 30, 31, 32, 33, 34, 35, 36, 37, 38, 39, 40, 41, 42, 43, 44, 45, 46, 47, 48, 49, 50, 51, 52, 53, 54, 55, 56, 57, 58, 59, 60, 61] (by decide +kernel) (by decide +kernel)
set_option maxRecDepth 20000 in
theorem gX9_barrel_X9_kindOf : GoodIn wsX9_barrel (wsV RX9 102 RX9 yX9_kindOf wsX9_kindOf) := goodIn_app (goodIn_of _ (by decide +kernel)) ggX9_barrel_X9_kindOf
set_option maxRecDepth 20000 in
theorem ggX9_barrel_X9_forget : GoodIn wsX9_barrel wsX9_forget := goodIn_r _ [23, 24, 25, 26, 27, 28, 29, 30, 31, 32, 33, 34, 35, 36, 37, 38, 39, 40, 41, 42, 43, 44, 45, 46, 47, 48, 49, 50, 51, 52, 53, 54, 55, 56, 57, 58, 59, 60, 61] (by decide +kernel) (by decide +kernel)
set_option maxRecDepth 20000 in
theorem gX9_barrel_X9_forget : GoodIn wsX9_barrel (wsV RX9 122 RX9 yX9_forget wsX9_forget) := goodIn_app (goodIn_of _ (by decide +kernel)) ggX9_barrel_X9_forget
theorem dX9_barrel_0 : decode cX9_barrel 0 = .ok (.aload_n 0, 1) := by decide +kernel
theorem dX9_barrel_1 : decode cX9_barrel 1 = .ok (.iload_n 1, 1) := by decide +kernel
theorem dX9_barrel_2 : decode cX9_barrel 2 = .ok (.iload_n 2, 1) := by decide +kernel
theorem dX9_barrel_3 : decode cX9_barrel 3 = .ok (.invokevirtual 98, 3) := by decide +kernel
theorem dX9_barrel_6 : decode cX9_barrel 6 = .ok (.ifCond .ne 6, 3) := by decide +kernel
theorem dX9_barrel_9 : decode cX9_barrel 9 = .ok (.bipush (-2), 2) := by decide +kernel
theorem dX9_barrel_11 : decode cX9_barrel 11 = .ok (.ireturn, 1) := by decide +kernel
theorem dX9_barrel_12 : decode cX9_barrel 12 = .ok (.bipush 8, 2) := by decide +kernel
theorem dX9_barrel_14 : decode cX9_barrel 14 = .ok (.iload_n 2, 1) := by decide +kernel
theorem dX9_barrel_15 : decode cX9_barrel 15 = .ok (.imul, 1) := by decide +kernel
theorem dX9_barrel_16 : decode cX9_barrel 16 = .ok (.iload_n 1, 1) := by decide +kernel
theorem dX9_barrel_17 : decode cX9_barrel 17 = .ok (.iadd, 1) := by decide +kernel
theorem dX9_barrel_18 : decode cX9_barrel 18 = .ok (.istore 4, 2) := by decide +kernel
theorem dX9_barrel_20 : decode cX9_barrel 20 = .ok (.iload_n 3, 1) := by decide +kernel
theorem dX9_barrel_21 : decode cX9_barrel 21 = .ok (.ifCond .eq 37, 3) := by decide +kernel
theorem dX9_barrel_24 : decode cX9_barrel 24 = .ok (.aload_n 0, 1) := by decide +kernel
theorem dX9_barrel_25 : decode cX9_barrel 25 = .ok (.iload 4, 2) := by decide +kernel
theorem dX9_barrel_27 : decode cX9_barrel 27 = .ok (.invokevirtual 102, 3) := by decide +kernel
theorem dX9_barrel_30 : decode cX9_barrel 30 = .ok (.ifCond .eq 25, 3) := by decide +kernel
theorem dX9_barrel_55 : decode cX9_barrel 55 = .ok (.bipush (-2), 2) := by decide +kernel
theorem dX9_barrel_57 : decode cX9_barrel 57 = .ok (.ireturn, 1) := by decide +kernel
theorem dX9_barrel_58 : decode cX9_barrel 58 = .ok (.aload_n 0, 1) := by decide +kernel
theorem dX9_barrel_59 : decode cX9_barrel 59 = .ok (.getfield 20, 3) := by decide +kernel
theorem dX9_barrel_62 : decode cX9_barrel 62 = .ok (.iload 4, 2) := by decide +kernel
theorem dX9_barrel_64 : decode cX9_barrel 64 = .ok (.baload, 1) := by decide +kernel
theorem dX9_barrel_65 : decode cX9_barrel 65 = .ok (.istore 5, 2) := by decide +kernel
theorem dX9_barrel_67 : decode cX9_barrel 67 = .ok (.aload_n 0, 1) := by decide +kernel
theorem dX9_barrel_68 : decode cX9_barrel 68 = .ok (.getfield 20, 3) := by decide +kernel
theorem dX9_barrel_71 : decode cX9_barrel 71 = .ok (.iload 4, 2) := by decide +kernel
theorem dX9_barrel_73 : decode cX9_barrel 73 = .ok (.iload_n 3, 1) := by decide +kernel
theorem dX9_barrel_74 : decode cX9_barrel 74 = .ok (.bastore, 1) := by decide +kernel
theorem dX9_barrel_75 : decode cX9_barrel 75 = .ok (.aload_n 0, 1) := by decide +kernel
theorem dX9_barrel_76 : decode cX9_barrel 76 = .ok (.invokevirtual 122, 3) := by decide +kernel
theorem dX9_barrel_79 : decode cX9_barrel 79 = .ok (.iload 5, 2) := by decide +kernel
theorem dX9_barrel_81 : decode cX9_barrel 81 = .ok (.ifCond .eq 7, 3) := by decide +kernel
theorem dX9_barrel_88 : decode cX9_barrel 88 = .ok (.iconst 0, 1) := by decide +kernel
theorem dX9_barrel_89 : decode cX9_barrel 89 = .ok (.ireturn, 1) := by decide +kernel
set_option maxRecDepth 20000 in
theorem ggX9_man_X9_isField : GoodIn wsX9_man wsX9_isField := goodIn_r _ [7, 8, 9, 22, 23, 24, 25, 26, 27, 28, 29, 30, 31, 32, 33, 34, 35, 36, 37, 38, 39, 40, 41, 42, 43, 44, 45, 46, 47, 48, 49, 50, 51, 52, 53, 54, 55, 56, 57] (by decide +kernel) (by decide +kernel)
set_option maxRecDepth 20000 in
theorem gX9_man_X9_isField : GoodIn wsX9_man (wsV RX9 98 RX9 yX9_isField wsX9_isField) := goodIn_app (goodIn_of _ (by decide +kernel)) ggX9_man_X9_isField
set_option maxRecDepth 20000 in
theorem ggX9_man_X9_kindOf : GoodIn wsX9_man wsX9_kindOf := goodIn_r _ [13, 14, 15, 22, 23, 24, 25, 26, 27, 28, 29, 30, 31, 32, 33, 34, 35, 36, 37, 38, 39, 40, 41, 42, 43, 44, 45, 46, 47, 48, 49, 50, 51, 52, 53, 54, 55, 56, 57] (by decide +kernel) (by decide +kernel)
set_option maxRecDepth 20000 in
theorem gX9_man_X9_kindOf : GoodIn wsX9_man (wsV RX9 102 RX9 yX9_kindOf wsX9_kindOf) := goodIn_app (goodIn_of _ (by decide +kernel)) ggX9_man_X9_kindOf
theorem dX9_man_0 : decode cX9_man 0 = .ok (.aload_n 0, 1) := by decide +kernel
theorem dX9_man_1 : decode cX9_man 1 = .ok (.iload_n 1, 1) := by decide +kernel
theorem dX9_man_2 : decode cX9_man 2 = .ok (.iload_n 2, 1) := by decide +kernel
theorem dX9_man_3 : decode cX9_man 3 = .ok (.invokevirtual 98, 3) := by decide +kernel
theorem dX9_man_6 : decode cX9_man 6 = .ok (.ifCond .ne 6, 3) := by decide +kernel
theorem dX9_man_9 : decode cX9_man 9 = .ok (.bipush (-2), 2) := by decide +kernel
theorem dX9_man_11 : decode cX9_man 11 = .ok (.ireturn, 1) := by decide +kernel
theorem dX9_man_12 : decode cX9_man 12 = .ok (.bipush 8, 2) := by decide +kernel
theorem dX9_man_14 : decode cX9_man 14 = .ok (.iload_n 2, 1) := by decide +kernel
theorem dX9_man_15 : decode cX9_man 15 = .ok (.imul, 1) := by decide +kernel
theorem dX9_man_16 : decode cX9_man 16 = .ok (.iload_n 1, 1) := by decide +kernel
theorem dX9_man_17 : decode cX9_man 17 = .ok (.iadd, 1) := by decide +kernel
theorem dX9_man_18 : decode cX9_man 18 = .ok (.istore_n 3, 1) := by decide +kernel
theorem dX9_man_19 : decode cX9_man 19 = .ok (.aload_n 0, 1) := by decide +kernel
theorem dX9_man_20 : decode cX9_man 20 = .ok (.iload_n 3, 1) := by decide +kernel
theorem dX9_man_21 : decode cX9_man 21 = .ok (.invokevirtual 102, 3) := by decide +kernel
theorem dX9_man_24 : decode cX9_man 24 = .ok (.ifCond .eq 21, 3) := by decide +kernel
theorem dX9_man_45 : decode cX9_man 45 = .ok (.bipush (-2), 2) := by decide +kernel
theorem dX9_man_47 : decode cX9_man 47 = .ok (.ireturn, 1) := by decide +kernel
set_option maxRecDepth 20000 in
theorem ggX9_want_X9_isField : GoodIn wsX9_want wsX9_isField := goodIn_r _ [6, 7, 8, 21, 22, 23, 24, 25, 26, 27, 28, 29, 30, 31, 32, 33, 34, 35, 36, 37, 38, 39, 40, 41, 42, 43, 44, 45, 46, 47, 48, 49, 50, 51, 52, 53, 54, 55, 56] (by decide +kernel) (by decide +kernel)
set_option maxRecDepth 20000 in
theorem gX9_want_X9_isField : GoodIn wsX9_want (wsV RX9 98 RX9 yX9_isField wsX9_isField) := goodIn_app (goodIn_of _ (by decide +kernel)) ggX9_want_X9_isField
set_option maxRecDepth 20000 in
theorem ggX9_want_X9_kindOf : GoodIn wsX9_want wsX9_kindOf := goodIn_r _ [12, 13, 14, 21, 22, 23, 24, 25, 26, 27, 28, 29, 30, 31, 32, 33, 34, 35, 36, 37, 38, 39, 40, 41, 42, 43, 44, 45, 46, 47, 48, 49, 50, 51, 52, 53, 54, 55, 56] (by decide +kernel) (by decide +kernel)
set_option maxRecDepth 20000 in
theorem gX9_want_X9_kindOf : GoodIn wsX9_want (wsV RX9 102 RX9 yX9_kindOf wsX9_kindOf) := goodIn_app (goodIn_of _ (by decide +kernel)) ggX9_want_X9_kindOf
theorem dX9_want_0 : decode cX9_want 0 = .ok (.aload_n 0, 1) := by decide +kernel
theorem dX9_want_1 : decode cX9_want 1 = .ok (.iload_n 1, 1) := by decide +kernel
theorem dX9_want_2 : decode cX9_want 2 = .ok (.iload_n 2, 1) := by decide +kernel
theorem dX9_want_3 : decode cX9_want 3 = .ok (.invokevirtual 98, 3) := by decide +kernel
theorem dX9_want_6 : decode cX9_want 6 = .ok (.ifCond .ne 6, 3) := by decide +kernel
theorem dX9_want_9 : decode cX9_want 9 = .ok (.bipush (-2), 2) := by decide +kernel
theorem dX9_want_11 : decode cX9_want 11 = .ok (.ireturn, 1) := by decide +kernel
theorem dX9_want_12 : decode cX9_want 12 = .ok (.bipush 8, 2) := by decide +kernel
theorem dX9_want_14 : decode cX9_want 14 = .ok (.iload_n 2, 1) := by decide +kernel
theorem dX9_want_15 : decode cX9_want 15 = .ok (.imul, 1) := by decide +kernel
theorem dX9_want_16 : decode cX9_want 16 = .ok (.iload_n 1, 1) := by decide +kernel
theorem dX9_want_17 : decode cX9_want 17 = .ok (.iadd, 1) := by decide +kernel
theorem dX9_want_18 : decode cX9_want 18 = .ok (.istore 4, 2) := by decide +kernel
theorem dX9_want_20 : decode cX9_want 20 = .ok (.aload_n 0, 1) := by decide +kernel
theorem dX9_want_21 : decode cX9_want 21 = .ok (.iload 4, 2) := by decide +kernel
theorem dX9_want_23 : decode cX9_want 23 = .ok (.invokevirtual 102, 3) := by decide +kernel
theorem dX9_want_26 : decode cX9_want 26 = .ok (.iconst 2, 1) := by decide +kernel
theorem dX9_want_27 : decode cX9_want 27 = .ok (.if_icmp .eq 16, 3) := by decide +kernel
theorem dX9_want_30 : decode cX9_want 30 = .ok (.aload_n 0, 1) := by decide +kernel
theorem dX9_want_31 : decode cX9_want 31 = .ok (.iload 4, 2) := by decide +kernel
theorem dX9_want_33 : decode cX9_want 33 = .ok (.invokevirtual 102, 3) := by decide +kernel
theorem dX9_want_36 : decode cX9_want 36 = .ok (.iconst 5, 1) := by decide +kernel
theorem dX9_want_37 : decode cX9_want 37 = .ok (.if_icmp .eq 6, 3) := by decide +kernel
theorem dX9_want_40 : decode cX9_want 40 = .ok (.bipush (-2), 2) := by decide +kernel
theorem dX9_want_42 : decode cX9_want 42 = .ok (.ireturn, 1) := by decide +kernel
theorem dX9_step_0 : decode cX9_step 0 = .ok (.aload_n 0, 1) := by decide +kernel
theorem dX9_step_1 : decode cX9_step 1 = .ok (.getfield 26, 3) := by decide +kernel
theorem dX9_step_4 : decode cX9_step 4 = .ok (.ifCond .lt 10, 3) := by decide +kernel
theorem dX9_step_14 : decode cX9_step 14 = .ok (.bipush (-2), 2) := by decide +kernel
theorem dX9_step_16 : decode cX9_step 16 = .ok (.ireturn, 1) := by decide +kernel
theorem dX9_walk_0 : decode cX9_walk 0 = .ok (.aload_n 0, 1) := by decide +kernel
theorem dX9_walk_1 : decode cX9_walk 1 = .ok (.getfield 26, 3) := by decide +kernel
theorem dX9_walk_4 : decode cX9_walk 4 = .ok (.ifCond .lt 12, 3) := by decide +kernel
theorem dX9_walk_16 : decode cX9_walk 16 = .ok (.bipush (-2), 2) := by decide +kernel
theorem dX9_walk_18 : decode cX9_walk 18 = .ok (.ireturn, 1) := by decide +kernel
theorem dX9_can_0 : decode cX9_can 0 = .ok (.aload_n 0, 1) := by decide +kernel
theorem dX9_can_1 : decode cX9_can 1 = .ok (.getfield 26, 3) := by decide +kernel
theorem dX9_can_4 : decode cX9_can 4 = .ok (.ifCond .lt 33, 3) := by decide +kernel
theorem dX9_can_37 : decode cX9_can 37 = .ok (.bipush (-2), 2) := by decide +kernel
theorem dX9_can_39 : decode cX9_can 39 = .ok (.ireturn, 1) := by decide +kernel
theorem ggX9_push_X9_can_h : GoodIn wsX9_push [.code yX9_can cX9_can 7 (some .int)] := goodIn_r _ [8] (by decide +kernel) (by decide +kernel)
theorem ggX9_push_X9_can_wsX9_can_r1 : GoodIn wsX9_push wsX9_can_r1 := goodIn_r _ [3, 9, 2, 10, 11, 12, 7, 13, 14, 15, 16, 17, 18, 19, 20, 21, 22, 23, 24, 25, 26, 27, 28, 29] (by decide +kernel) (by decide +kernel)
theorem ggX9_push_X9_can_wsX9_can_r2 : GoodIn wsX9_push wsX9_can_r2 := goodIn_r _ [30, 31, 32, 33, 34, 35, 36, 37, 38, 39, 40, 41, 42, 43, 44, 45, 46, 47, 48, 49, 50, 51, 52, 53] (by decide +kernel) (by decide +kernel)
theorem gw_wsX9_push_wsX90 : GoodIn wsX9_push wsX90 := goodIn_r _ [81, 82, 83, 84, 85, 86, 87, 88, 89, 90, 91, 92, 93, 94, 95, 96, 97, 98, 99, 100, 101, 102, 103, 104, 105, 106, 107, 108, 109, 110, 111, 112, 113, 114, 115, 116] (by decide +kernel) (by decide +kernel)
theorem ggX9_push_X9_can : GoodIn wsX9_push wsX9_can := q_gcons ggX9_push_X9_can_h (goodIn_app (goodIn_app ggX9_push_X9_can_wsX9_can_r1 (ggX9_push_X9_can_wsX9_can_r2)) gw_wsX9_push_wsX90)
set_option maxRecDepth 20000 in
theorem gX9_push_X9_can : GoodIn wsX9_push (wsV RX9 168 RX9 yX9_can wsX9_can) := goodIn_app (goodIn_of _ (by decide +kernel)) ggX9_push_X9_can
theorem dX9_push_0 : decode cX9_push 0 = .ok (.aload_n 0, 1) := by decide +kernel
theorem dX9_push_1 : decode cX9_push 1 = .ok (.iload_n 1, 1) := by decide +kernel
theorem dX9_push_2 : decode cX9_push 2 = .ok (.iload_n 2, 1) := by decide +kernel
theorem dX9_push_3 : decode cX9_push 3 = .ok (.iload_n 3, 1) := by decide +kernel
theorem dX9_push_4 : decode cX9_push 4 = .ok (.invokevirtual 168, 3) := by decide +kernel
theorem dX9_push_7 : decode cX9_push 7 = .ok (.istore 4, 2) := by decide +kernel
theorem dX9_push_9 : decode cX9_push 9 = .ok (.iload 4, 2) := by decide +kernel
theorem dX9_push_11 : decode cX9_push 11 = .ok (.ifCond .ge 6, 3) := by decide +kernel
theorem dX9_push_14 : decode cX9_push 14 = .ok (.iload 4, 2) := by decide +kernel
theorem dX9_push_16 : decode cX9_push 16 = .ok (.ireturn, 1) := by decide +kernel
theorem dX9_undo_0 : decode cX9_undo 0 = .ok (.aload_n 0, 1) := by decide +kernel
theorem dX9_undo_1 : decode cX9_undo 1 = .ok (.getfield 112, 3) := by decide +kernel
theorem dX9_undo_4 : decode cX9_undo 4 = .ok (.ifCond .ne 6, 3) := by decide +kernel
theorem dX9_undo_7 : decode cX9_undo 7 = .ok (.bipush (-2), 2) := by decide +kernel
theorem dX9_undo_9 : decode cX9_undo 9 = .ok (.ireturn, 1) := by decide +kernel
theorem dX9_redo_0 : decode cX9_redo 0 = .ok (.aload_n 0, 1) := by decide +kernel
theorem dX9_redo_1 : decode cX9_redo 1 = .ok (.getfield 115, 3) := by decide +kernel
theorem dX9_redo_4 : decode cX9_redo 4 = .ok (.ifCond .ne 6, 3) := by decide +kernel
theorem dX9_redo_7 : decode cX9_redo 7 = .ok (.bipush (-2), 2) := by decide +kernel
theorem dX9_redo_9 : decode cX9_redo 9 = .ok (.ireturn, 1) := by decide +kernel
set_option maxRecDepth 20000 in
theorem ggX9_kind_X9_isField : GoodIn wsX9_kind wsX9_isField := goodIn_r _ [5, 6, 7, 14, 15, 16, 17, 18, 19, 20, 21, 22, 23, 24, 25, 26, 27, 28, 29, 30, 31, 32, 33, 34, 35, 36, 37, 38, 39, 40, 41, 42, 43, 44, 45, 46, 47, 48, 49] (by decide +kernel) (by decide +kernel)
set_option maxRecDepth 20000 in
theorem gX9_kind_X9_isField : GoodIn wsX9_kind (wsV RX9 98 RX9 yX9_isField wsX9_isField) := goodIn_app (goodIn_of _ (by decide +kernel)) ggX9_kind_X9_isField
set_option maxRecDepth 20000 in
theorem ggX9_kind_X9_kindOf : GoodIn wsX9_kind wsX9_kindOf := goodIn_r _ [11, 12, 13, 14, 15, 16, 17, 18, 19, 20, 21, 22, 23, 24, 25, 26, 27, 28, 29, 30, 31, 32, 33, 34, 35, 36, 37, 38, 39, 40, 41, 42, 43, 44, 45, 46, 47, 48, 49] (by decide +kernel) (by decide +kernel)
set_option maxRecDepth 20000 in
theorem gX9_kind_X9_kindOf : GoodIn wsX9_kind (wsV RX9 102 RX9 yX9_kindOf wsX9_kindOf) := goodIn_app (goodIn_of _ (by decide +kernel)) ggX9_kind_X9_kindOf
theorem dX9_kind_0 : decode cX9_kind 0 = .ok (.aload_n 0, 1) := by decide +kernel
theorem dX9_kind_1 : decode cX9_kind 1 = .ok (.iload_n 1, 1) := by decide +kernel
theorem dX9_kind_2 : decode cX9_kind 2 = .ok (.iload_n 2, 1) := by decide +kernel
theorem dX9_kind_3 : decode cX9_kind 3 = .ok (.invokevirtual 98, 3) := by decide +kernel
theorem dX9_kind_6 : decode cX9_kind 6 = .ok (.ifCond .eq 16, 3) := by decide +kernel
theorem dX9_kind_9 : decode cX9_kind 9 = .ok (.aload_n 0, 1) := by decide +kernel
theorem dX9_kind_10 : decode cX9_kind 10 = .ok (.bipush 8, 2) := by decide +kernel
theorem dX9_kind_12 : decode cX9_kind 12 = .ok (.iload_n 2, 1) := by decide +kernel
theorem dX9_kind_13 : decode cX9_kind 13 = .ok (.imul, 1) := by decide +kernel
theorem dX9_kind_14 : decode cX9_kind 14 = .ok (.iload_n 1, 1) := by decide +kernel
theorem dX9_kind_15 : decode cX9_kind 15 = .ok (.iadd, 1) := by decide +kernel
theorem dX9_kind_16 : decode cX9_kind 16 = .ok (.invokevirtual 102, 3) := by decide +kernel
theorem dX9_kind_19 : decode cX9_kind 19 = .ok (.goto 5, 3) := by decide +kernel
theorem dX9_kind_22 : decode cX9_kind 22 = .ok (.bipush (-2), 2) := by decide +kernel
theorem dX9_kind_24 : decode cX9_kind 24 = .ok (.ireturn, 1) := by decide +kernel
set_option maxRecDepth 20000 in
theorem ggX9_on_X9_isField : GoodIn wsX9_on wsX9_isField := goodIn_r _ [8, 9, 10, 11, 12, 13, 14, 15, 16, 17, 18, 19, 20, 21, 22, 23, 24, 25, 26, 27, 28, 29, 30, 31, 32, 33, 34, 35, 36, 37, 38, 39, 40, 41, 42, 43, 44, 45, 46] (by decide +kernel) (by decide +kernel)
set_option maxRecDepth 20000 in
theorem gX9_on_X9_isField : GoodIn wsX9_on (wsV RX9 98 RX9 yX9_isField wsX9_isField) := goodIn_app (goodIn_of _ (by decide +kernel)) ggX9_on_X9_isField
theorem dX9_on_0 : decode cX9_on 0 = .ok (.aload_n 0, 1) := by decide +kernel
theorem dX9_on_1 : decode cX9_on 1 = .ok (.iload_n 1, 1) := by decide +kernel
theorem dX9_on_2 : decode cX9_on 2 = .ok (.iload_n 2, 1) := by decide +kernel
theorem dX9_on_3 : decode cX9_on 3 = .ok (.invokevirtual 98, 3) := by decide +kernel
theorem dX9_on_6 : decode cX9_on 6 = .ok (.ifCond .ne 6, 3) := by decide +kernel
theorem dX9_on_9 : decode cX9_on 9 = .ok (.bipush (-2), 2) := by decide +kernel
theorem dX9_on_11 : decode cX9_on 11 = .ok (.ireturn, 1) := by decide +kernel
theorem dX9_on_12 : decode cX9_on 12 = .ok (.bipush 8, 2) := by decide +kernel
theorem dX9_on_14 : decode cX9_on 14 = .ok (.iload_n 2, 1) := by decide +kernel
theorem dX9_on_15 : decode cX9_on 15 = .ok (.imul, 1) := by decide +kernel
theorem dX9_on_16 : decode cX9_on 16 = .ok (.iload_n 1, 1) := by decide +kernel
theorem dX9_on_17 : decode cX9_on 17 = .ok (.iadd, 1) := by decide +kernel
theorem dX9_on_18 : decode cX9_on 18 = .ok (.istore_n 3, 1) := by decide +kernel
theorem dX9_on_19 : decode cX9_on 19 = .ok (.aload_n 0, 1) := by decide +kernel
theorem dX9_on_20 : decode cX9_on 20 = .ok (.getfield 20, 3) := by decide +kernel
theorem dX9_on_23 : decode cX9_on 23 = .ok (.iload_n 3, 1) := by decide +kernel
theorem dX9_on_24 : decode cX9_on 24 = .ok (.baload, 1) := by decide +kernel
theorem dX9_on_25 : decode cX9_on 25 = .ok (.ifCond .eq 7, 3) := by decide +kernel
theorem dX9_on_32 : decode cX9_on 32 = .ok (.aload_n 0, 1) := by decide +kernel
theorem dX9_on_33 : decode cX9_on 33 = .ok (.getfield 26, 3) := by decide +kernel
theorem dX9_on_36 : decode cX9_on 36 = .ok (.iload_n 3, 1) := by decide +kernel
theorem dX9_on_37 : decode cX9_on 37 = .ok (.if_icmp .ne 7, 3) := by decide +kernel
theorem dX9_on_44 : decode cX9_on 44 = .ok (.iconst 0, 1) := by decide +kernel
theorem dX9_on_45 : decode cX9_on 45 = .ok (.aload_n 0, 1) := by decide +kernel
theorem dX9_on_46 : decode cX9_on 46 = .ok (.getfield 23, 3) := by decide +kernel
theorem dX9_on_49 : decode cX9_on 49 = .ok (.iload_n 3, 1) := by decide +kernel
theorem dX9_on_50 : decode cX9_on 50 = .ok (.baload, 1) := by decide +kernel
theorem dX9_on_51 : decode cX9_on 51 = .ok (.ifCond .eq 7, 3) := by decide +kernel
theorem dX9_on_58 : decode cX9_on 58 = .ok (.iconst 0, 1) := by decide +kernel
theorem dX9_on_59 : decode cX9_on 59 = .ok (.iadd, 1) := by decide +kernel
theorem dX9_on_60 : decode cX9_on 60 = .ok (.ireturn, 1) := by decide +kernel
theorem dX9_far_0 : decode cX9_far 0 = .ok (.aload_n 0, 1) := by decide +kernel
theorem dX9_far_1 : decode cX9_far 1 = .ok (.getfield 26, 3) := by decide +kernel
theorem dX9_far_4 : decode cX9_far 4 = .ok (.ifCond .lt 12, 3) := by decide +kernel
theorem dX9_far_16 : decode cX9_far 16 = .ok (.bipush (-2), 2) := by decide +kernel
theorem dX9_far_18 : decode cX9_far 18 = .ok (.ireturn, 1) := by decide +kernel
theorem dX9_isDone_0 : decode cX9_isDone 0 = .ok (.iconst 0, 1) := by decide +kernel
theorem dX9_isDone_1 : decode cX9_isDone 1 = .ok (.istore_n 1, 1) := by decide +kernel
theorem dX9_isDone_2 : decode cX9_isDone 2 = .ok (.iload_n 1, 1) := by decide +kernel
theorem dX9_isDone_3 : decode cX9_isDone 3 = .ok (.bipush 64, 2) := by decide +kernel
theorem dX9_isDone_5 : decode cX9_isDone 5 = .ok (.if_icmp .ge 29, 3) := by decide +kernel
theorem dX9_isDone_8 : decode cX9_isDone 8 = .ok (.aload_n 0, 1) := by decide +kernel
theorem dX9_isDone_9 : decode cX9_isDone 9 = .ok (.getfield 23, 3) := by decide +kernel
theorem dX9_isDone_12 : decode cX9_isDone 12 = .ok (.iload_n 1, 1) := by decide +kernel
theorem dX9_isDone_13 : decode cX9_isDone 13 = .ok (.baload, 1) := by decide +kernel
theorem dX9_isDone_14 : decode cX9_isDone 14 = .ok (.ifCond .eq 14, 3) := by decide +kernel
theorem dX9_isDone_28 : decode cX9_isDone 28 = .ok (.iinc 1 1, 3) := by decide +kernel
theorem dX9_isDone_31 : decode cX9_isDone 31 = .ok (.goto (-29), 3) := by decide +kernel
theorem dX9_isDone_34 : decode cX9_isDone 34 = .ok (.iconst 1, 1) := by decide +kernel
theorem dX9_isDone_35 : decode cX9_isDone 35 = .ok (.ireturn, 1) := by decide +kernel
theorem dX9_isReady_0 : decode cX9_isReady 0 = .ok (.aload_n 0, 1) := by decide +kernel
theorem dX9_isReady_1 : decode cX9_isReady 1 = .ok (.getfield 26, 3) := by decide +kernel
theorem dX9_isReady_4 : decode cX9_isReady 4 = .ok (.ifCond .lt 37, 3) := by decide +kernel
theorem dX9_isReady_41 : decode cX9_isReady 41 = .ok (.iconst 0, 1) := by decide +kernel
theorem dX9_isReady_42 : decode cX9_isReady 42 = .ok (.ireturn, 1) := by decide +kernel
set_option maxRecDepth 20000 in
theorem ggX9_isDead_X9_kindOf : GoodIn wsX9_isDead wsX9_kindOf := goodIn_r _ [7, 8, 9, 33, 34, 35, 36, 37, 38, 39, 40, 41, 42, 43, 44, 45, 46, 47, 48, 49, 50, 51, 52, 53, 54, 55, 56, 57, 58, 59, 60, 61, 62, 63, 64, 65, 66, 67, 68] (by decide +kernel) (by decide +kernel)
set_option maxRecDepth 20000 in
theorem gX9_isDead_X9_kindOf : GoodIn wsX9_isDead (wsV RX9 102 RX9 yX9_kindOf wsX9_kindOf) := goodIn_app (goodIn_of _ (by decide +kernel)) ggX9_isDead_X9_kindOf
theorem dX9_isDead_0 : decode cX9_isDead 0 = .ok (.aload_n 0, 1) := by decide +kernel
theorem dX9_isDead_1 : decode cX9_isDead 1 = .ok (.iload_n 1, 1) := by decide +kernel
theorem dX9_isDead_2 : decode cX9_isDead 2 = .ok (.invokevirtual 102, 3) := by decide +kernel
theorem dX9_isDead_5 : decode cX9_isDead 5 = .ok (.ifCond .ne 5, 3) := by decide +kernel
theorem dX9_isDead_8 : decode cX9_isDead 8 = .ok (.iconst 0, 1) := by decide +kernel
theorem dX9_isDead_9 : decode cX9_isDead 9 = .ok (.ireturn, 1) := by decide +kernel
set_option maxRecDepth 20000 in
theorem ggX9_dead_X9_isField : GoodIn wsX9_dead wsX9_isField := goodIn_r _ [5, 6, 7, 37, 38, 39, 40, 41, 42, 43, 44, 45, 46, 47, 48, 49, 50, 51, 52, 53, 54, 55, 56, 57, 58, 59, 60, 61, 62, 63, 64, 65, 66, 67, 68, 69, 70, 71, 72] (by decide +kernel) (by decide +kernel)
set_option maxRecDepth 20000 in
theorem gX9_dead_X9_isField : GoodIn wsX9_dead (wsV RX9 98 RX9 yX9_isField wsX9_isField) := goodIn_app (goodIn_of _ (by decide +kernel)) ggX9_dead_X9_isField
theorem ggX9_dead_X9_isDead_h : GoodIn wsX9_dead [.code yX9_isDead cX9_isDead 3 (some .boolean)] := goodIn_r _ [11] (by decide +kernel) (by decide +kernel)
theorem ggX9_dead_X9_isDead_wsX9_isDead_r1 : GoodIn wsX9_dead wsX9_isDead_r1 := goodIn_r _ [12, 13, 14, 15, 16, 4, 17, 18, 19, 20, 21, 22, 23, 24, 25, 26, 27, 1, 2, 3, 5, 6, 7, 28] (by decide +kernel) (by decide +kernel)
theorem ggX9_dead_X9_isDead_wsX9_isDead_r2 : GoodIn wsX9_dead wsX9_isDead_r2 := goodIn_r _ [29, 30, 31, 32, 33, 34, 35, 36] (by decide +kernel) (by decide +kernel)
theorem gw_wsX9_dead_wsX90 : GoodIn wsX9_dead wsX90 := goodIn_r _ [37, 38, 39, 40, 41, 42, 43, 44, 45, 46, 47, 48, 49, 50, 51, 52, 53, 54, 55, 56, 57, 58, 59, 60, 61, 62, 63, 64, 65, 66, 67, 68, 69, 70, 71, 72] (by decide +kernel) (by decide +kernel)
theorem ggX9_dead_X9_isDead : GoodIn wsX9_dead wsX9_isDead := q_gcons ggX9_dead_X9_isDead_h (goodIn_app (goodIn_app ggX9_dead_X9_isDead_wsX9_isDead_r1 (ggX9_dead_X9_isDead_wsX9_isDead_r2)) gw_wsX9_dead_wsX90)
set_option maxRecDepth 20000 in
theorem gX9_dead_X9_isDead : GoodIn wsX9_dead (wsV RX9 178 RX9 yX9_isDead wsX9_isDead) := goodIn_app (goodIn_of _ (by decide +kernel)) ggX9_dead_X9_isDead
theorem dX9_dead_0 : decode cX9_dead 0 = .ok (.aload_n 0, 1) := by decide +kernel
theorem dX9_dead_1 : decode cX9_dead 1 = .ok (.iload_n 1, 1) := by decide +kernel
theorem dX9_dead_2 : decode cX9_dead 2 = .ok (.iload_n 2, 1) := by decide +kernel
theorem dX9_dead_3 : decode cX9_dead 3 = .ok (.invokevirtual 98, 3) := by decide +kernel
theorem dX9_dead_6 : decode cX9_dead 6 = .ok (.ifCond .ne 8, 3) := by decide +kernel
theorem dX9_dead_9 : decode cX9_dead 9 = .ok (.bipush (-2), 2) := by decide +kernel
theorem dX9_dead_11 : decode cX9_dead 11 = .ok (.goto 21, 3) := by decide +kernel
theorem dX9_dead_14 : decode cX9_dead 14 = .ok (.aload_n 0, 1) := by decide +kernel
theorem dX9_dead_15 : decode cX9_dead 15 = .ok (.bipush 8, 2) := by decide +kernel
theorem dX9_dead_17 : decode cX9_dead 17 = .ok (.iload_n 2, 1) := by decide +kernel
theorem dX9_dead_18 : decode cX9_dead 18 = .ok (.imul, 1) := by decide +kernel
theorem dX9_dead_19 : decode cX9_dead 19 = .ok (.iload_n 1, 1) := by decide +kernel
theorem dX9_dead_20 : decode cX9_dead 20 = .ok (.iadd, 1) := by decide +kernel
theorem dX9_dead_21 : decode cX9_dead 21 = .ok (.invokevirtual 178, 3) := by decide +kernel
theorem dX9_dead_24 : decode cX9_dead 24 = .ok (.ifCond .eq 7, 3) := by decide +kernel
theorem dX9_dead_31 : decode cX9_dead 31 = .ok (.iconst 0, 1) := by decide +kernel
theorem dX9_dead_32 : decode cX9_dead 32 = .ok (.ireturn, 1) := by decide +kernel
theorem dX9_hold_0 : decode cX9_hold 0 = .ok (.iconst 0, 1) := by decide +kernel
theorem dX9_hold_1 : decode cX9_hold 1 = .ok (.istore_n 1, 1) := by decide +kernel
theorem dX9_hold_2 : decode cX9_hold 2 = .ok (.iload_n 1, 1) := by decide +kernel
theorem dX9_hold_3 : decode cX9_hold 3 = .ok (.bipush 64, 2) := by decide +kernel
theorem dX9_hold_5 : decode cX9_hold 5 = .ok (.if_icmp .ge 21, 3) := by decide +kernel
theorem dX9_hold_8 : decode cX9_hold 8 = .ok (.aload_n 0, 1) := by decide +kernel
theorem dX9_hold_9 : decode cX9_hold 9 = .ok (.getfield 58, 3) := by decide +kernel
theorem dX9_hold_12 : decode cX9_hold 12 = .ok (.iload_n 1, 1) := by decide +kernel
theorem dX9_hold_13 : decode cX9_hold 13 = .ok (.aload_n 0, 1) := by decide +kernel
theorem dX9_hold_14 : decode cX9_hold 14 = .ok (.getfield 20, 3) := by decide +kernel
theorem dX9_hold_17 : decode cX9_hold 17 = .ok (.iload_n 1, 1) := by decide +kernel
theorem dX9_hold_18 : decode cX9_hold 18 = .ok (.baload, 1) := by decide +kernel
theorem dX9_hold_19 : decode cX9_hold 19 = .ok (.bastore, 1) := by decide +kernel
theorem dX9_hold_20 : decode cX9_hold 20 = .ok (.iinc 1 1, 3) := by decide +kernel
theorem dX9_hold_23 : decode cX9_hold 23 = .ok (.goto (-21), 3) := by decide +kernel
theorem dX9_hold_26 : decode cX9_hold 26 = .ok (.iconst 1, 1) := by decide +kernel
theorem dX9_hold_27 : decode cX9_hold 27 = .ok (.istore_n 1, 1) := by decide +kernel
theorem dX9_hold_28 : decode cX9_hold 28 = .ok (.iload_n 1, 1) := by decide +kernel
theorem dX9_hold_29 : decode cX9_hold 29 = .ok (.ifCond .eq 117, 3) := by decide +kernel
theorem dX9_hold_32 : decode cX9_hold 32 = .ok (.iconst 0, 1) := by decide +kernel
theorem dX9_hold_33 : decode cX9_hold 33 = .ok (.istore_n 1, 1) := by decide +kernel
theorem dX9_hold_34 : decode cX9_hold 34 = .ok (.iconst 0, 1) := by decide +kernel
theorem dX9_hold_35 : decode cX9_hold 35 = .ok (.istore_n 2, 1) := by decide +kernel
theorem dX9_hold_36 : decode cX9_hold 36 = .ok (.iload_n 2, 1) := by decide +kernel
theorem dX9_hold_37 : decode cX9_hold 37 = .ok (.bipush 64, 2) := by decide +kernel
theorem dX9_hold_39 : decode cX9_hold 39 = .ok (.if_icmp .ge 104, 3) := by decide +kernel
theorem dX9_hold_42 : decode cX9_hold 42 = .ok (.aload_n 0, 1) := by decide +kernel
theorem dX9_hold_43 : decode cX9_hold 43 = .ok (.getfield 58, 3) := by decide +kernel
theorem dX9_hold_46 : decode cX9_hold 46 = .ok (.iload_n 2, 1) := by decide +kernel
theorem dX9_hold_47 : decode cX9_hold 47 = .ok (.baload, 1) := by decide +kernel
theorem dX9_hold_48 : decode cX9_hold 48 = .ok (.ifCond .eq 89, 3) := by decide +kernel
theorem dX9_hold_137 : decode cX9_hold 137 = .ok (.iinc 2 1, 3) := by decide +kernel
theorem dX9_hold_140 : decode cX9_hold 140 = .ok (.goto (-104), 3) := by decide +kernel
theorem dX9_hold_143 : decode cX9_hold 143 = .ok (.goto (-115), 3) := by decide +kernel
theorem dX9_hold_146 : decode cX9_hold 146 = .ok (.return_, 1) := by decide +kernel
set_option maxRecDepth 20000 in
theorem ggX9_held_X9_isField : GoodIn wsX9_held wsX9_isField := goodIn_r _ [6, 7, 8, 28, 29, 30, 31, 32, 33, 34, 35, 36, 37, 38, 39, 40, 41, 42, 43, 44, 45, 46, 47, 48, 49, 50, 51, 52, 53, 54, 55, 56, 57, 58, 59, 60, 61, 62, 63] (by decide +kernel) (by decide +kernel)
set_option maxRecDepth 20000 in
theorem gX9_held_X9_isField : GoodIn wsX9_held (wsV RX9 98 RX9 yX9_isField wsX9_isField) := goodIn_app (goodIn_of _ (by decide +kernel)) ggX9_held_X9_isField
set_option maxRecDepth 20000 in
theorem ggX9_held_X9_hold : GoodIn wsX9_held wsX9_hold := goodIn_r _ [12, 1, 13, 14, 15, 16, 5, 17, 18, 19, 20, 21, 22, 23, 2, 3, 4, 6, 7, 8, 24, 25, 26, 27, 28, 29, 30, 31, 32, 33, 34, 35, 36, 37, 38, 39, 40, 41, 42, 43, 44, 45, 46, 47, 48, 49, 50, 51, 52, 53, 54, 55, 56, 57, 58, 59, 60, 61, 62, 63] (by decide +kernel) (by decide +kernel)
set_option maxRecDepth 20000 in
theorem gX9_held_X9_hold : GoodIn wsX9_held (wsV RX9 184 RX9 yX9_hold wsX9_hold) := goodIn_app (goodIn_of _ (by decide +kernel)) ggX9_held_X9_hold
theorem dX9_held_0 : decode cX9_held 0 = .ok (.aload_n 0, 1) := by decide +kernel
theorem dX9_held_1 : decode cX9_held 1 = .ok (.iload_n 1, 1) := by decide +kernel
theorem dX9_held_2 : decode cX9_held 2 = .ok (.iload_n 2, 1) := by decide +kernel
theorem dX9_held_3 : decode cX9_held 3 = .ok (.invokevirtual 98, 3) := by decide +kernel
theorem dX9_held_6 : decode cX9_held 6 = .ok (.ifCond .ne 6, 3) := by decide +kernel
theorem dX9_held_9 : decode cX9_held 9 = .ok (.bipush (-2), 2) := by decide +kernel
theorem dX9_held_11 : decode cX9_held 11 = .ok (.ireturn, 1) := by decide +kernel
theorem dX9_held_12 : decode cX9_held 12 = .ok (.aload_n 0, 1) := by decide +kernel
theorem dX9_held_13 : decode cX9_held 13 = .ok (.invokevirtual 184, 3) := by decide +kernel
theorem dX9_held_16 : decode cX9_held 16 = .ok (.aload_n 0, 1) := by decide +kernel
theorem dX9_held_17 : decode cX9_held 17 = .ok (.getfield 58, 3) := by decide +kernel
theorem dX9_held_20 : decode cX9_held 20 = .ok (.bipush 8, 2) := by decide +kernel
theorem dX9_held_22 : decode cX9_held 22 = .ok (.iload_n 2, 1) := by decide +kernel
theorem dX9_held_23 : decode cX9_held 23 = .ok (.imul, 1) := by decide +kernel
theorem dX9_held_24 : decode cX9_held 24 = .ok (.iload_n 1, 1) := by decide +kernel
theorem dX9_held_25 : decode cX9_held 25 = .ok (.iadd, 1) := by decide +kernel
theorem dX9_held_26 : decode cX9_held 26 = .ok (.baload, 1) := by decide +kernel
theorem dX9_held_27 : decode cX9_held 27 = .ok (.ifCond .eq 7, 3) := by decide +kernel
theorem dX9_held_34 : decode cX9_held 34 = .ok (.iconst 0, 1) := by decide +kernel
theorem dX9_held_35 : decode cX9_held 35 = .ok (.ireturn, 1) := by decide +kernel
set_option maxRecDepth 20000 in
theorem ggX9_spoilt_X9_isReady : GoodIn wsX9_spoilt wsX9_isReady := goodIn_r _ [9, 10, 2, 4, 11, 12, 13, 8, 14, 57, 58, 59, 60, 61, 62, 63, 64, 65, 66, 67, 68, 69, 70, 71, 72, 73, 74, 75, 76, 77, 78, 79, 80, 81, 82, 83, 84, 85, 86, 87, 88, 89, 90, 91, 92] (by decide +kernel) (by decide +kernel)
set_option maxRecDepth 20000 in
theorem gX9_spoilt_X9_isReady : GoodIn wsX9_spoilt (wsV RX9 187 RX9 yX9_isReady wsX9_isReady) := goodIn_app (goodIn_of _ (by decide +kernel)) ggX9_spoilt_X9_isReady
theorem dX9_spoilt_0 : decode cX9_spoilt 0 = .ok (.aload_n 0, 1) := by decide +kernel
theorem dX9_spoilt_1 : decode cX9_spoilt 1 = .ok (.invokevirtual 187, 3) := by decide +kernel
theorem dX9_spoilt_4 : decode cX9_spoilt 4 = .ok (.ifCond .ne 6, 3) := by decide +kernel
theorem dX9_spoilt_7 : decode cX9_spoilt 7 = .ok (.bipush (-2), 2) := by decide +kernel
theorem dX9_spoilt_9 : decode cX9_spoilt 9 = .ok (.ireturn, 1) := by decide +kernel
theorem dX9_why_0 : decode cX9_why 0 = .ok (.aload_n 0, 1) := by decide +kernel
theorem dX9_why_1 : decode cX9_why 1 = .ok (.getfield 49, 3) := by decide +kernel
theorem dX9_why_4 : decode cX9_why 4 = .ok (.ireturn, 1) := by decide +kernel
set_option maxRecDepth 20000 in
theorem ggX9_low_X9_isReady : GoodIn wsX9_low wsX9_isReady := goodIn_r _ [11, 12, 4, 3, 13, 14, 15, 10, 16, 46, 47, 48, 49, 50, 51, 52, 53, 54, 55, 56, 57, 58, 59, 60, 61, 62, 63, 64, 65, 66, 67, 68, 69, 70, 71, 72, 73, 74, 75, 76, 77, 78, 79, 80, 81] (by decide +kernel) (by decide +kernel)
set_option maxRecDepth 20000 in
theorem gX9_low_X9_isReady : GoodIn wsX9_low (wsV RX9 187 RX9 yX9_isReady wsX9_isReady) := goodIn_app (goodIn_of _ (by decide +kernel)) ggX9_low_X9_isReady
theorem dX9_low_0 : decode cX9_low 0 = .ok (.aload_n 0, 1) := by decide +kernel
theorem dX9_low_1 : decode cX9_low 1 = .ok (.invokevirtual 187, 3) := by decide +kernel
theorem dX9_low_4 : decode cX9_low 4 = .ok (.ifCond .ne 6, 3) := by decide +kernel
theorem dX9_low_7 : decode cX9_low 7 = .ok (.bipush (-2), 2) := by decide +kernel
theorem dX9_low_9 : decode cX9_low 9 = .ok (.ireturn, 1) := by decide +kernel
set_option maxRecDepth 20000 in
theorem ggX9_price_X9_isField : GoodIn wsX9_price wsX9_isField := goodIn_r _ [6, 7, 8, 32, 33, 34, 35, 36, 37, 38, 39, 40, 41, 42, 43, 44, 45, 46, 47, 48, 49, 50, 51, 52, 53, 54, 55, 56, 57, 58, 59, 60, 61, 62, 63, 64, 65, 66, 67] (by decide +kernel) (by decide +kernel)
set_option maxRecDepth 20000 in
theorem gX9_price_X9_isField : GoodIn wsX9_price (wsV RX9 98 RX9 yX9_isField wsX9_isField) := goodIn_app (goodIn_of _ (by decide +kernel)) ggX9_price_X9_isField
set_option maxRecDepth 20000 in
theorem ggX9_price_X9_kindOf : GoodIn wsX9_price wsX9_kindOf := goodIn_r _ [12, 13, 14, 32, 33, 34, 35, 36, 37, 38, 39, 40, 41, 42, 43, 44, 45, 46, 47, 48, 49, 50, 51, 52, 53, 54, 55, 56, 57, 58, 59, 60, 61, 62, 63, 64, 65, 66, 67] (by decide +kernel) (by decide +kernel)
set_option maxRecDepth 20000 in
theorem gX9_price_X9_kindOf : GoodIn wsX9_price (wsV RX9 102 RX9 yX9_kindOf wsX9_kindOf) := goodIn_app (goodIn_of _ (by decide +kernel)) ggX9_price_X9_kindOf
theorem dX9_price_0 : decode cX9_price 0 = .ok (.aload_n 0, 1) := by decide +kernel
theorem dX9_price_1 : decode cX9_price 1 = .ok (.iload_n 1, 1) := by decide +kernel
theorem dX9_price_2 : decode cX9_price 2 = .ok (.iload_n 2, 1) := by decide +kernel
theorem dX9_price_3 : decode cX9_price 3 = .ok (.invokevirtual 98, 3) := by decide +kernel
theorem dX9_price_6 : decode cX9_price 6 = .ok (.ifCond .eq 40, 3) := by decide +kernel
theorem dX9_price_9 : decode cX9_price 9 = .ok (.aload_n 0, 1) := by decide +kernel
theorem dX9_price_10 : decode cX9_price 10 = .ok (.iload_n 3, 1) := by decide +kernel
theorem dX9_price_11 : decode cX9_price 11 = .ok (.iload 4, 2) := by decide +kernel
theorem dX9_price_13 : decode cX9_price 13 = .ok (.invokevirtual 98, 3) := by decide +kernel
theorem dX9_price_16 : decode cX9_price 16 = .ok (.ifCond .eq 30, 3) := by decide +kernel
theorem dX9_price_19 : decode cX9_price 19 = .ok (.aload_n 0, 1) := by decide +kernel
theorem dX9_price_20 : decode cX9_price 20 = .ok (.bipush 8, 2) := by decide +kernel
theorem dX9_price_22 : decode cX9_price 22 = .ok (.iload_n 2, 1) := by decide +kernel
theorem dX9_price_23 : decode cX9_price 23 = .ok (.imul, 1) := by decide +kernel
theorem dX9_price_24 : decode cX9_price 24 = .ok (.iload_n 1, 1) := by decide +kernel
theorem dX9_price_25 : decode cX9_price 25 = .ok (.iadd, 1) := by decide +kernel
theorem dX9_price_26 : decode cX9_price 26 = .ok (.invokevirtual 102, 3) := by decide +kernel
theorem dX9_price_29 : decode cX9_price 29 = .ok (.ifCond .eq 17, 3) := by decide +kernel
theorem dX9_price_46 : decode cX9_price 46 = .ok (.bipush (-2), 2) := by decide +kernel
theorem dX9_price_48 : decode cX9_price 48 = .ok (.ireturn, 1) := by decide +kernel
set_option maxRecDepth 20000 in
theorem ggX9_fields_X9_kindOf : GoodIn wsX9_fields wsX9_kindOf := goodIn_r _ [9, 10, 11, 12, 13, 14, 15, 16, 17, 18, 19, 20, 21, 22, 23, 24, 25, 26, 27, 28, 29, 30, 31, 32, 33, 34, 35, 36, 37, 38, 39, 40, 41, 42, 43, 44, 45, 46, 47] (by decide +kernel) (by decide +kernel)
set_option maxRecDepth 20000 in
theorem gX9_fields_X9_kindOf : GoodIn wsX9_fields (wsV RX9 102 RX9 yX9_kindOf wsX9_kindOf) := goodIn_app (goodIn_of _ (by decide +kernel)) ggX9_fields_X9_kindOf
theorem dX9_fields_0 : decode cX9_fields 0 = .ok (.iconst 0, 1) := by decide +kernel
theorem dX9_fields_1 : decode cX9_fields 1 = .ok (.istore_n 1, 1) := by decide +kernel
theorem dX9_fields_2 : decode cX9_fields 2 = .ok (.iconst 0, 1) := by decide +kernel
theorem dX9_fields_3 : decode cX9_fields 3 = .ok (.istore_n 2, 1) := by decide +kernel
theorem dX9_fields_4 : decode cX9_fields 4 = .ok (.iload_n 2, 1) := by decide +kernel
theorem dX9_fields_5 : decode cX9_fields 5 = .ok (.bipush 64, 2) := by decide +kernel
theorem dX9_fields_7 : decode cX9_fields 7 = .ok (.if_icmp .ge 72, 3) := by decide +kernel
theorem dX9_fields_10 : decode cX9_fields 10 = .ok (.aload_n 0, 1) := by decide +kernel
theorem dX9_fields_11 : decode cX9_fields 11 = .ok (.getfield 67, 3) := by decide +kernel
theorem dX9_fields_14 : decode cX9_fields 14 = .ok (.iload_n 2, 1) := by decide +kernel
theorem dX9_fields_15 : decode cX9_fields 15 = .ok (.iconst (-1), 1) := by decide +kernel
theorem dX9_fields_16 : decode cX9_fields 16 = .ok (.iastore, 1) := by decide +kernel
theorem dX9_fields_17 : decode cX9_fields 17 = .ok (.iload_n 2, 1) := by decide +kernel
theorem dX9_fields_18 : decode cX9_fields 18 = .ok (.bipush 8, 2) := by decide +kernel
theorem dX9_fields_20 : decode cX9_fields 20 = .ok (.idiv, 1) := by decide +kernel
theorem dX9_fields_21 : decode cX9_fields 21 = .ok (.aload_n 0, 1) := by decide +kernel
theorem dX9_fields_22 : decode cX9_fields 22 = .ok (.getfield 95, 3) := by decide +kernel
theorem dX9_fields_25 : decode cX9_fields 25 = .ok (.if_icmp .ge 48, 3) := by decide +kernel
theorem dX9_fields_28 : decode cX9_fields 28 = .ok (.iload_n 2, 1) := by decide +kernel
theorem dX9_fields_29 : decode cX9_fields 29 = .ok (.bipush 8, 2) := by decide +kernel
theorem dX9_fields_31 : decode cX9_fields 31 = .ok (.irem, 1) := by decide +kernel
theorem dX9_fields_32 : decode cX9_fields 32 = .ok (.aload_n 0, 1) := by decide +kernel
theorem dX9_fields_33 : decode cX9_fields 33 = .ok (.getfield 92, 3) := by decide +kernel
theorem dX9_fields_36 : decode cX9_fields 36 = .ok (.if_icmp .ge 37, 3) := by decide +kernel
theorem dX9_fields_39 : decode cX9_fields 39 = .ok (.aload_n 0, 1) := by decide +kernel
theorem dX9_fields_40 : decode cX9_fields 40 = .ok (.iload_n 2, 1) := by decide +kernel
theorem dX9_fields_41 : decode cX9_fields 41 = .ok (.invokevirtual 102, 3) := by decide +kernel
theorem dX9_fields_44 : decode cX9_fields 44 = .ok (.ifCond .ne 6, 3) := by decide +kernel
theorem dX9_fields_47 : decode cX9_fields 47 = .ok (.goto 26, 3) := by decide +kernel
theorem dX9_fields_73 : decode cX9_fields 73 = .ok (.iinc 2 1, 3) := by decide +kernel
theorem dX9_fields_76 : decode cX9_fields 76 = .ok (.goto (-72), 3) := by decide +kernel
theorem dX9_fields_79 : decode cX9_fields 79 = .ok (.iload_n 1, 1) := by decide +kernel
theorem dX9_fields_80 : decode cX9_fields 80 = .ok (.ireturn, 1) := by decide +kernel
set_option maxRecDepth 20000 in
theorem ggX9_fewest_X9_isReady : GoodIn wsX9_fewest wsX9_isReady := goodIn_r _ [12, 13, 1, 14, 15, 16, 17, 11, 18, 116, 117, 118, 119, 120, 121, 122, 123, 124, 125, 126, 127, 128, 129, 130, 131, 132, 133, 134, 135, 136, 137, 138, 139, 140, 141, 142, 143, 144, 145, 146, 147, 148, 149, 150, 151] (by decide +kernel) (by decide +kernel)
set_option maxRecDepth 20000 in
theorem gX9_fewest_X9_isReady : GoodIn wsX9_fewest (wsV RX9 187 RX9 yX9_isReady wsX9_isReady) := goodIn_app (goodIn_of _ (by decide +kernel)) ggX9_fewest_X9_isReady
theorem dX9_fewest_0 : decode cX9_fewest 0 = .ok (.aload_n 0, 1) := by decide +kernel
theorem dX9_fewest_1 : decode cX9_fewest 1 = .ok (.invokevirtual 187, 3) := by decide +kernel
theorem dX9_fewest_4 : decode cX9_fewest 4 = .ok (.ifCond .eq 24, 3) := by decide +kernel
theorem dX9_fewest_28 : decode cX9_fewest 28 = .ok (.bipush (-2), 2) := by decide +kernel
theorem dX9_fewest_30 : decode cX9_fewest 30 = .ok (.ireturn, 1) := by decide +kernel
theorem dX9_steps_0 : decode cX9_steps 0 = .ok (.aload_n 0, 1) := by decide +kernel
theorem dX9_steps_1 : decode cX9_steps 1 = .ok (.getfield 215, 3) := by decide +kernel
theorem dX9_steps_4 : decode cX9_steps 4 = .ok (.ireturn, 1) := by decide +kernel
theorem dX9_plan_0 : decode cX9_plan 0 = .ok (.iload_n 1, 1) := by decide +kernel
theorem dX9_plan_1 : decode cX9_plan 1 = .ok (.ifCond .lt 20, 3) := by decide +kernel
theorem dX9_plan_4 : decode cX9_plan 4 = .ok (.iload_n 1, 1) := by decide +kernel
theorem dX9_plan_5 : decode cX9_plan 5 = .ok (.aload_n 0, 1) := by decide +kernel
theorem dX9_plan_6 : decode cX9_plan 6 = .ok (.getfield 215, 3) := by decide +kernel
theorem dX9_plan_9 : decode cX9_plan 9 = .ok (.if_icmp .ge 12, 3) := by decide +kernel
theorem dX9_plan_21 : decode cX9_plan 21 = .ok (.bipush (-2), 2) := by decide +kernel
theorem dX9_plan_23 : decode cX9_plan 23 = .ok (.ireturn, 1) := by decide +kernel
theorem dX9_follow_0 : decode cX9_follow 0 = .ok (.aload_n 0, 1) := by decide +kernel
theorem dX9_follow_1 : decode cX9_follow 1 = .ok (.getfield 26, 3) := by decide +kernel
theorem dX9_follow_4 : decode cX9_follow 4 = .ok (.ifCond .lt 10, 3) := by decide +kernel
theorem dX9_follow_14 : decode cX9_follow 14 = .ok (.bipush (-2), 2) := by decide +kernel
theorem dX9_follow_16 : decode cX9_follow 16 = .ok (.ireturn, 1) := by decide +kernel
set_option maxRecDepth 20000 in
theorem ggX9_tell_X9_isWay : GoodIn wsX9_tell wsX9_isWay := goodIn_r _ [6] (by decide +kernel) (by decide +kernel)
set_option maxRecDepth 20000 in
theorem gX9_tell_X9_isWay : GoodIn wsX9_tell (va_wsS RX9 118 yX9_isWay wsX9_isWay) := goodIn_app (goodIn_of _ (by decide +kernel)) ggX9_tell_X9_isWay
theorem dX9_tell_0 : decode cX9_tell 0 = .ok (.iload_n 1, 1) := by decide +kernel
theorem dX9_tell_1 : decode cX9_tell 1 = .ok (.invokestatic 118, 3) := by decide +kernel
theorem dX9_tell_4 : decode cX9_tell 4 = .ok (.ifCond .eq 13, 3) := by decide +kernel
theorem dX9_tell_7 : decode cX9_tell 7 = .ok (.aload_n 0, 1) := by decide +kernel
theorem dX9_tell_8 : decode cX9_tell 8 = .ok (.getfield 230, 3) := by decide +kernel
theorem dX9_tell_11 : decode cX9_tell 11 = .ok (.sipush 400, 3) := by decide +kernel
theorem dX9_tell_14 : decode cX9_tell 14 = .ok (.if_icmp .ne 6, 3) := by decide +kernel
theorem dX9_tell_17 : decode cX9_tell 17 = .ok (.bipush (-2), 2) := by decide +kernel
theorem dX9_tell_19 : decode cX9_tell 19 = .ok (.ireturn, 1) := by decide +kernel
theorem dX9_tell_20 : decode cX9_tell 20 = .ok (.aload_n 0, 1) := by decide +kernel
theorem dX9_tell_21 : decode cX9_tell 21 = .ok (.getfield 46, 3) := by decide +kernel
theorem dX9_tell_24 : decode cX9_tell 24 = .ok (.aload_n 0, 1) := by decide +kernel
theorem dX9_tell_25 : decode cX9_tell 25 = .ok (.getfield 230, 3) := by decide +kernel
theorem dX9_tell_28 : decode cX9_tell 28 = .ok (.iload_n 1, 1) := by decide +kernel
theorem dX9_tell_29 : decode cX9_tell 29 = .ok (.iastore, 1) := by decide +kernel
theorem dX9_tell_30 : decode cX9_tell 30 = .ok (.aload_n 0, 1) := by decide +kernel
theorem dX9_tell_31 : decode cX9_tell 31 = .ok (.dup, 1) := by decide +kernel
theorem dX9_tell_32 : decode cX9_tell 32 = .ok (.getfield 230, 3) := by decide +kernel
theorem dX9_tell_35 : decode cX9_tell 35 = .ok (.iconst 1, 1) := by decide +kernel
theorem dX9_tell_36 : decode cX9_tell 36 = .ok (.iadd, 1) := by decide +kernel
theorem dX9_tell_37 : decode cX9_tell 37 = .ok (.putfield 230, 3) := by decide +kernel
theorem dX9_tell_40 : decode cX9_tell 40 = .ok (.aload_n 0, 1) := by decide +kernel
theorem dX9_tell_41 : decode cX9_tell 41 = .ok (.getfield 230, 3) := by decide +kernel
theorem dX9_tell_44 : decode cX9_tell 44 = .ok (.ireturn, 1) := by decide +kernel
theorem dX9_copy_0 : decode cX9_copy 0 = .ok (.aload_n 0, 1) := by decide +kernel
theorem dX9_copy_1 : decode cX9_copy 1 = .ok (.getfield 215, 3) := by decide +kernel
theorem dX9_copy_4 : decode cX9_copy 4 = .ok (.sipush 400, 3) := by decide +kernel
theorem dX9_copy_7 : decode cX9_copy 7 = .ok (.if_icmp .le 6, 3) := by decide +kernel
theorem dX9_copy_13 : decode cX9_copy 13 = .ok (.iconst 0, 1) := by decide +kernel
theorem dX9_copy_14 : decode cX9_copy 14 = .ok (.istore_n 1, 1) := by decide +kernel
theorem dX9_copy_15 : decode cX9_copy 15 = .ok (.iload_n 1, 1) := by decide +kernel
theorem dX9_copy_16 : decode cX9_copy 16 = .ok (.aload_n 0, 1) := by decide +kernel
theorem dX9_copy_17 : decode cX9_copy 17 = .ok (.getfield 215, 3) := by decide +kernel
theorem dX9_copy_20 : decode cX9_copy 20 = .ok (.if_icmp .ge 21, 3) := by decide +kernel
theorem dX9_copy_41 : decode cX9_copy 41 = .ok (.aload_n 0, 1) := by decide +kernel
theorem dX9_copy_42 : decode cX9_copy 42 = .ok (.aload_n 0, 1) := by decide +kernel
theorem dX9_copy_43 : decode cX9_copy 43 = .ok (.getfield 215, 3) := by decide +kernel
theorem dX9_copy_46 : decode cX9_copy 46 = .ok (.putfield 230, 3) := by decide +kernel
theorem dX9_copy_49 : decode cX9_copy 49 = .ok (.aload_n 0, 1) := by decide +kernel
theorem dX9_copy_50 : decode cX9_copy 50 = .ok (.getfield 230, 3) := by decide +kernel
theorem dX9_copy_53 : decode cX9_copy 53 = .ok (.ireturn, 1) := by decide +kernel
theorem dX9_forge_0 : decode cX9_forge 0 = .ok (.iload_n 1, 1) := by decide +kernel
theorem dX9_forge_1 : decode cX9_forge 1 = .ok (.ifCond .lt 18, 3) := by decide +kernel
theorem dX9_forge_4 : decode cX9_forge 4 = .ok (.iload_n 1, 1) := by decide +kernel
theorem dX9_forge_5 : decode cX9_forge 5 = .ok (.aload_n 0, 1) := by decide +kernel
theorem dX9_forge_6 : decode cX9_forge 6 = .ok (.getfield 230, 3) := by decide +kernel
theorem dX9_forge_9 : decode cX9_forge 9 = .ok (.if_icmp .ge 10, 3) := by decide +kernel
theorem dX9_forge_19 : decode cX9_forge 19 = .ok (.bipush (-2), 2) := by decide +kernel
theorem dX9_forge_21 : decode cX9_forge 21 = .ok (.ireturn, 1) := by decide +kernel
theorem dX9_hush_0 : decode cX9_hush 0 = .ok (.aload_n 0, 1) := by decide +kernel
theorem dX9_hush_1 : decode cX9_hush 1 = .ok (.getfield 230, 3) := by decide +kernel
theorem dX9_hush_4 : decode cX9_hush 4 = .ok (.istore_n 1, 1) := by decide +kernel
theorem dX9_hush_5 : decode cX9_hush 5 = .ok (.aload_n 0, 1) := by decide +kernel
theorem dX9_hush_6 : decode cX9_hush 6 = .ok (.iconst 0, 1) := by decide +kernel
theorem dX9_hush_7 : decode cX9_hush 7 = .ok (.putfield 230, 3) := by decide +kernel
theorem dX9_hush_10 : decode cX9_hush 10 = .ok (.iload_n 1, 1) := by decide +kernel
theorem dX9_hush_11 : decode cX9_hush 11 = .ok (.ireturn, 1) := by decide +kernel
theorem dX9_check_0 : decode cX9_check 0 = .ok (.aload_n 0, 1) := by decide +kernel
theorem dX9_check_1 : decode cX9_check 1 = .ok (.getfield 26, 3) := by decide +kernel
theorem dX9_check_4 : decode cX9_check 4 = .ok (.ifCond .ge 6, 3) := by decide +kernel
theorem dX9_check_7 : decode cX9_check 7 = .ok (.bipush (-2), 2) := by decide +kernel
theorem dX9_check_9 : decode cX9_check 9 = .ok (.ireturn, 1) := by decide +kernel
set_option maxRecDepth 20000 in
theorem ggX9_count_X9_fields : GoodIn wsX9_count wsX9_fields := goodIn_r _ [13, 14, 15, 16, 17, 18, 19, 20, 12, 21, 22, 23, 53, 54, 55, 56, 57, 58, 59, 60, 61, 62, 63, 64, 65, 66, 67, 68, 69, 70, 71, 72, 73, 74, 75, 76, 77, 78, 79, 80, 81, 82, 83, 84, 85, 86, 87, 88] (by decide +kernel) (by decide +kernel)
set_option maxRecDepth 20000 in
theorem gX9_count_X9_fields : GoodIn wsX9_count (wsV RX9 206 RX9 yX9_fields wsX9_fields) := goodIn_app (goodIn_of _ (by decide +kernel)) ggX9_count_X9_fields
set_option maxRecDepth 20000 in
theorem ggX9_count_X9_number : GoodIn wsX9_count wsX9_number := goodIn_r _ [27] (by decide +kernel) (by decide +kernel)
set_option maxRecDepth 20000 in
theorem gX9_count_X9_number : GoodIn wsX9_count (wsV RX9 125 RX9 yX9_number wsX9_number) := goodIn_app (goodIn_of _ (by decide +kernel)) ggX9_count_X9_number
theorem dX9_count_0 : decode cX9_count 0 = .ok (.iconst 0, 1) := by decide +kernel
theorem dX9_count_1 : decode cX9_count 1 = .ok (.istore_n 2, 1) := by decide +kernel
theorem dX9_count_2 : decode cX9_count 2 = .ok (.iload_n 1, 1) := by decide +kernel
theorem dX9_count_3 : decode cX9_count 3 = .ok (.tableswitch 143 0 8 #[49, 54, 63, 72, 77, 82, 128, 133, 138], 49) := by decide +kernel
theorem dX9_count_52 : decode cX9_count 52 = .ok (.aload_n 0, 1) := by decide +kernel
theorem dX9_count_53 : decode cX9_count 53 = .ok (.invokevirtual 206, 3) := by decide +kernel
theorem dX9_count_56 : decode cX9_count 56 = .ok (.ireturn, 1) := by decide +kernel
theorem dX9_count_57 : decode cX9_count 57 = .ok (.aload_n 0, 1) := by decide +kernel
theorem dX9_count_58 : decode cX9_count 58 = .ok (.aload_n 0, 1) := by decide +kernel
theorem dX9_count_59 : decode cX9_count 59 = .ok (.getfield 20, 3) := by decide +kernel
theorem dX9_count_62 : decode cX9_count 62 = .ok (.invokevirtual 125, 3) := by decide +kernel
theorem dX9_count_65 : decode cX9_count 65 = .ok (.ireturn, 1) := by decide +kernel
theorem dX9_count_66 : decode cX9_count 66 = .ok (.aload_n 0, 1) := by decide +kernel
theorem dX9_count_67 : decode cX9_count 67 = .ok (.aload_n 0, 1) := by decide +kernel
theorem dX9_count_68 : decode cX9_count 68 = .ok (.getfield 23, 3) := by decide +kernel
theorem dX9_count_71 : decode cX9_count 71 = .ok (.invokevirtual 125, 3) := by decide +kernel
theorem dX9_count_74 : decode cX9_count 74 = .ok (.ireturn, 1) := by decide +kernel
theorem dX9_count_75 : decode cX9_count 75 = .ok (.aload_n 0, 1) := by decide +kernel
theorem dX9_count_76 : decode cX9_count 76 = .ok (.getfield 145, 3) := by decide +kernel
theorem dX9_count_79 : decode cX9_count 79 = .ok (.ireturn, 1) := by decide +kernel
theorem dX9_count_80 : decode cX9_count 80 = .ok (.aload_n 0, 1) := by decide +kernel
theorem dX9_count_81 : decode cX9_count 81 = .ok (.getfield 142, 3) := by decide +kernel
theorem dX9_count_84 : decode cX9_count 84 = .ok (.ireturn, 1) := by decide +kernel
theorem dX9_count_85 : decode cX9_count 85 = .ok (.aload_n 0, 1) := by decide +kernel
theorem dX9_count_86 : decode cX9_count 86 = .ok (.getfield 26, 3) := by decide +kernel
theorem dX9_count_89 : decode cX9_count 89 = .ok (.ifCond .ge 5, 3) := by decide +kernel
theorem dX9_count_92 : decode cX9_count 92 = .ok (.iconst 0, 1) := by decide +kernel
theorem dX9_count_93 : decode cX9_count 93 = .ok (.ireturn, 1) := by decide +kernel
theorem dX9_count_131 : decode cX9_count 131 = .ok (.aload_n 0, 1) := by decide +kernel
theorem dX9_count_132 : decode cX9_count 132 = .ok (.getfield 112, 3) := by decide +kernel
theorem dX9_count_135 : decode cX9_count 135 = .ok (.ireturn, 1) := by decide +kernel
theorem dX9_count_136 : decode cX9_count 136 = .ok (.aload_n 0, 1) := by decide +kernel
theorem dX9_count_137 : decode cX9_count 137 = .ok (.getfield 230, 3) := by decide +kernel
theorem dX9_count_140 : decode cX9_count 140 = .ok (.ireturn, 1) := by decide +kernel
theorem dX9_count_141 : decode cX9_count 141 = .ok (.aload_n 0, 1) := by decide +kernel
theorem dX9_count_142 : decode cX9_count 142 = .ok (.getfield 26, 3) := by decide +kernel
theorem dX9_count_145 : decode cX9_count 145 = .ok (.ireturn, 1) := by decide +kernel
theorem dX9_count_146 : decode cX9_count 146 = .ok (.bipush (-2), 2) := by decide +kernel
theorem dX9_count_148 : decode cX9_count 148 = .ok (.ireturn, 1) := by decide +kernel
theorem dJ13_bitCount_95d88_0 : decode cJ13_bitCount_95d88 0 = .ok (.lload_n 0, 1) := by decide +kernel
theorem dJ13_bitCount_95d88_1 : decode cJ13_bitCount_95d88 1 = .ok (.lload_n 0, 1) := by decide +kernel
theorem dJ13_bitCount_95d88_2 : decode cJ13_bitCount_95d88 2 = .ok (.iconst 1, 1) := by decide +kernel
theorem dJ13_bitCount_95d88_3 : decode cJ13_bitCount_95d88 3 = .ok (.lushr, 1) := by decide +kernel
theorem dJ13_bitCount_95d88_4 : decode cJ13_bitCount_95d88 4 = .ok (.ldc2_w 314, 3) := by decide +kernel
theorem dJ13_bitCount_95d88_7 : decode cJ13_bitCount_95d88 7 = .ok (.land, 1) := by decide +kernel
theorem dJ13_bitCount_95d88_8 : decode cJ13_bitCount_95d88 8 = .ok (.lsub, 1) := by decide +kernel
theorem dJ13_bitCount_95d88_9 : decode cJ13_bitCount_95d88 9 = .ok (.lstore_n 0, 1) := by decide +kernel
theorem dJ13_bitCount_95d88_10 : decode cJ13_bitCount_95d88 10 = .ok (.lload_n 0, 1) := by decide +kernel
theorem dJ13_bitCount_95d88_11 : decode cJ13_bitCount_95d88 11 = .ok (.ldc2_w 316, 3) := by decide +kernel
theorem dJ13_bitCount_95d88_14 : decode cJ13_bitCount_95d88 14 = .ok (.land, 1) := by decide +kernel
theorem dJ13_bitCount_95d88_15 : decode cJ13_bitCount_95d88 15 = .ok (.lload_n 0, 1) := by decide +kernel
theorem dJ13_bitCount_95d88_16 : decode cJ13_bitCount_95d88 16 = .ok (.iconst 2, 1) := by decide +kernel
theorem dJ13_bitCount_95d88_17 : decode cJ13_bitCount_95d88 17 = .ok (.lushr, 1) := by decide +kernel
theorem dJ13_bitCount_95d88_18 : decode cJ13_bitCount_95d88 18 = .ok (.ldc2_w 316, 3) := by decide +kernel
theorem dJ13_bitCount_95d88_21 : decode cJ13_bitCount_95d88 21 = .ok (.land, 1) := by decide +kernel
theorem dJ13_bitCount_95d88_22 : decode cJ13_bitCount_95d88 22 = .ok (.ladd, 1) := by decide +kernel
theorem dJ13_bitCount_95d88_23 : decode cJ13_bitCount_95d88 23 = .ok (.lstore_n 0, 1) := by decide +kernel
theorem dJ13_bitCount_95d88_24 : decode cJ13_bitCount_95d88 24 = .ok (.lload_n 0, 1) := by decide +kernel
theorem dJ13_bitCount_95d88_25 : decode cJ13_bitCount_95d88 25 = .ok (.lload_n 0, 1) := by decide +kernel
theorem dJ13_bitCount_95d88_26 : decode cJ13_bitCount_95d88 26 = .ok (.iconst 4, 1) := by decide +kernel
theorem dJ13_bitCount_95d88_27 : decode cJ13_bitCount_95d88 27 = .ok (.lushr, 1) := by decide +kernel
theorem dJ13_bitCount_95d88_28 : decode cJ13_bitCount_95d88 28 = .ok (.ladd, 1) := by decide +kernel
theorem dJ13_bitCount_95d88_29 : decode cJ13_bitCount_95d88 29 = .ok (.ldc2_w 318, 3) := by decide +kernel
theorem dJ13_bitCount_95d88_32 : decode cJ13_bitCount_95d88 32 = .ok (.land, 1) := by decide +kernel
theorem dJ13_bitCount_95d88_33 : decode cJ13_bitCount_95d88 33 = .ok (.lstore_n 0, 1) := by decide +kernel
theorem dJ13_bitCount_95d88_34 : decode cJ13_bitCount_95d88 34 = .ok (.lload_n 0, 1) := by decide +kernel
theorem dJ13_bitCount_95d88_35 : decode cJ13_bitCount_95d88 35 = .ok (.lload_n 0, 1) := by decide +kernel
theorem dJ13_bitCount_95d88_36 : decode cJ13_bitCount_95d88 36 = .ok (.bipush 8, 2) := by decide +kernel
theorem dJ13_bitCount_95d88_38 : decode cJ13_bitCount_95d88 38 = .ok (.lushr, 1) := by decide +kernel
theorem dJ13_bitCount_95d88_39 : decode cJ13_bitCount_95d88 39 = .ok (.ladd, 1) := by decide +kernel
theorem dJ13_bitCount_95d88_40 : decode cJ13_bitCount_95d88 40 = .ok (.lstore_n 0, 1) := by decide +kernel
theorem dJ13_bitCount_95d88_41 : decode cJ13_bitCount_95d88 41 = .ok (.lload_n 0, 1) := by decide +kernel
theorem dJ13_bitCount_95d88_42 : decode cJ13_bitCount_95d88 42 = .ok (.lload_n 0, 1) := by decide +kernel
theorem dJ13_bitCount_95d88_43 : decode cJ13_bitCount_95d88 43 = .ok (.bipush 16, 2) := by decide +kernel
theorem dJ13_bitCount_95d88_45 : decode cJ13_bitCount_95d88 45 = .ok (.lushr, 1) := by decide +kernel
theorem dJ13_bitCount_95d88_46 : decode cJ13_bitCount_95d88 46 = .ok (.ladd, 1) := by decide +kernel
theorem dJ13_bitCount_95d88_47 : decode cJ13_bitCount_95d88 47 = .ok (.lstore_n 0, 1) := by decide +kernel
theorem dJ13_bitCount_95d88_48 : decode cJ13_bitCount_95d88 48 = .ok (.lload_n 0, 1) := by decide +kernel
theorem dJ13_bitCount_95d88_49 : decode cJ13_bitCount_95d88 49 = .ok (.lload_n 0, 1) := by decide +kernel
theorem dJ13_bitCount_95d88_50 : decode cJ13_bitCount_95d88 50 = .ok (.bipush 32, 2) := by decide +kernel
theorem dJ13_bitCount_95d88_52 : decode cJ13_bitCount_95d88 52 = .ok (.lushr, 1) := by decide +kernel
theorem dJ13_bitCount_95d88_53 : decode cJ13_bitCount_95d88 53 = .ok (.ladd, 1) := by decide +kernel
theorem dJ13_bitCount_95d88_54 : decode cJ13_bitCount_95d88 54 = .ok (.lstore_n 0, 1) := by decide +kernel
theorem dJ13_bitCount_95d88_55 : decode cJ13_bitCount_95d88 55 = .ok (.lload_n 0, 1) := by decide +kernel
theorem dJ13_bitCount_95d88_56 : decode cJ13_bitCount_95d88 56 = .ok (.l2i, 1) := by decide +kernel
theorem dJ13_bitCount_95d88_57 : decode cJ13_bitCount_95d88 57 = .ok (.bipush 127, 2) := by decide +kernel
theorem dJ13_bitCount_95d88_59 : decode cJ13_bitCount_95d88 59 = .ok (.iand, 1) := by decide +kernel
theorem dJ13_bitCount_95d88_60 : decode cJ13_bitCount_95d88 60 = .ok (.ireturn, 1) := by decide +kernel
theorem dJ7_fill_53178_0 : decode cJ7_fill_53178 0 = .ok (.iconst 0, 1) := by decide +kernel
theorem dJ7_fill_53178_1 : decode cJ7_fill_53178 1 = .ok (.istore_n 2, 1) := by decide +kernel
theorem dJ7_fill_53178_2 : decode cJ7_fill_53178 2 = .ok (.aload_n 0, 1) := by decide +kernel
theorem dJ7_fill_53178_3 : decode cJ7_fill_53178 3 = .ok (.arraylength, 1) := by decide +kernel
theorem dJ7_fill_53178_4 : decode cJ7_fill_53178 4 = .ok (.istore_n 3, 1) := by decide +kernel
theorem dJ7_fill_53178_5 : decode cJ7_fill_53178 5 = .ok (.iload_n 2, 1) := by decide +kernel
theorem dJ7_fill_53178_6 : decode cJ7_fill_53178 6 = .ok (.iload_n 3, 1) := by decide +kernel
theorem dJ7_fill_53178_7 : decode cJ7_fill_53178 7 = .ok (.if_icmp .ge 13, 3) := by decide +kernel
theorem dJ7_fill_53178_10 : decode cJ7_fill_53178 10 = .ok (.aload_n 0, 1) := by decide +kernel
theorem dJ7_fill_53178_11 : decode cJ7_fill_53178 11 = .ok (.iload_n 2, 1) := by decide +kernel
theorem dJ7_fill_53178_12 : decode cJ7_fill_53178 12 = .ok (.iload_n 1, 1) := by decide +kernel
theorem dJ7_fill_53178_13 : decode cJ7_fill_53178 13 = .ok (.iastore, 1) := by decide +kernel
theorem dJ7_fill_53178_14 : decode cJ7_fill_53178 14 = .ok (.iinc 2 1, 3) := by decide +kernel
theorem dJ7_fill_53178_17 : decode cJ7_fill_53178 17 = .ok (.goto (-12), 3) := by decide +kernel
theorem dJ7_fill_53178_20 : decode cJ7_fill_53178 20 = .ok (.return_, 1) := by decide +kernel
