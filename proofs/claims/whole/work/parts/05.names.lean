theorem dX5_init_0 : decode cX5_init 0 = .ok (.aload_n 0, 1) := by decide +kernel
theorem dX5_init_1 : decode cX5_init 1 = .ok (.invokespecial 1, 3) := by decide +kernel
theorem dX5_init_4 : decode cX5_init 4 = .ok (.aload_n 0, 1) := by decide +kernel
theorem dX5_init_5 : decode cX5_init 5 = .ok (.sipush 283, 3) := by decide +kernel
theorem dX5_init_8 : decode cX5_init 8 = .ok (.newarray .int, 2) := by decide +kernel
theorem dX5_init_10 : decode cX5_init 10 = .ok (.putfield 7, 3) := by decide +kernel
theorem dX5_init_13 : decode cX5_init 13 = .ok (.aload_n 0, 1) := by decide +kernel
theorem dX5_init_14 : decode cX5_init 14 = .ok (.sipush 283, 3) := by decide +kernel
theorem dX5_init_17 : decode cX5_init 17 = .ok (.newarray .int, 2) := by decide +kernel
theorem dX5_init_19 : decode cX5_init 19 = .ok (.putfield 13, 3) := by decide +kernel
theorem dX5_init_22 : decode cX5_init 22 = .ok (.aload_n 0, 1) := by decide +kernel
theorem dX5_init_23 : decode cX5_init 23 = .ok (.sipush 1698, 3) := by decide +kernel
theorem dX5_init_26 : decode cX5_init 26 = .ok (.newarray .int, 2) := by decide +kernel
theorem dX5_init_28 : decode cX5_init 28 = .ok (.putfield 16, 3) := by decide +kernel
theorem dX5_init_31 : decode cX5_init 31 = .ok (.aload_n 0, 1) := by decide +kernel
theorem dX5_init_32 : decode cX5_init 32 = .ok (.sipush 566, 3) := by decide +kernel
theorem dX5_init_35 : decode cX5_init 35 = .ok (.newarray .int, 2) := by decide +kernel
theorem dX5_init_37 : decode cX5_init 37 = .ok (.putfield 19, 3) := by decide +kernel
theorem dX5_init_40 : decode cX5_init 40 = .ok (.aload_n 0, 1) := by decide +kernel
theorem dX5_init_41 : decode cX5_init 41 = .ok (.iconst 2, 1) := by decide +kernel
theorem dX5_init_42 : decode cX5_init 42 = .ok (.newarray .int, 2) := by decide +kernel
theorem dX5_init_44 : decode cX5_init 44 = .ok (.putfield 22, 3) := by decide +kernel
theorem dX5_init_47 : decode cX5_init 47 = .ok (.aload_n 0, 1) := by decide +kernel
theorem dX5_init_48 : decode cX5_init 48 = .ok (.bipush 60, 2) := by decide +kernel
theorem dX5_init_50 : decode cX5_init 50 = .ok (.newarray .int, 2) := by decide +kernel
theorem dX5_init_52 : decode cX5_init 52 = .ok (.putfield 25, 3) := by decide +kernel
theorem dX5_init_55 : decode cX5_init 55 = .ok (.aload_n 0, 1) := by decide +kernel
theorem dX5_init_56 : decode cX5_init 56 = .ok (.getfield 7, 3) := by decide +kernel
theorem dX5_init_59 : decode cX5_init 59 = .ok (.iconst 5, 1) := by decide +kernel
theorem dX5_init_60 : decode cX5_init 60 = .ok (.iconst 2, 1) := by decide +kernel
theorem dX5_init_61 : decode cX5_init 61 = .ok (.iastore, 1) := by decide +kernel
theorem dX5_init_62 : decode cX5_init 62 = .ok (.iconst 0, 1) := by decide +kernel
theorem dX5_init_63 : decode cX5_init 63 = .ok (.istore_n 1, 1) := by decide +kernel
theorem dX5_init_64 : decode cX5_init 64 = .ok (.iload_n 1, 1) := by decide +kernel
theorem dX5_init_65 : decode cX5_init 65 = .ok (.iconst 3, 1) := by decide +kernel
theorem dX5_init_66 : decode cX5_init 66 = .ok (.if_icmp .ge 23, 3) := by decide +kernel
theorem dX5_init_69 : decode cX5_init 69 = .ok (.aload_n 0, 1) := by decide +kernel
theorem dX5_init_70 : decode cX5_init 70 = .ok (.getfield 7, 3) := by decide +kernel
theorem dX5_init_73 : decode cX5_init 73 = .ok (.bipush 8, 2) := by decide +kernel
theorem dX5_init_75 : decode cX5_init 75 = .ok (.iconst 5, 1) := by decide +kernel
theorem dX5_init_76 : decode cX5_init 76 = .ok (.iload_n 1, 1) := by decide +kernel
theorem dX5_init_77 : decode cX5_init 77 = .ok (.imul, 1) := by decide +kernel
theorem dX5_init_78 : decode cX5_init 78 = .ok (.iadd, 1) := by decide +kernel
theorem dX5_init_79 : decode cX5_init 79 = .ok (.iconst 0, 1) := by decide +kernel
theorem dX5_init_80 : decode cX5_init 80 = .ok (.iadd, 1) := by decide +kernel
theorem dX5_init_81 : decode cX5_init 81 = .ok (.iconst 4, 1) := by decide +kernel
theorem dX5_init_82 : decode cX5_init 82 = .ok (.iastore, 1) := by decide +kernel
theorem dX5_init_83 : decode cX5_init 83 = .ok (.iinc 1 1, 3) := by decide +kernel
theorem dX5_init_86 : decode cX5_init 86 = .ok (.goto (-22), 3) := by decide +kernel
theorem dX5_init_89 : decode cX5_init 89 = .ok (.return_, 1) := by decide +kernel
theorem dX5_thrown_0 : decode cX5_thrown 0 = .ok (.aload_n 0, 1) := by decide +kernel
theorem dX5_thrown_1 : decode cX5_thrown 1 = .ok (.getfield 28, 3) := by decide +kernel
theorem dX5_thrown_4 : decode cX5_thrown 4 = .ok (.ireturn, 1) := by decide +kernel
theorem dX5_fails_0 : decode cX5_fails 0 = .ok (.aload_n 0, 1) := by decide +kernel
theorem dX5_fails_1 : decode cX5_fails 1 = .ok (.iload_n 1, 1) := by decide +kernel
theorem dX5_fails_2 : decode cX5_fails 2 = .ok (.putfield 28, 3) := by decide +kernel
theorem dX5_fails_5 : decode cX5_fails 5 = .ok (.iconst 0, 1) := by decide +kernel
theorem dX5_fails_6 : decode cX5_fails 6 = .ok (.ireturn, 1) := by decide +kernel
theorem dX5_in_0 : decode cX5_in 0 = .ok (.iload_n 0, 1) := by decide +kernel
theorem dX5_in_1 : decode cX5_in 1 = .ok (.iload_n 1, 1) := by decide +kernel
theorem dX5_in_2 : decode cX5_in 2 = .ok (.if_icmp .lt 12, 3) := by decide +kernel
theorem dX5_in_5 : decode cX5_in 5 = .ok (.iload_n 0, 1) := by decide +kernel
theorem dX5_in_6 : decode cX5_in 6 = .ok (.iload_n 2, 1) := by decide +kernel
theorem dX5_in_7 : decode cX5_in 7 = .ok (.if_icmp .gt 7, 3) := by decide +kernel
theorem dX5_in_10 : decode cX5_in 10 = .ok (.iconst 1, 1) := by decide +kernel
theorem dX5_in_11 : decode cX5_in 11 = .ok (.goto 4, 3) := by decide +kernel
theorem dX5_in_14 : decode cX5_in 14 = .ok (.iconst 0, 1) := by decide +kernel
theorem dX5_in_15 : decode cX5_in 15 = .ok (.ireturn, 1) := by decide +kernel
theorem dX5_copies_0 : decode cX5_copies 0 = .ok (.iconst 0, 1) := by decide +kernel
theorem dX5_copies_1 : decode cX5_copies 1 = .ok (.istore 4, 2) := by decide +kernel
theorem dX5_copies_3 : decode cX5_copies 3 = .ok (.iload 4, 2) := by decide +kernel
theorem dX5_copies_5 : decode cX5_copies 5 = .ok (.sipush 283, 3) := by decide +kernel
theorem dX5_copies_8 : decode cX5_copies 8 = .ok (.if_icmp .ge 21, 3) := by decide +kernel
theorem dX5_copies_11 : decode cX5_copies 11 = .ok (.aload_n 2, 1) := by decide +kernel
theorem dX5_copies_12 : decode cX5_copies 12 = .ok (.iload_n 3, 1) := by decide +kernel
theorem dX5_copies_13 : decode cX5_copies 13 = .ok (.iload 4, 2) := by decide +kernel
theorem dX5_copies_15 : decode cX5_copies 15 = .ok (.iadd, 1) := by decide +kernel
theorem dX5_copies_16 : decode cX5_copies 16 = .ok (.aload_n 0, 1) := by decide +kernel
theorem dX5_copies_17 : decode cX5_copies 17 = .ok (.iload_n 1, 1) := by decide +kernel
theorem dX5_copies_18 : decode cX5_copies 18 = .ok (.iload 4, 2) := by decide +kernel
theorem dX5_copies_20 : decode cX5_copies 20 = .ok (.iadd, 1) := by decide +kernel
theorem dX5_copies_21 : decode cX5_copies 21 = .ok (.iaload, 1) := by decide +kernel
theorem dX5_copies_22 : decode cX5_copies 22 = .ok (.iastore, 1) := by decide +kernel
theorem dX5_copies_23 : decode cX5_copies 23 = .ok (.iinc 4 1, 3) := by decide +kernel
theorem dX5_copies_26 : decode cX5_copies 26 = .ok (.goto (-23), 3) := by decide +kernel
theorem dX5_copies_29 : decode cX5_copies 29 = .ok (.return_, 1) := by decide +kernel
set_option maxRecDepth 20000 in
theorem ggX5_saves_X5_copies : GoodIn wsX5_saves wsX5_copies := goodIn_r _ [7] (by decide +kernel) (by decide +kernel)
set_option maxRecDepth 20000 in
theorem gX5_saves_X5_copies : GoodIn wsX5_saves (va_wsS RX5 35 yX5_copies wsX5_copies) := goodIn_app (goodIn_of _ (by decide +kernel)) ggX5_saves_X5_copies
theorem dX5_saves_0 : decode cX5_saves 0 = .ok (.aload_n 0, 1) := by decide +kernel
theorem dX5_saves_1 : decode cX5_saves 1 = .ok (.getfield 32, 3) := by decide +kernel
theorem dX5_saves_4 : decode cX5_saves 4 = .ok (.bipush 6, 2) := by decide +kernel
theorem dX5_saves_6 : decode cX5_saves 6 = .ok (.if_icmp .ne 44, 3) := by decide +kernel
theorem dX5_saves_9 : decode cX5_saves 9 = .ok (.iconst 0, 1) := by decide +kernel
theorem dX5_saves_10 : decode cX5_saves 10 = .ok (.istore_n 1, 1) := by decide +kernel
theorem dX5_saves_11 : decode cX5_saves 11 = .ok (.iload_n 1, 1) := by decide +kernel
theorem dX5_saves_12 : decode cX5_saves 12 = .ok (.sipush 1415, 3) := by decide +kernel
theorem dX5_saves_15 : decode cX5_saves 15 = .ok (.if_icmp .ge 25, 3) := by decide +kernel
theorem dX5_saves_18 : decode cX5_saves 18 = .ok (.aload_n 0, 1) := by decide +kernel
theorem dX5_saves_19 : decode cX5_saves 19 = .ok (.getfield 16, 3) := by decide +kernel
theorem dX5_saves_22 : decode cX5_saves 22 = .ok (.iload_n 1, 1) := by decide +kernel
theorem dX5_saves_23 : decode cX5_saves 23 = .ok (.aload_n 0, 1) := by decide +kernel
theorem dX5_saves_24 : decode cX5_saves 24 = .ok (.getfield 16, 3) := by decide +kernel
theorem dX5_saves_27 : decode cX5_saves 27 = .ok (.iload_n 1, 1) := by decide +kernel
theorem dX5_saves_28 : decode cX5_saves 28 = .ok (.sipush 283, 3) := by decide +kernel
theorem dX5_saves_31 : decode cX5_saves 31 = .ok (.iadd, 1) := by decide +kernel
theorem dX5_saves_32 : decode cX5_saves 32 = .ok (.iaload, 1) := by decide +kernel
theorem dX5_saves_33 : decode cX5_saves 33 = .ok (.iastore, 1) := by decide +kernel
theorem dX5_saves_34 : decode cX5_saves 34 = .ok (.iinc 1 1, 3) := by decide +kernel
theorem dX5_saves_37 : decode cX5_saves 37 = .ok (.goto (-26), 3) := by decide +kernel
theorem dX5_saves_40 : decode cX5_saves 40 = .ok (.aload_n 0, 1) := by decide +kernel
theorem dX5_saves_41 : decode cX5_saves 41 = .ok (.dup, 1) := by decide +kernel
theorem dX5_saves_42 : decode cX5_saves 42 = .ok (.getfield 32, 3) := by decide +kernel
theorem dX5_saves_45 : decode cX5_saves 45 = .ok (.iconst 1, 1) := by decide +kernel
theorem dX5_saves_46 : decode cX5_saves 46 = .ok (.isub, 1) := by decide +kernel
theorem dX5_saves_47 : decode cX5_saves 47 = .ok (.putfield 32, 3) := by decide +kernel
theorem dX5_saves_50 : decode cX5_saves 50 = .ok (.aload_n 0, 1) := by decide +kernel
theorem dX5_saves_51 : decode cX5_saves 51 = .ok (.getfield 7, 3) := by decide +kernel
theorem dX5_saves_54 : decode cX5_saves 54 = .ok (.iconst 0, 1) := by decide +kernel
theorem dX5_saves_55 : decode cX5_saves 55 = .ok (.aload_n 0, 1) := by decide +kernel
theorem dX5_saves_56 : decode cX5_saves 56 = .ok (.getfield 16, 3) := by decide +kernel
theorem dX5_saves_59 : decode cX5_saves 59 = .ok (.sipush 283, 3) := by decide +kernel
theorem dX5_saves_62 : decode cX5_saves 62 = .ok (.aload_n 0, 1) := by decide +kernel
theorem dX5_saves_63 : decode cX5_saves 63 = .ok (.getfield 32, 3) := by decide +kernel
theorem dX5_saves_66 : decode cX5_saves 66 = .ok (.imul, 1) := by decide +kernel
theorem dX5_saves_67 : decode cX5_saves 67 = .ok (.invokestatic 35, 3) := by decide +kernel
theorem dX5_saves_70 : decode cX5_saves 70 = .ok (.aload_n 0, 1) := by decide +kernel
theorem dX5_saves_71 : decode cX5_saves 71 = .ok (.dup, 1) := by decide +kernel
theorem dX5_saves_72 : decode cX5_saves 72 = .ok (.getfield 32, 3) := by decide +kernel
theorem dX5_saves_75 : decode cX5_saves 75 = .ok (.iconst 1, 1) := by decide +kernel
theorem dX5_saves_76 : decode cX5_saves 76 = .ok (.iadd, 1) := by decide +kernel
theorem dX5_saves_77 : decode cX5_saves 77 = .ok (.putfield 32, 3) := by decide +kernel
theorem dX5_saves_80 : decode cX5_saves 80 = .ok (.return_, 1) := by decide +kernel
set_option maxRecDepth 20000 in
theorem ggX5_isKind_X5_in : GoodIn wsX5_isKind wsX5_in := goodIn_r _ [4] (by decide +kernel) (by decide +kernel)
set_option maxRecDepth 20000 in
theorem gX5_isKind_X5_in : GoodIn wsX5_isKind (va_wsS RX5 39 yX5_in wsX5_in) := goodIn_app (goodIn_of _ (by decide +kernel)) ggX5_isKind_X5_in
theorem dX5_isKind_0 : decode cX5_isKind 0 = .ok (.iload_n 0, 1) := by decide +kernel
theorem dX5_isKind_1 : decode cX5_isKind 1 = .ok (.iconst 0, 1) := by decide +kernel
theorem dX5_isKind_2 : decode cX5_isKind 2 = .ok (.iconst 2, 1) := by decide +kernel
theorem dX5_isKind_3 : decode cX5_isKind 3 = .ok (.invokestatic 39, 3) := by decide +kernel
theorem dX5_isKind_6 : decode cX5_isKind 6 = .ok (.ireturn, 1) := by decide +kernel
set_option maxRecDepth 20000 in
theorem ggX5_isHouse_X5_in : GoodIn wsX5_isHouse wsX5_in := goodIn_r _ [5] (by decide +kernel) (by decide +kernel)
set_option maxRecDepth 20000 in
theorem gX5_isHouse_X5_in : GoodIn wsX5_isHouse (va_wsS RX5 39 yX5_in wsX5_in) := goodIn_app (goodIn_of _ (by decide +kernel)) ggX5_isHouse_X5_in
theorem dX5_isHouse_0 : decode cX5_isHouse 0 = .ok (.iload_n 1, 1) := by decide +kernel
theorem dX5_isHouse_1 : decode cX5_isHouse 1 = .ok (.iconst 0, 1) := by decide +kernel
theorem dX5_isHouse_2 : decode cX5_isHouse 2 = .ok (.aload_n 0, 1) := by decide +kernel
theorem dX5_isHouse_3 : decode cX5_isHouse 3 = .ok (.getfield 7, 3) := by decide +kernel
theorem dX5_isHouse_6 : decode cX5_isHouse 6 = .ok (.iconst 1, 1) := by decide +kernel
theorem dX5_isHouse_7 : decode cX5_isHouse 7 = .ok (.iaload, 1) := by decide +kernel
theorem dX5_isHouse_8 : decode cX5_isHouse 8 = .ok (.iconst 1, 1) := by decide +kernel
theorem dX5_isHouse_9 : decode cX5_isHouse 9 = .ok (.isub, 1) := by decide +kernel
theorem dX5_isHouse_10 : decode cX5_isHouse 10 = .ok (.invokestatic 39, 3) := by decide +kernel
theorem dX5_isHouse_13 : decode cX5_isHouse 13 = .ok (.ireturn, 1) := by decide +kernel
set_option maxRecDepth 20000 in
theorem ggX5_isPair_X5_isHouse : GoodIn wsX5_isPair wsX5_isHouse := goodIn_r _ [5, 6, 7, 8, 4, 9, 13, 14, 15, 16, 17, 18, 19, 20, 21, 22, 23, 24, 25] (by decide +kernel) (by decide +kernel)
set_option maxRecDepth 20000 in
theorem gX5_isPair_X5_isHouse : GoodIn wsX5_isPair (wsV RX5 43 RX5 yX5_isHouse wsX5_isHouse) := goodIn_app (goodIn_of _ (by decide +kernel)) ggX5_isPair_X5_isHouse
set_option maxRecDepth 20000 in
theorem ggX5_isPair_X5_isKind : GoodIn wsX5_isPair wsX5_isKind := goodIn_r _ [12, 7, 8, 4, 9] (by decide +kernel) (by decide +kernel)
set_option maxRecDepth 20000 in
theorem gX5_isPair_X5_isKind : GoodIn wsX5_isPair (va_wsS RX5 47 yX5_isKind wsX5_isKind) := goodIn_app (goodIn_of _ (by decide +kernel)) ggX5_isPair_X5_isKind
theorem dX5_isPair_0 : decode cX5_isPair 0 = .ok (.aload_n 0, 1) := by decide +kernel
theorem dX5_isPair_1 : decode cX5_isPair 1 = .ok (.iload_n 1, 1) := by decide +kernel
theorem dX5_isPair_2 : decode cX5_isPair 2 = .ok (.invokevirtual 43, 3) := by decide +kernel
theorem dX5_isPair_5 : decode cX5_isPair 5 = .ok (.ifCond .eq 14, 3) := by decide +kernel
theorem dX5_isPair_8 : decode cX5_isPair 8 = .ok (.iload_n 2, 1) := by decide +kernel
theorem dX5_isPair_9 : decode cX5_isPair 9 = .ok (.invokestatic 47, 3) := by decide +kernel
theorem dX5_isPair_12 : decode cX5_isPair 12 = .ok (.ifCond .eq 7, 3) := by decide +kernel
theorem dX5_isPair_15 : decode cX5_isPair 15 = .ok (.iconst 1, 1) := by decide +kernel
theorem dX5_isPair_16 : decode cX5_isPair 16 = .ok (.goto 4, 3) := by decide +kernel
theorem dX5_isPair_19 : decode cX5_isPair 19 = .ok (.iconst 0, 1) := by decide +kernel
theorem dX5_isPair_20 : decode cX5_isPair 20 = .ok (.ireturn, 1) := by decide +kernel
theorem dX5_ofKind_0 : decode cX5_ofKind 0 = .ok (.aload_n 0, 1) := by decide +kernel
theorem dX5_ofKind_1 : decode cX5_ofKind 1 = .ok (.getfield 7, 3) := by decide +kernel
theorem dX5_ofKind_4 : decode cX5_ofKind 4 = .ok (.bipush 8, 2) := by decide +kernel
theorem dX5_ofKind_6 : decode cX5_ofKind 6 = .ok (.iconst 5, 1) := by decide +kernel
theorem dX5_ofKind_7 : decode cX5_ofKind 7 = .ok (.iload_n 1, 1) := by decide +kernel
theorem dX5_ofKind_8 : decode cX5_ofKind 8 = .ok (.imul, 1) := by decide +kernel
theorem dX5_ofKind_9 : decode cX5_ofKind 9 = .ok (.iadd, 1) := by decide +kernel
theorem dX5_ofKind_10 : decode cX5_ofKind 10 = .ok (.iload_n 2, 1) := by decide +kernel
theorem dX5_ofKind_11 : decode cX5_ofKind 11 = .ok (.iadd, 1) := by decide +kernel
theorem dX5_ofKind_12 : decode cX5_ofKind 12 = .ok (.iaload, 1) := by decide +kernel
theorem dX5_ofKind_13 : decode cX5_ofKind 13 = .ok (.ireturn, 1) := by decide +kernel
theorem dX5_at_0 : decode cX5_at 0 = .ok (.bipush 23, 2) := by decide +kernel
theorem dX5_at_2 : decode cX5_at 2 = .ok (.iconst 5, 1) := by decide +kernel
theorem dX5_at_3 : decode cX5_at 3 = .ok (.iconst 3, 1) := by decide +kernel
theorem dX5_at_4 : decode cX5_at 4 = .ok (.iload_n 0, 1) := by decide +kernel
theorem dX5_at_5 : decode cX5_at 5 = .ok (.imul, 1) := by decide +kernel
theorem dX5_at_6 : decode cX5_at 6 = .ok (.iload_n 1, 1) := by decide +kernel
theorem dX5_at_7 : decode cX5_at 7 = .ok (.iadd, 1) := by decide +kernel
theorem dX5_at_8 : decode cX5_at 8 = .ok (.imul, 1) := by decide +kernel
theorem dX5_at_9 : decode cX5_at 9 = .ok (.iadd, 1) := by decide +kernel
theorem dX5_at_10 : decode cX5_at 10 = .ok (.ireturn, 1) := by decide +kernel
set_option maxRecDepth 20000 in
theorem ggX5_of_X5_at : GoodIn wsX5_of wsX5_at := goodIn_r _ [5] (by decide +kernel) (by decide +kernel)
set_option maxRecDepth 20000 in
theorem gX5_of_X5_at : GoodIn wsX5_of (va_wsS RX5 50 yX5_at wsX5_at) := goodIn_app (goodIn_of _ (by decide +kernel)) ggX5_of_X5_at
theorem dX5_of_0 : decode cX5_of 0 = .ok (.aload_n 0, 1) := by decide +kernel
theorem dX5_of_1 : decode cX5_of 1 = .ok (.getfield 7, 3) := by decide +kernel
theorem dX5_of_4 : decode cX5_of 4 = .ok (.iload_n 1, 1) := by decide +kernel
theorem dX5_of_5 : decode cX5_of 5 = .ok (.iload_n 2, 1) := by decide +kernel
theorem dX5_of_6 : decode cX5_of 6 = .ok (.invokestatic 50, 3) := by decide +kernel
theorem dX5_of_9 : decode cX5_of 9 = .ok (.iload_n 3, 1) := by decide +kernel
theorem dX5_of_10 : decode cX5_of 10 = .ok (.iadd, 1) := by decide +kernel
theorem dX5_of_11 : decode cX5_of 11 = .ok (.iaload, 1) := by decide +kernel
theorem dX5_of_12 : decode cX5_of 12 = .ok (.ireturn, 1) := by decide +kernel
set_option maxRecDepth 20000 in
theorem ggX5_outOf_X5_of : GoodIn wsX5_outOf wsX5_of := goodIn_r _ [5, 6, 7, 8, 4, 9, 10, 11, 12, 13, 14, 15, 16, 17, 18, 19, 20, 21, 22] (by decide +kernel) (by decide +kernel)
set_option maxRecDepth 20000 in
theorem gX5_outOf_X5_of : GoodIn wsX5_outOf (wsV RX5 54 RX5 yX5_of wsX5_of) := goodIn_app (goodIn_of _ (by decide +kernel)) ggX5_outOf_X5_of
theorem dX5_outOf_0 : decode cX5_outOf 0 = .ok (.aload_n 0, 1) := by decide +kernel
theorem dX5_outOf_1 : decode cX5_outOf 1 = .ok (.iload_n 1, 1) := by decide +kernel
theorem dX5_outOf_2 : decode cX5_outOf 2 = .ok (.iload_n 2, 1) := by decide +kernel
theorem dX5_outOf_3 : decode cX5_outOf 3 = .ok (.iconst 0, 1) := by decide +kernel
theorem dX5_outOf_4 : decode cX5_outOf 4 = .ok (.invokevirtual 54, 3) := by decide +kernel
theorem dX5_outOf_7 : decode cX5_outOf 7 = .ok (.aload_n 0, 1) := by decide +kernel
theorem dX5_outOf_8 : decode cX5_outOf 8 = .ok (.iload_n 1, 1) := by decide +kernel
theorem dX5_outOf_9 : decode cX5_outOf 9 = .ok (.iload_n 2, 1) := by decide +kernel
theorem dX5_outOf_10 : decode cX5_outOf 10 = .ok (.iconst 1, 1) := by decide +kernel
theorem dX5_outOf_11 : decode cX5_outOf 11 = .ok (.invokevirtual 54, 3) := by decide +kernel
theorem dX5_outOf_14 : decode cX5_outOf 14 = .ok (.isub, 1) := by decide +kernel
theorem dX5_outOf_15 : decode cX5_outOf 15 = .ok (.ireturn, 1) := by decide +kernel
set_option maxRecDepth 20000 in
theorem ggX5_corks_X5_of : GoodIn wsX5_corks wsX5_of := goodIn_r _ [5, 6, 7, 8, 4, 9, 10, 11, 12, 13, 14, 15, 16, 17, 18, 19, 20, 21, 22] (by decide +kernel) (by decide +kernel)
set_option maxRecDepth 20000 in
theorem gX5_corks_X5_of : GoodIn wsX5_corks (wsV RX5 54 RX5 yX5_of wsX5_of) := goodIn_app (goodIn_of _ (by decide +kernel)) ggX5_corks_X5_of
theorem dX5_corks_0 : decode cX5_corks 0 = .ok (.aload_n 0, 1) := by decide +kernel
theorem dX5_corks_1 : decode cX5_corks 1 = .ok (.iload_n 1, 1) := by decide +kernel
theorem dX5_corks_2 : decode cX5_corks 2 = .ok (.iload_n 2, 1) := by decide +kernel
theorem dX5_corks_3 : decode cX5_corks 3 = .ok (.iconst 2, 1) := by decide +kernel
theorem dX5_corks_4 : decode cX5_corks 4 = .ok (.invokevirtual 54, 3) := by decide +kernel
theorem dX5_corks_7 : decode cX5_corks 7 = .ok (.aload_n 0, 1) := by decide +kernel
theorem dX5_corks_8 : decode cX5_corks 8 = .ok (.iload_n 1, 1) := by decide +kernel
theorem dX5_corks_9 : decode cX5_corks 9 = .ok (.iload_n 2, 1) := by decide +kernel
theorem dX5_corks_10 : decode cX5_corks 10 = .ok (.iconst 3, 1) := by decide +kernel
theorem dX5_corks_11 : decode cX5_corks 11 = .ok (.invokevirtual 54, 3) := by decide +kernel
theorem dX5_corks_14 : decode cX5_corks 14 = .ok (.isub, 1) := by decide +kernel
theorem dX5_corks_15 : decode cX5_corks 15 = .ok (.ireturn, 1) := by decide +kernel
set_option maxRecDepth 20000 in
theorem ggX5_outIn_X5_outOf : GoodIn wsX5_outIn wsX5_outOf := goodIn_r _ [6, 7, 8, 9, 5, 10, 1, 11, 12, 13, 14, 15, 16, 17, 18, 19, 20, 21, 22, 23, 24, 25, 26] (by decide +kernel) (by decide +kernel)
set_option maxRecDepth 20000 in
theorem gX5_outIn_X5_outOf : GoodIn wsX5_outIn (wsV RX5 58 RX5 yX5_outOf wsX5_outOf) := goodIn_app (goodIn_of _ (by decide +kernel)) ggX5_outIn_X5_outOf
theorem dX5_outIn_0 : decode cX5_outIn 0 = .ok (.iconst 0, 1) := by decide +kernel
theorem dX5_outIn_1 : decode cX5_outIn 1 = .ok (.istore_n 2, 1) := by decide +kernel
theorem dX5_outIn_2 : decode cX5_outIn 2 = .ok (.iconst 0, 1) := by decide +kernel
theorem dX5_outIn_3 : decode cX5_outIn 3 = .ok (.istore_n 3, 1) := by decide +kernel
theorem dX5_outIn_4 : decode cX5_outIn 4 = .ok (.iload_n 3, 1) := by decide +kernel
theorem dX5_outIn_5 : decode cX5_outIn 5 = .ok (.aload_n 0, 1) := by decide +kernel
theorem dX5_outIn_6 : decode cX5_outIn 6 = .ok (.getfield 7, 3) := by decide +kernel
theorem dX5_outIn_9 : decode cX5_outIn 9 = .ok (.iconst 1, 1) := by decide +kernel
theorem dX5_outIn_10 : decode cX5_outIn 10 = .ok (.iaload, 1) := by decide +kernel
theorem dX5_outIn_11 : decode cX5_outIn 11 = .ok (.if_icmp .ge 18, 3) := by decide +kernel
theorem dX5_outIn_14 : decode cX5_outIn 14 = .ok (.iload_n 2, 1) := by decide +kernel
theorem dX5_outIn_15 : decode cX5_outIn 15 = .ok (.aload_n 0, 1) := by decide +kernel
theorem dX5_outIn_16 : decode cX5_outIn 16 = .ok (.iload_n 3, 1) := by decide +kernel
theorem dX5_outIn_17 : decode cX5_outIn 17 = .ok (.iload_n 1, 1) := by decide +kernel
theorem dX5_outIn_18 : decode cX5_outIn 18 = .ok (.invokevirtual 58, 3) := by decide +kernel
theorem dX5_outIn_21 : decode cX5_outIn 21 = .ok (.iadd, 1) := by decide +kernel
theorem dX5_outIn_22 : decode cX5_outIn 22 = .ok (.istore_n 2, 1) := by decide +kernel
theorem dX5_outIn_23 : decode cX5_outIn 23 = .ok (.iinc 3 1, 3) := by decide +kernel
theorem dX5_outIn_26 : decode cX5_outIn 26 = .ok (.goto (-22), 3) := by decide +kernel
theorem dX5_outIn_29 : decode cX5_outIn 29 = .ok (.iload_n 2, 1) := by decide +kernel
theorem dX5_outIn_30 : decode cX5_outIn 30 = .ok (.ireturn, 1) := by decide +kernel
set_option maxRecDepth 20000 in
theorem ggX5_free_X5_ofKind : GoodIn wsX5_free wsX5_ofKind := goodIn_r _ [5, 6, 22, 23, 24, 25, 26, 27, 28, 29, 30, 31, 32, 33, 34] (by decide +kernel) (by decide +kernel)
set_option maxRecDepth 20000 in
theorem gX5_free_X5_ofKind : GoodIn wsX5_free (wsV RX5 61 RX5 yX5_ofKind wsX5_ofKind) := goodIn_app (goodIn_of _ (by decide +kernel)) ggX5_free_X5_ofKind
set_option maxRecDepth 20000 in
theorem ggX5_free_X5_outIn : GoodIn wsX5_free wsX5_outIn := goodIn_r _ [10, 6, 11, 12, 13, 4, 14, 15, 16, 17, 18, 19, 20, 21, 22, 23, 24, 25, 26, 27, 28, 29, 30, 31, 32, 33, 34] (by decide +kernel) (by decide +kernel)
set_option maxRecDepth 20000 in
theorem gX5_free_X5_outIn : GoodIn wsX5_free (wsV RX5 64 RX5 yX5_outIn wsX5_outIn) := goodIn_app (goodIn_of _ (by decide +kernel)) ggX5_free_X5_outIn
theorem dX5_free_0 : decode cX5_free 0 = .ok (.aload_n 0, 1) := by decide +kernel
theorem dX5_free_1 : decode cX5_free 1 = .ok (.iload_n 1, 1) := by decide +kernel
theorem dX5_free_2 : decode cX5_free 2 = .ok (.iconst 0, 1) := by decide +kernel
theorem dX5_free_3 : decode cX5_free 3 = .ok (.invokevirtual 61, 3) := by decide +kernel
theorem dX5_free_6 : decode cX5_free 6 = .ok (.aload_n 0, 1) := by decide +kernel
theorem dX5_free_7 : decode cX5_free 7 = .ok (.iload_n 1, 1) := by decide +kernel
theorem dX5_free_8 : decode cX5_free 8 = .ok (.iconst 1, 1) := by decide +kernel
theorem dX5_free_9 : decode cX5_free 9 = .ok (.invokevirtual 61, 3) := by decide +kernel
theorem dX5_free_12 : decode cX5_free 12 = .ok (.isub, 1) := by decide +kernel
theorem dX5_free_13 : decode cX5_free 13 = .ok (.aload_n 0, 1) := by decide +kernel
theorem dX5_free_14 : decode cX5_free 14 = .ok (.iload_n 1, 1) := by decide +kernel
theorem dX5_free_15 : decode cX5_free 15 = .ok (.invokevirtual 64, 3) := by decide +kernel
theorem dX5_free_18 : decode cX5_free 18 = .ok (.isub, 1) := by decide +kernel
theorem dX5_free_19 : decode cX5_free 19 = .ok (.ireturn, 1) := by decide +kernel
theorem dX5_hasRoom_0 : decode cX5_hasRoom 0 = .ok (.aload_n 0, 1) := by decide +kernel
theorem dX5_hasRoom_1 : decode cX5_hasRoom 1 = .ok (.getfield 7, 3) := by decide +kernel
theorem dX5_hasRoom_4 : decode cX5_hasRoom 4 = .ok (.iconst 4, 1) := by decide +kernel
theorem dX5_hasRoom_5 : decode cX5_hasRoom 5 = .ok (.iaload, 1) := by decide +kernel
theorem dX5_hasRoom_6 : decode cX5_hasRoom 6 = .ok (.bipush 40, 2) := by decide +kernel
theorem dX5_hasRoom_8 : decode cX5_hasRoom 8 = .ok (.if_icmp .ge 7, 3) := by decide +kernel
theorem dX5_hasRoom_11 : decode cX5_hasRoom 11 = .ok (.iconst 1, 1) := by decide +kernel
theorem dX5_hasRoom_12 : decode cX5_hasRoom 12 = .ok (.goto 4, 3) := by decide +kernel
theorem dX5_hasRoom_15 : decode cX5_hasRoom 15 = .ok (.iconst 0, 1) := by decide +kernel
theorem dX5_hasRoom_16 : decode cX5_hasRoom 16 = .ok (.ireturn, 1) := by decide +kernel
theorem dX5_sends_0 : decode cX5_sends 0 = .ok (.aload_n 0, 1) := by decide +kernel
theorem dX5_sends_1 : decode cX5_sends 1 = .ok (.getfield 7, 3) := by decide +kernel
theorem dX5_sends_4 : decode cX5_sends 4 = .ok (.iconst 2, 1) := by decide +kernel
theorem dX5_sends_5 : decode cX5_sends 5 = .ok (.dup2, 1) := by decide +kernel
theorem dX5_sends_6 : decode cX5_sends 6 = .ok (.iaload, 1) := by decide +kernel
theorem dX5_sends_7 : decode cX5_sends 7 = .ok (.iconst 1, 1) := by decide +kernel
theorem dX5_sends_8 : decode cX5_sends 8 = .ok (.iadd, 1) := by decide +kernel
theorem dX5_sends_9 : decode cX5_sends 9 = .ok (.iastore, 1) := by decide +kernel
theorem dX5_sends_10 : decode cX5_sends 10 = .ok (.aload_n 0, 1) := by decide +kernel
theorem dX5_sends_11 : decode cX5_sends 11 = .ok (.getfield 7, 3) := by decide +kernel
theorem dX5_sends_14 : decode cX5_sends 14 = .ok (.bipush 6, 2) := by decide +kernel
theorem dX5_sends_16 : decode cX5_sends 16 = .ok (.iaload, 1) := by decide +kernel
theorem dX5_sends_17 : decode cX5_sends 17 = .ok (.ifCond .le 31, 3) := by decide +kernel
theorem dX5_sends_20 : decode cX5_sends 20 = .ok (.aload_n 0, 1) := by decide +kernel
theorem dX5_sends_21 : decode cX5_sends 21 = .ok (.getfield 7, 3) := by decide +kernel
theorem dX5_sends_24 : decode cX5_sends 24 = .ok (.iconst 2, 1) := by decide +kernel
theorem dX5_sends_25 : decode cX5_sends 25 = .ok (.iaload, 1) := by decide +kernel
theorem dX5_sends_26 : decode cX5_sends 26 = .ok (.aload_n 0, 1) := by decide +kernel
theorem dX5_sends_27 : decode cX5_sends 27 = .ok (.getfield 7, 3) := by decide +kernel
theorem dX5_sends_30 : decode cX5_sends 30 = .ok (.bipush 6, 2) := by decide +kernel
theorem dX5_sends_32 : decode cX5_sends 32 = .ok (.iaload, 1) := by decide +kernel
theorem dX5_sends_33 : decode cX5_sends 33 = .ok (.irem, 1) := by decide +kernel
theorem dX5_sends_34 : decode cX5_sends 34 = .ok (.ifCond .ne 14, 3) := by decide +kernel
theorem dX5_sends_37 : decode cX5_sends 37 = .ok (.aload_n 0, 1) := by decide +kernel
theorem dX5_sends_38 : decode cX5_sends 38 = .ok (.getfield 7, 3) := by decide +kernel
theorem dX5_sends_41 : decode cX5_sends 41 = .ok (.iconst 3, 1) := by decide +kernel
theorem dX5_sends_42 : decode cX5_sends 42 = .ok (.dup2, 1) := by decide +kernel
theorem dX5_sends_43 : decode cX5_sends 43 = .ok (.iaload, 1) := by decide +kernel
theorem dX5_sends_44 : decode cX5_sends 44 = .ok (.iconst 1, 1) := by decide +kernel
theorem dX5_sends_45 : decode cX5_sends 45 = .ok (.iadd, 1) := by decide +kernel
theorem dX5_sends_46 : decode cX5_sends 46 = .ok (.iastore, 1) := by decide +kernel
theorem dX5_sends_47 : decode cX5_sends 47 = .ok (.return_, 1) := by decide +kernel
theorem dX5_sends_48 : decode cX5_sends 48 = .ok (.bipush 83, 2) := by decide +kernel
theorem dX5_sends_50 : decode cX5_sends 50 = .ok (.iconst 5, 1) := by decide +kernel
theorem dX5_sends_51 : decode cX5_sends 51 = .ok (.aload_n 0, 1) := by decide +kernel
theorem dX5_sends_52 : decode cX5_sends 52 = .ok (.getfield 7, 3) := by decide +kernel
theorem dX5_sends_55 : decode cX5_sends 55 = .ok (.iconst 4, 1) := by decide +kernel
theorem dX5_sends_56 : decode cX5_sends 56 = .ok (.iaload, 1) := by decide +kernel
theorem dX5_sends_57 : decode cX5_sends 57 = .ok (.imul, 1) := by decide +kernel
theorem dX5_sends_58 : decode cX5_sends 58 = .ok (.iadd, 1) := by decide +kernel
theorem dX5_sends_59 : decode cX5_sends 59 = .ok (.istore 5, 2) := by decide +kernel
theorem dX5_sends_61 : decode cX5_sends 61 = .ok (.aload_n 0, 1) := by decide +kernel
theorem dX5_sends_62 : decode cX5_sends 62 = .ok (.getfield 7, 3) := by decide +kernel
theorem dX5_sends_65 : decode cX5_sends 65 = .ok (.iload 5, 2) := by decide +kernel
theorem dX5_sends_67 : decode cX5_sends 67 = .ok (.iconst 0, 1) := by decide +kernel
theorem dX5_sends_68 : decode cX5_sends 68 = .ok (.iadd, 1) := by decide +kernel
theorem dX5_sends_69 : decode cX5_sends 69 = .ok (.iload_n 1, 1) := by decide +kernel
theorem dX5_sends_70 : decode cX5_sends 70 = .ok (.iastore, 1) := by decide +kernel
theorem dX5_sends_71 : decode cX5_sends 71 = .ok (.aload_n 0, 1) := by decide +kernel
theorem dX5_sends_72 : decode cX5_sends 72 = .ok (.getfield 7, 3) := by decide +kernel
theorem dX5_sends_75 : decode cX5_sends 75 = .ok (.iload 5, 2) := by decide +kernel
theorem dX5_sends_77 : decode cX5_sends 77 = .ok (.iconst 1, 1) := by decide +kernel
theorem dX5_sends_78 : decode cX5_sends 78 = .ok (.iadd, 1) := by decide +kernel
theorem dX5_sends_79 : decode cX5_sends 79 = .ok (.iload_n 2, 1) := by decide +kernel
theorem dX5_sends_80 : decode cX5_sends 80 = .ok (.iastore, 1) := by decide +kernel
theorem dX5_sends_81 : decode cX5_sends 81 = .ok (.aload_n 0, 1) := by decide +kernel
theorem dX5_sends_82 : decode cX5_sends 82 = .ok (.getfield 7, 3) := by decide +kernel
theorem dX5_sends_85 : decode cX5_sends 85 = .ok (.iload 5, 2) := by decide +kernel
theorem dX5_sends_87 : decode cX5_sends 87 = .ok (.iconst 2, 1) := by decide +kernel
theorem dX5_sends_88 : decode cX5_sends 88 = .ok (.iadd, 1) := by decide +kernel
theorem dX5_sends_89 : decode cX5_sends 89 = .ok (.iload_n 3, 1) := by decide +kernel
theorem dX5_sends_90 : decode cX5_sends 90 = .ok (.iastore, 1) := by decide +kernel
theorem dX5_sends_91 : decode cX5_sends 91 = .ok (.aload_n 0, 1) := by decide +kernel
theorem dX5_sends_92 : decode cX5_sends 92 = .ok (.getfield 7, 3) := by decide +kernel
theorem dX5_sends_95 : decode cX5_sends 95 = .ok (.iload 5, 2) := by decide +kernel
theorem dX5_sends_97 : decode cX5_sends 97 = .ok (.iconst 3, 1) := by decide +kernel
theorem dX5_sends_98 : decode cX5_sends 98 = .ok (.iadd, 1) := by decide +kernel
theorem dX5_sends_99 : decode cX5_sends 99 = .ok (.iload 4, 2) := by decide +kernel
theorem dX5_sends_101 : decode cX5_sends 101 = .ok (.iastore, 1) := by decide +kernel
theorem dX5_sends_102 : decode cX5_sends 102 = .ok (.aload_n 0, 1) := by decide +kernel
theorem dX5_sends_103 : decode cX5_sends 103 = .ok (.getfield 7, 3) := by decide +kernel
theorem dX5_sends_106 : decode cX5_sends 106 = .ok (.iload 5, 2) := by decide +kernel
theorem dX5_sends_108 : decode cX5_sends 108 = .ok (.iconst 4, 1) := by decide +kernel
theorem dX5_sends_109 : decode cX5_sends 109 = .ok (.iadd, 1) := by decide +kernel
theorem dX5_sends_110 : decode cX5_sends 110 = .ok (.aload_n 0, 1) := by decide +kernel
theorem dX5_sends_111 : decode cX5_sends 111 = .ok (.getfield 7, 3) := by decide +kernel
theorem dX5_sends_114 : decode cX5_sends 114 = .ok (.iconst 0, 1) := by decide +kernel
theorem dX5_sends_115 : decode cX5_sends 115 = .ok (.iaload, 1) := by decide +kernel
theorem dX5_sends_116 : decode cX5_sends 116 = .ok (.aload_n 0, 1) := by decide +kernel
theorem dX5_sends_117 : decode cX5_sends 117 = .ok (.getfield 7, 3) := by decide +kernel
theorem dX5_sends_120 : decode cX5_sends 120 = .ok (.iconst 5, 1) := by decide +kernel
theorem dX5_sends_121 : decode cX5_sends 121 = .ok (.iaload, 1) := by decide +kernel
theorem dX5_sends_122 : decode cX5_sends 122 = .ok (.iadd, 1) := by decide +kernel
theorem dX5_sends_123 : decode cX5_sends 123 = .ok (.iastore, 1) := by decide +kernel
theorem dX5_sends_124 : decode cX5_sends 124 = .ok (.aload_n 0, 1) := by decide +kernel
theorem dX5_sends_125 : decode cX5_sends 125 = .ok (.getfield 7, 3) := by decide +kernel
theorem dX5_sends_128 : decode cX5_sends 128 = .ok (.iconst 4, 1) := by decide +kernel
theorem dX5_sends_129 : decode cX5_sends 129 = .ok (.dup2, 1) := by decide +kernel
theorem dX5_sends_130 : decode cX5_sends 130 = .ok (.iaload, 1) := by decide +kernel
theorem dX5_sends_131 : decode cX5_sends 131 = .ok (.iconst 1, 1) := by decide +kernel
theorem dX5_sends_132 : decode cX5_sends 132 = .ok (.iadd, 1) := by decide +kernel
theorem dX5_sends_133 : decode cX5_sends 133 = .ok (.iastore, 1) := by decide +kernel
theorem dX5_sends_134 : decode cX5_sends 134 = .ok (.return_, 1) := by decide +kernel
theorem dX5_takesOut_0 : decode cX5_takesOut 0 = .ok (.aload_n 0, 1) := by decide +kernel
theorem dX5_takesOut_1 : decode cX5_takesOut 1 = .ok (.getfield 7, 3) := by decide +kernel
theorem dX5_takesOut_4 : decode cX5_takesOut 4 = .ok (.iconst 4, 1) := by decide +kernel
theorem dX5_takesOut_5 : decode cX5_takesOut 5 = .ok (.dup2, 1) := by decide +kernel
theorem dX5_takesOut_6 : decode cX5_takesOut 6 = .ok (.iaload, 1) := by decide +kernel
theorem dX5_takesOut_7 : decode cX5_takesOut 7 = .ok (.iconst 1, 1) := by decide +kernel
theorem dX5_takesOut_8 : decode cX5_takesOut 8 = .ok (.isub, 1) := by decide +kernel
theorem dX5_takesOut_9 : decode cX5_takesOut 9 = .ok (.iastore, 1) := by decide +kernel
theorem dX5_takesOut_10 : decode cX5_takesOut 10 = .ok (.bipush 83, 2) := by decide +kernel
theorem dX5_takesOut_12 : decode cX5_takesOut 12 = .ok (.iconst 5, 1) := by decide +kernel
theorem dX5_takesOut_13 : decode cX5_takesOut 13 = .ok (.iload_n 1, 1) := by decide +kernel
theorem dX5_takesOut_14 : decode cX5_takesOut 14 = .ok (.imul, 1) := by decide +kernel
theorem dX5_takesOut_15 : decode cX5_takesOut 15 = .ok (.iadd, 1) := by decide +kernel
theorem dX5_takesOut_16 : decode cX5_takesOut 16 = .ok (.istore_n 2, 1) := by decide +kernel
theorem dX5_takesOut_17 : decode cX5_takesOut 17 = .ok (.iload_n 2, 1) := by decide +kernel
theorem dX5_takesOut_18 : decode cX5_takesOut 18 = .ok (.bipush 83, 2) := by decide +kernel
theorem dX5_takesOut_20 : decode cX5_takesOut 20 = .ok (.iconst 5, 1) := by decide +kernel
theorem dX5_takesOut_21 : decode cX5_takesOut 21 = .ok (.aload_n 0, 1) := by decide +kernel
theorem dX5_takesOut_22 : decode cX5_takesOut 22 = .ok (.getfield 7, 3) := by decide +kernel
theorem dX5_takesOut_25 : decode cX5_takesOut 25 = .ok (.iconst 4, 1) := by decide +kernel
theorem dX5_takesOut_26 : decode cX5_takesOut 26 = .ok (.iaload, 1) := by decide +kernel
theorem dX5_takesOut_27 : decode cX5_takesOut 27 = .ok (.imul, 1) := by decide +kernel
theorem dX5_takesOut_28 : decode cX5_takesOut 28 = .ok (.iadd, 1) := by decide +kernel
theorem dX5_takesOut_29 : decode cX5_takesOut 29 = .ok (.if_icmp .ge 23, 3) := by decide +kernel
theorem dX5_takesOut_32 : decode cX5_takesOut 32 = .ok (.aload_n 0, 1) := by decide +kernel
theorem dX5_takesOut_33 : decode cX5_takesOut 33 = .ok (.getfield 7, 3) := by decide +kernel
theorem dX5_takesOut_36 : decode cX5_takesOut 36 = .ok (.iload_n 2, 1) := by decide +kernel
theorem dX5_takesOut_37 : decode cX5_takesOut 37 = .ok (.aload_n 0, 1) := by decide +kernel
theorem dX5_takesOut_38 : decode cX5_takesOut 38 = .ok (.getfield 7, 3) := by decide +kernel
theorem dX5_takesOut_41 : decode cX5_takesOut 41 = .ok (.iload_n 2, 1) := by decide +kernel
theorem dX5_takesOut_42 : decode cX5_takesOut 42 = .ok (.iconst 5, 1) := by decide +kernel
theorem dX5_takesOut_43 : decode cX5_takesOut 43 = .ok (.iadd, 1) := by decide +kernel
theorem dX5_takesOut_44 : decode cX5_takesOut 44 = .ok (.iaload, 1) := by decide +kernel
theorem dX5_takesOut_45 : decode cX5_takesOut 45 = .ok (.iastore, 1) := by decide +kernel
theorem dX5_takesOut_46 : decode cX5_takesOut 46 = .ok (.iinc 2 1, 3) := by decide +kernel
theorem dX5_takesOut_49 : decode cX5_takesOut 49 = .ok (.goto (-32), 3) := by decide +kernel
theorem dX5_takesOut_52 : decode cX5_takesOut 52 = .ok (.return_, 1) := by decide +kernel
set_option maxRecDepth 20000 in
theorem ggX5_accounts_X5_of : GoodIn wsX5_accounts wsX5_of := goodIn_r _ [6, 1, 7, 8, 5, 9, 10, 11, 12, 13, 14, 15, 16, 17, 18, 19, 20, 21, 22] (by decide +kernel) (by decide +kernel)
set_option maxRecDepth 20000 in
theorem gX5_accounts_X5_of : GoodIn wsX5_accounts (wsV RX5 54 RX5 yX5_of wsX5_of) := goodIn_app (goodIn_of _ (by decide +kernel)) ggX5_accounts_X5_of
set_option maxRecDepth 20000 in
theorem ggX5_accounts_X5_at : GoodIn wsX5_accounts wsX5_at := goodIn_r _ [9] (by decide +kernel) (by decide +kernel)
set_option maxRecDepth 20000 in
theorem gX5_accounts_X5_at : GoodIn wsX5_accounts (va_wsS RX5 50 yX5_at wsX5_at) := goodIn_app (goodIn_of _ (by decide +kernel)) ggX5_accounts_X5_at
theorem dX5_accounts_0 : decode cX5_accounts 0 = .ok (.iload_n 3, 1) := by decide +kernel
theorem dX5_accounts_1 : decode cX5_accounts 1 = .ok (.aload_n 0, 1) := by decide +kernel
theorem dX5_accounts_2 : decode cX5_accounts 2 = .ok (.iload_n 1, 1) := by decide +kernel
theorem dX5_accounts_3 : decode cX5_accounts 3 = .ok (.iload_n 2, 1) := by decide +kernel
theorem dX5_accounts_4 : decode cX5_accounts 4 = .ok (.iconst 1, 1) := by decide +kernel
theorem dX5_accounts_5 : decode cX5_accounts 5 = .ok (.invokevirtual 54, 3) := by decide +kernel
theorem dX5_accounts_8 : decode cX5_accounts 8 = .ok (.isub, 1) := by decide +kernel
theorem dX5_accounts_9 : decode cX5_accounts 9 = .ok (.istore 5, 2) := by decide +kernel
theorem dX5_accounts_11 : decode cX5_accounts 11 = .ok (.iload 5, 2) := by decide +kernel
theorem dX5_accounts_13 : decode cX5_accounts 13 = .ok (.ifCond .le 73, 3) := by decide +kernel
theorem dX5_accounts_16 : decode cX5_accounts 16 = .ok (.aload_n 0, 1) := by decide +kernel
theorem dX5_accounts_17 : decode cX5_accounts 17 = .ok (.getfield 7, 3) := by decide +kernel
theorem dX5_accounts_20 : decode cX5_accounts 20 = .ok (.bipush 8, 2) := by decide +kernel
theorem dX5_accounts_22 : decode cX5_accounts 22 = .ok (.iconst 5, 1) := by decide +kernel
theorem dX5_accounts_23 : decode cX5_accounts 23 = .ok (.iload_n 2, 1) := by decide +kernel
theorem dX5_accounts_24 : decode cX5_accounts 24 = .ok (.imul, 1) := by decide +kernel
theorem dX5_accounts_25 : decode cX5_accounts 25 = .ok (.iadd, 1) := by decide +kernel
theorem dX5_accounts_26 : decode cX5_accounts 26 = .ok (.iconst 4, 1) := by decide +kernel
theorem dX5_accounts_27 : decode cX5_accounts 27 = .ok (.iadd, 1) := by decide +kernel
theorem dX5_accounts_28 : decode cX5_accounts 28 = .ok (.dup2, 1) := by decide +kernel
theorem dX5_accounts_29 : decode cX5_accounts 29 = .ok (.iaload, 1) := by decide +kernel
theorem dX5_accounts_30 : decode cX5_accounts 30 = .ok (.iload 5, 2) := by decide +kernel
theorem dX5_accounts_32 : decode cX5_accounts 32 = .ok (.iload 4, 2) := by decide +kernel
theorem dX5_accounts_34 : decode cX5_accounts 34 = .ok (.isub, 1) := by decide +kernel
theorem dX5_accounts_35 : decode cX5_accounts 35 = .ok (.iadd, 1) := by decide +kernel
theorem dX5_accounts_36 : decode cX5_accounts 36 = .ok (.iastore, 1) := by decide +kernel
theorem dX5_accounts_37 : decode cX5_accounts 37 = .ok (.aload_n 0, 1) := by decide +kernel
theorem dX5_accounts_38 : decode cX5_accounts 38 = .ok (.getfield 7, 3) := by decide +kernel
theorem dX5_accounts_41 : decode cX5_accounts 41 = .ok (.bipush 8, 2) := by decide +kernel
theorem dX5_accounts_43 : decode cX5_accounts 43 = .ok (.iconst 5, 1) := by decide +kernel
theorem dX5_accounts_44 : decode cX5_accounts 44 = .ok (.iload_n 2, 1) := by decide +kernel
theorem dX5_accounts_45 : decode cX5_accounts 45 = .ok (.imul, 1) := by decide +kernel
theorem dX5_accounts_46 : decode cX5_accounts 46 = .ok (.iadd, 1) := by decide +kernel
theorem dX5_accounts_47 : decode cX5_accounts 47 = .ok (.iconst 3, 1) := by decide +kernel
theorem dX5_accounts_48 : decode cX5_accounts 48 = .ok (.iadd, 1) := by decide +kernel
theorem dX5_accounts_49 : decode cX5_accounts 49 = .ok (.dup2, 1) := by decide +kernel
theorem dX5_accounts_50 : decode cX5_accounts 50 = .ok (.iaload, 1) := by decide +kernel
theorem dX5_accounts_51 : decode cX5_accounts 51 = .ok (.iload 4, 2) := by decide +kernel
theorem dX5_accounts_53 : decode cX5_accounts 53 = .ok (.iadd, 1) := by decide +kernel
theorem dX5_accounts_54 : decode cX5_accounts 54 = .ok (.iastore, 1) := by decide +kernel
theorem dX5_accounts_55 : decode cX5_accounts 55 = .ok (.aload_n 0, 1) := by decide +kernel
theorem dX5_accounts_56 : decode cX5_accounts 56 = .ok (.getfield 7, 3) := by decide +kernel
theorem dX5_accounts_59 : decode cX5_accounts 59 = .ok (.bipush 8, 2) := by decide +kernel
theorem dX5_accounts_61 : decode cX5_accounts 61 = .ok (.iconst 5, 1) := by decide +kernel
theorem dX5_accounts_62 : decode cX5_accounts 62 = .ok (.iload_n 2, 1) := by decide +kernel
theorem dX5_accounts_63 : decode cX5_accounts 63 = .ok (.imul, 1) := by decide +kernel
theorem dX5_accounts_64 : decode cX5_accounts 64 = .ok (.iadd, 1) := by decide +kernel
theorem dX5_accounts_65 : decode cX5_accounts 65 = .ok (.iconst 1, 1) := by decide +kernel
theorem dX5_accounts_66 : decode cX5_accounts 66 = .ok (.iadd, 1) := by decide +kernel
theorem dX5_accounts_67 : decode cX5_accounts 67 = .ok (.dup2, 1) := by decide +kernel
theorem dX5_accounts_68 : decode cX5_accounts 68 = .ok (.iaload, 1) := by decide +kernel
theorem dX5_accounts_69 : decode cX5_accounts 69 = .ok (.iload 4, 2) := by decide +kernel
theorem dX5_accounts_71 : decode cX5_accounts 71 = .ok (.iadd, 1) := by decide +kernel
theorem dX5_accounts_72 : decode cX5_accounts 72 = .ok (.iastore, 1) := by decide +kernel
theorem dX5_accounts_73 : decode cX5_accounts 73 = .ok (.aload_n 0, 1) := by decide +kernel
theorem dX5_accounts_74 : decode cX5_accounts 74 = .ok (.getfield 7, 3) := by decide +kernel
theorem dX5_accounts_77 : decode cX5_accounts 77 = .ok (.iload_n 1, 1) := by decide +kernel
theorem dX5_accounts_78 : decode cX5_accounts 78 = .ok (.iload_n 2, 1) := by decide +kernel
theorem dX5_accounts_79 : decode cX5_accounts 79 = .ok (.invokestatic 50, 3) := by decide +kernel
theorem dX5_accounts_82 : decode cX5_accounts 82 = .ok (.iconst 1, 1) := by decide +kernel
theorem dX5_accounts_83 : decode cX5_accounts 83 = .ok (.iadd, 1) := by decide +kernel
theorem dX5_accounts_84 : decode cX5_accounts 84 = .ok (.iload_n 3, 1) := by decide +kernel
theorem dX5_accounts_85 : decode cX5_accounts 85 = .ok (.iastore, 1) := by decide +kernel
theorem dX5_accounts_86 : decode cX5_accounts 86 = .ok (.return_, 1) := by decide +kernel
set_option maxRecDepth 20000 in
theorem ggX5_arrives_X5_takesOut : GoodIn wsX5_arrives wsX5_takesOut := goodIn_r _ [6, 1, 22, 23, 24, 25, 26, 27, 28, 29, 30, 31, 32, 33, 34] (by decide +kernel) (by decide +kernel)
set_option maxRecDepth 20000 in
theorem gX5_arrives_X5_takesOut : GoodIn wsX5_arrives (wsV RX5 68 RX5 yX5_takesOut wsX5_takesOut) := goodIn_app (goodIn_of _ (by decide +kernel)) ggX5_arrives_X5_takesOut
set_option maxRecDepth 20000 in
theorem ggX5_arrives_X5_accounts : GoodIn wsX5_arrives wsX5_accounts := goodIn_r _ [10, 1, 11, 12, 13, 5, 14, 15, 16, 17, 22, 23, 24, 25, 26, 27, 28, 29, 30, 31, 32, 33, 34] (by decide +kernel) (by decide +kernel)
set_option maxRecDepth 20000 in
theorem gX5_arrives_X5_accounts : GoodIn wsX5_arrives (wsV RX5 72 RX5 yX5_accounts wsX5_accounts) := goodIn_app (goodIn_of _ (by decide +kernel)) ggX5_arrives_X5_accounts
set_option maxRecDepth 20000 in
theorem ggX5_arrives_X5_at : GoodIn wsX5_arrives wsX5_at := goodIn_r _ [17] (by decide +kernel) (by decide +kernel)
set_option maxRecDepth 20000 in
theorem gX5_arrives_X5_at : GoodIn wsX5_arrives (va_wsS RX5 50 yX5_at wsX5_at) := goodIn_app (goodIn_of _ (by decide +kernel)) ggX5_arrives_X5_at
set_option maxRecDepth 20000 in
theorem ggX5_arrives_X5_of : GoodIn wsX5_arrives wsX5_of := goodIn_r _ [14, 1, 15, 16, 5, 17, 22, 23, 24, 25, 26, 27, 28, 29, 30, 31, 32, 33, 34] (by decide +kernel) (by decide +kernel)
set_option maxRecDepth 20000 in
theorem gX5_arrives_X5_of : GoodIn wsX5_arrives (wsV RX5 54 RX5 yX5_of wsX5_of) := goodIn_app (goodIn_of _ (by decide +kernel)) ggX5_arrives_X5_of
set_option maxRecDepth 20000 in
theorem ggX5_arrives_X5_sends : GoodIn wsX5_arrives wsX5_sends := goodIn_r _ [21, 1, 22, 23, 24, 25, 26, 27, 28, 29, 30, 31, 32, 33, 34] (by decide +kernel) (by decide +kernel)
set_option maxRecDepth 20000 in
theorem gX5_arrives_X5_sends : GoodIn wsX5_arrives (wsV RX5 76 RX5 yX5_sends wsX5_sends) := goodIn_app (goodIn_of _ (by decide +kernel)) ggX5_arrives_X5_sends
theorem dX5_arrives_0 : decode cX5_arrives 0 = .ok (.bipush 83, 2) := by decide +kernel
theorem dX5_arrives_2 : decode cX5_arrives 2 = .ok (.iconst 5, 1) := by decide +kernel
theorem dX5_arrives_3 : decode cX5_arrives 3 = .ok (.iload_n 1, 1) := by decide +kernel
theorem dX5_arrives_4 : decode cX5_arrives 4 = .ok (.imul, 1) := by decide +kernel
theorem dX5_arrives_5 : decode cX5_arrives 5 = .ok (.iadd, 1) := by decide +kernel
theorem dX5_arrives_6 : decode cX5_arrives 6 = .ok (.istore_n 2, 1) := by decide +kernel
theorem dX5_arrives_7 : decode cX5_arrives 7 = .ok (.aload_n 0, 1) := by decide +kernel
theorem dX5_arrives_8 : decode cX5_arrives 8 = .ok (.getfield 7, 3) := by decide +kernel
theorem dX5_arrives_11 : decode cX5_arrives 11 = .ok (.iload_n 2, 1) := by decide +kernel
theorem dX5_arrives_12 : decode cX5_arrives 12 = .ok (.iconst 0, 1) := by decide +kernel
theorem dX5_arrives_13 : decode cX5_arrives 13 = .ok (.iadd, 1) := by decide +kernel
theorem dX5_arrives_14 : decode cX5_arrives 14 = .ok (.iaload, 1) := by decide +kernel
theorem dX5_arrives_15 : decode cX5_arrives 15 = .ok (.istore_n 3, 1) := by decide +kernel
theorem dX5_arrives_16 : decode cX5_arrives 16 = .ok (.aload_n 0, 1) := by decide +kernel
theorem dX5_arrives_17 : decode cX5_arrives 17 = .ok (.getfield 7, 3) := by decide +kernel
theorem dX5_arrives_20 : decode cX5_arrives 20 = .ok (.iload_n 2, 1) := by decide +kernel
theorem dX5_arrives_21 : decode cX5_arrives 21 = .ok (.iconst 1, 1) := by decide +kernel
theorem dX5_arrives_22 : decode cX5_arrives 22 = .ok (.iadd, 1) := by decide +kernel
theorem dX5_arrives_23 : decode cX5_arrives 23 = .ok (.iaload, 1) := by decide +kernel
theorem dX5_arrives_24 : decode cX5_arrives 24 = .ok (.istore 4, 2) := by decide +kernel
theorem dX5_arrives_26 : decode cX5_arrives 26 = .ok (.aload_n 0, 1) := by decide +kernel
theorem dX5_arrives_27 : decode cX5_arrives 27 = .ok (.getfield 7, 3) := by decide +kernel
theorem dX5_arrives_30 : decode cX5_arrives 30 = .ok (.iload_n 2, 1) := by decide +kernel
theorem dX5_arrives_31 : decode cX5_arrives 31 = .ok (.iconst 2, 1) := by decide +kernel
theorem dX5_arrives_32 : decode cX5_arrives 32 = .ok (.iadd, 1) := by decide +kernel
theorem dX5_arrives_33 : decode cX5_arrives 33 = .ok (.iaload, 1) := by decide +kernel
theorem dX5_arrives_34 : decode cX5_arrives 34 = .ok (.istore 5, 2) := by decide +kernel
theorem dX5_arrives_36 : decode cX5_arrives 36 = .ok (.aload_n 0, 1) := by decide +kernel
theorem dX5_arrives_37 : decode cX5_arrives 37 = .ok (.getfield 7, 3) := by decide +kernel
theorem dX5_arrives_40 : decode cX5_arrives 40 = .ok (.iload_n 2, 1) := by decide +kernel
theorem dX5_arrives_41 : decode cX5_arrives 41 = .ok (.iconst 3, 1) := by decide +kernel
theorem dX5_arrives_42 : decode cX5_arrives 42 = .ok (.iadd, 1) := by decide +kernel
theorem dX5_arrives_43 : decode cX5_arrives 43 = .ok (.iaload, 1) := by decide +kernel
theorem dX5_arrives_44 : decode cX5_arrives 44 = .ok (.istore 6, 2) := by decide +kernel
theorem dX5_arrives_46 : decode cX5_arrives 46 = .ok (.aload_n 0, 1) := by decide +kernel
theorem dX5_arrives_47 : decode cX5_arrives 47 = .ok (.iload_n 1, 1) := by decide +kernel
theorem dX5_arrives_48 : decode cX5_arrives 48 = .ok (.invokevirtual 68, 3) := by decide +kernel
theorem dX5_arrives_51 : decode cX5_arrives 51 = .ok (.iload_n 3, 1) := by decide +kernel
theorem dX5_arrives_52 : decode cX5_arrives 52 = .ok (.iconst 1, 1) := by decide +kernel
theorem dX5_arrives_53 : decode cX5_arrives 53 = .ok (.if_icmp .eq 8, 3) := by decide +kernel
theorem dX5_arrives_56 : decode cX5_arrives 56 = .ok (.iload_n 3, 1) := by decide +kernel
theorem dX5_arrives_57 : decode cX5_arrives 57 = .ok (.iconst 3, 1) := by decide +kernel
theorem dX5_arrives_58 : decode cX5_arrives 58 = .ok (.if_icmp .ne 24, 3) := by decide +kernel
theorem dX5_arrives_61 : decode cX5_arrives 61 = .ok (.aload_n 0, 1) := by decide +kernel
theorem dX5_arrives_62 : decode cX5_arrives 62 = .ok (.iload 4, 2) := by decide +kernel
theorem dX5_arrives_64 : decode cX5_arrives 64 = .ok (.iload 5, 2) := by decide +kernel
theorem dX5_arrives_66 : decode cX5_arrives 66 = .ok (.iload 6, 2) := by decide +kernel
theorem dX5_arrives_68 : decode cX5_arrives 68 = .ok (.iload_n 3, 1) := by decide +kernel
theorem dX5_arrives_69 : decode cX5_arrives 69 = .ok (.iconst 1, 1) := by decide +kernel
theorem dX5_arrives_70 : decode cX5_arrives 70 = .ok (.if_icmp .ne 7, 3) := by decide +kernel
theorem dX5_arrives_73 : decode cX5_arrives 73 = .ok (.iconst 1, 1) := by decide +kernel
theorem dX5_arrives_74 : decode cX5_arrives 74 = .ok (.goto 4, 3) := by decide +kernel
theorem dX5_arrives_77 : decode cX5_arrives 77 = .ok (.iconst 0, 1) := by decide +kernel
theorem dX5_arrives_78 : decode cX5_arrives 78 = .ok (.invokevirtual 72, 3) := by decide +kernel
theorem dX5_arrives_81 : decode cX5_arrives 81 = .ok (.return_, 1) := by decide +kernel
theorem dX5_arrives_82 : decode cX5_arrives 82 = .ok (.aload_n 0, 1) := by decide +kernel
theorem dX5_arrives_83 : decode cX5_arrives 83 = .ok (.getfield 7, 3) := by decide +kernel
theorem dX5_arrives_86 : decode cX5_arrives 86 = .ok (.iload 4, 2) := by decide +kernel
theorem dX5_arrives_88 : decode cX5_arrives 88 = .ok (.iload 5, 2) := by decide +kernel
theorem dX5_arrives_90 : decode cX5_arrives 90 = .ok (.invokestatic 50, 3) := by decide +kernel
theorem dX5_arrives_93 : decode cX5_arrives 93 = .ok (.iconst 2, 1) := by decide +kernel
theorem dX5_arrives_94 : decode cX5_arrives 94 = .ok (.iadd, 1) := by decide +kernel
theorem dX5_arrives_95 : decode cX5_arrives 95 = .ok (.iload 6, 2) := by decide +kernel
theorem dX5_arrives_97 : decode cX5_arrives 97 = .ok (.aload_n 0, 1) := by decide +kernel
theorem dX5_arrives_98 : decode cX5_arrives 98 = .ok (.iload 4, 2) := by decide +kernel
theorem dX5_arrives_100 : decode cX5_arrives 100 = .ok (.iload 5, 2) := by decide +kernel
theorem dX5_arrives_102 : decode cX5_arrives 102 = .ok (.iconst 2, 1) := by decide +kernel
theorem dX5_arrives_103 : decode cX5_arrives 103 = .ok (.invokevirtual 54, 3) := by decide +kernel
theorem dX5_arrives_106 : decode cX5_arrives 106 = .ok (.if_icmp .le 8, 3) := by decide +kernel
theorem dX5_arrives_109 : decode cX5_arrives 109 = .ok (.iload 6, 2) := by decide +kernel
theorem dX5_arrives_111 : decode cX5_arrives 111 = .ok (.goto 12, 3) := by decide +kernel
theorem dX5_arrives_114 : decode cX5_arrives 114 = .ok (.aload_n 0, 1) := by decide +kernel
theorem dX5_arrives_115 : decode cX5_arrives 115 = .ok (.iload 4, 2) := by decide +kernel
theorem dX5_arrives_117 : decode cX5_arrives 117 = .ok (.iload 5, 2) := by decide +kernel
theorem dX5_arrives_119 : decode cX5_arrives 119 = .ok (.iconst 2, 1) := by decide +kernel
theorem dX5_arrives_120 : decode cX5_arrives 120 = .ok (.invokevirtual 54, 3) := by decide +kernel
theorem dX5_arrives_123 : decode cX5_arrives 123 = .ok (.iastore, 1) := by decide +kernel
theorem dX5_arrives_124 : decode cX5_arrives 124 = .ok (.iload_n 3, 1) := by decide +kernel
theorem dX5_arrives_125 : decode cX5_arrives 125 = .ok (.iconst 2, 1) := by decide +kernel
theorem dX5_arrives_126 : decode cX5_arrives 126 = .ok (.if_icmp .ne 21, 3) := by decide +kernel
theorem dX5_arrives_129 : decode cX5_arrives 129 = .ok (.aload_n 0, 1) := by decide +kernel
theorem dX5_arrives_130 : decode cX5_arrives 130 = .ok (.iconst 3, 1) := by decide +kernel
theorem dX5_arrives_131 : decode cX5_arrives 131 = .ok (.iload 4, 2) := by decide +kernel
theorem dX5_arrives_133 : decode cX5_arrives 133 = .ok (.iload 5, 2) := by decide +kernel
theorem dX5_arrives_135 : decode cX5_arrives 135 = .ok (.aload_n 0, 1) := by decide +kernel
theorem dX5_arrives_136 : decode cX5_arrives 136 = .ok (.iload 4, 2) := by decide +kernel
theorem dX5_arrives_138 : decode cX5_arrives 138 = .ok (.iload 5, 2) := by decide +kernel
theorem dX5_arrives_140 : decode cX5_arrives 140 = .ok (.iconst 3, 1) := by decide +kernel
theorem dX5_arrives_141 : decode cX5_arrives 141 = .ok (.invokevirtual 54, 3) := by decide +kernel
theorem dX5_arrives_144 : decode cX5_arrives 144 = .ok (.invokevirtual 76, 3) := by decide +kernel
theorem dX5_arrives_147 : decode cX5_arrives 147 = .ok (.return_, 1) := by decide +kernel
set_option maxRecDepth 20000 in
theorem ggX5_allArrive_X5_arrives : GoodIn wsX5_allArrive wsX5_arrives := goodIn_r _ [6, 1, 7, 8, 9, 5, 10, 11, 12, 13, 14, 15, 16, 17, 18, 19, 20, 21, 22, 23, 24, 25, 26, 27, 28, 29, 30, 31, 32, 33, 34, 35, 36, 37, 38] (by decide +kernel) (by decide +kernel)
set_option maxRecDepth 20000 in
theorem gX5_allArrive_X5_arrives : GoodIn wsX5_allArrive (wsV RX5 79 RX5 yX5_arrives wsX5_arrives) := goodIn_app (goodIn_of _ (by decide +kernel)) ggX5_allArrive_X5_arrives
theorem dX5_allArrive_0 : decode cX5_allArrive 0 = .ok (.iconst 0, 1) := by decide +kernel
theorem dX5_allArrive_1 : decode cX5_allArrive 1 = .ok (.istore_n 1, 1) := by decide +kernel
theorem dX5_allArrive_2 : decode cX5_allArrive 2 = .ok (.iload_n 1, 1) := by decide +kernel
theorem dX5_allArrive_3 : decode cX5_allArrive 3 = .ok (.aload_n 0, 1) := by decide +kernel
theorem dX5_allArrive_4 : decode cX5_allArrive 4 = .ok (.getfield 7, 3) := by decide +kernel
theorem dX5_allArrive_7 : decode cX5_allArrive 7 = .ok (.iconst 4, 1) := by decide +kernel
theorem dX5_allArrive_8 : decode cX5_allArrive 8 = .ok (.iaload, 1) := by decide +kernel
theorem dX5_allArrive_9 : decode cX5_allArrive 9 = .ok (.if_icmp .ge 39, 3) := by decide +kernel
theorem dX5_allArrive_12 : decode cX5_allArrive 12 = .ok (.aload_n 0, 1) := by decide +kernel
theorem dX5_allArrive_13 : decode cX5_allArrive 13 = .ok (.getfield 7, 3) := by decide +kernel
theorem dX5_allArrive_16 : decode cX5_allArrive 16 = .ok (.bipush 83, 2) := by decide +kernel
theorem dX5_allArrive_18 : decode cX5_allArrive 18 = .ok (.iconst 5, 1) := by decide +kernel
theorem dX5_allArrive_19 : decode cX5_allArrive 19 = .ok (.iload_n 1, 1) := by decide +kernel
theorem dX5_allArrive_20 : decode cX5_allArrive 20 = .ok (.imul, 1) := by decide +kernel
theorem dX5_allArrive_21 : decode cX5_allArrive 21 = .ok (.iadd, 1) := by decide +kernel
theorem dX5_allArrive_22 : decode cX5_allArrive 22 = .ok (.iconst 4, 1) := by decide +kernel
theorem dX5_allArrive_23 : decode cX5_allArrive 23 = .ok (.iadd, 1) := by decide +kernel
theorem dX5_allArrive_24 : decode cX5_allArrive 24 = .ok (.iaload, 1) := by decide +kernel
theorem dX5_allArrive_25 : decode cX5_allArrive 25 = .ok (.aload_n 0, 1) := by decide +kernel
theorem dX5_allArrive_26 : decode cX5_allArrive 26 = .ok (.getfield 7, 3) := by decide +kernel
theorem dX5_allArrive_29 : decode cX5_allArrive 29 = .ok (.iconst 0, 1) := by decide +kernel
theorem dX5_allArrive_30 : decode cX5_allArrive 30 = .ok (.iaload, 1) := by decide +kernel
theorem dX5_allArrive_31 : decode cX5_allArrive 31 = .ok (.if_icmp .ne 11, 3) := by decide +kernel
theorem dX5_allArrive_34 : decode cX5_allArrive 34 = .ok (.aload_n 0, 1) := by decide +kernel
theorem dX5_allArrive_35 : decode cX5_allArrive 35 = .ok (.iload_n 1, 1) := by decide +kernel
theorem dX5_allArrive_36 : decode cX5_allArrive 36 = .ok (.invokevirtual 79, 3) := by decide +kernel
theorem dX5_allArrive_39 : decode cX5_allArrive 39 = .ok (.goto (-37), 3) := by decide +kernel
theorem dX5_allArrive_42 : decode cX5_allArrive 42 = .ok (.iinc 1 1, 3) := by decide +kernel
theorem dX5_allArrive_45 : decode cX5_allArrive 45 = .ok (.goto (-43), 3) := by decide +kernel
theorem dX5_allArrive_48 : decode cX5_allArrive 48 = .ok (.return_, 1) := by decide +kernel
set_option maxRecDepth 20000 in
theorem ggX5_why_X5_of : GoodIn wsX5_why wsX5_of := goodIn_r _ [5, 6, 7, 8, 4, 9, 22, 23, 24, 25, 26, 27, 28, 29, 30, 31, 32, 33, 34] (by decide +kernel) (by decide +kernel)
set_option maxRecDepth 20000 in
theorem gX5_why_X5_of : GoodIn wsX5_why (wsV RX5 54 RX5 yX5_of wsX5_of) := goodIn_app (goodIn_of _ (by decide +kernel)) ggX5_why_X5_of
set_option maxRecDepth 20000 in
theorem ggX5_why_X5_corks : GoodIn wsX5_why wsX5_corks := goodIn_r _ [13, 1, 2, 3, 4, 5, 6, 7, 8, 9, 22, 23, 24, 25, 26, 27, 28, 29, 30, 31, 32, 33, 34] (by decide +kernel) (by decide +kernel)
set_option maxRecDepth 20000 in
theorem gX5_why_X5_corks : GoodIn wsX5_why (wsV RX5 82 RX5 yX5_corks wsX5_corks) := goodIn_app (goodIn_of _ (by decide +kernel)) ggX5_why_X5_corks
set_option maxRecDepth 20000 in
theorem ggX5_why_X5_outOf : GoodIn wsX5_why wsX5_outOf := goodIn_r _ [17, 1, 2, 3, 4, 5, 6, 7, 8, 9, 22, 23, 24, 25, 26, 27, 28, 29, 30, 31, 32, 33, 34] (by decide +kernel) (by decide +kernel)
set_option maxRecDepth 20000 in
theorem gX5_why_X5_outOf : GoodIn wsX5_why (wsV RX5 58 RX5 yX5_outOf wsX5_outOf) := goodIn_app (goodIn_of _ (by decide +kernel)) ggX5_why_X5_outOf
set_option maxRecDepth 20000 in
theorem ggX5_why_X5_hasRoom : GoodIn wsX5_why wsX5_hasRoom := goodIn_r _ [21, 6, 22, 23, 24, 25, 26, 27, 28, 29, 30, 31, 32, 33, 34] (by decide +kernel) (by decide +kernel)
set_option maxRecDepth 20000 in
theorem gX5_why_X5_hasRoom : GoodIn wsX5_why (wsV RX5 85 RX5 yX5_hasRoom wsX5_hasRoom) := goodIn_app (goodIn_of _ (by decide +kernel)) ggX5_why_X5_hasRoom
theorem dX5_why_0 : decode cX5_why 0 = .ok (.aload_n 0, 1) := by decide +kernel
theorem dX5_why_1 : decode cX5_why 1 = .ok (.iload_n 1, 1) := by decide +kernel
theorem dX5_why_2 : decode cX5_why 2 = .ok (.iload_n 2, 1) := by decide +kernel
theorem dX5_why_3 : decode cX5_why 3 = .ok (.iconst 4, 1) := by decide +kernel
theorem dX5_why_4 : decode cX5_why 4 = .ok (.invokevirtual 54, 3) := by decide +kernel
theorem dX5_why_7 : decode cX5_why 7 = .ok (.ifCond .ne 5, 3) := by decide +kernel
theorem dX5_why_10 : decode cX5_why 10 = .ok (.iconst 1, 1) := by decide +kernel
theorem dX5_why_11 : decode cX5_why 11 = .ok (.ireturn, 1) := by decide +kernel
theorem dX5_why_12 : decode cX5_why 12 = .ok (.aload_n 0, 1) := by decide +kernel
theorem dX5_why_13 : decode cX5_why 13 = .ok (.iload_n 1, 1) := by decide +kernel
theorem dX5_why_14 : decode cX5_why 14 = .ok (.iload_n 2, 1) := by decide +kernel
theorem dX5_why_15 : decode cX5_why 15 = .ok (.invokevirtual 82, 3) := by decide +kernel
theorem dX5_why_18 : decode cX5_why 18 = .ok (.ifCond .ne 18, 3) := by decide +kernel
theorem dX5_why_21 : decode cX5_why 21 = .ok (.aload_n 0, 1) := by decide +kernel
theorem dX5_why_22 : decode cX5_why 22 = .ok (.iload_n 1, 1) := by decide +kernel
theorem dX5_why_23 : decode cX5_why 23 = .ok (.iload_n 2, 1) := by decide +kernel
theorem dX5_why_24 : decode cX5_why 24 = .ok (.invokevirtual 58, 3) := by decide +kernel
theorem dX5_why_27 : decode cX5_why 27 = .ok (.ifCond .ne 7, 3) := by decide +kernel
theorem dX5_why_30 : decode cX5_why 30 = .ok (.iconst 2, 1) := by decide +kernel
theorem dX5_why_31 : decode cX5_why 31 = .ok (.goto 4, 3) := by decide +kernel
theorem dX5_why_34 : decode cX5_why 34 = .ok (.iconst 3, 1) := by decide +kernel
theorem dX5_why_35 : decode cX5_why 35 = .ok (.ireturn, 1) := by decide +kernel
theorem dX5_why_36 : decode cX5_why 36 = .ok (.aload_n 0, 1) := by decide +kernel
theorem dX5_why_37 : decode cX5_why 37 = .ok (.invokevirtual 85, 3) := by decide +kernel
theorem dX5_why_40 : decode cX5_why 40 = .ok (.ifCond .eq 7, 3) := by decide +kernel
theorem dX5_why_43 : decode cX5_why 43 = .ok (.iconst 0, 1) := by decide +kernel
theorem dX5_why_44 : decode cX5_why 44 = .ok (.goto 4, 3) := by decide +kernel
theorem dX5_why_47 : decode cX5_why 47 = .ok (.iconst 4, 1) := by decide +kernel
theorem dX5_why_48 : decode cX5_why 48 = .ok (.ireturn, 1) := by decide +kernel
set_option maxRecDepth 20000 in
theorem ggX5_pours_X5_why : GoodIn wsX5_pours wsX5_why := goodIn_r _ [6, 7, 8, 9, 5, 10, 1, 11, 12, 13, 14, 15, 16, 17, 18, 19, 20, 21, 22, 23, 24, 25, 30, 31, 32, 33, 34, 35, 36, 37, 38, 39, 40, 41, 42] (by decide +kernel) (by decide +kernel)
set_option maxRecDepth 20000 in
theorem gX5_pours_X5_why : GoodIn wsX5_pours (wsV RX5 89 RX5 yX5_why wsX5_why) := goodIn_app (goodIn_of _ (by decide +kernel)) ggX5_pours_X5_why
set_option maxRecDepth 20000 in
theorem ggX5_pours_X5_at : GoodIn wsX5_pours wsX5_at := goodIn_r _ [13] (by decide +kernel) (by decide +kernel)
set_option maxRecDepth 20000 in
theorem gX5_pours_X5_at : GoodIn wsX5_pours (va_wsS RX5 50 yX5_at wsX5_at) := goodIn_app (goodIn_of _ (by decide +kernel)) ggX5_pours_X5_at
set_option maxRecDepth 20000 in
theorem ggX5_pours_X5_of : GoodIn wsX5_pours wsX5_of := goodIn_r _ [10, 1, 11, 12, 5, 13, 30, 31, 32, 33, 34, 35, 36, 37, 38, 39, 40, 41, 42] (by decide +kernel) (by decide +kernel)
set_option maxRecDepth 20000 in
theorem gX5_pours_X5_of : GoodIn wsX5_pours (wsV RX5 54 RX5 yX5_of wsX5_of) := goodIn_app (goodIn_of _ (by decide +kernel)) ggX5_pours_X5_of
set_option maxRecDepth 20000 in
theorem ggX5_pours_X5_sends : GoodIn wsX5_pours wsX5_sends := goodIn_r _ [29, 1, 30, 31, 32, 33, 34, 35, 36, 37, 38, 39, 40, 41, 42] (by decide +kernel) (by decide +kernel)
set_option maxRecDepth 20000 in
theorem gX5_pours_X5_sends : GoodIn wsX5_pours (wsV RX5 76 RX5 yX5_sends wsX5_sends) := goodIn_app (goodIn_of _ (by decide +kernel)) ggX5_pours_X5_sends
theorem dX5_pours_0 : decode cX5_pours 0 = .ok (.iconst 0, 1) := by decide +kernel
theorem dX5_pours_1 : decode cX5_pours 1 = .ok (.istore_n 1, 1) := by decide +kernel
theorem dX5_pours_2 : decode cX5_pours 2 = .ok (.iconst 0, 1) := by decide +kernel
theorem dX5_pours_3 : decode cX5_pours 3 = .ok (.istore_n 2, 1) := by decide +kernel
theorem dX5_pours_4 : decode cX5_pours 4 = .ok (.iload_n 2, 1) := by decide +kernel
theorem dX5_pours_5 : decode cX5_pours 5 = .ok (.iconst 3, 1) := by decide +kernel
theorem dX5_pours_6 : decode cX5_pours 6 = .ok (.aload_n 0, 1) := by decide +kernel
theorem dX5_pours_7 : decode cX5_pours 7 = .ok (.getfield 7, 3) := by decide +kernel
theorem dX5_pours_10 : decode cX5_pours 10 = .ok (.iconst 1, 1) := by decide +kernel
theorem dX5_pours_11 : decode cX5_pours 11 = .ok (.iaload, 1) := by decide +kernel
theorem dX5_pours_12 : decode cX5_pours 12 = .ok (.imul, 1) := by decide +kernel
theorem dX5_pours_13 : decode cX5_pours 13 = .ok (.if_icmp .ge 81, 3) := by decide +kernel
theorem dX5_pours_16 : decode cX5_pours 16 = .ok (.iload_n 2, 1) := by decide +kernel
theorem dX5_pours_17 : decode cX5_pours 17 = .ok (.iconst 3, 1) := by decide +kernel
theorem dX5_pours_18 : decode cX5_pours 18 = .ok (.idiv, 1) := by decide +kernel
theorem dX5_pours_19 : decode cX5_pours 19 = .ok (.istore_n 3, 1) := by decide +kernel
theorem dX5_pours_20 : decode cX5_pours 20 = .ok (.iload_n 2, 1) := by decide +kernel
theorem dX5_pours_21 : decode cX5_pours 21 = .ok (.iconst 3, 1) := by decide +kernel
theorem dX5_pours_22 : decode cX5_pours 22 = .ok (.irem, 1) := by decide +kernel
theorem dX5_pours_23 : decode cX5_pours 23 = .ok (.istore 4, 2) := by decide +kernel
theorem dX5_pours_25 : decode cX5_pours 25 = .ok (.aload_n 0, 1) := by decide +kernel
theorem dX5_pours_26 : decode cX5_pours 26 = .ok (.iload_n 3, 1) := by decide +kernel
theorem dX5_pours_27 : decode cX5_pours 27 = .ok (.iload 4, 2) := by decide +kernel
theorem dX5_pours_29 : decode cX5_pours 29 = .ok (.invokevirtual 89, 3) := by decide +kernel
theorem dX5_pours_32 : decode cX5_pours 32 = .ok (.ifCond .ne 56, 3) := by decide +kernel
theorem dX5_pours_35 : decode cX5_pours 35 = .ok (.aload_n 0, 1) := by decide +kernel
theorem dX5_pours_36 : decode cX5_pours 36 = .ok (.getfield 7, 3) := by decide +kernel
theorem dX5_pours_39 : decode cX5_pours 39 = .ok (.iload_n 3, 1) := by decide +kernel
theorem dX5_pours_40 : decode cX5_pours 40 = .ok (.iload 4, 2) := by decide +kernel
theorem dX5_pours_42 : decode cX5_pours 42 = .ok (.invokestatic 50, 3) := by decide +kernel
theorem dX5_pours_45 : decode cX5_pours 45 = .ok (.iconst 4, 1) := by decide +kernel
theorem dX5_pours_46 : decode cX5_pours 46 = .ok (.iadd, 1) := by decide +kernel
theorem dX5_pours_47 : decode cX5_pours 47 = .ok (.dup2, 1) := by decide +kernel
theorem dX5_pours_48 : decode cX5_pours 48 = .ok (.iaload, 1) := by decide +kernel
theorem dX5_pours_49 : decode cX5_pours 49 = .ok (.iconst 1, 1) := by decide +kernel
theorem dX5_pours_50 : decode cX5_pours 50 = .ok (.isub, 1) := by decide +kernel
theorem dX5_pours_51 : decode cX5_pours 51 = .ok (.iastore, 1) := by decide +kernel
theorem dX5_pours_52 : decode cX5_pours 52 = .ok (.aload_n 0, 1) := by decide +kernel
theorem dX5_pours_53 : decode cX5_pours 53 = .ok (.getfield 7, 3) := by decide +kernel
theorem dX5_pours_56 : decode cX5_pours 56 = .ok (.iload_n 3, 1) := by decide +kernel
theorem dX5_pours_57 : decode cX5_pours 57 = .ok (.iload 4, 2) := by decide +kernel
theorem dX5_pours_59 : decode cX5_pours 59 = .ok (.invokestatic 50, 3) := by decide +kernel
theorem dX5_pours_62 : decode cX5_pours 62 = .ok (.iconst 3, 1) := by decide +kernel
theorem dX5_pours_63 : decode cX5_pours 63 = .ok (.iadd, 1) := by decide +kernel
theorem dX5_pours_64 : decode cX5_pours 64 = .ok (.dup2, 1) := by decide +kernel
theorem dX5_pours_65 : decode cX5_pours 65 = .ok (.iaload, 1) := by decide +kernel
theorem dX5_pours_66 : decode cX5_pours 66 = .ok (.iconst 1, 1) := by decide +kernel
theorem dX5_pours_67 : decode cX5_pours 67 = .ok (.iadd, 1) := by decide +kernel
theorem dX5_pours_68 : decode cX5_pours 68 = .ok (.iastore, 1) := by decide +kernel
theorem dX5_pours_69 : decode cX5_pours 69 = .ok (.aload_n 0, 1) := by decide +kernel
theorem dX5_pours_70 : decode cX5_pours 70 = .ok (.iconst 1, 1) := by decide +kernel
theorem dX5_pours_71 : decode cX5_pours 71 = .ok (.iload_n 3, 1) := by decide +kernel
theorem dX5_pours_72 : decode cX5_pours 72 = .ok (.iload 4, 2) := by decide +kernel
theorem dX5_pours_74 : decode cX5_pours 74 = .ok (.aload_n 0, 1) := by decide +kernel
theorem dX5_pours_75 : decode cX5_pours 75 = .ok (.iload_n 3, 1) := by decide +kernel
theorem dX5_pours_76 : decode cX5_pours 76 = .ok (.iload 4, 2) := by decide +kernel
theorem dX5_pours_78 : decode cX5_pours 78 = .ok (.iconst 3, 1) := by decide +kernel
theorem dX5_pours_79 : decode cX5_pours 79 = .ok (.invokevirtual 54, 3) := by decide +kernel
theorem dX5_pours_82 : decode cX5_pours 82 = .ok (.invokevirtual 76, 3) := by decide +kernel
theorem dX5_pours_85 : decode cX5_pours 85 = .ok (.iinc 1 1, 3) := by decide +kernel
theorem dX5_pours_88 : decode cX5_pours 88 = .ok (.iinc 2 1, 3) := by decide +kernel
theorem dX5_pours_91 : decode cX5_pours 91 = .ok (.goto (-87), 3) := by decide +kernel
theorem dX5_pours_94 : decode cX5_pours 94 = .ok (.iload_n 1, 1) := by decide +kernel
theorem dX5_pours_95 : decode cX5_pours 95 = .ok (.ireturn, 1) := by decide +kernel
set_option maxRecDepth 20000 in
theorem ggX5_lendsOne_X5_at : GoodIn wsX5_lendsOne wsX5_at := goodIn_r _ [5] (by decide +kernel) (by decide +kernel)
set_option maxRecDepth 20000 in
theorem gX5_lendsOne_X5_at : GoodIn wsX5_lendsOne (va_wsS RX5 50 yX5_at wsX5_at) := goodIn_app (goodIn_of _ (by decide +kernel)) ggX5_lendsOne_X5_at
set_option maxRecDepth 20000 in
theorem ggX5_lendsOne_X5_of : GoodIn wsX5_lendsOne wsX5_of := goodIn_r _ [9, 1, 2, 3, 4, 5, 14, 15, 16, 17, 18, 19, 20, 21, 22, 23, 24, 25, 26] (by decide +kernel) (by decide +kernel)
set_option maxRecDepth 20000 in
theorem gX5_lendsOne_X5_of : GoodIn wsX5_lendsOne (wsV RX5 54 RX5 yX5_of wsX5_of) := goodIn_app (goodIn_of _ (by decide +kernel)) ggX5_lendsOne_X5_of
set_option maxRecDepth 20000 in
theorem ggX5_lendsOne_X5_sends : GoodIn wsX5_lendsOne wsX5_sends := goodIn_r _ [13, 1, 14, 15, 16, 17, 18, 19, 20, 21, 22, 23, 24, 25, 26] (by decide +kernel) (by decide +kernel)
set_option maxRecDepth 20000 in
theorem gX5_lendsOne_X5_sends : GoodIn wsX5_lendsOne (wsV RX5 76 RX5 yX5_sends wsX5_sends) := goodIn_app (goodIn_of _ (by decide +kernel)) ggX5_lendsOne_X5_sends
theorem dX5_lendsOne_0 : decode cX5_lendsOne 0 = .ok (.aload_n 0, 1) := by decide +kernel
theorem dX5_lendsOne_1 : decode cX5_lendsOne 1 = .ok (.getfield 7, 3) := by decide +kernel
theorem dX5_lendsOne_4 : decode cX5_lendsOne 4 = .ok (.iload_n 1, 1) := by decide +kernel
theorem dX5_lendsOne_5 : decode cX5_lendsOne 5 = .ok (.iload_n 2, 1) := by decide +kernel
theorem dX5_lendsOne_6 : decode cX5_lendsOne 6 = .ok (.invokestatic 50, 3) := by decide +kernel
theorem dX5_lendsOne_9 : decode cX5_lendsOne 9 = .ok (.iconst 0, 1) := by decide +kernel
theorem dX5_lendsOne_10 : decode cX5_lendsOne 10 = .ok (.iadd, 1) := by decide +kernel
theorem dX5_lendsOne_11 : decode cX5_lendsOne 11 = .ok (.dup2, 1) := by decide +kernel
theorem dX5_lendsOne_12 : decode cX5_lendsOne 12 = .ok (.iaload, 1) := by decide +kernel
theorem dX5_lendsOne_13 : decode cX5_lendsOne 13 = .ok (.iconst 1, 1) := by decide +kernel
theorem dX5_lendsOne_14 : decode cX5_lendsOne 14 = .ok (.iadd, 1) := by decide +kernel
theorem dX5_lendsOne_15 : decode cX5_lendsOne 15 = .ok (.iastore, 1) := by decide +kernel
theorem dX5_lendsOne_16 : decode cX5_lendsOne 16 = .ok (.aload_n 0, 1) := by decide +kernel
theorem dX5_lendsOne_17 : decode cX5_lendsOne 17 = .ok (.iconst 0, 1) := by decide +kernel
theorem dX5_lendsOne_18 : decode cX5_lendsOne 18 = .ok (.iload_n 1, 1) := by decide +kernel
theorem dX5_lendsOne_19 : decode cX5_lendsOne 19 = .ok (.iload_n 2, 1) := by decide +kernel
theorem dX5_lendsOne_20 : decode cX5_lendsOne 20 = .ok (.aload_n 0, 1) := by decide +kernel
theorem dX5_lendsOne_21 : decode cX5_lendsOne 21 = .ok (.iload_n 1, 1) := by decide +kernel
theorem dX5_lendsOne_22 : decode cX5_lendsOne 22 = .ok (.iload_n 2, 1) := by decide +kernel
theorem dX5_lendsOne_23 : decode cX5_lendsOne 23 = .ok (.iconst 0, 1) := by decide +kernel
theorem dX5_lendsOne_24 : decode cX5_lendsOne 24 = .ok (.invokevirtual 54, 3) := by decide +kernel
theorem dX5_lendsOne_27 : decode cX5_lendsOne 27 = .ok (.invokevirtual 76, 3) := by decide +kernel
theorem dX5_lendsOne_30 : decode cX5_lendsOne 30 = .ok (.return_, 1) := by decide +kernel
set_option maxRecDepth 20000 in
theorem ggX5_lendsAll_X5_outOf : GoodIn wsX5_lendsAll wsX5_outOf := goodIn_r _ [6, 7, 8, 9, 5, 10, 1, 11, 12, 13, 38, 39, 40, 41, 42, 43, 44, 45, 46, 47, 48, 49, 50] (by decide +kernel) (by decide +kernel)
set_option maxRecDepth 20000 in
theorem gX5_lendsAll_X5_outOf : GoodIn wsX5_lendsAll (wsV RX5 58 RX5 yX5_outOf wsX5_outOf) := goodIn_app (goodIn_of _ (by decide +kernel)) ggX5_lendsAll_X5_outOf
set_option maxRecDepth 20000 in
theorem ggX5_lendsAll_X5_free : GoodIn wsX5_lendsAll wsX5_free := goodIn_r _ [17, 18, 19, 20, 5, 21, 1, 22, 23, 24, 25, 2, 3, 4, 6, 7, 8, 9, 10, 11, 12, 13, 38, 39, 40, 41, 42, 43, 44, 45, 46, 47, 48, 49, 50] (by decide +kernel) (by decide +kernel)
set_option maxRecDepth 20000 in
theorem gX5_lendsAll_X5_free : GoodIn wsX5_lendsAll (wsV RX5 92 RX5 yX5_free wsX5_free) := goodIn_app (goodIn_of _ (by decide +kernel)) ggX5_lendsAll_X5_free
set_option maxRecDepth 20000 in
theorem ggX5_lendsAll_X5_hasRoom : GoodIn wsX5_lendsAll wsX5_hasRoom := goodIn_r _ [29, 1, 38, 39, 40, 41, 42, 43, 44, 45, 46, 47, 48, 49, 50] (by decide +kernel) (by decide +kernel)
set_option maxRecDepth 20000 in
theorem gX5_lendsAll_X5_hasRoom : GoodIn wsX5_lendsAll (wsV RX5 85 RX5 yX5_hasRoom wsX5_hasRoom) := goodIn_app (goodIn_of _ (by decide +kernel)) ggX5_lendsAll_X5_hasRoom
set_option maxRecDepth 20000 in
theorem ggX5_lendsAll_X5_lendsOne : GoodIn wsX5_lendsAll wsX5_lendsOne := goodIn_r _ [33, 1, 11, 12, 5, 13, 7, 8, 9, 10, 34, 35, 36, 37, 38, 39, 40, 41, 42, 43, 44, 45, 46, 47, 48, 49, 50] (by decide +kernel) (by decide +kernel)
set_option maxRecDepth 20000 in
theorem gX5_lendsAll_X5_lendsOne : GoodIn wsX5_lendsAll (wsV RX5 95 RX5 yX5_lendsOne wsX5_lendsOne) := goodIn_app (goodIn_of _ (by decide +kernel)) ggX5_lendsAll_X5_lendsOne
theorem dX5_lendsAll_0 : decode cX5_lendsAll 0 = .ok (.iconst 0, 1) := by decide +kernel
theorem dX5_lendsAll_1 : decode cX5_lendsAll 1 = .ok (.istore_n 1, 1) := by decide +kernel
theorem dX5_lendsAll_2 : decode cX5_lendsAll 2 = .ok (.iload_n 1, 1) := by decide +kernel
theorem dX5_lendsAll_3 : decode cX5_lendsAll 3 = .ok (.iconst 3, 1) := by decide +kernel
theorem dX5_lendsAll_4 : decode cX5_lendsAll 4 = .ok (.aload_n 0, 1) := by decide +kernel
theorem dX5_lendsAll_5 : decode cX5_lendsAll 5 = .ok (.getfield 7, 3) := by decide +kernel
theorem dX5_lendsAll_8 : decode cX5_lendsAll 8 = .ok (.iconst 1, 1) := by decide +kernel
theorem dX5_lendsAll_9 : decode cX5_lendsAll 9 = .ok (.iaload, 1) := by decide +kernel
theorem dX5_lendsAll_10 : decode cX5_lendsAll 10 = .ok (.imul, 1) := by decide +kernel
theorem dX5_lendsAll_11 : decode cX5_lendsAll 11 = .ok (.if_icmp .ge 54, 3) := by decide +kernel
theorem dX5_lendsAll_14 : decode cX5_lendsAll 14 = .ok (.iload_n 1, 1) := by decide +kernel
theorem dX5_lendsAll_15 : decode cX5_lendsAll 15 = .ok (.iconst 3, 1) := by decide +kernel
theorem dX5_lendsAll_16 : decode cX5_lendsAll 16 = .ok (.idiv, 1) := by decide +kernel
theorem dX5_lendsAll_17 : decode cX5_lendsAll 17 = .ok (.istore_n 2, 1) := by decide +kernel
theorem dX5_lendsAll_18 : decode cX5_lendsAll 18 = .ok (.iload_n 1, 1) := by decide +kernel
theorem dX5_lendsAll_19 : decode cX5_lendsAll 19 = .ok (.iconst 3, 1) := by decide +kernel
theorem dX5_lendsAll_20 : decode cX5_lendsAll 20 = .ok (.irem, 1) := by decide +kernel
theorem dX5_lendsAll_21 : decode cX5_lendsAll 21 = .ok (.istore_n 3, 1) := by decide +kernel
theorem dX5_lendsAll_22 : decode cX5_lendsAll 22 = .ok (.aload_n 0, 1) := by decide +kernel
theorem dX5_lendsAll_23 : decode cX5_lendsAll 23 = .ok (.iload_n 2, 1) := by decide +kernel
theorem dX5_lendsAll_24 : decode cX5_lendsAll 24 = .ok (.iload_n 3, 1) := by decide +kernel
theorem dX5_lendsAll_25 : decode cX5_lendsAll 25 = .ok (.invokevirtual 58, 3) := by decide +kernel
theorem dX5_lendsAll_28 : decode cX5_lendsAll 28 = .ok (.aload_n 0, 1) := by decide +kernel
theorem dX5_lendsAll_29 : decode cX5_lendsAll 29 = .ok (.getfield 7, 3) := by decide +kernel
theorem dX5_lendsAll_32 : decode cX5_lendsAll 32 = .ok (.bipush 7, 2) := by decide +kernel
theorem dX5_lendsAll_34 : decode cX5_lendsAll 34 = .ok (.iaload, 1) := by decide +kernel
theorem dX5_lendsAll_35 : decode cX5_lendsAll 35 = .ok (.if_icmp .ge 24, 3) := by decide +kernel
theorem dX5_lendsAll_38 : decode cX5_lendsAll 38 = .ok (.aload_n 0, 1) := by decide +kernel
theorem dX5_lendsAll_39 : decode cX5_lendsAll 39 = .ok (.iload_n 3, 1) := by decide +kernel
theorem dX5_lendsAll_40 : decode cX5_lendsAll 40 = .ok (.invokevirtual 92, 3) := by decide +kernel
theorem dX5_lendsAll_43 : decode cX5_lendsAll 43 = .ok (.ifCond .le 16, 3) := by decide +kernel
theorem dX5_lendsAll_46 : decode cX5_lendsAll 46 = .ok (.aload_n 0, 1) := by decide +kernel
theorem dX5_lendsAll_47 : decode cX5_lendsAll 47 = .ok (.invokevirtual 85, 3) := by decide +kernel
theorem dX5_lendsAll_50 : decode cX5_lendsAll 50 = .ok (.ifCond .eq 9, 3) := by decide +kernel
theorem dX5_lendsAll_53 : decode cX5_lendsAll 53 = .ok (.aload_n 0, 1) := by decide +kernel
theorem dX5_lendsAll_54 : decode cX5_lendsAll 54 = .ok (.iload_n 2, 1) := by decide +kernel
theorem dX5_lendsAll_55 : decode cX5_lendsAll 55 = .ok (.iload_n 3, 1) := by decide +kernel
theorem dX5_lendsAll_56 : decode cX5_lendsAll 56 = .ok (.invokevirtual 95, 3) := by decide +kernel
theorem dX5_lendsAll_59 : decode cX5_lendsAll 59 = .ok (.iinc 1 1, 3) := by decide +kernel
theorem dX5_lendsAll_62 : decode cX5_lendsAll 62 = .ok (.goto (-60), 3) := by decide +kernel
theorem dX5_lendsAll_65 : decode cX5_lendsAll 65 = .ok (.return_, 1) := by decide +kernel
set_option maxRecDepth 20000 in
theorem ggX5_tick_X5_allArrive : GoodIn wsX5_tick wsX5_allArrive := goodIn_r _ [6, 1, 7, 8, 9, 5, 10, 11, 12, 13, 14, 15, 16, 17, 18, 19, 20, 21, 22, 23, 24, 25, 26, 27, 28, 29, 70, 71, 72, 73, 74, 75, 76, 77, 78, 79, 80, 81, 82] (by decide +kernel) (by decide +kernel)
set_option maxRecDepth 20000 in
theorem gX5_tick_X5_allArrive : GoodIn wsX5_tick (wsV RX5 99 RX5 yX5_allArrive wsX5_allArrive) := goodIn_app (goodIn_of _ (by decide +kernel)) ggX5_tick_X5_allArrive
set_option maxRecDepth 20000 in
theorem ggX5_tick_X5_pours : GoodIn wsX5_tick wsX5_pours := goodIn_r _ [33, 1, 34, 35, 36, 5, 37, 19, 20, 21, 22, 23, 24, 25, 38, 39, 40, 41, 42, 43, 44, 45, 46, 47, 48, 49, 26, 27, 28, 29, 70, 71, 72, 73, 74, 75, 76, 77, 78, 79, 80, 81, 82] (by decide +kernel) (by decide +kernel)
set_option maxRecDepth 20000 in
theorem gX5_tick_X5_pours : GoodIn wsX5_tick (wsV RX5 102 RX5 yX5_pours wsX5_pours) := goodIn_app (goodIn_of _ (by decide +kernel)) ggX5_tick_X5_pours
set_option maxRecDepth 20000 in
theorem ggX5_tick_X5_lendsAll : GoodIn wsX5_tick wsX5_lendsAll := goodIn_r _ [53, 1, 42, 43, 44, 5, 45, 19, 20, 21, 22, 23, 24, 25, 54, 55, 56, 57, 58, 59, 60, 61, 62, 63, 64, 65, 46, 47, 48, 49, 66, 67, 68, 69, 26, 27, 28, 29, 70, 71, 72, 73, 74, 75, 76, 77, 78, 79, 80, 81, 82] (by decide +kernel) (by decide +kernel)
set_option maxRecDepth 20000 in
theorem gX5_tick_X5_lendsAll : GoodIn wsX5_tick (wsV RX5 106 RX5 yX5_lendsAll wsX5_lendsAll) := goodIn_app (goodIn_of _ (by decide +kernel)) ggX5_tick_X5_lendsAll
theorem dX5_tick_0 : decode cX5_tick 0 = .ok (.aload_n 0, 1) := by decide +kernel
theorem dX5_tick_1 : decode cX5_tick 1 = .ok (.getfield 7, 3) := by decide +kernel
theorem dX5_tick_4 : decode cX5_tick 4 = .ok (.iconst 0, 1) := by decide +kernel
theorem dX5_tick_5 : decode cX5_tick 5 = .ok (.dup2, 1) := by decide +kernel
theorem dX5_tick_6 : decode cX5_tick 6 = .ok (.iaload, 1) := by decide +kernel
theorem dX5_tick_7 : decode cX5_tick 7 = .ok (.iconst 1, 1) := by decide +kernel
theorem dX5_tick_8 : decode cX5_tick 8 = .ok (.iadd, 1) := by decide +kernel
theorem dX5_tick_9 : decode cX5_tick 9 = .ok (.iastore, 1) := by decide +kernel
theorem dX5_tick_10 : decode cX5_tick 10 = .ok (.aload_n 0, 1) := by decide +kernel
theorem dX5_tick_11 : decode cX5_tick 11 = .ok (.invokevirtual 99, 3) := by decide +kernel
theorem dX5_tick_14 : decode cX5_tick 14 = .ok (.aload_n 0, 1) := by decide +kernel
theorem dX5_tick_15 : decode cX5_tick 15 = .ok (.invokevirtual 102, 3) := by decide +kernel
theorem dX5_tick_18 : decode cX5_tick 18 = .ok (.istore_n 1, 1) := by decide +kernel
theorem dX5_tick_19 : decode cX5_tick 19 = .ok (.aload_n 0, 1) := by decide +kernel
theorem dX5_tick_20 : decode cX5_tick 20 = .ok (.getfield 7, 3) := by decide +kernel
theorem dX5_tick_23 : decode cX5_tick 23 = .ok (.bipush 7, 2) := by decide +kernel
theorem dX5_tick_25 : decode cX5_tick 25 = .ok (.iaload, 1) := by decide +kernel
theorem dX5_tick_26 : decode cX5_tick 26 = .ok (.ifCond .le 7, 3) := by decide +kernel
theorem dX5_tick_29 : decode cX5_tick 29 = .ok (.aload_n 0, 1) := by decide +kernel
theorem dX5_tick_30 : decode cX5_tick 30 = .ok (.invokevirtual 106, 3) := by decide +kernel
theorem dX5_tick_33 : decode cX5_tick 33 = .ok (.iload_n 1, 1) := by decide +kernel
theorem dX5_tick_34 : decode cX5_tick 34 = .ok (.ireturn, 1) := by decide +kernel
set_option maxRecDepth 20000 in
theorem ggX5_ticks_X5_tick : GoodIn wsX5_ticks wsX5_tick := goodIn_r _ [5, 6, 7, 8, 9, 4, 10, 11, 12, 13, 14, 15, 16, 17, 18, 19, 20, 21, 22, 23, 24, 25, 26, 27, 28, 29, 30, 31, 32, 33, 34, 35, 36, 37, 38, 39, 40, 41, 42, 43, 44, 45, 46, 47, 48, 49, 50, 51, 52, 53, 54, 55, 56, 57, 58, 59, 60, 61, 62, 63, 64, 65, 66, 67, 68, 69, 70, 71, 72, 73, 74, 75, 76, 77, 78, 79, 80, 81, 82, 83, 84, 85, 86] (by decide +kernel) (by decide +kernel)
set_option maxRecDepth 20000 in
theorem gX5_ticks_X5_tick : GoodIn wsX5_ticks (wsV RX5 109 RX5 yX5_tick wsX5_tick) := goodIn_app (goodIn_of _ (by decide +kernel)) ggX5_ticks_X5_tick
theorem dX5_ticks_0 : decode cX5_ticks 0 = .ok (.iconst 0, 1) := by decide +kernel
theorem dX5_ticks_1 : decode cX5_ticks 1 = .ok (.istore_n 2, 1) := by decide +kernel
theorem dX5_ticks_2 : decode cX5_ticks 2 = .ok (.iconst 0, 1) := by decide +kernel
theorem dX5_ticks_3 : decode cX5_ticks 3 = .ok (.istore_n 3, 1) := by decide +kernel
theorem dX5_ticks_4 : decode cX5_ticks 4 = .ok (.iload_n 3, 1) := by decide +kernel
theorem dX5_ticks_5 : decode cX5_ticks 5 = .ok (.iload_n 1, 1) := by decide +kernel
theorem dX5_ticks_6 : decode cX5_ticks 6 = .ok (.if_icmp .ge 16, 3) := by decide +kernel
theorem dX5_ticks_9 : decode cX5_ticks 9 = .ok (.iload_n 2, 1) := by decide +kernel
theorem dX5_ticks_10 : decode cX5_ticks 10 = .ok (.aload_n 0, 1) := by decide +kernel
theorem dX5_ticks_11 : decode cX5_ticks 11 = .ok (.invokevirtual 109, 3) := by decide +kernel
theorem dX5_ticks_14 : decode cX5_ticks 14 = .ok (.iadd, 1) := by decide +kernel
theorem dX5_ticks_15 : decode cX5_ticks 15 = .ok (.istore_n 2, 1) := by decide +kernel
theorem dX5_ticks_16 : decode cX5_ticks 16 = .ok (.iinc 3 1, 3) := by decide +kernel
theorem dX5_ticks_19 : decode cX5_ticks 19 = .ok (.goto (-15), 3) := by decide +kernel
theorem dX5_ticks_22 : decode cX5_ticks 22 = .ok (.iload_n 2, 1) := by decide +kernel
theorem dX5_ticks_23 : decode cX5_ticks 23 = .ok (.ireturn, 1) := by decide +kernel
set_option maxRecDepth 20000 in
theorem ggX5_house_X5_fails : GoodIn wsX5_house wsX5_fails := goodIn_r _ [7, 1, 20, 21, 22, 23, 24, 25, 26, 27, 28, 29, 30, 31, 32] (by decide +kernel) (by decide +kernel)
set_option maxRecDepth 20000 in
theorem gX5_house_X5_fails : GoodIn wsX5_house (wsV RX5 112 RX5 yX5_fails wsX5_fails) := goodIn_app (goodIn_of _ (by decide +kernel)) ggX5_house_X5_fails
set_option maxRecDepth 20000 in
theorem ggX5_house_X5_saves : GoodIn wsX5_house wsX5_saves := goodIn_r _ [11, 12, 13, 2, 14, 15, 6, 16, 20, 21, 22, 23, 24, 25, 26, 27, 28, 29, 30, 31, 32] (by decide +kernel) (by decide +kernel)
set_option maxRecDepth 20000 in
theorem gX5_house_X5_saves : GoodIn wsX5_house (wsV RX5 115 RX5 yX5_saves wsX5_saves) := goodIn_app (goodIn_of _ (by decide +kernel)) ggX5_house_X5_saves
set_option maxRecDepth 20000 in
theorem ggX5_house_X5_at : GoodIn wsX5_house wsX5_at := goodIn_r _ [19] (by decide +kernel) (by decide +kernel)
set_option maxRecDepth 20000 in
theorem gX5_house_X5_at : GoodIn wsX5_house (va_wsS RX5 50 yX5_at wsX5_at) := goodIn_app (goodIn_of _ (by decide +kernel)) ggX5_house_X5_at
theorem dX5_house_0 : decode cX5_house 0 = .ok (.aload_n 0, 1) := by decide +kernel
theorem dX5_house_1 : decode cX5_house 1 = .ok (.iconst 0, 1) := by decide +kernel
theorem dX5_house_2 : decode cX5_house 2 = .ok (.putfield 28, 3) := by decide +kernel
theorem dX5_house_5 : decode cX5_house 5 = .ok (.aload_n 0, 1) := by decide +kernel
theorem dX5_house_6 : decode cX5_house 6 = .ok (.getfield 7, 3) := by decide +kernel
theorem dX5_house_9 : decode cX5_house 9 = .ok (.iconst 1, 1) := by decide +kernel
theorem dX5_house_10 : decode cX5_house 10 = .ok (.iaload, 1) := by decide +kernel
theorem dX5_house_11 : decode cX5_house 11 = .ok (.iconst 4, 1) := by decide +kernel
theorem dX5_house_12 : decode cX5_house 12 = .ok (.if_icmp .ne 9, 3) := by decide +kernel
theorem dX5_house_15 : decode cX5_house 15 = .ok (.aload_n 0, 1) := by decide +kernel
theorem dX5_house_16 : decode cX5_house 16 = .ok (.iconst 1, 1) := by decide +kernel
theorem dX5_house_17 : decode cX5_house 17 = .ok (.invokevirtual 112, 3) := by decide +kernel
theorem dX5_house_20 : decode cX5_house 20 = .ok (.ireturn, 1) := by decide +kernel
theorem dX5_house_21 : decode cX5_house 21 = .ok (.aload_n 0, 1) := by decide +kernel
theorem dX5_house_22 : decode cX5_house 22 = .ok (.invokevirtual 115, 3) := by decide +kernel
theorem dX5_house_25 : decode cX5_house 25 = .ok (.aload_n 0, 1) := by decide +kernel
theorem dX5_house_26 : decode cX5_house 26 = .ok (.getfield 7, 3) := by decide +kernel
theorem dX5_house_29 : decode cX5_house 29 = .ok (.iconst 1, 1) := by decide +kernel
theorem dX5_house_30 : decode cX5_house 30 = .ok (.iaload, 1) := by decide +kernel
theorem dX5_house_31 : decode cX5_house 31 = .ok (.iconst 0, 1) := by decide +kernel
theorem dX5_house_32 : decode cX5_house 32 = .ok (.invokestatic 50, 3) := by decide +kernel
theorem dX5_house_35 : decode cX5_house 35 = .ok (.istore_n 1, 1) := by decide +kernel
theorem dX5_house_36 : decode cX5_house 36 = .ok (.iload_n 1, 1) := by decide +kernel
theorem dX5_house_37 : decode cX5_house 37 = .ok (.aload_n 0, 1) := by decide +kernel
theorem dX5_house_38 : decode cX5_house 38 = .ok (.getfield 7, 3) := by decide +kernel
theorem dX5_house_41 : decode cX5_house 41 = .ok (.iconst 1, 1) := by decide +kernel
theorem dX5_house_42 : decode cX5_house 42 = .ok (.iaload, 1) := by decide +kernel
theorem dX5_house_43 : decode cX5_house 43 = .ok (.iconst 1, 1) := by decide +kernel
theorem dX5_house_44 : decode cX5_house 44 = .ok (.iadd, 1) := by decide +kernel
theorem dX5_house_45 : decode cX5_house 45 = .ok (.iconst 0, 1) := by decide +kernel
theorem dX5_house_46 : decode cX5_house 46 = .ok (.invokestatic 50, 3) := by decide +kernel
theorem dX5_house_49 : decode cX5_house 49 = .ok (.if_icmp .ge 16, 3) := by decide +kernel
theorem dX5_house_52 : decode cX5_house 52 = .ok (.aload_n 0, 1) := by decide +kernel
theorem dX5_house_53 : decode cX5_house 53 = .ok (.getfield 7, 3) := by decide +kernel
theorem dX5_house_56 : decode cX5_house 56 = .ok (.iload_n 1, 1) := by decide +kernel
theorem dX5_house_57 : decode cX5_house 57 = .ok (.iconst 0, 1) := by decide +kernel
theorem dX5_house_58 : decode cX5_house 58 = .ok (.iastore, 1) := by decide +kernel
theorem dX5_house_59 : decode cX5_house 59 = .ok (.iinc 1 1, 3) := by decide +kernel
theorem dX5_house_62 : decode cX5_house 62 = .ok (.goto (-26), 3) := by decide +kernel
theorem dX5_house_65 : decode cX5_house 65 = .ok (.aload_n 0, 1) := by decide +kernel
theorem dX5_house_66 : decode cX5_house 66 = .ok (.getfield 7, 3) := by decide +kernel
theorem dX5_house_69 : decode cX5_house 69 = .ok (.iconst 1, 1) := by decide +kernel
theorem dX5_house_70 : decode cX5_house 70 = .ok (.dup2, 1) := by decide +kernel
theorem dX5_house_71 : decode cX5_house 71 = .ok (.iaload, 1) := by decide +kernel
theorem dX5_house_72 : decode cX5_house 72 = .ok (.iconst 1, 1) := by decide +kernel
theorem dX5_house_73 : decode cX5_house 73 = .ok (.iadd, 1) := by decide +kernel
theorem dX5_house_74 : decode cX5_house 74 = .ok (.iastore, 1) := by decide +kernel
theorem dX5_house_75 : decode cX5_house 75 = .ok (.aload_n 0, 1) := by decide +kernel
theorem dX5_house_76 : decode cX5_house 76 = .ok (.getfield 7, 3) := by decide +kernel
theorem dX5_house_79 : decode cX5_house 79 = .ok (.iconst 1, 1) := by decide +kernel
theorem dX5_house_80 : decode cX5_house 80 = .ok (.iaload, 1) := by decide +kernel
theorem dX5_house_81 : decode cX5_house 81 = .ok (.iconst 1, 1) := by decide +kernel
theorem dX5_house_82 : decode cX5_house 82 = .ok (.isub, 1) := by decide +kernel
theorem dX5_house_83 : decode cX5_house 83 = .ok (.ireturn, 1) := by decide +kernel
set_option maxRecDepth 20000 in
theorem ggX5_bottles_X5_isKind : GoodIn wsX5_bottles wsX5_isKind := goodIn_r _ [6, 7, 8, 5, 9] (by decide +kernel) (by decide +kernel)
set_option maxRecDepth 20000 in
theorem gX5_bottles_X5_isKind : GoodIn wsX5_bottles (va_wsS RX5 47 yX5_isKind wsX5_isKind) := goodIn_app (goodIn_of _ (by decide +kernel)) ggX5_bottles_X5_isKind
set_option maxRecDepth 20000 in
theorem ggX5_bottles_X5_fails : GoodIn wsX5_bottles wsX5_fails := goodIn_r _ [13, 1, 42, 43, 44, 45, 46, 47, 48, 49, 50, 51, 52, 53, 54] (by decide +kernel) (by decide +kernel)
set_option maxRecDepth 20000 in
theorem gX5_bottles_X5_fails : GoodIn wsX5_bottles (wsV RX5 112 RX5 yX5_fails wsX5_fails) := goodIn_app (goodIn_of _ (by decide +kernel)) ggX5_bottles_X5_fails
set_option maxRecDepth 20000 in
theorem ggX5_bottles_X5_in : GoodIn wsX5_bottles wsX5_in := goodIn_r _ [9] (by decide +kernel) (by decide +kernel)
set_option maxRecDepth 20000 in
theorem gX5_bottles_X5_in : GoodIn wsX5_bottles (va_wsS RX5 39 yX5_in wsX5_in) := goodIn_app (goodIn_of _ (by decide +kernel)) ggX5_bottles_X5_in
set_option maxRecDepth 20000 in
theorem ggX5_bottles_X5_ofKind : GoodIn wsX5_bottles wsX5_ofKind := goodIn_r _ [17, 2, 42, 43, 44, 45, 46, 47, 48, 49, 50, 51, 52, 53, 54] (by decide +kernel) (by decide +kernel)
set_option maxRecDepth 20000 in
theorem gX5_bottles_X5_ofKind : GoodIn wsX5_bottles (wsV RX5 61 RX5 yX5_ofKind wsX5_ofKind) := goodIn_app (goodIn_of _ (by decide +kernel)) ggX5_bottles_X5_ofKind
set_option maxRecDepth 20000 in
theorem ggX5_bottles_X5_outIn : GoodIn wsX5_bottles wsX5_outIn := goodIn_r _ [21, 2, 22, 23, 24, 5, 25, 26, 27, 28, 29, 30, 31, 32, 42, 43, 44, 45, 46, 47, 48, 49, 50, 51, 52, 53, 54] (by decide +kernel) (by decide +kernel)
set_option maxRecDepth 20000 in
theorem gX5_bottles_X5_outIn : GoodIn wsX5_bottles (wsV RX5 64 RX5 yX5_outIn wsX5_outIn) := goodIn_app (goodIn_of _ (by decide +kernel)) ggX5_bottles_X5_outIn
set_option maxRecDepth 20000 in
theorem ggX5_bottles_X5_saves : GoodIn wsX5_bottles wsX5_saves := goodIn_r _ [36, 37, 38, 2, 39, 40, 5, 41, 42, 43, 44, 45, 46, 47, 48, 49, 50, 51, 52, 53, 54] (by decide +kernel) (by decide +kernel)
set_option maxRecDepth 20000 in
theorem gX5_bottles_X5_saves : GoodIn wsX5_bottles (wsV RX5 115 RX5 yX5_saves wsX5_saves) := goodIn_app (goodIn_of _ (by decide +kernel)) ggX5_bottles_X5_saves
theorem dX5_bottles_0 : decode cX5_bottles 0 = .ok (.aload_n 0, 1) := by decide +kernel
theorem dX5_bottles_1 : decode cX5_bottles 1 = .ok (.iconst 0, 1) := by decide +kernel
theorem dX5_bottles_2 : decode cX5_bottles 2 = .ok (.putfield 28, 3) := by decide +kernel
theorem dX5_bottles_5 : decode cX5_bottles 5 = .ok (.iload_n 1, 1) := by decide +kernel
theorem dX5_bottles_6 : decode cX5_bottles 6 = .ok (.invokestatic 47, 3) := by decide +kernel
theorem dX5_bottles_9 : decode cX5_bottles 9 = .ok (.ifCond .ne 9, 3) := by decide +kernel
theorem dX5_bottles_12 : decode cX5_bottles 12 = .ok (.aload_n 0, 1) := by decide +kernel
theorem dX5_bottles_13 : decode cX5_bottles 13 = .ok (.iconst 1, 1) := by decide +kernel
theorem dX5_bottles_14 : decode cX5_bottles 14 = .ok (.invokevirtual 112, 3) := by decide +kernel
theorem dX5_bottles_17 : decode cX5_bottles 17 = .ok (.ireturn, 1) := by decide +kernel
theorem dX5_bottles_18 : decode cX5_bottles 18 = .ok (.iload_n 2, 1) := by decide +kernel
theorem dX5_bottles_19 : decode cX5_bottles 19 = .ok (.iconst 0, 1) := by decide +kernel
theorem dX5_bottles_20 : decode cX5_bottles 20 = .ok (.bipush 20, 2) := by decide +kernel
theorem dX5_bottles_22 : decode cX5_bottles 22 = .ok (.invokestatic 39, 3) := by decide +kernel
theorem dX5_bottles_25 : decode cX5_bottles 25 = .ok (.ifCond .ne 9, 3) := by decide +kernel
theorem dX5_bottles_28 : decode cX5_bottles 28 = .ok (.aload_n 0, 1) := by decide +kernel
theorem dX5_bottles_29 : decode cX5_bottles 29 = .ok (.iconst 2, 1) := by decide +kernel
theorem dX5_bottles_30 : decode cX5_bottles 30 = .ok (.invokevirtual 112, 3) := by decide +kernel
theorem dX5_bottles_33 : decode cX5_bottles 33 = .ok (.ireturn, 1) := by decide +kernel
theorem dX5_bottles_34 : decode cX5_bottles 34 = .ok (.iload_n 2, 1) := by decide +kernel
theorem dX5_bottles_35 : decode cX5_bottles 35 = .ok (.aload_n 0, 1) := by decide +kernel
theorem dX5_bottles_36 : decode cX5_bottles 36 = .ok (.iload_n 1, 1) := by decide +kernel
theorem dX5_bottles_37 : decode cX5_bottles 37 = .ok (.iconst 1, 1) := by decide +kernel
theorem dX5_bottles_38 : decode cX5_bottles 38 = .ok (.invokevirtual 61, 3) := by decide +kernel
theorem dX5_bottles_41 : decode cX5_bottles 41 = .ok (.aload_n 0, 1) := by decide +kernel
theorem dX5_bottles_42 : decode cX5_bottles 42 = .ok (.iload_n 1, 1) := by decide +kernel
theorem dX5_bottles_43 : decode cX5_bottles 43 = .ok (.invokevirtual 64, 3) := by decide +kernel
theorem dX5_bottles_46 : decode cX5_bottles 46 = .ok (.iadd, 1) := by decide +kernel
theorem dX5_bottles_47 : decode cX5_bottles 47 = .ok (.if_icmp .ge 9, 3) := by decide +kernel
theorem dX5_bottles_50 : decode cX5_bottles 50 = .ok (.aload_n 0, 1) := by decide +kernel
theorem dX5_bottles_51 : decode cX5_bottles 51 = .ok (.iconst 3, 1) := by decide +kernel
theorem dX5_bottles_52 : decode cX5_bottles 52 = .ok (.invokevirtual 112, 3) := by decide +kernel
theorem dX5_bottles_55 : decode cX5_bottles 55 = .ok (.ireturn, 1) := by decide +kernel
theorem dX5_bottles_56 : decode cX5_bottles 56 = .ok (.aload_n 0, 1) := by decide +kernel
theorem dX5_bottles_57 : decode cX5_bottles 57 = .ok (.invokevirtual 115, 3) := by decide +kernel
theorem dX5_bottles_60 : decode cX5_bottles 60 = .ok (.aload_n 0, 1) := by decide +kernel
theorem dX5_bottles_61 : decode cX5_bottles 61 = .ok (.iload_n 1, 1) := by decide +kernel
theorem dX5_bottles_62 : decode cX5_bottles 62 = .ok (.iconst 0, 1) := by decide +kernel
theorem dX5_bottles_63 : decode cX5_bottles 63 = .ok (.invokevirtual 61, 3) := by decide +kernel
theorem dX5_bottles_66 : decode cX5_bottles 66 = .ok (.istore_n 3, 1) := by decide +kernel
theorem dX5_bottles_67 : decode cX5_bottles 67 = .ok (.aload_n 0, 1) := by decide +kernel
theorem dX5_bottles_68 : decode cX5_bottles 68 = .ok (.getfield 7, 3) := by decide +kernel
theorem dX5_bottles_71 : decode cX5_bottles 71 = .ok (.bipush 8, 2) := by decide +kernel
theorem dX5_bottles_73 : decode cX5_bottles 73 = .ok (.iconst 5, 1) := by decide +kernel
theorem dX5_bottles_74 : decode cX5_bottles 74 = .ok (.iload_n 1, 1) := by decide +kernel
theorem dX5_bottles_75 : decode cX5_bottles 75 = .ok (.imul, 1) := by decide +kernel
theorem dX5_bottles_76 : decode cX5_bottles 76 = .ok (.iadd, 1) := by decide +kernel
theorem dX5_bottles_77 : decode cX5_bottles 77 = .ok (.iconst 0, 1) := by decide +kernel
theorem dX5_bottles_78 : decode cX5_bottles 78 = .ok (.iadd, 1) := by decide +kernel
theorem dX5_bottles_79 : decode cX5_bottles 79 = .ok (.iload_n 2, 1) := by decide +kernel
theorem dX5_bottles_80 : decode cX5_bottles 80 = .ok (.iastore, 1) := by decide +kernel
theorem dX5_bottles_81 : decode cX5_bottles 81 = .ok (.iload_n 3, 1) := by decide +kernel
theorem dX5_bottles_82 : decode cX5_bottles 82 = .ok (.ireturn, 1) := by decide +kernel
set_option maxRecDepth 20000 in
theorem ggX5_canLend_X5_free : GoodIn wsX5_canLend wsX5_free := goodIn_r _ [5, 6, 7, 8, 4, 9, 10, 11, 12, 13, 14, 15, 16, 17, 18, 19, 20, 21, 22, 23, 24, 25, 30, 31, 32, 33, 34, 35, 36, 37, 38, 39, 40, 41, 42] (by decide +kernel) (by decide +kernel)
set_option maxRecDepth 20000 in
theorem gX5_canLend_X5_free : GoodIn wsX5_canLend (wsV RX5 92 RX5 yX5_free wsX5_free) := goodIn_app (goodIn_of _ (by decide +kernel)) ggX5_canLend_X5_free
set_option maxRecDepth 20000 in
theorem ggX5_canLend_X5_hasRoom : GoodIn wsX5_canLend wsX5_hasRoom := goodIn_r _ [29, 10, 30, 31, 32, 33, 34, 35, 36, 37, 38, 39, 40, 41, 42] (by decide +kernel) (by decide +kernel)
set_option maxRecDepth 20000 in
theorem gX5_canLend_X5_hasRoom : GoodIn wsX5_canLend (wsV RX5 85 RX5 yX5_hasRoom wsX5_hasRoom) := goodIn_app (goodIn_of _ (by decide +kernel)) ggX5_canLend_X5_hasRoom
theorem dX5_canLend_0 : decode cX5_canLend 0 = .ok (.aload_n 0, 1) := by decide +kernel
theorem dX5_canLend_1 : decode cX5_canLend 1 = .ok (.iload_n 1, 1) := by decide +kernel
theorem dX5_canLend_2 : decode cX5_canLend 2 = .ok (.invokevirtual 92, 3) := by decide +kernel
theorem dX5_canLend_5 : decode cX5_canLend 5 = .ok (.ifCond .le 14, 3) := by decide +kernel
theorem dX5_canLend_8 : decode cX5_canLend 8 = .ok (.aload_n 0, 1) := by decide +kernel
theorem dX5_canLend_9 : decode cX5_canLend 9 = .ok (.invokevirtual 85, 3) := by decide +kernel
theorem dX5_canLend_12 : decode cX5_canLend 12 = .ok (.ifCond .eq 7, 3) := by decide +kernel
theorem dX5_canLend_15 : decode cX5_canLend 15 = .ok (.iconst 1, 1) := by decide +kernel
theorem dX5_canLend_16 : decode cX5_canLend 16 = .ok (.goto 4, 3) := by decide +kernel
theorem dX5_canLend_19 : decode cX5_canLend 19 = .ok (.iconst 0, 1) := by decide +kernel
theorem dX5_canLend_20 : decode cX5_canLend 20 = .ok (.ireturn, 1) := by decide +kernel
set_option maxRecDepth 20000 in
theorem ggX5_lend_X5_isPair : GoodIn wsX5_lend wsX5_isPair := goodIn_r _ [6, 7, 8, 9, 5, 10, 11, 12, 13, 14, 15, 16, 17, 70, 71, 72, 73, 74, 75, 76, 77, 78, 79, 80, 81, 82] (by decide +kernel) (by decide +kernel)
set_option maxRecDepth 20000 in
theorem gX5_lend_X5_isPair : GoodIn wsX5_lend (wsV RX5 118 RX5 yX5_isPair wsX5_isPair) := goodIn_app (goodIn_of _ (by decide +kernel)) ggX5_lend_X5_isPair
set_option maxRecDepth 20000 in
theorem ggX5_lend_X5_fails : GoodIn wsX5_lend wsX5_fails := goodIn_r _ [21, 1, 70, 71, 72, 73, 74, 75, 76, 77, 78, 79, 80, 81, 82] (by decide +kernel) (by decide +kernel)
set_option maxRecDepth 20000 in
theorem gX5_lend_X5_fails : GoodIn wsX5_lend (wsV RX5 112 RX5 yX5_fails wsX5_fails) := goodIn_app (goodIn_of _ (by decide +kernel)) ggX5_lend_X5_fails
set_option maxRecDepth 20000 in
theorem ggX5_lend_X5_canLend : GoodIn wsX5_lend wsX5_canLend := goodIn_r _ [25, 26, 27, 28, 5, 29, 30, 31, 32, 33, 11, 34, 35, 36, 37, 38, 39, 40, 41, 42, 43, 44, 45, 46, 47, 48, 49, 50, 51, 52, 70, 71, 72, 73, 74, 75, 76, 77, 78, 79, 80, 81, 82] (by decide +kernel) (by decide +kernel)
set_option maxRecDepth 20000 in
theorem gX5_lend_X5_canLend : GoodIn wsX5_lend (wsV RX5 122 RX5 yX5_canLend wsX5_canLend) := goodIn_app (goodIn_of _ (by decide +kernel)) ggX5_lend_X5_canLend
set_option maxRecDepth 20000 in
theorem ggX5_lend_X5_saves : GoodIn wsX5_lend wsX5_saves := goodIn_r _ [56, 57, 58, 11, 59, 60, 5, 61, 70, 71, 72, 73, 74, 75, 76, 77, 78, 79, 80, 81, 82] (by decide +kernel) (by decide +kernel)
set_option maxRecDepth 20000 in
theorem gX5_lend_X5_saves : GoodIn wsX5_lend (wsV RX5 115 RX5 yX5_saves wsX5_saves) := goodIn_app (goodIn_of _ (by decide +kernel)) ggX5_lend_X5_saves
set_option maxRecDepth 20000 in
theorem ggX5_lend_X5_lendsOne : GoodIn wsX5_lend wsX5_lendsOne := goodIn_r _ [65, 11, 46, 47, 5, 48, 42, 43, 44, 45, 66, 67, 68, 69, 70, 71, 72, 73, 74, 75, 76, 77, 78, 79, 80, 81, 82] (by decide +kernel) (by decide +kernel)
set_option maxRecDepth 20000 in
theorem gX5_lend_X5_lendsOne : GoodIn wsX5_lend (wsV RX5 95 RX5 yX5_lendsOne wsX5_lendsOne) := goodIn_app (goodIn_of _ (by decide +kernel)) ggX5_lend_X5_lendsOne
set_option maxRecDepth 20000 in
theorem ggX5_lend_X5_outOf : GoodIn wsX5_lend wsX5_outOf := goodIn_r _ [41, 42, 43, 44, 5, 45, 11, 46, 47, 48, 70, 71, 72, 73, 74, 75, 76, 77, 78, 79, 80, 81, 82] (by decide +kernel) (by decide +kernel)
set_option maxRecDepth 20000 in
theorem gX5_lend_X5_outOf : GoodIn wsX5_lend (wsV RX5 58 RX5 yX5_outOf wsX5_outOf) := goodIn_app (goodIn_of _ (by decide +kernel)) ggX5_lend_X5_outOf
theorem dX5_lend_0 : decode cX5_lend 0 = .ok (.aload_n 0, 1) := by decide +kernel
theorem dX5_lend_1 : decode cX5_lend 1 = .ok (.iconst 0, 1) := by decide +kernel
theorem dX5_lend_2 : decode cX5_lend 2 = .ok (.putfield 28, 3) := by decide +kernel
theorem dX5_lend_5 : decode cX5_lend 5 = .ok (.aload_n 0, 1) := by decide +kernel
theorem dX5_lend_6 : decode cX5_lend 6 = .ok (.iload_n 1, 1) := by decide +kernel
theorem dX5_lend_7 : decode cX5_lend 7 = .ok (.iload_n 2, 1) := by decide +kernel
theorem dX5_lend_8 : decode cX5_lend 8 = .ok (.invokevirtual 118, 3) := by decide +kernel
theorem dX5_lend_11 : decode cX5_lend 11 = .ok (.ifCond .ne 9, 3) := by decide +kernel
theorem dX5_lend_14 : decode cX5_lend 14 = .ok (.aload_n 0, 1) := by decide +kernel
theorem dX5_lend_15 : decode cX5_lend 15 = .ok (.iconst 1, 1) := by decide +kernel
theorem dX5_lend_16 : decode cX5_lend 16 = .ok (.invokevirtual 112, 3) := by decide +kernel
theorem dX5_lend_19 : decode cX5_lend 19 = .ok (.ireturn, 1) := by decide +kernel
theorem dX5_lend_20 : decode cX5_lend 20 = .ok (.aload_n 0, 1) := by decide +kernel
theorem dX5_lend_21 : decode cX5_lend 21 = .ok (.iload_n 2, 1) := by decide +kernel
theorem dX5_lend_22 : decode cX5_lend 22 = .ok (.invokevirtual 122, 3) := by decide +kernel
theorem dX5_lend_25 : decode cX5_lend 25 = .ok (.ifCond .ne 9, 3) := by decide +kernel
theorem dX5_lend_28 : decode cX5_lend 28 = .ok (.aload_n 0, 1) := by decide +kernel
theorem dX5_lend_29 : decode cX5_lend 29 = .ok (.iconst 2, 1) := by decide +kernel
theorem dX5_lend_30 : decode cX5_lend 30 = .ok (.invokevirtual 112, 3) := by decide +kernel
theorem dX5_lend_33 : decode cX5_lend 33 = .ok (.ireturn, 1) := by decide +kernel
theorem dX5_lend_34 : decode cX5_lend 34 = .ok (.aload_n 0, 1) := by decide +kernel
theorem dX5_lend_35 : decode cX5_lend 35 = .ok (.invokevirtual 115, 3) := by decide +kernel
theorem dX5_lend_38 : decode cX5_lend 38 = .ok (.aload_n 0, 1) := by decide +kernel
theorem dX5_lend_39 : decode cX5_lend 39 = .ok (.iload_n 1, 1) := by decide +kernel
theorem dX5_lend_40 : decode cX5_lend 40 = .ok (.iload_n 2, 1) := by decide +kernel
theorem dX5_lend_41 : decode cX5_lend 41 = .ok (.invokevirtual 95, 3) := by decide +kernel
theorem dX5_lend_44 : decode cX5_lend 44 = .ok (.aload_n 0, 1) := by decide +kernel
theorem dX5_lend_45 : decode cX5_lend 45 = .ok (.iload_n 1, 1) := by decide +kernel
theorem dX5_lend_46 : decode cX5_lend 46 = .ok (.iload_n 2, 1) := by decide +kernel
theorem dX5_lend_47 : decode cX5_lend 47 = .ok (.invokevirtual 58, 3) := by decide +kernel
theorem dX5_lend_50 : decode cX5_lend 50 = .ok (.ireturn, 1) := by decide +kernel
set_option maxRecDepth 20000 in
theorem ggX5_asks_X5_of : GoodIn wsX5_asks wsX5_of := goodIn_r _ [5, 6, 7, 8, 4, 9, 14, 15, 16, 17, 18, 19, 20, 21, 22, 23, 24, 25, 26] (by decide +kernel) (by decide +kernel)
set_option maxRecDepth 20000 in
theorem gX5_asks_X5_of : GoodIn wsX5_asks (wsV RX5 54 RX5 yX5_of wsX5_of) := goodIn_app (goodIn_of _ (by decide +kernel)) ggX5_asks_X5_of
set_option maxRecDepth 20000 in
theorem ggX5_asks_X5_sends : GoodIn wsX5_asks wsX5_sends := goodIn_r _ [13, 6, 14, 15, 16, 17, 18, 19, 20, 21, 22, 23, 24, 25, 26] (by decide +kernel) (by decide +kernel)
set_option maxRecDepth 20000 in
theorem gX5_asks_X5_sends : GoodIn wsX5_asks (wsV RX5 76 RX5 yX5_sends wsX5_sends) := goodIn_app (goodIn_of _ (by decide +kernel)) ggX5_asks_X5_sends
theorem dX5_asks_0 : decode cX5_asks 0 = .ok (.aload_n 0, 1) := by decide +kernel
theorem dX5_asks_1 : decode cX5_asks 1 = .ok (.iconst 2, 1) := by decide +kernel
theorem dX5_asks_2 : decode cX5_asks 2 = .ok (.iload_n 1, 1) := by decide +kernel
theorem dX5_asks_3 : decode cX5_asks 3 = .ok (.iload_n 2, 1) := by decide +kernel
theorem dX5_asks_4 : decode cX5_asks 4 = .ok (.aload_n 0, 1) := by decide +kernel
theorem dX5_asks_5 : decode cX5_asks 5 = .ok (.iload_n 1, 1) := by decide +kernel
theorem dX5_asks_6 : decode cX5_asks 6 = .ok (.iload_n 2, 1) := by decide +kernel
theorem dX5_asks_7 : decode cX5_asks 7 = .ok (.iconst 0, 1) := by decide +kernel
theorem dX5_asks_8 : decode cX5_asks 8 = .ok (.invokevirtual 54, 3) := by decide +kernel
theorem dX5_asks_11 : decode cX5_asks 11 = .ok (.invokevirtual 76, 3) := by decide +kernel
theorem dX5_asks_14 : decode cX5_asks 14 = .ok (.return_, 1) := by decide +kernel
set_option maxRecDepth 20000 in
theorem ggX5_ask_X5_isPair : GoodIn wsX5_ask wsX5_isPair := goodIn_r _ [7, 8, 9, 10, 6, 11, 2, 12, 13, 14, 15, 16, 17, 50, 51, 52, 53, 54, 55, 56, 57, 58, 59, 60, 61, 62] (by decide +kernel) (by decide +kernel)
set_option maxRecDepth 20000 in
theorem gX5_ask_X5_isPair : GoodIn wsX5_ask (wsV RX5 118 RX5 yX5_isPair wsX5_isPair) := goodIn_app (goodIn_of _ (by decide +kernel)) ggX5_ask_X5_isPair
set_option maxRecDepth 20000 in
theorem ggX5_ask_X5_fails : GoodIn wsX5_ask wsX5_fails := goodIn_r _ [21, 1, 50, 51, 52, 53, 54, 55, 56, 57, 58, 59, 60, 61, 62] (by decide +kernel) (by decide +kernel)
set_option maxRecDepth 20000 in
theorem gX5_ask_X5_fails : GoodIn wsX5_ask (wsV RX5 112 RX5 yX5_fails wsX5_fails) := goodIn_app (goodIn_of _ (by decide +kernel)) ggX5_ask_X5_fails
set_option maxRecDepth 20000 in
theorem ggX5_ask_X5_hasRoom : GoodIn wsX5_ask wsX5_hasRoom := goodIn_r _ [25, 2, 50, 51, 52, 53, 54, 55, 56, 57, 58, 59, 60, 61, 62] (by decide +kernel) (by decide +kernel)
set_option maxRecDepth 20000 in
theorem gX5_ask_X5_hasRoom : GoodIn wsX5_ask (wsV RX5 85 RX5 yX5_hasRoom wsX5_hasRoom) := goodIn_app (goodIn_of _ (by decide +kernel)) ggX5_ask_X5_hasRoom
set_option maxRecDepth 20000 in
theorem ggX5_ask_X5_saves : GoodIn wsX5_ask wsX5_saves := goodIn_r _ [29, 30, 31, 2, 32, 33, 6, 34, 50, 51, 52, 53, 54, 55, 56, 57, 58, 59, 60, 61, 62] (by decide +kernel) (by decide +kernel)
set_option maxRecDepth 20000 in
theorem gX5_ask_X5_saves : GoodIn wsX5_ask (wsV RX5 115 RX5 yX5_saves wsX5_saves) := goodIn_app (goodIn_of _ (by decide +kernel)) ggX5_ask_X5_saves
set_option maxRecDepth 20000 in
theorem ggX5_ask_X5_asks : GoodIn wsX5_ask wsX5_asks := goodIn_r _ [38, 39, 40, 41, 6, 42, 2, 43, 44, 45, 46, 47, 48, 49, 50, 51, 52, 53, 54, 55, 56, 57, 58, 59, 60, 61, 62] (by decide +kernel) (by decide +kernel)
set_option maxRecDepth 20000 in
theorem gX5_ask_X5_asks : GoodIn wsX5_ask (wsV RX5 125 RX5 yX5_asks wsX5_asks) := goodIn_app (goodIn_of _ (by decide +kernel)) ggX5_ask_X5_asks
theorem dX5_ask_0 : decode cX5_ask 0 = .ok (.aload_n 0, 1) := by decide +kernel
theorem dX5_ask_1 : decode cX5_ask 1 = .ok (.iconst 0, 1) := by decide +kernel
theorem dX5_ask_2 : decode cX5_ask 2 = .ok (.putfield 28, 3) := by decide +kernel
theorem dX5_ask_5 : decode cX5_ask 5 = .ok (.aload_n 0, 1) := by decide +kernel
theorem dX5_ask_6 : decode cX5_ask 6 = .ok (.iload_n 1, 1) := by decide +kernel
theorem dX5_ask_7 : decode cX5_ask 7 = .ok (.iload_n 2, 1) := by decide +kernel
theorem dX5_ask_8 : decode cX5_ask 8 = .ok (.invokevirtual 118, 3) := by decide +kernel
theorem dX5_ask_11 : decode cX5_ask 11 = .ok (.ifCond .ne 9, 3) := by decide +kernel
theorem dX5_ask_14 : decode cX5_ask 14 = .ok (.aload_n 0, 1) := by decide +kernel
theorem dX5_ask_15 : decode cX5_ask 15 = .ok (.iconst 1, 1) := by decide +kernel
theorem dX5_ask_16 : decode cX5_ask 16 = .ok (.invokevirtual 112, 3) := by decide +kernel
theorem dX5_ask_19 : decode cX5_ask 19 = .ok (.ireturn, 1) := by decide +kernel
theorem dX5_ask_20 : decode cX5_ask 20 = .ok (.aload_n 0, 1) := by decide +kernel
theorem dX5_ask_21 : decode cX5_ask 21 = .ok (.invokevirtual 85, 3) := by decide +kernel
theorem dX5_ask_24 : decode cX5_ask 24 = .ok (.ifCond .ne 9, 3) := by decide +kernel
theorem dX5_ask_27 : decode cX5_ask 27 = .ok (.aload_n 0, 1) := by decide +kernel
theorem dX5_ask_28 : decode cX5_ask 28 = .ok (.iconst 2, 1) := by decide +kernel
theorem dX5_ask_29 : decode cX5_ask 29 = .ok (.invokevirtual 112, 3) := by decide +kernel
theorem dX5_ask_32 : decode cX5_ask 32 = .ok (.ireturn, 1) := by decide +kernel
theorem dX5_ask_33 : decode cX5_ask 33 = .ok (.aload_n 0, 1) := by decide +kernel
theorem dX5_ask_34 : decode cX5_ask 34 = .ok (.invokevirtual 115, 3) := by decide +kernel
theorem dX5_ask_37 : decode cX5_ask 37 = .ok (.aload_n 0, 1) := by decide +kernel
theorem dX5_ask_38 : decode cX5_ask 38 = .ok (.iload_n 1, 1) := by decide +kernel
theorem dX5_ask_39 : decode cX5_ask 39 = .ok (.iload_n 2, 1) := by decide +kernel
theorem dX5_ask_40 : decode cX5_ask 40 = .ok (.invokevirtual 125, 3) := by decide +kernel
theorem dX5_ask_43 : decode cX5_ask 43 = .ok (.aload_n 0, 1) := by decide +kernel
theorem dX5_ask_44 : decode cX5_ask 44 = .ok (.getfield 7, 3) := by decide +kernel
theorem dX5_ask_47 : decode cX5_ask 47 = .ok (.iconst 4, 1) := by decide +kernel
theorem dX5_ask_48 : decode cX5_ask 48 = .ok (.iaload, 1) := by decide +kernel
theorem dX5_ask_49 : decode cX5_ask 49 = .ok (.ireturn, 1) := by decide +kernel
set_option maxRecDepth 20000 in
theorem ggX5_want_X5_isPair : GoodIn wsX5_want wsX5_isPair := goodIn_r _ [7, 8, 9, 10, 6, 11, 2, 12, 13, 14, 15, 16, 17, 38, 39, 40, 41, 42, 43, 44, 45, 46, 47, 48, 49, 50] (by decide +kernel) (by decide +kernel)
set_option maxRecDepth 20000 in
theorem gX5_want_X5_isPair : GoodIn wsX5_want (wsV RX5 118 RX5 yX5_isPair wsX5_isPair) := goodIn_app (goodIn_of _ (by decide +kernel)) ggX5_want_X5_isPair
set_option maxRecDepth 20000 in
theorem ggX5_want_X5_fails : GoodIn wsX5_want wsX5_fails := goodIn_r _ [21, 1, 38, 39, 40, 41, 42, 43, 44, 45, 46, 47, 48, 49, 50] (by decide +kernel) (by decide +kernel)
set_option maxRecDepth 20000 in
theorem gX5_want_X5_fails : GoodIn wsX5_want (wsV RX5 112 RX5 yX5_fails wsX5_fails) := goodIn_app (goodIn_of _ (by decide +kernel)) ggX5_want_X5_fails
set_option maxRecDepth 20000 in
theorem ggX5_want_X5_of : GoodIn wsX5_want wsX5_of := goodIn_r _ [25, 2, 26, 27, 6, 28, 38, 39, 40, 41, 42, 43, 44, 45, 46, 47, 48, 49, 50] (by decide +kernel) (by decide +kernel)
set_option maxRecDepth 20000 in
theorem gX5_want_X5_of : GoodIn wsX5_want (wsV RX5 54 RX5 yX5_of wsX5_of) := goodIn_app (goodIn_of _ (by decide +kernel)) ggX5_want_X5_of
set_option maxRecDepth 20000 in
theorem ggX5_want_X5_saves : GoodIn wsX5_want wsX5_saves := goodIn_r _ [32, 33, 34, 2, 35, 36, 6, 37, 38, 39, 40, 41, 42, 43, 44, 45, 46, 47, 48, 49, 50] (by decide +kernel) (by decide +kernel)
set_option maxRecDepth 20000 in
theorem gX5_want_X5_saves : GoodIn wsX5_want (wsV RX5 115 RX5 yX5_saves wsX5_saves) := goodIn_app (goodIn_of _ (by decide +kernel)) ggX5_want_X5_saves
set_option maxRecDepth 20000 in
theorem ggX5_want_X5_at : GoodIn wsX5_want wsX5_at := goodIn_r _ [28] (by decide +kernel) (by decide +kernel)
set_option maxRecDepth 20000 in
theorem gX5_want_X5_at : GoodIn wsX5_want (va_wsS RX5 50 yX5_at wsX5_at) := goodIn_app (goodIn_of _ (by decide +kernel)) ggX5_want_X5_at
theorem dX5_want_0 : decode cX5_want 0 = .ok (.aload_n 0, 1) := by decide +kernel
theorem dX5_want_1 : decode cX5_want 1 = .ok (.iconst 0, 1) := by decide +kernel
theorem dX5_want_2 : decode cX5_want 2 = .ok (.putfield 28, 3) := by decide +kernel
theorem dX5_want_5 : decode cX5_want 5 = .ok (.aload_n 0, 1) := by decide +kernel
theorem dX5_want_6 : decode cX5_want 6 = .ok (.iload_n 1, 1) := by decide +kernel
theorem dX5_want_7 : decode cX5_want 7 = .ok (.iload_n 2, 1) := by decide +kernel
theorem dX5_want_8 : decode cX5_want 8 = .ok (.invokevirtual 118, 3) := by decide +kernel
theorem dX5_want_11 : decode cX5_want 11 = .ok (.ifCond .ne 9, 3) := by decide +kernel
theorem dX5_want_14 : decode cX5_want 14 = .ok (.aload_n 0, 1) := by decide +kernel
theorem dX5_want_15 : decode cX5_want 15 = .ok (.iconst 1, 1) := by decide +kernel
theorem dX5_want_16 : decode cX5_want 16 = .ok (.invokevirtual 112, 3) := by decide +kernel
theorem dX5_want_19 : decode cX5_want 19 = .ok (.ireturn, 1) := by decide +kernel
theorem dX5_want_20 : decode cX5_want 20 = .ok (.aload_n 0, 1) := by decide +kernel
theorem dX5_want_21 : decode cX5_want 21 = .ok (.iload_n 1, 1) := by decide +kernel
theorem dX5_want_22 : decode cX5_want 22 = .ok (.iload_n 2, 1) := by decide +kernel
theorem dX5_want_23 : decode cX5_want 23 = .ok (.iconst 4, 1) := by decide +kernel
theorem dX5_want_24 : decode cX5_want 24 = .ok (.invokevirtual 54, 3) := by decide +kernel
theorem dX5_want_27 : decode cX5_want 27 = .ok (.bipush 9, 2) := by decide +kernel
theorem dX5_want_29 : decode cX5_want 29 = .ok (.if_icmp .ne 9, 3) := by decide +kernel
theorem dX5_want_32 : decode cX5_want 32 = .ok (.aload_n 0, 1) := by decide +kernel
theorem dX5_want_33 : decode cX5_want 33 = .ok (.iconst 2, 1) := by decide +kernel
theorem dX5_want_34 : decode cX5_want 34 = .ok (.invokevirtual 112, 3) := by decide +kernel
theorem dX5_want_37 : decode cX5_want 37 = .ok (.ireturn, 1) := by decide +kernel
theorem dX5_want_38 : decode cX5_want 38 = .ok (.aload_n 0, 1) := by decide +kernel
theorem dX5_want_39 : decode cX5_want 39 = .ok (.invokevirtual 115, 3) := by decide +kernel
theorem dX5_want_42 : decode cX5_want 42 = .ok (.aload_n 0, 1) := by decide +kernel
theorem dX5_want_43 : decode cX5_want 43 = .ok (.getfield 7, 3) := by decide +kernel
theorem dX5_want_46 : decode cX5_want 46 = .ok (.iload_n 1, 1) := by decide +kernel
theorem dX5_want_47 : decode cX5_want 47 = .ok (.iload_n 2, 1) := by decide +kernel
theorem dX5_want_48 : decode cX5_want 48 = .ok (.invokestatic 50, 3) := by decide +kernel
theorem dX5_want_51 : decode cX5_want 51 = .ok (.iconst 4, 1) := by decide +kernel
theorem dX5_want_52 : decode cX5_want 52 = .ok (.iadd, 1) := by decide +kernel
theorem dX5_want_53 : decode cX5_want 53 = .ok (.dup2, 1) := by decide +kernel
theorem dX5_want_54 : decode cX5_want 54 = .ok (.iaload, 1) := by decide +kernel
theorem dX5_want_55 : decode cX5_want 55 = .ok (.iconst 1, 1) := by decide +kernel
theorem dX5_want_56 : decode cX5_want 56 = .ok (.iadd, 1) := by decide +kernel
theorem dX5_want_57 : decode cX5_want 57 = .ok (.iastore, 1) := by decide +kernel
theorem dX5_want_58 : decode cX5_want 58 = .ok (.aload_n 0, 1) := by decide +kernel
theorem dX5_want_59 : decode cX5_want 59 = .ok (.iload_n 1, 1) := by decide +kernel
theorem dX5_want_60 : decode cX5_want 60 = .ok (.iload_n 2, 1) := by decide +kernel
theorem dX5_want_61 : decode cX5_want 61 = .ok (.iconst 4, 1) := by decide +kernel
theorem dX5_want_62 : decode cX5_want 62 = .ok (.invokevirtual 54, 3) := by decide +kernel
theorem dX5_want_65 : decode cX5_want 65 = .ok (.ireturn, 1) := by decide +kernel
theorem dX5_drinks_0 : decode cX5_drinks 0 = .ok (.aload_n 0, 1) := by decide +kernel
theorem dX5_drinks_1 : decode cX5_drinks 1 = .ok (.getfield 7, 3) := by decide +kernel
theorem dX5_drinks_4 : decode cX5_drinks 4 = .ok (.bipush 8, 2) := by decide +kernel
theorem dX5_drinks_6 : decode cX5_drinks 6 = .ok (.iconst 5, 1) := by decide +kernel
theorem dX5_drinks_7 : decode cX5_drinks 7 = .ok (.iload_n 1, 1) := by decide +kernel
theorem dX5_drinks_8 : decode cX5_drinks 8 = .ok (.imul, 1) := by decide +kernel
theorem dX5_drinks_9 : decode cX5_drinks 9 = .ok (.iadd, 1) := by decide +kernel
theorem dX5_drinks_10 : decode cX5_drinks 10 = .ok (.iconst 1, 1) := by decide +kernel
theorem dX5_drinks_11 : decode cX5_drinks 11 = .ok (.iadd, 1) := by decide +kernel
theorem dX5_drinks_12 : decode cX5_drinks 12 = .ok (.dup2, 1) := by decide +kernel
theorem dX5_drinks_13 : decode cX5_drinks 13 = .ok (.iaload, 1) := by decide +kernel
theorem dX5_drinks_14 : decode cX5_drinks 14 = .ok (.iconst 1, 1) := by decide +kernel
theorem dX5_drinks_15 : decode cX5_drinks 15 = .ok (.isub, 1) := by decide +kernel
theorem dX5_drinks_16 : decode cX5_drinks 16 = .ok (.iastore, 1) := by decide +kernel
theorem dX5_drinks_17 : decode cX5_drinks 17 = .ok (.aload_n 0, 1) := by decide +kernel
theorem dX5_drinks_18 : decode cX5_drinks 18 = .ok (.getfield 7, 3) := by decide +kernel
theorem dX5_drinks_21 : decode cX5_drinks 21 = .ok (.bipush 8, 2) := by decide +kernel
theorem dX5_drinks_23 : decode cX5_drinks 23 = .ok (.iconst 5, 1) := by decide +kernel
theorem dX5_drinks_24 : decode cX5_drinks 24 = .ok (.iload_n 1, 1) := by decide +kernel
theorem dX5_drinks_25 : decode cX5_drinks 25 = .ok (.imul, 1) := by decide +kernel
theorem dX5_drinks_26 : decode cX5_drinks 26 = .ok (.iadd, 1) := by decide +kernel
theorem dX5_drinks_27 : decode cX5_drinks 27 = .ok (.iconst 2, 1) := by decide +kernel
theorem dX5_drinks_28 : decode cX5_drinks 28 = .ok (.iadd, 1) := by decide +kernel
theorem dX5_drinks_29 : decode cX5_drinks 29 = .ok (.dup2, 1) := by decide +kernel
theorem dX5_drinks_30 : decode cX5_drinks 30 = .ok (.iaload, 1) := by decide +kernel
theorem dX5_drinks_31 : decode cX5_drinks 31 = .ok (.iconst 1, 1) := by decide +kernel
theorem dX5_drinks_32 : decode cX5_drinks 32 = .ok (.iadd, 1) := by decide +kernel
theorem dX5_drinks_33 : decode cX5_drinks 33 = .ok (.iastore, 1) := by decide +kernel
theorem dX5_drinks_34 : decode cX5_drinks 34 = .ok (.return_, 1) := by decide +kernel
set_option maxRecDepth 20000 in
theorem ggX5_drink_X5_isKind : GoodIn wsX5_drink wsX5_isKind := goodIn_r _ [5, 6, 7, 4, 8] (by decide +kernel) (by decide +kernel)
set_option maxRecDepth 20000 in
theorem gX5_drink_X5_isKind : GoodIn wsX5_drink (va_wsS RX5 47 yX5_isKind wsX5_isKind) := goodIn_app (goodIn_of _ (by decide +kernel)) ggX5_drink_X5_isKind
set_option maxRecDepth 20000 in
theorem ggX5_drink_X5_fails : GoodIn wsX5_drink wsX5_fails := goodIn_r _ [12, 1, 31, 32, 33, 34, 35, 36, 37, 38, 39, 40, 41, 42, 43] (by decide +kernel) (by decide +kernel)
set_option maxRecDepth 20000 in
theorem gX5_drink_X5_fails : GoodIn wsX5_drink (wsV RX5 112 RX5 yX5_fails wsX5_fails) := goodIn_app (goodIn_of _ (by decide +kernel)) ggX5_drink_X5_fails
set_option maxRecDepth 20000 in
theorem ggX5_drink_X5_ofKind : GoodIn wsX5_drink wsX5_ofKind := goodIn_r _ [16, 17, 31, 32, 33, 34, 35, 36, 37, 38, 39, 40, 41, 42, 43] (by decide +kernel) (by decide +kernel)
set_option maxRecDepth 20000 in
theorem gX5_drink_X5_ofKind : GoodIn wsX5_drink (wsV RX5 61 RX5 yX5_ofKind wsX5_ofKind) := goodIn_app (goodIn_of _ (by decide +kernel)) ggX5_drink_X5_ofKind
set_option maxRecDepth 20000 in
theorem ggX5_drink_X5_saves : GoodIn wsX5_drink wsX5_saves := goodIn_r _ [21, 22, 23, 17, 24, 25, 4, 26, 31, 32, 33, 34, 35, 36, 37, 38, 39, 40, 41, 42, 43] (by decide +kernel) (by decide +kernel)
set_option maxRecDepth 20000 in
theorem gX5_drink_X5_saves : GoodIn wsX5_drink (wsV RX5 115 RX5 yX5_saves wsX5_saves) := goodIn_app (goodIn_of _ (by decide +kernel)) ggX5_drink_X5_saves
set_option maxRecDepth 20000 in
theorem ggX5_drink_X5_drinks : GoodIn wsX5_drink wsX5_drinks := goodIn_r _ [30, 17, 31, 32, 33, 34, 35, 36, 37, 38, 39, 40, 41, 42, 43] (by decide +kernel) (by decide +kernel)
set_option maxRecDepth 20000 in
theorem gX5_drink_X5_drinks : GoodIn wsX5_drink (wsV RX5 128 RX5 yX5_drinks wsX5_drinks) := goodIn_app (goodIn_of _ (by decide +kernel)) ggX5_drink_X5_drinks
theorem dX5_drink_0 : decode cX5_drink 0 = .ok (.aload_n 0, 1) := by decide +kernel
theorem dX5_drink_1 : decode cX5_drink 1 = .ok (.iconst 0, 1) := by decide +kernel
theorem dX5_drink_2 : decode cX5_drink 2 = .ok (.putfield 28, 3) := by decide +kernel
theorem dX5_drink_5 : decode cX5_drink 5 = .ok (.iload_n 1, 1) := by decide +kernel
theorem dX5_drink_6 : decode cX5_drink 6 = .ok (.invokestatic 47, 3) := by decide +kernel
theorem dX5_drink_9 : decode cX5_drink 9 = .ok (.ifCond .ne 9, 3) := by decide +kernel
theorem dX5_drink_12 : decode cX5_drink 12 = .ok (.aload_n 0, 1) := by decide +kernel
theorem dX5_drink_13 : decode cX5_drink 13 = .ok (.iconst 1, 1) := by decide +kernel
theorem dX5_drink_14 : decode cX5_drink 14 = .ok (.invokevirtual 112, 3) := by decide +kernel
theorem dX5_drink_17 : decode cX5_drink 17 = .ok (.ireturn, 1) := by decide +kernel
theorem dX5_drink_18 : decode cX5_drink 18 = .ok (.aload_n 0, 1) := by decide +kernel
theorem dX5_drink_19 : decode cX5_drink 19 = .ok (.iload_n 1, 1) := by decide +kernel
theorem dX5_drink_20 : decode cX5_drink 20 = .ok (.iconst 1, 1) := by decide +kernel
theorem dX5_drink_21 : decode cX5_drink 21 = .ok (.invokevirtual 61, 3) := by decide +kernel
theorem dX5_drink_24 : decode cX5_drink 24 = .ok (.ifCond .ne 9, 3) := by decide +kernel
theorem dX5_drink_27 : decode cX5_drink 27 = .ok (.aload_n 0, 1) := by decide +kernel
theorem dX5_drink_28 : decode cX5_drink 28 = .ok (.iconst 2, 1) := by decide +kernel
theorem dX5_drink_29 : decode cX5_drink 29 = .ok (.invokevirtual 112, 3) := by decide +kernel
theorem dX5_drink_32 : decode cX5_drink 32 = .ok (.ireturn, 1) := by decide +kernel
theorem dX5_drink_33 : decode cX5_drink 33 = .ok (.aload_n 0, 1) := by decide +kernel
theorem dX5_drink_34 : decode cX5_drink 34 = .ok (.invokevirtual 115, 3) := by decide +kernel
theorem dX5_drink_37 : decode cX5_drink 37 = .ok (.aload_n 0, 1) := by decide +kernel
theorem dX5_drink_38 : decode cX5_drink 38 = .ok (.iload_n 1, 1) := by decide +kernel
theorem dX5_drink_39 : decode cX5_drink 39 = .ok (.invokevirtual 128, 3) := by decide +kernel
theorem dX5_drink_42 : decode cX5_drink 42 = .ok (.aload_n 0, 1) := by decide +kernel
theorem dX5_drink_43 : decode cX5_drink 43 = .ok (.iload_n 1, 1) := by decide +kernel
theorem dX5_drink_44 : decode cX5_drink 44 = .ok (.iconst 1, 1) := by decide +kernel
theorem dX5_drink_45 : decode cX5_drink 45 = .ok (.invokevirtual 61, 3) := by decide +kernel
theorem dX5_drink_48 : decode cX5_drink 48 = .ok (.ireturn, 1) := by decide +kernel
set_option maxRecDepth 20000 in
theorem ggX5_pass_X5_in : GoodIn wsX5_pass wsX5_in := goodIn_r _ [6] (by decide +kernel) (by decide +kernel)
set_option maxRecDepth 20000 in
theorem gX5_pass_X5_in : GoodIn wsX5_pass (va_wsS RX5 39 yX5_in wsX5_in) := goodIn_app (goodIn_of _ (by decide +kernel)) ggX5_pass_X5_in
set_option maxRecDepth 20000 in
theorem ggX5_pass_X5_fails : GoodIn wsX5_pass wsX5_fails := goodIn_r _ [10, 1, 95, 96, 97, 98, 99, 100, 101, 102, 103, 104, 105, 106, 107] (by decide +kernel) (by decide +kernel)
set_option maxRecDepth 20000 in
theorem gX5_pass_X5_fails : GoodIn wsX5_pass (wsV RX5 112 RX5 yX5_fails wsX5_fails) := goodIn_app (goodIn_of _ (by decide +kernel)) ggX5_pass_X5_fails
set_option maxRecDepth 20000 in
theorem ggX5_pass_X5_saves : GoodIn wsX5_pass wsX5_saves := goodIn_r _ [14, 15, 16, 2, 17, 18, 5, 19, 95, 96, 97, 98, 99, 100, 101, 102, 103, 104, 105, 106, 107] (by decide +kernel) (by decide +kernel)
set_option maxRecDepth 20000 in
theorem gX5_pass_X5_saves : GoodIn wsX5_pass (wsV RX5 115 RX5 yX5_saves wsX5_saves) := goodIn_app (goodIn_of _ (by decide +kernel)) ggX5_pass_X5_saves
set_option maxRecDepth 20000 in
theorem ggX5_pass_X5_ticks : GoodIn wsX5_pass wsX5_ticks := goodIn_r _ [23, 24, 25, 26, 5, 27, 2, 28, 29, 30, 31, 32, 33, 34, 35, 36, 37, 38, 39, 40, 41, 42, 43, 44, 45, 46, 47, 48, 49, 50, 51, 52, 53, 54, 55, 56, 57, 58, 59, 60, 61, 62, 63, 64, 65, 66, 67, 68, 69, 70, 71, 72, 73, 74, 75, 76, 77, 78, 79, 80, 81, 82, 83, 84, 85, 86, 87, 88, 89, 90, 91, 92, 93, 94, 95, 96, 97, 98, 99, 100, 101, 102, 103, 104, 105, 106, 107] (by decide +kernel) (by decide +kernel)
set_option maxRecDepth 20000 in
theorem gX5_pass_X5_ticks : GoodIn wsX5_pass (wsV RX5 131 RX5 yX5_ticks wsX5_ticks) := goodIn_app (goodIn_of _ (by decide +kernel)) ggX5_pass_X5_ticks
theorem dX5_pass_0 : decode cX5_pass 0 = .ok (.aload_n 0, 1) := by decide +kernel
theorem dX5_pass_1 : decode cX5_pass 1 = .ok (.iconst 0, 1) := by decide +kernel
theorem dX5_pass_2 : decode cX5_pass 2 = .ok (.putfield 28, 3) := by decide +kernel
theorem dX5_pass_5 : decode cX5_pass 5 = .ok (.iload_n 1, 1) := by decide +kernel
theorem dX5_pass_6 : decode cX5_pass 6 = .ok (.iconst 1, 1) := by decide +kernel
theorem dX5_pass_7 : decode cX5_pass 7 = .ok (.bipush 60, 2) := by decide +kernel
theorem dX5_pass_9 : decode cX5_pass 9 = .ok (.invokestatic 39, 3) := by decide +kernel
theorem dX5_pass_12 : decode cX5_pass 12 = .ok (.ifCond .ne 9, 3) := by decide +kernel
theorem dX5_pass_15 : decode cX5_pass 15 = .ok (.aload_n 0, 1) := by decide +kernel
theorem dX5_pass_16 : decode cX5_pass 16 = .ok (.iconst 1, 1) := by decide +kernel
theorem dX5_pass_17 : decode cX5_pass 17 = .ok (.invokevirtual 112, 3) := by decide +kernel
theorem dX5_pass_20 : decode cX5_pass 20 = .ok (.ireturn, 1) := by decide +kernel
theorem dX5_pass_21 : decode cX5_pass 21 = .ok (.aload_n 0, 1) := by decide +kernel
theorem dX5_pass_22 : decode cX5_pass 22 = .ok (.getfield 7, 3) := by decide +kernel
theorem dX5_pass_25 : decode cX5_pass 25 = .ok (.iconst 0, 1) := by decide +kernel
theorem dX5_pass_26 : decode cX5_pass 26 = .ok (.iaload, 1) := by decide +kernel
theorem dX5_pass_27 : decode cX5_pass 27 = .ok (.iload_n 1, 1) := by decide +kernel
theorem dX5_pass_28 : decode cX5_pass 28 = .ok (.iadd, 1) := by decide +kernel
theorem dX5_pass_29 : decode cX5_pass 29 = .ok (.sipush 9999, 3) := by decide +kernel
theorem dX5_pass_32 : decode cX5_pass 32 = .ok (.if_icmp .le 9, 3) := by decide +kernel
theorem dX5_pass_35 : decode cX5_pass 35 = .ok (.aload_n 0, 1) := by decide +kernel
theorem dX5_pass_36 : decode cX5_pass 36 = .ok (.iconst 2, 1) := by decide +kernel
theorem dX5_pass_37 : decode cX5_pass 37 = .ok (.invokevirtual 112, 3) := by decide +kernel
theorem dX5_pass_40 : decode cX5_pass 40 = .ok (.ireturn, 1) := by decide +kernel
theorem dX5_pass_41 : decode cX5_pass 41 = .ok (.aload_n 0, 1) := by decide +kernel
theorem dX5_pass_42 : decode cX5_pass 42 = .ok (.invokevirtual 115, 3) := by decide +kernel
theorem dX5_pass_45 : decode cX5_pass 45 = .ok (.aload_n 0, 1) := by decide +kernel
theorem dX5_pass_46 : decode cX5_pass 46 = .ok (.iload_n 1, 1) := by decide +kernel
theorem dX5_pass_47 : decode cX5_pass 47 = .ok (.invokevirtual 131, 3) := by decide +kernel
theorem dX5_pass_50 : decode cX5_pass 50 = .ok (.ireturn, 1) := by decide +kernel
set_option maxRecDepth 20000 in
theorem ggX5_set_X5_in : GoodIn wsX5_set wsX5_in := goodIn_r _ [6] (by decide +kernel) (by decide +kernel)
set_option maxRecDepth 20000 in
theorem gX5_set_X5_in : GoodIn wsX5_set (va_wsS RX5 39 yX5_in wsX5_in) := goodIn_app (goodIn_of _ (by decide +kernel)) ggX5_set_X5_in
set_option maxRecDepth 20000 in
theorem ggX5_set_X5_fails : GoodIn wsX5_set wsX5_fails := goodIn_r _ [10, 1, 20, 21, 22, 23, 24, 25, 26, 27, 28, 29, 30, 31, 32] (by decide +kernel) (by decide +kernel)
set_option maxRecDepth 20000 in
theorem gX5_set_X5_fails : GoodIn wsX5_set (wsV RX5 112 RX5 yX5_fails wsX5_fails) := goodIn_app (goodIn_of _ (by decide +kernel)) ggX5_set_X5_fails
set_option maxRecDepth 20000 in
theorem ggX5_set_X5_saves : GoodIn wsX5_set wsX5_saves := goodIn_r _ [14, 15, 16, 2, 17, 18, 5, 19, 20, 21, 22, 23, 24, 25, 26, 27, 28, 29, 30, 31, 32] (by decide +kernel) (by decide +kernel)
set_option maxRecDepth 20000 in
theorem gX5_set_X5_saves : GoodIn wsX5_set (wsV RX5 115 RX5 yX5_saves wsX5_saves) := goodIn_app (goodIn_of _ (by decide +kernel)) ggX5_set_X5_saves
theorem dX5_set_0 : decode cX5_set 0 = .ok (.aload_n 0, 1) := by decide +kernel
theorem dX5_set_1 : decode cX5_set 1 = .ok (.iconst 0, 1) := by decide +kernel
theorem dX5_set_2 : decode cX5_set 2 = .ok (.putfield 28, 3) := by decide +kernel
theorem dX5_set_5 : decode cX5_set 5 = .ok (.iload_n 1, 1) := by decide +kernel
theorem dX5_set_6 : decode cX5_set 6 = .ok (.iconst 0, 1) := by decide +kernel
theorem dX5_set_7 : decode cX5_set 7 = .ok (.iconst 2, 1) := by decide +kernel
theorem dX5_set_8 : decode cX5_set 8 = .ok (.invokestatic 39, 3) := by decide +kernel
theorem dX5_set_11 : decode cX5_set 11 = .ok (.ifCond .ne 9, 3) := by decide +kernel
theorem dX5_set_14 : decode cX5_set 14 = .ok (.aload_n 0, 1) := by decide +kernel
theorem dX5_set_15 : decode cX5_set 15 = .ok (.iconst 1, 1) := by decide +kernel
theorem dX5_set_16 : decode cX5_set 16 = .ok (.invokevirtual 112, 3) := by decide +kernel
theorem dX5_set_19 : decode cX5_set 19 = .ok (.ireturn, 1) := by decide +kernel
theorem dX5_set_20 : decode cX5_set 20 = .ok (.iload_n 2, 1) := by decide +kernel
theorem dX5_set_21 : decode cX5_set 21 = .ok (.iload_n 1, 1) := by decide +kernel
theorem dX5_set_22 : decode cX5_set 22 = .ok (.ifCond .ne 7, 3) := by decide +kernel
theorem dX5_set_25 : decode cX5_set 25 = .ok (.iconst 1, 1) := by decide +kernel
theorem dX5_set_26 : decode cX5_set 26 = .ok (.goto 4, 3) := by decide +kernel
theorem dX5_set_29 : decode cX5_set 29 = .ok (.iconst 0, 1) := by decide +kernel
theorem dX5_set_30 : decode cX5_set 30 = .ok (.iload_n 1, 1) := by decide +kernel
theorem dX5_set_31 : decode cX5_set 31 = .ok (.iconst 1, 1) := by decide +kernel
theorem dX5_set_32 : decode cX5_set 32 = .ok (.if_icmp .ne 8, 3) := by decide +kernel
theorem dX5_set_35 : decode cX5_set 35 = .ok (.bipush 99, 2) := by decide +kernel
theorem dX5_set_37 : decode cX5_set 37 = .ok (.goto 5, 3) := by decide +kernel
theorem dX5_set_40 : decode cX5_set 40 = .ok (.bipush 9, 2) := by decide +kernel
theorem dX5_set_42 : decode cX5_set 42 = .ok (.invokestatic 39, 3) := by decide +kernel
theorem dX5_set_45 : decode cX5_set 45 = .ok (.ifCond .ne 9, 3) := by decide +kernel
theorem dX5_set_48 : decode cX5_set 48 = .ok (.aload_n 0, 1) := by decide +kernel
theorem dX5_set_49 : decode cX5_set 49 = .ok (.iconst 2, 1) := by decide +kernel
theorem dX5_set_50 : decode cX5_set 50 = .ok (.invokevirtual 112, 3) := by decide +kernel
theorem dX5_set_53 : decode cX5_set 53 = .ok (.ireturn, 1) := by decide +kernel
theorem dX5_set_54 : decode cX5_set 54 = .ok (.aload_n 0, 1) := by decide +kernel
theorem dX5_set_55 : decode cX5_set 55 = .ok (.invokevirtual 115, 3) := by decide +kernel
theorem dX5_set_58 : decode cX5_set 58 = .ok (.aload_n 0, 1) := by decide +kernel
theorem dX5_set_59 : decode cX5_set 59 = .ok (.getfield 7, 3) := by decide +kernel
theorem dX5_set_62 : decode cX5_set 62 = .ok (.iconst 5, 1) := by decide +kernel
theorem dX5_set_63 : decode cX5_set 63 = .ok (.iload_n 1, 1) := by decide +kernel
theorem dX5_set_64 : decode cX5_set 64 = .ok (.iadd, 1) := by decide +kernel
theorem dX5_set_65 : decode cX5_set 65 = .ok (.iaload, 1) := by decide +kernel
theorem dX5_set_66 : decode cX5_set 66 = .ok (.istore_n 3, 1) := by decide +kernel
theorem dX5_set_67 : decode cX5_set 67 = .ok (.aload_n 0, 1) := by decide +kernel
theorem dX5_set_68 : decode cX5_set 68 = .ok (.getfield 7, 3) := by decide +kernel
theorem dX5_set_71 : decode cX5_set 71 = .ok (.iconst 5, 1) := by decide +kernel
theorem dX5_set_72 : decode cX5_set 72 = .ok (.iload_n 1, 1) := by decide +kernel
theorem dX5_set_73 : decode cX5_set 73 = .ok (.iadd, 1) := by decide +kernel
theorem dX5_set_74 : decode cX5_set 74 = .ok (.iload_n 2, 1) := by decide +kernel
theorem dX5_set_75 : decode cX5_set 75 = .ok (.iastore, 1) := by decide +kernel
theorem dX5_set_76 : decode cX5_set 76 = .ok (.iload_n 3, 1) := by decide +kernel
theorem dX5_set_77 : decode cX5_set 77 = .ok (.ireturn, 1) := by decide +kernel
set_option maxRecDepth 20000 in
theorem ggX5_append_X5_in : GoodIn wsX5_append wsX5_in := goodIn_r _ [7] (by decide +kernel) (by decide +kernel)
set_option maxRecDepth 20000 in
theorem gX5_append_X5_in : GoodIn wsX5_append (va_wsS RX5 39 yX5_in wsX5_in) := goodIn_app (goodIn_of _ (by decide +kernel)) ggX5_append_X5_in
set_option maxRecDepth 20000 in
theorem ggX5_append_X5_fails : GoodIn wsX5_append wsX5_fails := goodIn_r _ [11, 1, 12, 13, 14, 15, 16, 17, 18, 19, 20, 21, 22, 23, 24] (by decide +kernel) (by decide +kernel)
set_option maxRecDepth 20000 in
theorem gX5_append_X5_fails : GoodIn wsX5_append (wsV RX5 112 RX5 yX5_fails wsX5_fails) := goodIn_app (goodIn_of _ (by decide +kernel)) ggX5_append_X5_fails
theorem dX5_append_0 : decode cX5_append 0 = .ok (.aload_n 0, 1) := by decide +kernel
theorem dX5_append_1 : decode cX5_append 1 = .ok (.iconst 0, 1) := by decide +kernel
theorem dX5_append_2 : decode cX5_append 2 = .ok (.putfield 28, 3) := by decide +kernel
theorem dX5_append_5 : decode cX5_append 5 = .ok (.iload_n 1, 1) := by decide +kernel
theorem dX5_append_6 : decode cX5_append 6 = .ok (.bipush 33, 2) := by decide +kernel
theorem dX5_append_8 : decode cX5_append 8 = .ok (.bipush 126, 2) := by decide +kernel
theorem dX5_append_10 : decode cX5_append 10 = .ok (.invokestatic 39, 3) := by decide +kernel
theorem dX5_append_13 : decode cX5_append 13 = .ok (.ifCond .ne 9, 3) := by decide +kernel
theorem dX5_append_16 : decode cX5_append 16 = .ok (.aload_n 0, 1) := by decide +kernel
theorem dX5_append_17 : decode cX5_append 17 = .ok (.iconst 1, 1) := by decide +kernel
theorem dX5_append_18 : decode cX5_append 18 = .ok (.invokevirtual 112, 3) := by decide +kernel
theorem dX5_append_21 : decode cX5_append 21 = .ok (.ireturn, 1) := by decide +kernel
theorem dX5_append_22 : decode cX5_append 22 = .ok (.aload_n 0, 1) := by decide +kernel
theorem dX5_append_23 : decode cX5_append 23 = .ok (.getfield 134, 3) := by decide +kernel
theorem dX5_append_26 : decode cX5_append 26 = .ok (.bipush 60, 2) := by decide +kernel
theorem dX5_append_28 : decode cX5_append 28 = .ok (.if_icmp .ne 9, 3) := by decide +kernel
theorem dX5_append_31 : decode cX5_append 31 = .ok (.aload_n 0, 1) := by decide +kernel
theorem dX5_append_32 : decode cX5_append 32 = .ok (.iconst 2, 1) := by decide +kernel
theorem dX5_append_33 : decode cX5_append 33 = .ok (.invokevirtual 112, 3) := by decide +kernel
theorem dX5_append_36 : decode cX5_append 36 = .ok (.ireturn, 1) := by decide +kernel
theorem dX5_append_37 : decode cX5_append 37 = .ok (.aload_n 0, 1) := by decide +kernel
theorem dX5_append_38 : decode cX5_append 38 = .ok (.getfield 25, 3) := by decide +kernel
theorem dX5_append_41 : decode cX5_append 41 = .ok (.aload_n 0, 1) := by decide +kernel
theorem dX5_append_42 : decode cX5_append 42 = .ok (.getfield 134, 3) := by decide +kernel
theorem dX5_append_45 : decode cX5_append 45 = .ok (.iload_n 1, 1) := by decide +kernel
theorem dX5_append_46 : decode cX5_append 46 = .ok (.iastore, 1) := by decide +kernel
theorem dX5_append_47 : decode cX5_append 47 = .ok (.aload_n 0, 1) := by decide +kernel
theorem dX5_append_48 : decode cX5_append 48 = .ok (.dup, 1) := by decide +kernel
theorem dX5_append_49 : decode cX5_append 49 = .ok (.getfield 134, 3) := by decide +kernel
theorem dX5_append_52 : decode cX5_append 52 = .ok (.iconst 1, 1) := by decide +kernel
theorem dX5_append_53 : decode cX5_append 53 = .ok (.iadd, 1) := by decide +kernel
theorem dX5_append_54 : decode cX5_append 54 = .ok (.putfield 134, 3) := by decide +kernel
theorem dX5_append_57 : decode cX5_append 57 = .ok (.aload_n 0, 1) := by decide +kernel
theorem dX5_append_58 : decode cX5_append 58 = .ok (.getfield 134, 3) := by decide +kernel
theorem dX5_append_61 : decode cX5_append 61 = .ok (.ireturn, 1) := by decide +kernel
theorem dX5_clearBuffer_0 : decode cX5_clearBuffer 0 = .ok (.aload_n 0, 1) := by decide +kernel
theorem dX5_clearBuffer_1 : decode cX5_clearBuffer 1 = .ok (.iconst 0, 1) := by decide +kernel
theorem dX5_clearBuffer_2 : decode cX5_clearBuffer 2 = .ok (.putfield 28, 3) := by decide +kernel
theorem dX5_clearBuffer_5 : decode cX5_clearBuffer 5 = .ok (.aload_n 0, 1) := by decide +kernel
theorem dX5_clearBuffer_6 : decode cX5_clearBuffer 6 = .ok (.getfield 134, 3) := by decide +kernel
theorem dX5_clearBuffer_9 : decode cX5_clearBuffer 9 = .ok (.istore_n 1, 1) := by decide +kernel
theorem dX5_clearBuffer_10 : decode cX5_clearBuffer 10 = .ok (.aload_n 0, 1) := by decide +kernel
theorem dX5_clearBuffer_11 : decode cX5_clearBuffer 11 = .ok (.iconst 0, 1) := by decide +kernel
theorem dX5_clearBuffer_12 : decode cX5_clearBuffer 12 = .ok (.putfield 134, 3) := by decide +kernel
theorem dX5_clearBuffer_15 : decode cX5_clearBuffer 15 = .ok (.iload_n 1, 1) := by decide +kernel
theorem dX5_clearBuffer_16 : decode cX5_clearBuffer 16 = .ok (.ireturn, 1) := by decide +kernel
theorem dX5_here_0 : decode cX5_here 0 = .ok (.aload_n 0, 1) := by decide +kernel
theorem dX5_here_1 : decode cX5_here 1 = .ok (.getfield 137, 3) := by decide +kernel
theorem dX5_here_4 : decode cX5_here 4 = .ok (.aload_n 0, 1) := by decide +kernel
theorem dX5_here_5 : decode cX5_here 5 = .ok (.getfield 134, 3) := by decide +kernel
theorem dX5_here_8 : decode cX5_here 8 = .ok (.if_icmp .ge 15, 3) := by decide +kernel
theorem dX5_here_11 : decode cX5_here 11 = .ok (.aload_n 0, 1) := by decide +kernel
theorem dX5_here_12 : decode cX5_here 12 = .ok (.getfield 25, 3) := by decide +kernel
theorem dX5_here_15 : decode cX5_here 15 = .ok (.aload_n 0, 1) := by decide +kernel
theorem dX5_here_16 : decode cX5_here 16 = .ok (.getfield 137, 3) := by decide +kernel
theorem dX5_here_19 : decode cX5_here 19 = .ok (.iaload, 1) := by decide +kernel
theorem dX5_here_20 : decode cX5_here 20 = .ok (.goto 4, 3) := by decide +kernel
theorem dX5_here_23 : decode cX5_here 23 = .ok (.iconst (-1), 1) := by decide +kernel
theorem dX5_here_24 : decode cX5_here 24 = .ok (.ireturn, 1) := by decide +kernel
set_option maxRecDepth 20000 in
theorem ggX5_takesDigit_X5_here : GoodIn wsX5_takesDigit wsX5_here := goodIn_r _ [6, 1, 7, 8, 12, 13, 14, 15, 16, 17, 18, 19, 20, 21, 22, 23, 24] (by decide +kernel) (by decide +kernel)
set_option maxRecDepth 20000 in
theorem gX5_takesDigit_X5_here : GoodIn wsX5_takesDigit (wsV RX5 140 RX5 yX5_here wsX5_here) := goodIn_app (goodIn_of _ (by decide +kernel)) ggX5_takesDigit_X5_here
set_option maxRecDepth 20000 in
theorem ggX5_takesDigit_X5_in : GoodIn wsX5_takesDigit wsX5_in := goodIn_r _ [11] (by decide +kernel) (by decide +kernel)
set_option maxRecDepth 20000 in
theorem gX5_takesDigit_X5_in : GoodIn wsX5_takesDigit (va_wsS RX5 39 yX5_in wsX5_in) := goodIn_app (goodIn_of _ (by decide +kernel)) ggX5_takesDigit_X5_in
theorem dX5_takesDigit_0 : decode cX5_takesDigit 0 = .ok (.aload_n 0, 1) := by decide +kernel
theorem dX5_takesDigit_1 : decode cX5_takesDigit 1 = .ok (.invokevirtual 140, 3) := by decide +kernel
theorem dX5_takesDigit_4 : decode cX5_takesDigit 4 = .ok (.bipush 48, 2) := by decide +kernel
theorem dX5_takesDigit_6 : decode cX5_takesDigit 6 = .ok (.iload_n 1, 1) := by decide +kernel
theorem dX5_takesDigit_7 : decode cX5_takesDigit 7 = .ok (.iadd, 1) := by decide +kernel
theorem dX5_takesDigit_8 : decode cX5_takesDigit 8 = .ok (.bipush 48, 2) := by decide +kernel
theorem dX5_takesDigit_10 : decode cX5_takesDigit 10 = .ok (.iload_n 2, 1) := by decide +kernel
theorem dX5_takesDigit_11 : decode cX5_takesDigit 11 = .ok (.iadd, 1) := by decide +kernel
theorem dX5_takesDigit_12 : decode cX5_takesDigit 12 = .ok (.invokestatic 39, 3) := by decide +kernel
theorem dX5_takesDigit_15 : decode cX5_takesDigit 15 = .ok (.istore_n 3, 1) := by decide +kernel
theorem dX5_takesDigit_16 : decode cX5_takesDigit 16 = .ok (.aload_n 0, 1) := by decide +kernel
theorem dX5_takesDigit_17 : decode cX5_takesDigit 17 = .ok (.dup, 1) := by decide +kernel
theorem dX5_takesDigit_18 : decode cX5_takesDigit 18 = .ok (.getfield 137, 3) := by decide +kernel
theorem dX5_takesDigit_21 : decode cX5_takesDigit 21 = .ok (.iload_n 3, 1) := by decide +kernel
theorem dX5_takesDigit_22 : decode cX5_takesDigit 22 = .ok (.ifCond .eq 7, 3) := by decide +kernel
theorem dX5_takesDigit_25 : decode cX5_takesDigit 25 = .ok (.iconst 1, 1) := by decide +kernel
theorem dX5_takesDigit_26 : decode cX5_takesDigit 26 = .ok (.goto 4, 3) := by decide +kernel
theorem dX5_takesDigit_29 : decode cX5_takesDigit 29 = .ok (.iconst 0, 1) := by decide +kernel
theorem dX5_takesDigit_30 : decode cX5_takesDigit 30 = .ok (.iadd, 1) := by decide +kernel
theorem dX5_takesDigit_31 : decode cX5_takesDigit 31 = .ok (.putfield 137, 3) := by decide +kernel
theorem dX5_takesDigit_34 : decode cX5_takesDigit 34 = .ok (.iload_n 3, 1) := by decide +kernel
theorem dX5_takesDigit_35 : decode cX5_takesDigit 35 = .ok (.ireturn, 1) := by decide +kernel
set_option maxRecDepth 20000 in
theorem ggX5_takesPair_X5_here : GoodIn wsX5_takesPair wsX5_here := goodIn_r _ [7, 8, 9, 10, 18, 19, 20, 21, 22, 23, 24, 25, 26, 27, 28, 29, 30] (by decide +kernel) (by decide +kernel)
set_option maxRecDepth 20000 in
theorem gX5_takesPair_X5_here : GoodIn wsX5_takesPair (wsV RX5 140 RX5 yX5_here wsX5_here) := goodIn_app (goodIn_of _ (by decide +kernel)) ggX5_takesPair_X5_here
set_option maxRecDepth 20000 in
theorem ggX5_takesPair_X5_takesDigit : GoodIn wsX5_takesPair wsX5_takesDigit := goodIn_r _ [14, 8, 3, 4, 5, 6, 7, 9, 10, 15, 16, 17, 18, 19, 20, 21, 22, 23, 24, 25, 26, 27, 28, 29, 30] (by decide +kernel) (by decide +kernel)
set_option maxRecDepth 20000 in
theorem gX5_takesPair_X5_takesDigit : GoodIn wsX5_takesPair (wsV RX5 146 RX5 yX5_takesDigit wsX5_takesDigit) := goodIn_app (goodIn_of _ (by decide +kernel)) ggX5_takesPair_X5_takesDigit
theorem dX5_takesPair_0 : decode cX5_takesPair 0 = .ok (.aload_n 0, 1) := by decide +kernel
theorem dX5_takesPair_1 : decode cX5_takesPair 1 = .ok (.aload_n 0, 1) := by decide +kernel
theorem dX5_takesPair_2 : decode cX5_takesPair 2 = .ok (.invokevirtual 140, 3) := by decide +kernel
theorem dX5_takesPair_5 : decode cX5_takesPair 5 = .ok (.bipush 48, 2) := by decide +kernel
theorem dX5_takesPair_7 : decode cX5_takesPair 7 = .ok (.isub, 1) := by decide +kernel
theorem dX5_takesPair_8 : decode cX5_takesPair 8 = .ok (.putfield 143, 3) := by decide +kernel
theorem dX5_takesPair_11 : decode cX5_takesPair 11 = .ok (.aload_n 0, 1) := by decide +kernel
theorem dX5_takesPair_12 : decode cX5_takesPair 12 = .ok (.iconst 0, 1) := by decide +kernel
theorem dX5_takesPair_13 : decode cX5_takesPair 13 = .ok (.iconst 3, 1) := by decide +kernel
theorem dX5_takesPair_14 : decode cX5_takesPair 14 = .ok (.invokevirtual 146, 3) := by decide +kernel
theorem dX5_takesPair_17 : decode cX5_takesPair 17 = .ok (.ifCond .ne 5, 3) := by decide +kernel
theorem dX5_takesPair_20 : decode cX5_takesPair 20 = .ok (.iconst 0, 1) := by decide +kernel
theorem dX5_takesPair_21 : decode cX5_takesPair 21 = .ok (.ireturn, 1) := by decide +kernel
theorem dX5_takesPair_22 : decode cX5_takesPair 22 = .ok (.aload_n 0, 1) := by decide +kernel
theorem dX5_takesPair_23 : decode cX5_takesPair 23 = .ok (.aload_n 0, 1) := by decide +kernel
theorem dX5_takesPair_24 : decode cX5_takesPair 24 = .ok (.invokevirtual 140, 3) := by decide +kernel
theorem dX5_takesPair_27 : decode cX5_takesPair 27 = .ok (.bipush 48, 2) := by decide +kernel
theorem dX5_takesPair_29 : decode cX5_takesPair 29 = .ok (.isub, 1) := by decide +kernel
theorem dX5_takesPair_30 : decode cX5_takesPair 30 = .ok (.putfield 149, 3) := by decide +kernel
theorem dX5_takesPair_33 : decode cX5_takesPair 33 = .ok (.aload_n 0, 1) := by decide +kernel
theorem dX5_takesPair_34 : decode cX5_takesPair 34 = .ok (.iconst 0, 1) := by decide +kernel
theorem dX5_takesPair_35 : decode cX5_takesPair 35 = .ok (.iconst 2, 1) := by decide +kernel
theorem dX5_takesPair_36 : decode cX5_takesPair 36 = .ok (.invokevirtual 146, 3) := by decide +kernel
theorem dX5_takesPair_39 : decode cX5_takesPair 39 = .ok (.ireturn, 1) := by decide +kernel
set_option maxRecDepth 20000 in
theorem ggX5_takesOrder_X5_here : GoodIn wsX5_takesOrder wsX5_here := goodIn_r _ [8, 2, 9, 10, 23, 24, 25, 26, 27, 28, 29, 30, 31, 32, 33, 34, 35] (by decide +kernel) (by decide +kernel)
set_option maxRecDepth 20000 in
theorem gX5_takesOrder_X5_here : GoodIn wsX5_takesOrder (wsV RX5 140 RX5 yX5_here wsX5_here) := goodIn_app (goodIn_of _ (by decide +kernel)) ggX5_takesOrder_X5_here
set_option maxRecDepth 20000 in
theorem ggX5_takesOrder_X5_takesPair : GoodIn wsX5_takesOrder wsX5_takesPair := goodIn_r _ [14, 3, 15, 4, 5, 6, 7, 8, 2, 9, 10, 16, 17, 18, 19, 20, 21, 22, 23, 24, 25, 26, 27, 28, 29, 30, 31, 32, 33, 34, 35] (by decide +kernel) (by decide +kernel)
set_option maxRecDepth 20000 in
theorem gX5_takesOrder_X5_takesPair : GoodIn wsX5_takesOrder (wsV RX5 155 RX5 yX5_takesPair wsX5_takesPair) := goodIn_app (goodIn_of _ (by decide +kernel)) ggX5_takesOrder_X5_takesPair
set_option maxRecDepth 20000 in
theorem ggX5_takesOrder_X5_takesDigit : GoodIn wsX5_takesOrder wsX5_takesDigit := goodIn_r _ [19, 2, 4, 5, 6, 7, 8, 9, 10, 20, 21, 22, 23, 24, 25, 26, 27, 28, 29, 30, 31, 32, 33, 34, 35] (by decide +kernel) (by decide +kernel)
set_option maxRecDepth 20000 in
theorem gX5_takesOrder_X5_takesDigit : GoodIn wsX5_takesOrder (wsV RX5 146 RX5 yX5_takesDigit wsX5_takesDigit) := goodIn_app (goodIn_of _ (by decide +kernel)) ggX5_takesOrder_X5_takesDigit
theorem dX5_takesOrder_0 : decode cX5_takesOrder 0 = .ok (.aload_n 0, 1) := by decide +kernel
theorem dX5_takesOrder_1 : decode cX5_takesOrder 1 = .ok (.aload_n 0, 1) := by decide +kernel
theorem dX5_takesOrder_2 : decode cX5_takesOrder 2 = .ok (.invokevirtual 140, 3) := by decide +kernel
theorem dX5_takesOrder_5 : decode cX5_takesOrder 5 = .ok (.putfield 152, 3) := by decide +kernel
theorem dX5_takesOrder_8 : decode cX5_takesOrder 8 = .ok (.aload_n 0, 1) := by decide +kernel
theorem dX5_takesOrder_9 : decode cX5_takesOrder 9 = .ok (.getfield 152, 3) := by decide +kernel
theorem dX5_takesOrder_12 : decode cX5_takesOrder 12 = .ok (.lookupswitch 124 #[(100, 67), (108, 52), (113, 52), (116, 95), (119, 52)], 52) := by decide +kernel
theorem dX5_takesOrder_64 : decode cX5_takesOrder 64 = .ok (.aload_n 0, 1) := by decide +kernel
theorem dX5_takesOrder_65 : decode cX5_takesOrder 65 = .ok (.dup, 1) := by decide +kernel
theorem dX5_takesOrder_66 : decode cX5_takesOrder 66 = .ok (.getfield 137, 3) := by decide +kernel
theorem dX5_takesOrder_69 : decode cX5_takesOrder 69 = .ok (.iconst 1, 1) := by decide +kernel
theorem dX5_takesOrder_70 : decode cX5_takesOrder 70 = .ok (.iadd, 1) := by decide +kernel
theorem dX5_takesOrder_71 : decode cX5_takesOrder 71 = .ok (.putfield 137, 3) := by decide +kernel
theorem dX5_takesOrder_74 : decode cX5_takesOrder 74 = .ok (.aload_n 0, 1) := by decide +kernel
theorem dX5_takesOrder_75 : decode cX5_takesOrder 75 = .ok (.invokevirtual 155, 3) := by decide +kernel
theorem dX5_takesOrder_78 : decode cX5_takesOrder 78 = .ok (.ireturn, 1) := by decide +kernel
theorem dX5_takesOrder_79 : decode cX5_takesOrder 79 = .ok (.aload_n 0, 1) := by decide +kernel
theorem dX5_takesOrder_80 : decode cX5_takesOrder 80 = .ok (.dup, 1) := by decide +kernel
theorem dX5_takesOrder_81 : decode cX5_takesOrder 81 = .ok (.getfield 137, 3) := by decide +kernel
theorem dX5_takesOrder_84 : decode cX5_takesOrder 84 = .ok (.iconst 1, 1) := by decide +kernel
theorem dX5_takesOrder_85 : decode cX5_takesOrder 85 = .ok (.iadd, 1) := by decide +kernel
theorem dX5_takesOrder_86 : decode cX5_takesOrder 86 = .ok (.putfield 137, 3) := by decide +kernel
theorem dX5_takesOrder_89 : decode cX5_takesOrder 89 = .ok (.aload_n 0, 1) := by decide +kernel
theorem dX5_takesOrder_90 : decode cX5_takesOrder 90 = .ok (.aload_n 0, 1) := by decide +kernel
theorem dX5_takesOrder_91 : decode cX5_takesOrder 91 = .ok (.invokevirtual 140, 3) := by decide +kernel
theorem dX5_takesOrder_94 : decode cX5_takesOrder 94 = .ok (.bipush 48, 2) := by decide +kernel
theorem dX5_takesOrder_96 : decode cX5_takesOrder 96 = .ok (.isub, 1) := by decide +kernel
theorem dX5_takesOrder_97 : decode cX5_takesOrder 97 = .ok (.putfield 143, 3) := by decide +kernel
theorem dX5_takesOrder_100 : decode cX5_takesOrder 100 = .ok (.aload_n 0, 1) := by decide +kernel
theorem dX5_takesOrder_101 : decode cX5_takesOrder 101 = .ok (.iconst 0, 1) := by decide +kernel
theorem dX5_takesOrder_102 : decode cX5_takesOrder 102 = .ok (.iconst 2, 1) := by decide +kernel
theorem dX5_takesOrder_103 : decode cX5_takesOrder 103 = .ok (.invokevirtual 146, 3) := by decide +kernel
theorem dX5_takesOrder_106 : decode cX5_takesOrder 106 = .ok (.ireturn, 1) := by decide +kernel
theorem dX5_takesOrder_107 : decode cX5_takesOrder 107 = .ok (.aload_n 0, 1) := by decide +kernel
theorem dX5_takesOrder_108 : decode cX5_takesOrder 108 = .ok (.dup, 1) := by decide +kernel
theorem dX5_takesOrder_109 : decode cX5_takesOrder 109 = .ok (.getfield 137, 3) := by decide +kernel
theorem dX5_takesOrder_112 : decode cX5_takesOrder 112 = .ok (.iconst 1, 1) := by decide +kernel
theorem dX5_takesOrder_113 : decode cX5_takesOrder 113 = .ok (.iadd, 1) := by decide +kernel
theorem dX5_takesOrder_114 : decode cX5_takesOrder 114 = .ok (.putfield 137, 3) := by decide +kernel
theorem dX5_takesOrder_117 : decode cX5_takesOrder 117 = .ok (.aload_n 0, 1) := by decide +kernel
theorem dX5_takesOrder_118 : decode cX5_takesOrder 118 = .ok (.aload_n 0, 1) := by decide +kernel
theorem dX5_takesOrder_119 : decode cX5_takesOrder 119 = .ok (.invokevirtual 140, 3) := by decide +kernel
theorem dX5_takesOrder_122 : decode cX5_takesOrder 122 = .ok (.bipush 48, 2) := by decide +kernel
theorem dX5_takesOrder_124 : decode cX5_takesOrder 124 = .ok (.isub, 1) := by decide +kernel
theorem dX5_takesOrder_125 : decode cX5_takesOrder 125 = .ok (.putfield 143, 3) := by decide +kernel
theorem dX5_takesOrder_128 : decode cX5_takesOrder 128 = .ok (.aload_n 0, 1) := by decide +kernel
theorem dX5_takesOrder_129 : decode cX5_takesOrder 129 = .ok (.iconst 1, 1) := by decide +kernel
theorem dX5_takesOrder_130 : decode cX5_takesOrder 130 = .ok (.bipush 9, 2) := by decide +kernel
theorem dX5_takesOrder_132 : decode cX5_takesOrder 132 = .ok (.invokevirtual 146, 3) := by decide +kernel
theorem dX5_takesOrder_135 : decode cX5_takesOrder 135 = .ok (.ireturn, 1) := by decide +kernel
theorem dX5_takesOrder_136 : decode cX5_takesOrder 136 = .ok (.iconst 0, 1) := by decide +kernel
theorem dX5_takesOrder_137 : decode cX5_takesOrder 137 = .ok (.ireturn, 1) := by decide +kernel
set_option maxRecDepth 20000 in
theorem ggX5_isDay_X5_takesOrder : GoodIn wsX5_isDay wsX5_takesOrder := goodIn_r _ [7, 8, 1, 9, 10, 11, 12, 6, 13, 2, 14, 15, 16, 17, 18, 19, 20, 21, 22, 23, 24, 25, 26, 27, 28, 29, 30, 31, 32, 33, 34, 35, 36, 37, 38, 39] (by decide +kernel) (by decide +kernel)
set_option maxRecDepth 20000 in
theorem gX5_isDay_X5_takesOrder : GoodIn wsX5_isDay (wsV RX5 158 RX5 yX5_takesOrder wsX5_takesOrder) := goodIn_app (goodIn_of _ (by decide +kernel)) ggX5_isDay_X5_takesOrder
theorem dX5_isDay_0 : decode cX5_isDay 0 = .ok (.aload_n 0, 1) := by decide +kernel
theorem dX5_isDay_1 : decode cX5_isDay 1 = .ok (.iconst 0, 1) := by decide +kernel
theorem dX5_isDay_2 : decode cX5_isDay 2 = .ok (.putfield 137, 3) := by decide +kernel
theorem dX5_isDay_5 : decode cX5_isDay 5 = .ok (.aload_n 0, 1) := by decide +kernel
theorem dX5_isDay_6 : decode cX5_isDay 6 = .ok (.invokevirtual 158, 3) := by decide +kernel
theorem dX5_isDay_9 : decode cX5_isDay 9 = .ok (.istore_n 1, 1) := by decide +kernel
theorem dX5_isDay_10 : decode cX5_isDay 10 = .ok (.iload_n 1, 1) := by decide +kernel
theorem dX5_isDay_11 : decode cX5_isDay 11 = .ok (.ifCond .eq 22, 3) := by decide +kernel
theorem dX5_isDay_14 : decode cX5_isDay 14 = .ok (.aload_n 0, 1) := by decide +kernel
theorem dX5_isDay_15 : decode cX5_isDay 15 = .ok (.getfield 137, 3) := by decide +kernel
theorem dX5_isDay_18 : decode cX5_isDay 18 = .ok (.aload_n 0, 1) := by decide +kernel
theorem dX5_isDay_19 : decode cX5_isDay 19 = .ok (.getfield 134, 3) := by decide +kernel
theorem dX5_isDay_22 : decode cX5_isDay 22 = .ok (.if_icmp .ge 11, 3) := by decide +kernel
theorem dX5_isDay_25 : decode cX5_isDay 25 = .ok (.aload_n 0, 1) := by decide +kernel
theorem dX5_isDay_26 : decode cX5_isDay 26 = .ok (.invokevirtual 158, 3) := by decide +kernel
theorem dX5_isDay_29 : decode cX5_isDay 29 = .ok (.istore_n 1, 1) := by decide +kernel
theorem dX5_isDay_30 : decode cX5_isDay 30 = .ok (.goto (-20), 3) := by decide +kernel
theorem dX5_isDay_33 : decode cX5_isDay 33 = .ok (.iload_n 1, 1) := by decide +kernel
theorem dX5_isDay_34 : decode cX5_isDay 34 = .ok (.ireturn, 1) := by decide +kernel
set_option maxRecDepth 20000 in
theorem ggX5_firstError_X5_isDay : GoodIn wsX5_firstError wsX5_isDay := goodIn_r _ [8, 3, 2, 9, 10, 11, 7, 12, 13, 14, 15, 16, 17, 18, 19, 20, 21, 22, 23, 24, 25, 26, 27, 28, 29, 30, 31, 32, 33, 34, 35, 36, 37, 38, 39, 40, 41, 42, 43, 44] (by decide +kernel) (by decide +kernel)
set_option maxRecDepth 20000 in
theorem gX5_firstError_X5_isDay : GoodIn wsX5_firstError (wsV RX5 161 RX5 yX5_isDay wsX5_isDay) := goodIn_app (goodIn_of _ (by decide +kernel)) ggX5_firstError_X5_isDay
theorem dX5_firstError_0 : decode cX5_firstError 0 = .ok (.aload_n 0, 1) := by decide +kernel
theorem dX5_firstError_1 : decode cX5_firstError 1 = .ok (.iconst 0, 1) := by decide +kernel
theorem dX5_firstError_2 : decode cX5_firstError 2 = .ok (.putfield 28, 3) := by decide +kernel
theorem dX5_firstError_5 : decode cX5_firstError 5 = .ok (.aload_n 0, 1) := by decide +kernel
theorem dX5_firstError_6 : decode cX5_firstError 6 = .ok (.invokevirtual 161, 3) := by decide +kernel
theorem dX5_firstError_9 : decode cX5_firstError 9 = .ok (.ifCond .eq 10, 3) := by decide +kernel
theorem dX5_firstError_12 : decode cX5_firstError 12 = .ok (.aload_n 0, 1) := by decide +kernel
theorem dX5_firstError_13 : decode cX5_firstError 13 = .ok (.getfield 134, 3) := by decide +kernel
theorem dX5_firstError_16 : decode cX5_firstError 16 = .ok (.goto 7, 3) := by decide +kernel
theorem dX5_firstError_19 : decode cX5_firstError 19 = .ok (.aload_n 0, 1) := by decide +kernel
theorem dX5_firstError_20 : decode cX5_firstError 20 = .ok (.getfield 137, 3) := by decide +kernel
theorem dX5_firstError_23 : decode cX5_firstError 23 = .ok (.ireturn, 1) := by decide +kernel
set_option maxRecDepth 20000 in
theorem ggX5_mayDo_X5_isPair : GoodIn wsX5_mayDo wsX5_isPair := goodIn_r _ [9, 10, 11, 12, 8, 13, 4, 14, 15, 16, 17, 18, 19, 51, 52, 53, 54, 55, 56, 57, 58, 59, 60, 61, 62, 63] (by decide +kernel) (by decide +kernel)
set_option maxRecDepth 20000 in
theorem gX5_mayDo_X5_isPair : GoodIn wsX5_mayDo (wsV RX5 118 RX5 yX5_isPair wsX5_isPair) := goodIn_app (goodIn_of _ (by decide +kernel)) ggX5_mayDo_X5_isPair
set_option maxRecDepth 20000 in
theorem ggX5_mayDo_X5_canLend : GoodIn wsX5_mayDo wsX5_canLend := goodIn_r _ [23, 24, 25, 26, 8, 27, 28, 29, 30, 31, 4, 32, 33, 34, 35, 36, 37, 38, 39, 40, 41, 42, 43, 44, 45, 46, 47, 48, 49, 50, 51, 52, 53, 54, 55, 56, 57, 58, 59, 60, 61, 62, 63] (by decide +kernel) (by decide +kernel)
set_option maxRecDepth 20000 in
theorem gX5_mayDo_X5_canLend : GoodIn wsX5_mayDo (wsV RX5 122 RX5 yX5_canLend wsX5_canLend) := goodIn_app (goodIn_of _ (by decide +kernel)) ggX5_mayDo_X5_canLend
set_option maxRecDepth 20000 in
theorem ggX5_mayDo_X5_hasRoom : GoodIn wsX5_mayDo wsX5_hasRoom := goodIn_r _ [50, 4, 51, 52, 53, 54, 55, 56, 57, 58, 59, 60, 61, 62, 63] (by decide +kernel) (by decide +kernel)
set_option maxRecDepth 20000 in
theorem gX5_mayDo_X5_hasRoom : GoodIn wsX5_mayDo (wsV RX5 85 RX5 yX5_hasRoom wsX5_hasRoom) := goodIn_app (goodIn_of _ (by decide +kernel)) ggX5_mayDo_X5_hasRoom
set_option maxRecDepth 20000 in
theorem ggX5_mayDo_X5_of : GoodIn wsX5_mayDo wsX5_of := goodIn_r _ [43, 4, 44, 45, 8, 46, 51, 52, 53, 54, 55, 56, 57, 58, 59, 60, 61, 62, 63] (by decide +kernel) (by decide +kernel)
set_option maxRecDepth 20000 in
theorem gX5_mayDo_X5_of : GoodIn wsX5_mayDo (wsV RX5 54 RX5 yX5_of wsX5_of) := goodIn_app (goodIn_of _ (by decide +kernel)) ggX5_mayDo_X5_of
set_option maxRecDepth 20000 in
theorem ggX5_mayDo_X5_ofKind : GoodIn wsX5_mayDo wsX5_ofKind := goodIn_r _ [31, 4, 51, 52, 53, 54, 55, 56, 57, 58, 59, 60, 61, 62, 63] (by decide +kernel) (by decide +kernel)
set_option maxRecDepth 20000 in
theorem gX5_mayDo_X5_ofKind : GoodIn wsX5_mayDo (wsV RX5 61 RX5 yX5_ofKind wsX5_ofKind) := goodIn_app (goodIn_of _ (by decide +kernel)) ggX5_mayDo_X5_ofKind
theorem dX5_mayDo_0 : decode cX5_mayDo 0 = .ok (.aload_n 0, 1) := by decide +kernel
theorem dX5_mayDo_1 : decode cX5_mayDo 1 = .ok (.getfield 152, 3) := by decide +kernel
theorem dX5_mayDo_4 : decode cX5_mayDo 4 = .ok (.lookupswitch 161 #[(100, 143), (108, 44), (113, 76), (119, 104)], 44) := by decide +kernel
theorem dX5_mayDo_48 : decode cX5_mayDo 48 = .ok (.aload_n 0, 1) := by decide +kernel
theorem dX5_mayDo_49 : decode cX5_mayDo 49 = .ok (.aload_n 0, 1) := by decide +kernel
theorem dX5_mayDo_50 : decode cX5_mayDo 50 = .ok (.getfield 143, 3) := by decide +kernel
theorem dX5_mayDo_53 : decode cX5_mayDo 53 = .ok (.aload_n 0, 1) := by decide +kernel
theorem dX5_mayDo_54 : decode cX5_mayDo 54 = .ok (.getfield 149, 3) := by decide +kernel
theorem dX5_mayDo_57 : decode cX5_mayDo 57 = .ok (.invokevirtual 118, 3) := by decide +kernel
theorem dX5_mayDo_60 : decode cX5_mayDo 60 = .ok (.ifCond .eq 18, 3) := by decide +kernel
theorem dX5_mayDo_63 : decode cX5_mayDo 63 = .ok (.aload_n 0, 1) := by decide +kernel
theorem dX5_mayDo_64 : decode cX5_mayDo 64 = .ok (.aload_n 0, 1) := by decide +kernel
theorem dX5_mayDo_65 : decode cX5_mayDo 65 = .ok (.getfield 149, 3) := by decide +kernel
theorem dX5_mayDo_68 : decode cX5_mayDo 68 = .ok (.invokevirtual 122, 3) := by decide +kernel
theorem dX5_mayDo_71 : decode cX5_mayDo 71 = .ok (.ifCond .eq 7, 3) := by decide +kernel
theorem dX5_mayDo_74 : decode cX5_mayDo 74 = .ok (.iconst 1, 1) := by decide +kernel
theorem dX5_mayDo_75 : decode cX5_mayDo 75 = .ok (.goto 4, 3) := by decide +kernel
theorem dX5_mayDo_78 : decode cX5_mayDo 78 = .ok (.iconst 0, 1) := by decide +kernel
theorem dX5_mayDo_79 : decode cX5_mayDo 79 = .ok (.ireturn, 1) := by decide +kernel
theorem dX5_mayDo_80 : decode cX5_mayDo 80 = .ok (.aload_n 0, 1) := by decide +kernel
theorem dX5_mayDo_81 : decode cX5_mayDo 81 = .ok (.aload_n 0, 1) := by decide +kernel
theorem dX5_mayDo_82 : decode cX5_mayDo 82 = .ok (.getfield 143, 3) := by decide +kernel
theorem dX5_mayDo_85 : decode cX5_mayDo 85 = .ok (.aload_n 0, 1) := by decide +kernel
theorem dX5_mayDo_86 : decode cX5_mayDo 86 = .ok (.getfield 149, 3) := by decide +kernel
theorem dX5_mayDo_89 : decode cX5_mayDo 89 = .ok (.invokevirtual 118, 3) := by decide +kernel
theorem dX5_mayDo_92 : decode cX5_mayDo 92 = .ok (.ifCond .eq 14, 3) := by decide +kernel
theorem dX5_mayDo_95 : decode cX5_mayDo 95 = .ok (.aload_n 0, 1) := by decide +kernel
theorem dX5_mayDo_96 : decode cX5_mayDo 96 = .ok (.invokevirtual 85, 3) := by decide +kernel
theorem dX5_mayDo_99 : decode cX5_mayDo 99 = .ok (.ifCond .eq 7, 3) := by decide +kernel
theorem dX5_mayDo_102 : decode cX5_mayDo 102 = .ok (.iconst 1, 1) := by decide +kernel
theorem dX5_mayDo_103 : decode cX5_mayDo 103 = .ok (.goto 4, 3) := by decide +kernel
theorem dX5_mayDo_106 : decode cX5_mayDo 106 = .ok (.iconst 0, 1) := by decide +kernel
theorem dX5_mayDo_107 : decode cX5_mayDo 107 = .ok (.ireturn, 1) := by decide +kernel
theorem dX5_mayDo_108 : decode cX5_mayDo 108 = .ok (.aload_n 0, 1) := by decide +kernel
theorem dX5_mayDo_109 : decode cX5_mayDo 109 = .ok (.aload_n 0, 1) := by decide +kernel
theorem dX5_mayDo_110 : decode cX5_mayDo 110 = .ok (.getfield 143, 3) := by decide +kernel
theorem dX5_mayDo_113 : decode cX5_mayDo 113 = .ok (.aload_n 0, 1) := by decide +kernel
theorem dX5_mayDo_114 : decode cX5_mayDo 114 = .ok (.getfield 149, 3) := by decide +kernel
theorem dX5_mayDo_117 : decode cX5_mayDo 117 = .ok (.invokevirtual 118, 3) := by decide +kernel
theorem dX5_mayDo_120 : decode cX5_mayDo 120 = .ok (.ifCond .eq 25, 3) := by decide +kernel
theorem dX5_mayDo_123 : decode cX5_mayDo 123 = .ok (.aload_n 0, 1) := by decide +kernel
theorem dX5_mayDo_124 : decode cX5_mayDo 124 = .ok (.aload_n 0, 1) := by decide +kernel
theorem dX5_mayDo_125 : decode cX5_mayDo 125 = .ok (.getfield 143, 3) := by decide +kernel
theorem dX5_mayDo_128 : decode cX5_mayDo 128 = .ok (.aload_n 0, 1) := by decide +kernel
theorem dX5_mayDo_129 : decode cX5_mayDo 129 = .ok (.getfield 149, 3) := by decide +kernel
theorem dX5_mayDo_132 : decode cX5_mayDo 132 = .ok (.iconst 4, 1) := by decide +kernel
theorem dX5_mayDo_133 : decode cX5_mayDo 133 = .ok (.invokevirtual 54, 3) := by decide +kernel
theorem dX5_mayDo_136 : decode cX5_mayDo 136 = .ok (.bipush 9, 2) := by decide +kernel
theorem dX5_mayDo_138 : decode cX5_mayDo 138 = .ok (.if_icmp .ge 7, 3) := by decide +kernel
theorem dX5_mayDo_141 : decode cX5_mayDo 141 = .ok (.iconst 1, 1) := by decide +kernel
theorem dX5_mayDo_142 : decode cX5_mayDo 142 = .ok (.goto 4, 3) := by decide +kernel
theorem dX5_mayDo_145 : decode cX5_mayDo 145 = .ok (.iconst 0, 1) := by decide +kernel
theorem dX5_mayDo_146 : decode cX5_mayDo 146 = .ok (.ireturn, 1) := by decide +kernel
theorem dX5_mayDo_147 : decode cX5_mayDo 147 = .ok (.aload_n 0, 1) := by decide +kernel
theorem dX5_mayDo_148 : decode cX5_mayDo 148 = .ok (.aload_n 0, 1) := by decide +kernel
theorem dX5_mayDo_149 : decode cX5_mayDo 149 = .ok (.getfield 143, 3) := by decide +kernel
theorem dX5_mayDo_152 : decode cX5_mayDo 152 = .ok (.iconst 1, 1) := by decide +kernel
theorem dX5_mayDo_153 : decode cX5_mayDo 153 = .ok (.invokevirtual 61, 3) := by decide +kernel
theorem dX5_mayDo_156 : decode cX5_mayDo 156 = .ok (.ifCond .le 7, 3) := by decide +kernel
theorem dX5_mayDo_159 : decode cX5_mayDo 159 = .ok (.iconst 1, 1) := by decide +kernel
theorem dX5_mayDo_160 : decode cX5_mayDo 160 = .ok (.goto 4, 3) := by decide +kernel
theorem dX5_mayDo_163 : decode cX5_mayDo 163 = .ok (.iconst 0, 1) := by decide +kernel
theorem dX5_mayDo_164 : decode cX5_mayDo 164 = .ok (.ireturn, 1) := by decide +kernel
theorem dX5_mayDo_165 : decode cX5_mayDo 165 = .ok (.aload_n 0, 1) := by decide +kernel
theorem dX5_mayDo_166 : decode cX5_mayDo 166 = .ok (.getfield 7, 3) := by decide +kernel
theorem dX5_mayDo_169 : decode cX5_mayDo 169 = .ok (.iconst 0, 1) := by decide +kernel
theorem dX5_mayDo_170 : decode cX5_mayDo 170 = .ok (.iaload, 1) := by decide +kernel
theorem dX5_mayDo_171 : decode cX5_mayDo 171 = .ok (.aload_n 0, 1) := by decide +kernel
theorem dX5_mayDo_172 : decode cX5_mayDo 172 = .ok (.getfield 143, 3) := by decide +kernel
theorem dX5_mayDo_175 : decode cX5_mayDo 175 = .ok (.iadd, 1) := by decide +kernel
theorem dX5_mayDo_176 : decode cX5_mayDo 176 = .ok (.sipush 9999, 3) := by decide +kernel
theorem dX5_mayDo_179 : decode cX5_mayDo 179 = .ok (.if_icmp .gt 7, 3) := by decide +kernel
theorem dX5_mayDo_182 : decode cX5_mayDo 182 = .ok (.iconst 1, 1) := by decide +kernel
theorem dX5_mayDo_183 : decode cX5_mayDo 183 = .ok (.goto 4, 3) := by decide +kernel
theorem dX5_mayDo_186 : decode cX5_mayDo 186 = .ok (.iconst 0, 1) := by decide +kernel
theorem dX5_mayDo_187 : decode cX5_mayDo 187 = .ok (.ireturn, 1) := by decide +kernel
set_option maxRecDepth 20000 in
theorem ggX5_does_X5_lendsOne : GoodIn wsX5_does wsX5_lendsOne := goodIn_r _ [9, 4, 10, 11, 8, 12, 13, 14, 15, 16, 17, 18, 19, 20, 89, 90, 91, 92, 93, 94, 95, 96, 97, 98, 99, 100, 101] (by decide +kernel) (by decide +kernel)
set_option maxRecDepth 20000 in
theorem gX5_does_X5_lendsOne : GoodIn wsX5_does (wsV RX5 95 RX5 yX5_lendsOne wsX5_lendsOne) := goodIn_app (goodIn_of _ (by decide +kernel)) ggX5_does_X5_lendsOne
set_option maxRecDepth 20000 in
theorem ggX5_does_X5_asks : GoodIn wsX5_does wsX5_asks := goodIn_r _ [24, 13, 14, 15, 8, 16, 4, 10, 11, 12, 17, 18, 19, 20, 89, 90, 91, 92, 93, 94, 95, 96, 97, 98, 99, 100, 101] (by decide +kernel) (by decide +kernel)
set_option maxRecDepth 20000 in
theorem gX5_does_X5_asks : GoodIn wsX5_does (wsV RX5 125 RX5 yX5_asks wsX5_asks) := goodIn_app (goodIn_of _ (by decide +kernel)) ggX5_does_X5_asks
set_option maxRecDepth 20000 in
theorem ggX5_does_X5_at : GoodIn wsX5_does wsX5_at := goodIn_r _ [12] (by decide +kernel) (by decide +kernel)
set_option maxRecDepth 20000 in
theorem gX5_does_X5_at : GoodIn wsX5_does (va_wsS RX5 50 yX5_at wsX5_at) := goodIn_app (goodIn_of _ (by decide +kernel)) ggX5_does_X5_at
set_option maxRecDepth 20000 in
theorem ggX5_does_X5_drinks : GoodIn wsX5_does wsX5_drinks := goodIn_r _ [28, 4, 89, 90, 91, 92, 93, 94, 95, 96, 97, 98, 99, 100, 101] (by decide +kernel) (by decide +kernel)
set_option maxRecDepth 20000 in
theorem gX5_does_X5_drinks : GoodIn wsX5_does (wsV RX5 128 RX5 yX5_drinks wsX5_drinks) := goodIn_app (goodIn_of _ (by decide +kernel)) ggX5_does_X5_drinks
set_option maxRecDepth 20000 in
theorem ggX5_does_X5_ticks : GoodIn wsX5_does wsX5_ticks := goodIn_r _ [32, 33, 34, 35, 8, 36, 4, 37, 38, 39, 40, 41, 42, 43, 44, 45, 46, 47, 48, 49, 50, 51, 52, 13, 14, 15, 16, 10, 11, 12, 17, 18, 19, 20, 53, 54, 55, 56, 57, 58, 59, 60, 61, 62, 63, 64, 65, 66, 67, 68, 69, 70, 71, 72, 73, 74, 75, 76, 77, 78, 79, 80, 81, 82, 83, 84, 85, 86, 87, 88, 5, 6, 7, 9, 89, 90, 91, 92, 93, 94, 95, 96, 97, 98, 99, 100, 101] (by decide +kernel) (by decide +kernel)
set_option maxRecDepth 20000 in
theorem gX5_does_X5_ticks : GoodIn wsX5_does (wsV RX5 131 RX5 yX5_ticks wsX5_ticks) := goodIn_app (goodIn_of _ (by decide +kernel)) ggX5_does_X5_ticks
theorem dX5_does_0 : decode cX5_does 0 = .ok (.iconst 0, 1) := by decide +kernel
theorem dX5_does_1 : decode cX5_does 1 = .ok (.istore_n 1, 1) := by decide +kernel
theorem dX5_does_2 : decode cX5_does 2 = .ok (.aload_n 0, 1) := by decide +kernel
theorem dX5_does_3 : decode cX5_does 3 = .ok (.getfield 152, 3) := by decide +kernel
theorem dX5_does_6 : decode cX5_does 6 = .ok (.lookupswitch 108 #[(100, 97), (108, 42), (113, 57), (119, 72)], 42) := by decide +kernel
theorem dX5_does_48 : decode cX5_does 48 = .ok (.aload_n 0, 1) := by decide +kernel
theorem dX5_does_49 : decode cX5_does 49 = .ok (.aload_n 0, 1) := by decide +kernel
theorem dX5_does_50 : decode cX5_does 50 = .ok (.getfield 143, 3) := by decide +kernel
theorem dX5_does_53 : decode cX5_does 53 = .ok (.aload_n 0, 1) := by decide +kernel
theorem dX5_does_54 : decode cX5_does 54 = .ok (.getfield 149, 3) := by decide +kernel
theorem dX5_does_57 : decode cX5_does 57 = .ok (.invokevirtual 95, 3) := by decide +kernel
theorem dX5_does_60 : decode cX5_does 60 = .ok (.goto 63, 3) := by decide +kernel
theorem dX5_does_63 : decode cX5_does 63 = .ok (.aload_n 0, 1) := by decide +kernel
theorem dX5_does_64 : decode cX5_does 64 = .ok (.aload_n 0, 1) := by decide +kernel
theorem dX5_does_65 : decode cX5_does 65 = .ok (.getfield 143, 3) := by decide +kernel
theorem dX5_does_68 : decode cX5_does 68 = .ok (.aload_n 0, 1) := by decide +kernel
theorem dX5_does_69 : decode cX5_does 69 = .ok (.getfield 149, 3) := by decide +kernel
theorem dX5_does_72 : decode cX5_does 72 = .ok (.invokevirtual 125, 3) := by decide +kernel
theorem dX5_does_75 : decode cX5_does 75 = .ok (.goto 48, 3) := by decide +kernel
theorem dX5_does_78 : decode cX5_does 78 = .ok (.aload_n 0, 1) := by decide +kernel
theorem dX5_does_79 : decode cX5_does 79 = .ok (.getfield 7, 3) := by decide +kernel
theorem dX5_does_82 : decode cX5_does 82 = .ok (.aload_n 0, 1) := by decide +kernel
theorem dX5_does_83 : decode cX5_does 83 = .ok (.getfield 143, 3) := by decide +kernel
theorem dX5_does_86 : decode cX5_does 86 = .ok (.aload_n 0, 1) := by decide +kernel
theorem dX5_does_87 : decode cX5_does 87 = .ok (.getfield 149, 3) := by decide +kernel
theorem dX5_does_90 : decode cX5_does 90 = .ok (.invokestatic 50, 3) := by decide +kernel
theorem dX5_does_93 : decode cX5_does 93 = .ok (.iconst 4, 1) := by decide +kernel
theorem dX5_does_94 : decode cX5_does 94 = .ok (.iadd, 1) := by decide +kernel
theorem dX5_does_95 : decode cX5_does 95 = .ok (.dup2, 1) := by decide +kernel
theorem dX5_does_96 : decode cX5_does 96 = .ok (.iaload, 1) := by decide +kernel
theorem dX5_does_97 : decode cX5_does 97 = .ok (.iconst 1, 1) := by decide +kernel
theorem dX5_does_98 : decode cX5_does 98 = .ok (.iadd, 1) := by decide +kernel
theorem dX5_does_99 : decode cX5_does 99 = .ok (.iastore, 1) := by decide +kernel
theorem dX5_does_100 : decode cX5_does 100 = .ok (.goto 23, 3) := by decide +kernel
theorem dX5_does_103 : decode cX5_does 103 = .ok (.aload_n 0, 1) := by decide +kernel
theorem dX5_does_104 : decode cX5_does 104 = .ok (.aload_n 0, 1) := by decide +kernel
theorem dX5_does_105 : decode cX5_does 105 = .ok (.getfield 143, 3) := by decide +kernel
theorem dX5_does_108 : decode cX5_does 108 = .ok (.invokevirtual 128, 3) := by decide +kernel
theorem dX5_does_111 : decode cX5_does 111 = .ok (.goto 12, 3) := by decide +kernel
theorem dX5_does_114 : decode cX5_does 114 = .ok (.aload_n 0, 1) := by decide +kernel
theorem dX5_does_115 : decode cX5_does 115 = .ok (.aload_n 0, 1) := by decide +kernel
theorem dX5_does_116 : decode cX5_does 116 = .ok (.getfield 143, 3) := by decide +kernel
theorem dX5_does_119 : decode cX5_does 119 = .ok (.invokevirtual 131, 3) := by decide +kernel
theorem dX5_does_122 : decode cX5_does 122 = .ok (.istore_n 1, 1) := by decide +kernel
theorem dX5_does_123 : decode cX5_does 123 = .ok (.return_, 1) := by decide +kernel
set_option maxRecDepth 20000 in
theorem ggX5_run_X5_isDay : GoodIn wsX5_run wsX5_isDay := goodIn_r _ [8, 2, 3, 9, 10, 11, 7, 12, 13, 14, 15, 16, 17, 18, 19, 20, 21, 22, 23, 24, 25, 26, 27, 28, 29, 30, 31, 152, 153, 154, 155, 156, 157, 158, 159, 160, 161, 162, 163, 164] (by decide +kernel) (by decide +kernel)
set_option maxRecDepth 20000 in
theorem gX5_run_X5_isDay : GoodIn wsX5_run (wsV RX5 161 RX5 yX5_isDay wsX5_isDay) := goodIn_app (goodIn_of _ (by decide +kernel)) ggX5_run_X5_isDay
set_option maxRecDepth 20000 in
theorem ggX5_run_X5_fails : GoodIn wsX5_run wsX5_fails := goodIn_r _ [35, 1, 152, 153, 154, 155, 156, 157, 158, 159, 160, 161, 162, 163, 164] (by decide +kernel) (by decide +kernel)
set_option maxRecDepth 20000 in
theorem gX5_run_X5_fails : GoodIn wsX5_run (wsV RX5 112 RX5 yX5_fails wsX5_fails) := goodIn_app (goodIn_of _ (by decide +kernel)) ggX5_run_X5_fails
set_option maxRecDepth 20000 in
theorem ggX5_run_X5_saves : GoodIn wsX5_run wsX5_saves := goodIn_r _ [39, 40, 41, 42, 43, 44, 7, 45, 152, 153, 154, 155, 156, 157, 158, 159, 160, 161, 162, 163, 164] (by decide +kernel) (by decide +kernel)
set_option maxRecDepth 20000 in
theorem gX5_run_X5_saves : GoodIn wsX5_run (wsV RX5 115 RX5 yX5_saves wsX5_saves) := goodIn_app (goodIn_of _ (by decide +kernel)) ggX5_run_X5_saves
set_option maxRecDepth 20000 in
theorem ggX5_run_X5_takesOrder : GoodIn wsX5_run wsX5_takesOrder := goodIn_r _ [12, 13, 2, 14, 15, 16, 17, 7, 18, 3, 19, 20, 21, 22, 23, 24, 25, 26, 27, 28, 29, 30, 31, 152, 153, 154, 155, 156, 157, 158, 159, 160, 161, 162, 163, 164] (by decide +kernel) (by decide +kernel)
set_option maxRecDepth 20000 in
theorem gX5_run_X5_takesOrder : GoodIn wsX5_run (wsV RX5 158 RX5 yX5_takesOrder wsX5_takesOrder) := goodIn_app (goodIn_of _ (by decide +kernel)) ggX5_run_X5_takesOrder
set_option maxRecDepth 20000 in
theorem ggX5_run_X5_mayDo : GoodIn wsX5_run wsX5_mayDo := goodIn_r _ [49, 13, 14, 24, 42, 50, 51, 52, 7, 53, 54, 55, 56, 57, 29, 30, 31, 58, 59, 60, 61, 62, 63, 64, 65, 66, 67, 68, 69, 70, 71, 72, 73, 74, 75, 76, 77, 78, 79, 80, 81, 82, 83, 84, 85, 86, 87, 88, 89, 90, 91, 152, 153, 154, 155, 156, 157, 158, 159, 160, 161, 162, 163, 164] (by decide +kernel) (by decide +kernel)
set_option maxRecDepth 20000 in
theorem gX5_run_X5_mayDo : GoodIn wsX5_run (wsV RX5 164 RX5 yX5_mayDo wsX5_mayDo) := goodIn_app (goodIn_of _ (by decide +kernel)) ggX5_run_X5_mayDo
set_option maxRecDepth 20000 in
theorem ggX5_run_X5_does : GoodIn wsX5_run wsX5_does := goodIn_r _ [95, 13, 14, 24, 42, 96, 97, 98, 7, 99, 85, 86, 87, 81, 82, 83, 84, 100, 101, 102, 103, 104, 105, 106, 107, 108, 109, 110, 111, 112, 113, 114, 115, 116, 117, 118, 119, 120, 121, 122, 123, 124, 125, 126, 127, 128, 129, 130, 131, 132, 133, 134, 135, 136, 137, 138, 139, 140, 141, 142, 143, 144, 145, 146, 147, 77, 78, 79, 80, 88, 89, 90, 91, 148, 149, 150, 151, 65, 66, 67, 68, 69, 70, 71, 72, 73, 74, 75, 76, 152, 153, 154, 155, 156, 157, 158, 159, 160, 161, 162, 163, 164] (by decide +kernel) (by decide +kernel)
set_option maxRecDepth 20000 in
theorem gX5_run_X5_does : GoodIn wsX5_run (wsV RX5 167 RX5 yX5_does wsX5_does) := goodIn_app (goodIn_of _ (by decide +kernel)) ggX5_run_X5_does
theorem dX5_run_0 : decode cX5_run 0 = .ok (.aload_n 0, 1) := by decide +kernel
theorem dX5_run_1 : decode cX5_run 1 = .ok (.iconst 0, 1) := by decide +kernel
theorem dX5_run_2 : decode cX5_run 2 = .ok (.putfield 28, 3) := by decide +kernel
theorem dX5_run_5 : decode cX5_run 5 = .ok (.aload_n 0, 1) := by decide +kernel
theorem dX5_run_6 : decode cX5_run 6 = .ok (.invokevirtual 161, 3) := by decide +kernel
theorem dX5_run_9 : decode cX5_run 9 = .ok (.ifCond .ne 9, 3) := by decide +kernel
theorem dX5_run_12 : decode cX5_run 12 = .ok (.aload_n 0, 1) := by decide +kernel
theorem dX5_run_13 : decode cX5_run 13 = .ok (.iconst 1, 1) := by decide +kernel
theorem dX5_run_14 : decode cX5_run 14 = .ok (.invokevirtual 112, 3) := by decide +kernel
theorem dX5_run_17 : decode cX5_run 17 = .ok (.ireturn, 1) := by decide +kernel
theorem dX5_run_18 : decode cX5_run 18 = .ok (.aload_n 0, 1) := by decide +kernel
theorem dX5_run_19 : decode cX5_run 19 = .ok (.invokevirtual 115, 3) := by decide +kernel
theorem dX5_run_22 : decode cX5_run 22 = .ok (.aload_n 0, 1) := by decide +kernel
theorem dX5_run_23 : decode cX5_run 23 = .ok (.iconst 0, 1) := by decide +kernel
theorem dX5_run_24 : decode cX5_run 24 = .ok (.putfield 137, 3) := by decide +kernel
theorem dX5_run_27 : decode cX5_run 27 = .ok (.iconst 0, 1) := by decide +kernel
theorem dX5_run_28 : decode cX5_run 28 = .ok (.istore_n 1, 1) := by decide +kernel
theorem dX5_run_29 : decode cX5_run 29 = .ok (.iconst 1, 1) := by decide +kernel
theorem dX5_run_30 : decode cX5_run 30 = .ok (.istore_n 2, 1) := by decide +kernel
theorem dX5_run_31 : decode cX5_run 31 = .ok (.iload_n 2, 1) := by decide +kernel
theorem dX5_run_32 : decode cX5_run 32 = .ok (.ifCond .eq 48, 3) := by decide +kernel
theorem dX5_run_35 : decode cX5_run 35 = .ok (.aload_n 0, 1) := by decide +kernel
theorem dX5_run_36 : decode cX5_run 36 = .ok (.getfield 137, 3) := by decide +kernel
theorem dX5_run_39 : decode cX5_run 39 = .ok (.aload_n 0, 1) := by decide +kernel
theorem dX5_run_40 : decode cX5_run 40 = .ok (.getfield 134, 3) := by decide +kernel
theorem dX5_run_43 : decode cX5_run 43 = .ok (.if_icmp .ge 37, 3) := by decide +kernel
theorem dX5_run_46 : decode cX5_run 46 = .ok (.aload_n 0, 1) := by decide +kernel
theorem dX5_run_47 : decode cX5_run 47 = .ok (.invokevirtual 158, 3) := by decide +kernel
theorem dX5_run_50 : decode cX5_run 50 = .ok (.ifCond .eq 14, 3) := by decide +kernel
theorem dX5_run_53 : decode cX5_run 53 = .ok (.aload_n 0, 1) := by decide +kernel
theorem dX5_run_54 : decode cX5_run 54 = .ok (.invokevirtual 164, 3) := by decide +kernel
theorem dX5_run_57 : decode cX5_run 57 = .ok (.ifCond .eq 7, 3) := by decide +kernel
theorem dX5_run_60 : decode cX5_run 60 = .ok (.iconst 1, 1) := by decide +kernel
theorem dX5_run_61 : decode cX5_run 61 = .ok (.goto 4, 3) := by decide +kernel
theorem dX5_run_64 : decode cX5_run 64 = .ok (.iconst 0, 1) := by decide +kernel
theorem dX5_run_65 : decode cX5_run 65 = .ok (.istore_n 2, 1) := by decide +kernel
theorem dX5_run_66 : decode cX5_run 66 = .ok (.iload_n 2, 1) := by decide +kernel
theorem dX5_run_67 : decode cX5_run 67 = .ok (.ifCond .eq (-36), 3) := by decide +kernel
theorem dX5_run_70 : decode cX5_run 70 = .ok (.aload_n 0, 1) := by decide +kernel
theorem dX5_run_71 : decode cX5_run 71 = .ok (.invokevirtual 167, 3) := by decide +kernel
theorem dX5_run_74 : decode cX5_run 74 = .ok (.iinc 1 1, 3) := by decide +kernel
theorem dX5_run_77 : decode cX5_run 77 = .ok (.goto (-46), 3) := by decide +kernel
theorem dX5_run_80 : decode cX5_run 80 = .ok (.aload_n 0, 1) := by decide +kernel
theorem dX5_run_81 : decode cX5_run 81 = .ok (.iconst 0, 1) := by decide +kernel
theorem dX5_run_82 : decode cX5_run 82 = .ok (.putfield 134, 3) := by decide +kernel
theorem dX5_run_85 : decode cX5_run 85 = .ok (.iload_n 1, 1) := by decide +kernel
theorem dX5_run_86 : decode cX5_run 86 = .ok (.ireturn, 1) := by decide +kernel
set_option maxRecDepth 20000 in
theorem ggX5_keep_X5_in : GoodIn wsX5_keep wsX5_in := goodIn_r _ [8] (by decide +kernel) (by decide +kernel)
set_option maxRecDepth 20000 in
theorem gX5_keep_X5_in : GoodIn wsX5_keep (va_wsS RX5 39 yX5_in wsX5_in) := goodIn_app (goodIn_of _ (by decide +kernel)) ggX5_keep_X5_in
set_option maxRecDepth 20000 in
theorem ggX5_keep_X5_fails : GoodIn wsX5_keep wsX5_fails := goodIn_r _ [12, 1, 16, 17, 18, 19, 20, 21, 22, 23, 24, 25, 26, 27, 28] (by decide +kernel) (by decide +kernel)
set_option maxRecDepth 20000 in
theorem gX5_keep_X5_fails : GoodIn wsX5_keep (wsV RX5 112 RX5 yX5_fails wsX5_fails) := goodIn_app (goodIn_of _ (by decide +kernel)) ggX5_keep_X5_fails
set_option maxRecDepth 20000 in
theorem ggX5_keep_X5_copies : GoodIn wsX5_keep wsX5_copies := goodIn_r _ [15] (by decide +kernel) (by decide +kernel)
set_option maxRecDepth 20000 in
theorem gX5_keep_X5_copies : GoodIn wsX5_keep (va_wsS RX5 35 yX5_copies wsX5_copies) := goodIn_app (goodIn_of _ (by decide +kernel)) ggX5_keep_X5_copies
theorem dX5_keep_0 : decode cX5_keep 0 = .ok (.aload_n 0, 1) := by decide +kernel
theorem dX5_keep_1 : decode cX5_keep 1 = .ok (.iconst 0, 1) := by decide +kernel
theorem dX5_keep_2 : decode cX5_keep 2 = .ok (.putfield 28, 3) := by decide +kernel
theorem dX5_keep_5 : decode cX5_keep 5 = .ok (.iload_n 1, 1) := by decide +kernel
theorem dX5_keep_6 : decode cX5_keep 6 = .ok (.iconst 0, 1) := by decide +kernel
theorem dX5_keep_7 : decode cX5_keep 7 = .ok (.iconst 1, 1) := by decide +kernel
theorem dX5_keep_8 : decode cX5_keep 8 = .ok (.invokestatic 39, 3) := by decide +kernel
theorem dX5_keep_11 : decode cX5_keep 11 = .ok (.ifCond .ne 9, 3) := by decide +kernel
theorem dX5_keep_14 : decode cX5_keep 14 = .ok (.aload_n 0, 1) := by decide +kernel
theorem dX5_keep_15 : decode cX5_keep 15 = .ok (.iconst 1, 1) := by decide +kernel
theorem dX5_keep_16 : decode cX5_keep 16 = .ok (.invokevirtual 112, 3) := by decide +kernel
theorem dX5_keep_19 : decode cX5_keep 19 = .ok (.ireturn, 1) := by decide +kernel
theorem dX5_keep_20 : decode cX5_keep 20 = .ok (.aload_n 0, 1) := by decide +kernel
theorem dX5_keep_21 : decode cX5_keep 21 = .ok (.getfield 7, 3) := by decide +kernel
theorem dX5_keep_24 : decode cX5_keep 24 = .ok (.iconst 0, 1) := by decide +kernel
theorem dX5_keep_25 : decode cX5_keep 25 = .ok (.aload_n 0, 1) := by decide +kernel
theorem dX5_keep_26 : decode cX5_keep 26 = .ok (.getfield 19, 3) := by decide +kernel
theorem dX5_keep_29 : decode cX5_keep 29 = .ok (.sipush 283, 3) := by decide +kernel
theorem dX5_keep_32 : decode cX5_keep 32 = .ok (.iload_n 1, 1) := by decide +kernel
theorem dX5_keep_33 : decode cX5_keep 33 = .ok (.imul, 1) := by decide +kernel
theorem dX5_keep_34 : decode cX5_keep 34 = .ok (.invokestatic 35, 3) := by decide +kernel
theorem dX5_keep_37 : decode cX5_keep 37 = .ok (.aload_n 0, 1) := by decide +kernel
theorem dX5_keep_38 : decode cX5_keep 38 = .ok (.getfield 22, 3) := by decide +kernel
theorem dX5_keep_41 : decode cX5_keep 41 = .ok (.iload_n 1, 1) := by decide +kernel
theorem dX5_keep_42 : decode cX5_keep 42 = .ok (.iconst 1, 1) := by decide +kernel
theorem dX5_keep_43 : decode cX5_keep 43 = .ok (.iastore, 1) := by decide +kernel
theorem dX5_keep_44 : decode cX5_keep 44 = .ok (.aload_n 0, 1) := by decide +kernel
theorem dX5_keep_45 : decode cX5_keep 45 = .ok (.getfield 7, 3) := by decide +kernel
theorem dX5_keep_48 : decode cX5_keep 48 = .ok (.iconst 0, 1) := by decide +kernel
theorem dX5_keep_49 : decode cX5_keep 49 = .ok (.iaload, 1) := by decide +kernel
theorem dX5_keep_50 : decode cX5_keep 50 = .ok (.ireturn, 1) := by decide +kernel
set_option maxRecDepth 20000 in
theorem ggX5_goBack_X5_in : GoodIn wsX5_goBack wsX5_in := goodIn_r _ [8] (by decide +kernel) (by decide +kernel)
set_option maxRecDepth 20000 in
theorem gX5_goBack_X5_in : GoodIn wsX5_goBack (va_wsS RX5 39 yX5_in wsX5_in) := goodIn_app (goodIn_of _ (by decide +kernel)) ggX5_goBack_X5_in
set_option maxRecDepth 20000 in
theorem ggX5_goBack_X5_fails : GoodIn wsX5_goBack wsX5_fails := goodIn_r _ [12, 1, 22, 23, 24, 25, 26, 27, 28, 29, 30, 31, 32, 33, 34] (by decide +kernel) (by decide +kernel)
set_option maxRecDepth 20000 in
theorem gX5_goBack_X5_fails : GoodIn wsX5_goBack (wsV RX5 112 RX5 yX5_fails wsX5_fails) := goodIn_app (goodIn_of _ (by decide +kernel)) ggX5_goBack_X5_fails
set_option maxRecDepth 20000 in
theorem ggX5_goBack_X5_saves : GoodIn wsX5_goBack wsX5_saves := goodIn_r _ [16, 17, 18, 4, 19, 20, 7, 21, 22, 23, 24, 25, 26, 27, 28, 29, 30, 31, 32, 33, 34] (by decide +kernel) (by decide +kernel)
set_option maxRecDepth 20000 in
theorem gX5_goBack_X5_saves : GoodIn wsX5_goBack (wsV RX5 115 RX5 yX5_saves wsX5_saves) := goodIn_app (goodIn_of _ (by decide +kernel)) ggX5_goBack_X5_saves
set_option maxRecDepth 20000 in
theorem ggX5_goBack_X5_copies : GoodIn wsX5_goBack wsX5_copies := goodIn_r _ [21] (by decide +kernel) (by decide +kernel)
set_option maxRecDepth 20000 in
theorem gX5_goBack_X5_copies : GoodIn wsX5_goBack (va_wsS RX5 35 yX5_copies wsX5_copies) := goodIn_app (goodIn_of _ (by decide +kernel)) ggX5_goBack_X5_copies
theorem dX5_goBack_0 : decode cX5_goBack 0 = .ok (.aload_n 0, 1) := by decide +kernel
theorem dX5_goBack_1 : decode cX5_goBack 1 = .ok (.iconst 0, 1) := by decide +kernel
theorem dX5_goBack_2 : decode cX5_goBack 2 = .ok (.putfield 28, 3) := by decide +kernel
theorem dX5_goBack_5 : decode cX5_goBack 5 = .ok (.iload_n 1, 1) := by decide +kernel
theorem dX5_goBack_6 : decode cX5_goBack 6 = .ok (.iconst 0, 1) := by decide +kernel
theorem dX5_goBack_7 : decode cX5_goBack 7 = .ok (.iconst 1, 1) := by decide +kernel
theorem dX5_goBack_8 : decode cX5_goBack 8 = .ok (.invokestatic 39, 3) := by decide +kernel
theorem dX5_goBack_11 : decode cX5_goBack 11 = .ok (.ifCond .ne 9, 3) := by decide +kernel
theorem dX5_goBack_14 : decode cX5_goBack 14 = .ok (.aload_n 0, 1) := by decide +kernel
theorem dX5_goBack_15 : decode cX5_goBack 15 = .ok (.iconst 1, 1) := by decide +kernel
theorem dX5_goBack_16 : decode cX5_goBack 16 = .ok (.invokevirtual 112, 3) := by decide +kernel
theorem dX5_goBack_19 : decode cX5_goBack 19 = .ok (.ireturn, 1) := by decide +kernel
theorem dX5_goBack_20 : decode cX5_goBack 20 = .ok (.aload_n 0, 1) := by decide +kernel
theorem dX5_goBack_21 : decode cX5_goBack 21 = .ok (.getfield 22, 3) := by decide +kernel
theorem dX5_goBack_24 : decode cX5_goBack 24 = .ok (.iload_n 1, 1) := by decide +kernel
theorem dX5_goBack_25 : decode cX5_goBack 25 = .ok (.iaload, 1) := by decide +kernel
theorem dX5_goBack_26 : decode cX5_goBack 26 = .ok (.ifCond .ne 9, 3) := by decide +kernel
theorem dX5_goBack_29 : decode cX5_goBack 29 = .ok (.aload_n 0, 1) := by decide +kernel
theorem dX5_goBack_30 : decode cX5_goBack 30 = .ok (.iconst 2, 1) := by decide +kernel
theorem dX5_goBack_31 : decode cX5_goBack 31 = .ok (.invokevirtual 112, 3) := by decide +kernel
theorem dX5_goBack_34 : decode cX5_goBack 34 = .ok (.ireturn, 1) := by decide +kernel
theorem dX5_goBack_35 : decode cX5_goBack 35 = .ok (.aload_n 0, 1) := by decide +kernel
theorem dX5_goBack_36 : decode cX5_goBack 36 = .ok (.invokevirtual 115, 3) := by decide +kernel
theorem dX5_goBack_39 : decode cX5_goBack 39 = .ok (.aload_n 0, 1) := by decide +kernel
theorem dX5_goBack_40 : decode cX5_goBack 40 = .ok (.getfield 19, 3) := by decide +kernel
theorem dX5_goBack_43 : decode cX5_goBack 43 = .ok (.sipush 283, 3) := by decide +kernel
theorem dX5_goBack_46 : decode cX5_goBack 46 = .ok (.iload_n 1, 1) := by decide +kernel
theorem dX5_goBack_47 : decode cX5_goBack 47 = .ok (.imul, 1) := by decide +kernel
theorem dX5_goBack_48 : decode cX5_goBack 48 = .ok (.aload_n 0, 1) := by decide +kernel
theorem dX5_goBack_49 : decode cX5_goBack 49 = .ok (.getfield 7, 3) := by decide +kernel
theorem dX5_goBack_52 : decode cX5_goBack 52 = .ok (.iconst 0, 1) := by decide +kernel
theorem dX5_goBack_53 : decode cX5_goBack 53 = .ok (.invokestatic 35, 3) := by decide +kernel
theorem dX5_goBack_56 : decode cX5_goBack 56 = .ok (.aload_n 0, 1) := by decide +kernel
theorem dX5_goBack_57 : decode cX5_goBack 57 = .ok (.getfield 7, 3) := by decide +kernel
theorem dX5_goBack_60 : decode cX5_goBack 60 = .ok (.iconst 0, 1) := by decide +kernel
theorem dX5_goBack_61 : decode cX5_goBack 61 = .ok (.iaload, 1) := by decide +kernel
theorem dX5_goBack_62 : decode cX5_goBack 62 = .ok (.ireturn, 1) := by decide +kernel
set_option maxRecDepth 20000 in
theorem ggX5_undo_X5_fails : GoodIn wsX5_undo wsX5_fails := goodIn_r _ [9, 1, 13, 14, 15, 16, 17, 18, 19, 20, 21, 22, 23, 24, 25] (by decide +kernel) (by decide +kernel)
set_option maxRecDepth 20000 in
theorem gX5_undo_X5_fails : GoodIn wsX5_undo (wsV RX5 112 RX5 yX5_fails wsX5_fails) := goodIn_app (goodIn_of _ (by decide +kernel)) ggX5_undo_X5_fails
set_option maxRecDepth 20000 in
theorem ggX5_undo_X5_copies : GoodIn wsX5_undo wsX5_copies := goodIn_r _ [12] (by decide +kernel) (by decide +kernel)
set_option maxRecDepth 20000 in
theorem gX5_undo_X5_copies : GoodIn wsX5_undo (va_wsS RX5 35 yX5_copies wsX5_copies) := goodIn_app (goodIn_of _ (by decide +kernel)) ggX5_undo_X5_copies
theorem dX5_undo_0 : decode cX5_undo 0 = .ok (.aload_n 0, 1) := by decide +kernel
theorem dX5_undo_1 : decode cX5_undo 1 = .ok (.iconst 0, 1) := by decide +kernel
theorem dX5_undo_2 : decode cX5_undo 2 = .ok (.putfield 28, 3) := by decide +kernel
theorem dX5_undo_5 : decode cX5_undo 5 = .ok (.aload_n 0, 1) := by decide +kernel
theorem dX5_undo_6 : decode cX5_undo 6 = .ok (.getfield 32, 3) := by decide +kernel
theorem dX5_undo_9 : decode cX5_undo 9 = .ok (.ifCond .ne 9, 3) := by decide +kernel
theorem dX5_undo_12 : decode cX5_undo 12 = .ok (.aload_n 0, 1) := by decide +kernel
theorem dX5_undo_13 : decode cX5_undo 13 = .ok (.iconst 1, 1) := by decide +kernel
theorem dX5_undo_14 : decode cX5_undo 14 = .ok (.invokevirtual 112, 3) := by decide +kernel
theorem dX5_undo_17 : decode cX5_undo 17 = .ok (.ireturn, 1) := by decide +kernel
theorem dX5_undo_18 : decode cX5_undo 18 = .ok (.aload_n 0, 1) := by decide +kernel
theorem dX5_undo_19 : decode cX5_undo 19 = .ok (.dup, 1) := by decide +kernel
theorem dX5_undo_20 : decode cX5_undo 20 = .ok (.getfield 32, 3) := by decide +kernel
theorem dX5_undo_23 : decode cX5_undo 23 = .ok (.iconst 1, 1) := by decide +kernel
theorem dX5_undo_24 : decode cX5_undo 24 = .ok (.isub, 1) := by decide +kernel
theorem dX5_undo_25 : decode cX5_undo 25 = .ok (.putfield 32, 3) := by decide +kernel
theorem dX5_undo_28 : decode cX5_undo 28 = .ok (.aload_n 0, 1) := by decide +kernel
theorem dX5_undo_29 : decode cX5_undo 29 = .ok (.getfield 16, 3) := by decide +kernel
theorem dX5_undo_32 : decode cX5_undo 32 = .ok (.sipush 283, 3) := by decide +kernel
theorem dX5_undo_35 : decode cX5_undo 35 = .ok (.aload_n 0, 1) := by decide +kernel
theorem dX5_undo_36 : decode cX5_undo 36 = .ok (.getfield 32, 3) := by decide +kernel
theorem dX5_undo_39 : decode cX5_undo 39 = .ok (.imul, 1) := by decide +kernel
theorem dX5_undo_40 : decode cX5_undo 40 = .ok (.aload_n 0, 1) := by decide +kernel
theorem dX5_undo_41 : decode cX5_undo 41 = .ok (.getfield 7, 3) := by decide +kernel
theorem dX5_undo_44 : decode cX5_undo 44 = .ok (.iconst 0, 1) := by decide +kernel
theorem dX5_undo_45 : decode cX5_undo 45 = .ok (.invokestatic 35, 3) := by decide +kernel
theorem dX5_undo_48 : decode cX5_undo 48 = .ok (.aload_n 0, 1) := by decide +kernel
theorem dX5_undo_49 : decode cX5_undo 49 = .ok (.getfield 32, 3) := by decide +kernel
theorem dX5_undo_52 : decode cX5_undo 52 = .ok (.ireturn, 1) := by decide +kernel
set_option maxRecDepth 20000 in
theorem ggX5_kindTold_X5_ofKind : GoodIn wsX5_kindTold wsX5_ofKind := goodIn_r _ [5, 6, 26, 27, 28, 29, 30, 31, 32, 33, 34, 35, 36, 37, 38] (by decide +kernel) (by decide +kernel)
set_option maxRecDepth 20000 in
theorem gX5_kindTold_X5_ofKind : GoodIn wsX5_kindTold (wsV RX5 61 RX5 yX5_ofKind wsX5_ofKind) := goodIn_app (goodIn_of _ (by decide +kernel)) ggX5_kindTold_X5_ofKind
set_option maxRecDepth 20000 in
theorem ggX5_kindTold_X5_outIn : GoodIn wsX5_kindTold wsX5_outIn := goodIn_r _ [10, 6, 11, 12, 13, 4, 14, 15, 16, 17, 18, 19, 20, 21, 26, 27, 28, 29, 30, 31, 32, 33, 34, 35, 36, 37, 38] (by decide +kernel) (by decide +kernel)
set_option maxRecDepth 20000 in
theorem gX5_kindTold_X5_outIn : GoodIn wsX5_kindTold (wsV RX5 64 RX5 yX5_outIn wsX5_outIn) := goodIn_app (goodIn_of _ (by decide +kernel)) ggX5_kindTold_X5_outIn
set_option maxRecDepth 20000 in
theorem ggX5_kindTold_X5_free : GoodIn wsX5_kindTold wsX5_free := goodIn_r _ [25, 1, 2, 3, 4, 5, 6, 7, 8, 9, 10, 11, 12, 13, 14, 15, 16, 17, 18, 19, 20, 21, 26, 27, 28, 29, 30, 31, 32, 33, 34, 35, 36, 37, 38] (by decide +kernel) (by decide +kernel)
set_option maxRecDepth 20000 in
theorem gX5_kindTold_X5_free : GoodIn wsX5_kindTold (wsV RX5 92 RX5 yX5_free wsX5_free) := goodIn_app (goodIn_of _ (by decide +kernel)) ggX5_kindTold_X5_free
theorem dX5_kindTold_0 : decode cX5_kindTold 0 = .ok (.iload_n 2, 1) := by decide +kernel
theorem dX5_kindTold_1 : decode cX5_kindTold 1 = .ok (.tableswitch 50 0 3 #[31, 31, 38, 44], 31) := by decide +kernel
theorem dX5_kindTold_32 : decode cX5_kindTold 32 = .ok (.aload_n 0, 1) := by decide +kernel
theorem dX5_kindTold_33 : decode cX5_kindTold 33 = .ok (.iload_n 1, 1) := by decide +kernel
theorem dX5_kindTold_34 : decode cX5_kindTold 34 = .ok (.iload_n 2, 1) := by decide +kernel
theorem dX5_kindTold_35 : decode cX5_kindTold 35 = .ok (.invokevirtual 61, 3) := by decide +kernel
theorem dX5_kindTold_38 : decode cX5_kindTold 38 = .ok (.ireturn, 1) := by decide +kernel
theorem dX5_kindTold_39 : decode cX5_kindTold 39 = .ok (.aload_n 0, 1) := by decide +kernel
theorem dX5_kindTold_40 : decode cX5_kindTold 40 = .ok (.iload_n 1, 1) := by decide +kernel
theorem dX5_kindTold_41 : decode cX5_kindTold 41 = .ok (.invokevirtual 64, 3) := by decide +kernel
theorem dX5_kindTold_44 : decode cX5_kindTold 44 = .ok (.ireturn, 1) := by decide +kernel
theorem dX5_kindTold_45 : decode cX5_kindTold 45 = .ok (.aload_n 0, 1) := by decide +kernel
theorem dX5_kindTold_46 : decode cX5_kindTold 46 = .ok (.iload_n 1, 1) := by decide +kernel
theorem dX5_kindTold_47 : decode cX5_kindTold 47 = .ok (.invokevirtual 92, 3) := by decide +kernel
theorem dX5_kindTold_50 : decode cX5_kindTold 50 = .ok (.ireturn, 1) := by decide +kernel
theorem dX5_kindTold_51 : decode cX5_kindTold 51 = .ok (.aload_n 0, 1) := by decide +kernel
theorem dX5_kindTold_52 : decode cX5_kindTold 52 = .ok (.iload_n 1, 1) := by decide +kernel
theorem dX5_kindTold_53 : decode cX5_kindTold 53 = .ok (.iload_n 2, 1) := by decide +kernel
theorem dX5_kindTold_54 : decode cX5_kindTold 54 = .ok (.iconst 2, 1) := by decide +kernel
theorem dX5_kindTold_55 : decode cX5_kindTold 55 = .ok (.isub, 1) := by decide +kernel
theorem dX5_kindTold_56 : decode cX5_kindTold 56 = .ok (.invokevirtual 61, 3) := by decide +kernel
theorem dX5_kindTold_59 : decode cX5_kindTold 59 = .ok (.ireturn, 1) := by decide +kernel
set_option maxRecDepth 20000 in
theorem ggX5_kind_X5_isKind : GoodIn wsX5_kind wsX5_isKind := goodIn_r _ [5, 6, 7, 4, 8] (by decide +kernel) (by decide +kernel)
set_option maxRecDepth 20000 in
theorem gX5_kind_X5_isKind : GoodIn wsX5_kind (va_wsS RX5 47 yX5_isKind wsX5_isKind) := goodIn_app (goodIn_of _ (by decide +kernel)) ggX5_kind_X5_isKind
set_option maxRecDepth 20000 in
theorem ggX5_kind_X5_fails : GoodIn wsX5_kind wsX5_fails := goodIn_r _ [12, 1, 41, 42, 43, 44, 45, 46, 47, 48, 49, 50, 51, 52, 53] (by decide +kernel) (by decide +kernel)
set_option maxRecDepth 20000 in
theorem gX5_kind_X5_fails : GoodIn wsX5_kind (wsV RX5 112 RX5 yX5_fails wsX5_fails) := goodIn_app (goodIn_of _ (by decide +kernel)) ggX5_kind_X5_fails
set_option maxRecDepth 20000 in
theorem ggX5_kind_X5_in : GoodIn wsX5_kind wsX5_in := goodIn_r _ [8] (by decide +kernel) (by decide +kernel)
set_option maxRecDepth 20000 in
theorem gX5_kind_X5_in : GoodIn wsX5_kind (va_wsS RX5 39 yX5_in wsX5_in) := goodIn_app (goodIn_of _ (by decide +kernel)) ggX5_kind_X5_in
set_option maxRecDepth 20000 in
theorem ggX5_kind_X5_kindTold : GoodIn wsX5_kind wsX5_kindTold := goodIn_r _ [16, 17, 18, 19, 4, 20, 21, 22, 23, 24, 25, 26, 27, 28, 29, 30, 31, 32, 33, 34, 35, 36, 37, 38, 39, 40, 41, 42, 43, 44, 45, 46, 47, 48, 49, 50, 51, 52, 53] (by decide +kernel) (by decide +kernel)
set_option maxRecDepth 20000 in
theorem gX5_kind_X5_kindTold : GoodIn wsX5_kind (wsV RX5 170 RX5 yX5_kindTold wsX5_kindTold) := goodIn_app (goodIn_of _ (by decide +kernel)) ggX5_kind_X5_kindTold
theorem dX5_kind_0 : decode cX5_kind 0 = .ok (.aload_n 0, 1) := by decide +kernel
theorem dX5_kind_1 : decode cX5_kind 1 = .ok (.iconst 0, 1) := by decide +kernel
theorem dX5_kind_2 : decode cX5_kind 2 = .ok (.putfield 28, 3) := by decide +kernel
theorem dX5_kind_5 : decode cX5_kind 5 = .ok (.iload_n 1, 1) := by decide +kernel
theorem dX5_kind_6 : decode cX5_kind 6 = .ok (.invokestatic 47, 3) := by decide +kernel
theorem dX5_kind_9 : decode cX5_kind 9 = .ok (.ifCond .ne 9, 3) := by decide +kernel
theorem dX5_kind_12 : decode cX5_kind 12 = .ok (.aload_n 0, 1) := by decide +kernel
theorem dX5_kind_13 : decode cX5_kind 13 = .ok (.iconst 1, 1) := by decide +kernel
theorem dX5_kind_14 : decode cX5_kind 14 = .ok (.invokevirtual 112, 3) := by decide +kernel
theorem dX5_kind_17 : decode cX5_kind 17 = .ok (.ireturn, 1) := by decide +kernel
theorem dX5_kind_18 : decode cX5_kind 18 = .ok (.iload_n 2, 1) := by decide +kernel
theorem dX5_kind_19 : decode cX5_kind 19 = .ok (.iconst 0, 1) := by decide +kernel
theorem dX5_kind_20 : decode cX5_kind 20 = .ok (.bipush 6, 2) := by decide +kernel
theorem dX5_kind_22 : decode cX5_kind 22 = .ok (.invokestatic 39, 3) := by decide +kernel
theorem dX5_kind_25 : decode cX5_kind 25 = .ok (.ifCond .eq 12, 3) := by decide +kernel
theorem dX5_kind_28 : decode cX5_kind 28 = .ok (.aload_n 0, 1) := by decide +kernel
theorem dX5_kind_29 : decode cX5_kind 29 = .ok (.iload_n 1, 1) := by decide +kernel
theorem dX5_kind_30 : decode cX5_kind 30 = .ok (.iload_n 2, 1) := by decide +kernel
theorem dX5_kind_31 : decode cX5_kind 31 = .ok (.invokevirtual 170, 3) := by decide +kernel
theorem dX5_kind_34 : decode cX5_kind 34 = .ok (.goto 8, 3) := by decide +kernel
theorem dX5_kind_37 : decode cX5_kind 37 = .ok (.aload_n 0, 1) := by decide +kernel
theorem dX5_kind_38 : decode cX5_kind 38 = .ok (.iconst 2, 1) := by decide +kernel
theorem dX5_kind_39 : decode cX5_kind 39 = .ok (.invokevirtual 112, 3) := by decide +kernel
theorem dX5_kind_42 : decode cX5_kind 42 = .ok (.ireturn, 1) := by decide +kernel
set_option maxRecDepth 20000 in
theorem ggX5_pairTold_X5_of : GoodIn wsX5_pairTold wsX5_of := goodIn_r _ [5, 6, 7, 8, 4, 9, 26, 27, 28, 29, 30, 31, 32, 33, 34, 35, 36, 37, 38] (by decide +kernel) (by decide +kernel)
set_option maxRecDepth 20000 in
theorem gX5_pairTold_X5_of : GoodIn wsX5_pairTold (wsV RX5 54 RX5 yX5_of wsX5_of) := goodIn_app (goodIn_of _ (by decide +kernel)) ggX5_pairTold_X5_of
set_option maxRecDepth 20000 in
theorem ggX5_pairTold_X5_outOf : GoodIn wsX5_pairTold wsX5_outOf := goodIn_r _ [13, 1, 2, 3, 4, 5, 6, 7, 8, 9, 26, 27, 28, 29, 30, 31, 32, 33, 34, 35, 36, 37, 38] (by decide +kernel) (by decide +kernel)
set_option maxRecDepth 20000 in
theorem gX5_pairTold_X5_outOf : GoodIn wsX5_pairTold (wsV RX5 58 RX5 yX5_outOf wsX5_outOf) := goodIn_app (goodIn_of _ (by decide +kernel)) ggX5_pairTold_X5_outOf
set_option maxRecDepth 20000 in
theorem ggX5_pairTold_X5_corks : GoodIn wsX5_pairTold wsX5_corks := goodIn_r _ [17, 1, 2, 3, 4, 5, 6, 7, 8, 9, 26, 27, 28, 29, 30, 31, 32, 33, 34, 35, 36, 37, 38] (by decide +kernel) (by decide +kernel)
set_option maxRecDepth 20000 in
theorem gX5_pairTold_X5_corks : GoodIn wsX5_pairTold (wsV RX5 82 RX5 yX5_corks wsX5_corks) := goodIn_app (goodIn_of _ (by decide +kernel)) ggX5_pairTold_X5_corks
set_option maxRecDepth 20000 in
theorem ggX5_pairTold_X5_why : GoodIn wsX5_pairTold wsX5_why := goodIn_r _ [21, 1, 2, 3, 4, 5, 6, 7, 8, 9, 14, 15, 16, 17, 10, 11, 12, 13, 22, 23, 24, 25, 26, 27, 28, 29, 30, 31, 32, 33, 34, 35, 36, 37, 38] (by decide +kernel) (by decide +kernel)
set_option maxRecDepth 20000 in
theorem gX5_pairTold_X5_why : GoodIn wsX5_pairTold (wsV RX5 89 RX5 yX5_why wsX5_why) := goodIn_app (goodIn_of _ (by decide +kernel)) ggX5_pairTold_X5_why
theorem dX5_pairTold_0 : decode cX5_pairTold 0 = .ok (.iload_n 3, 1) := by decide +kernel
theorem dX5_pairTold_1 : decode cX5_pairTold 1 = .ok (.tableswitch 114 0 8 #[51, 51, 59, 66, 66, 76, 83, 91, 98], 51) := by decide +kernel
theorem dX5_pairTold_52 : decode cX5_pairTold 52 = .ok (.aload_n 0, 1) := by decide +kernel
theorem dX5_pairTold_53 : decode cX5_pairTold 53 = .ok (.iload_n 1, 1) := by decide +kernel
theorem dX5_pairTold_54 : decode cX5_pairTold 54 = .ok (.iload_n 2, 1) := by decide +kernel
theorem dX5_pairTold_55 : decode cX5_pairTold 55 = .ok (.iload_n 3, 1) := by decide +kernel
theorem dX5_pairTold_56 : decode cX5_pairTold 56 = .ok (.invokevirtual 54, 3) := by decide +kernel
theorem dX5_pairTold_59 : decode cX5_pairTold 59 = .ok (.ireturn, 1) := by decide +kernel
theorem dX5_pairTold_60 : decode cX5_pairTold 60 = .ok (.aload_n 0, 1) := by decide +kernel
theorem dX5_pairTold_61 : decode cX5_pairTold 61 = .ok (.iload_n 1, 1) := by decide +kernel
theorem dX5_pairTold_62 : decode cX5_pairTold 62 = .ok (.iload_n 2, 1) := by decide +kernel
theorem dX5_pairTold_63 : decode cX5_pairTold 63 = .ok (.invokevirtual 58, 3) := by decide +kernel
theorem dX5_pairTold_66 : decode cX5_pairTold 66 = .ok (.ireturn, 1) := by decide +kernel
theorem dX5_pairTold_67 : decode cX5_pairTold 67 = .ok (.aload_n 0, 1) := by decide +kernel
theorem dX5_pairTold_68 : decode cX5_pairTold 68 = .ok (.iload_n 1, 1) := by decide +kernel
theorem dX5_pairTold_69 : decode cX5_pairTold 69 = .ok (.iload_n 2, 1) := by decide +kernel
theorem dX5_pairTold_70 : decode cX5_pairTold 70 = .ok (.iload_n 3, 1) := by decide +kernel
theorem dX5_pairTold_71 : decode cX5_pairTold 71 = .ok (.iconst 1, 1) := by decide +kernel
theorem dX5_pairTold_72 : decode cX5_pairTold 72 = .ok (.isub, 1) := by decide +kernel
theorem dX5_pairTold_73 : decode cX5_pairTold 73 = .ok (.invokevirtual 54, 3) := by decide +kernel
theorem dX5_pairTold_76 : decode cX5_pairTold 76 = .ok (.ireturn, 1) := by decide +kernel
theorem dX5_pairTold_77 : decode cX5_pairTold 77 = .ok (.aload_n 0, 1) := by decide +kernel
theorem dX5_pairTold_78 : decode cX5_pairTold 78 = .ok (.iload_n 1, 1) := by decide +kernel
theorem dX5_pairTold_79 : decode cX5_pairTold 79 = .ok (.iload_n 2, 1) := by decide +kernel
theorem dX5_pairTold_80 : decode cX5_pairTold 80 = .ok (.invokevirtual 82, 3) := by decide +kernel
theorem dX5_pairTold_83 : decode cX5_pairTold 83 = .ok (.ireturn, 1) := by decide +kernel
theorem dX5_pairTold_84 : decode cX5_pairTold 84 = .ok (.aload_n 0, 1) := by decide +kernel
theorem dX5_pairTold_85 : decode cX5_pairTold 85 = .ok (.iload_n 1, 1) := by decide +kernel
theorem dX5_pairTold_86 : decode cX5_pairTold 86 = .ok (.iload_n 2, 1) := by decide +kernel
theorem dX5_pairTold_87 : decode cX5_pairTold 87 = .ok (.iconst 4, 1) := by decide +kernel
theorem dX5_pairTold_88 : decode cX5_pairTold 88 = .ok (.invokevirtual 54, 3) := by decide +kernel
theorem dX5_pairTold_91 : decode cX5_pairTold 91 = .ok (.ireturn, 1) := by decide +kernel
theorem dX5_pairTold_92 : decode cX5_pairTold 92 = .ok (.aload_n 0, 1) := by decide +kernel
theorem dX5_pairTold_93 : decode cX5_pairTold 93 = .ok (.iload_n 1, 1) := by decide +kernel
theorem dX5_pairTold_94 : decode cX5_pairTold 94 = .ok (.iload_n 2, 1) := by decide +kernel
theorem dX5_pairTold_95 : decode cX5_pairTold 95 = .ok (.invokevirtual 89, 3) := by decide +kernel
theorem dX5_pairTold_98 : decode cX5_pairTold 98 = .ok (.ireturn, 1) := by decide +kernel
theorem dX5_pairTold_99 : decode cX5_pairTold 99 = .ok (.aload_n 0, 1) := by decide +kernel
theorem dX5_pairTold_100 : decode cX5_pairTold 100 = .ok (.iload_n 1, 1) := by decide +kernel
theorem dX5_pairTold_101 : decode cX5_pairTold 101 = .ok (.iload_n 2, 1) := by decide +kernel
theorem dX5_pairTold_102 : decode cX5_pairTold 102 = .ok (.iconst 0, 1) := by decide +kernel
theorem dX5_pairTold_103 : decode cX5_pairTold 103 = .ok (.invokevirtual 54, 3) := by decide +kernel
theorem dX5_pairTold_106 : decode cX5_pairTold 106 = .ok (.aload_n 0, 1) := by decide +kernel
theorem dX5_pairTold_107 : decode cX5_pairTold 107 = .ok (.iload_n 1, 1) := by decide +kernel
theorem dX5_pairTold_108 : decode cX5_pairTold 108 = .ok (.iload_n 2, 1) := by decide +kernel
theorem dX5_pairTold_109 : decode cX5_pairTold 109 = .ok (.iconst 2, 1) := by decide +kernel
theorem dX5_pairTold_110 : decode cX5_pairTold 110 = .ok (.invokevirtual 54, 3) := by decide +kernel
theorem dX5_pairTold_113 : decode cX5_pairTold 113 = .ok (.isub, 1) := by decide +kernel
theorem dX5_pairTold_114 : decode cX5_pairTold 114 = .ok (.ireturn, 1) := by decide +kernel
theorem dX5_pairTold_115 : decode cX5_pairTold 115 = .ok (.aload_n 0, 1) := by decide +kernel
theorem dX5_pairTold_116 : decode cX5_pairTold 116 = .ok (.iload_n 1, 1) := by decide +kernel
theorem dX5_pairTold_117 : decode cX5_pairTold 117 = .ok (.iload_n 2, 1) := by decide +kernel
theorem dX5_pairTold_118 : decode cX5_pairTold 118 = .ok (.iconst 3, 1) := by decide +kernel
theorem dX5_pairTold_119 : decode cX5_pairTold 119 = .ok (.invokevirtual 54, 3) := by decide +kernel
theorem dX5_pairTold_122 : decode cX5_pairTold 122 = .ok (.aload_n 0, 1) := by decide +kernel
theorem dX5_pairTold_123 : decode cX5_pairTold 123 = .ok (.iload_n 1, 1) := by decide +kernel
theorem dX5_pairTold_124 : decode cX5_pairTold 124 = .ok (.iload_n 2, 1) := by decide +kernel
theorem dX5_pairTold_125 : decode cX5_pairTold 125 = .ok (.iconst 1, 1) := by decide +kernel
theorem dX5_pairTold_126 : decode cX5_pairTold 126 = .ok (.invokevirtual 54, 3) := by decide +kernel
theorem dX5_pairTold_129 : decode cX5_pairTold 129 = .ok (.isub, 1) := by decide +kernel
theorem dX5_pairTold_130 : decode cX5_pairTold 130 = .ok (.ireturn, 1) := by decide +kernel
set_option maxRecDepth 20000 in
theorem ggX5_houseOf_X5_isPair : GoodIn wsX5_houseOf wsX5_isPair := goodIn_r _ [6, 7, 8, 9, 5, 10, 11, 12, 13, 14, 15, 16, 17, 49, 50, 51, 52, 53, 54, 55, 56, 57, 58, 59, 60, 61] (by decide +kernel) (by decide +kernel)
set_option maxRecDepth 20000 in
theorem gX5_houseOf_X5_isPair : GoodIn wsX5_houseOf (wsV RX5 118 RX5 yX5_isPair wsX5_isPair) := goodIn_app (goodIn_of _ (by decide +kernel)) ggX5_houseOf_X5_isPair
set_option maxRecDepth 20000 in
theorem ggX5_houseOf_X5_fails : GoodIn wsX5_houseOf wsX5_fails := goodIn_r _ [21, 1, 49, 50, 51, 52, 53, 54, 55, 56, 57, 58, 59, 60, 61] (by decide +kernel) (by decide +kernel)
set_option maxRecDepth 20000 in
theorem gX5_houseOf_X5_fails : GoodIn wsX5_houseOf (wsV RX5 112 RX5 yX5_fails wsX5_fails) := goodIn_app (goodIn_of _ (by decide +kernel)) ggX5_houseOf_X5_fails
set_option maxRecDepth 20000 in
theorem ggX5_houseOf_X5_in : GoodIn wsX5_houseOf wsX5_in := goodIn_r _ [14] (by decide +kernel) (by decide +kernel)
set_option maxRecDepth 20000 in
theorem gX5_houseOf_X5_in : GoodIn wsX5_houseOf (va_wsS RX5 39 yX5_in wsX5_in) := goodIn_app (goodIn_of _ (by decide +kernel)) ggX5_houseOf_X5_in
set_option maxRecDepth 20000 in
theorem ggX5_houseOf_X5_pairTold : GoodIn wsX5_houseOf wsX5_pairTold := goodIn_r _ [25, 26, 27, 28, 5, 29, 11, 30, 31, 32, 33, 34, 35, 36, 37, 38, 39, 40, 41, 42, 43, 44, 45, 46, 47, 48, 49, 50, 51, 52, 53, 54, 55, 56, 57, 58, 59, 60, 61] (by decide +kernel) (by decide +kernel)
set_option maxRecDepth 20000 in
theorem gX5_houseOf_X5_pairTold : GoodIn wsX5_houseOf (wsV RX5 173 RX5 yX5_pairTold wsX5_pairTold) := goodIn_app (goodIn_of _ (by decide +kernel)) ggX5_houseOf_X5_pairTold
theorem dX5_houseOf_0 : decode cX5_houseOf 0 = .ok (.aload_n 0, 1) := by decide +kernel
theorem dX5_houseOf_1 : decode cX5_houseOf 1 = .ok (.iconst 0, 1) := by decide +kernel
theorem dX5_houseOf_2 : decode cX5_houseOf 2 = .ok (.putfield 28, 3) := by decide +kernel
theorem dX5_houseOf_5 : decode cX5_houseOf 5 = .ok (.aload_n 0, 1) := by decide +kernel
theorem dX5_houseOf_6 : decode cX5_houseOf 6 = .ok (.iload_n 1, 1) := by decide +kernel
theorem dX5_houseOf_7 : decode cX5_houseOf 7 = .ok (.iload_n 2, 1) := by decide +kernel
theorem dX5_houseOf_8 : decode cX5_houseOf 8 = .ok (.invokevirtual 118, 3) := by decide +kernel
theorem dX5_houseOf_11 : decode cX5_houseOf 11 = .ok (.ifCond .ne 9, 3) := by decide +kernel
theorem dX5_houseOf_14 : decode cX5_houseOf 14 = .ok (.aload_n 0, 1) := by decide +kernel
theorem dX5_houseOf_15 : decode cX5_houseOf 15 = .ok (.iconst 1, 1) := by decide +kernel
theorem dX5_houseOf_16 : decode cX5_houseOf 16 = .ok (.invokevirtual 112, 3) := by decide +kernel
theorem dX5_houseOf_19 : decode cX5_houseOf 19 = .ok (.ireturn, 1) := by decide +kernel
theorem dX5_houseOf_20 : decode cX5_houseOf 20 = .ok (.iload_n 3, 1) := by decide +kernel
theorem dX5_houseOf_21 : decode cX5_houseOf 21 = .ok (.iconst 0, 1) := by decide +kernel
theorem dX5_houseOf_22 : decode cX5_houseOf 22 = .ok (.bipush 9, 2) := by decide +kernel
theorem dX5_houseOf_24 : decode cX5_houseOf 24 = .ok (.invokestatic 39, 3) := by decide +kernel
theorem dX5_houseOf_27 : decode cX5_houseOf 27 = .ok (.ifCond .eq 13, 3) := by decide +kernel
theorem dX5_houseOf_30 : decode cX5_houseOf 30 = .ok (.aload_n 0, 1) := by decide +kernel
theorem dX5_houseOf_31 : decode cX5_houseOf 31 = .ok (.iload_n 1, 1) := by decide +kernel
theorem dX5_houseOf_32 : decode cX5_houseOf 32 = .ok (.iload_n 2, 1) := by decide +kernel
theorem dX5_houseOf_33 : decode cX5_houseOf 33 = .ok (.iload_n 3, 1) := by decide +kernel
theorem dX5_houseOf_34 : decode cX5_houseOf 34 = .ok (.invokevirtual 173, 3) := by decide +kernel
theorem dX5_houseOf_37 : decode cX5_houseOf 37 = .ok (.goto 8, 3) := by decide +kernel
theorem dX5_houseOf_40 : decode cX5_houseOf 40 = .ok (.aload_n 0, 1) := by decide +kernel
theorem dX5_houseOf_41 : decode cX5_houseOf 41 = .ok (.iconst 2, 1) := by decide +kernel
theorem dX5_houseOf_42 : decode cX5_houseOf 42 = .ok (.invokevirtual 112, 3) := by decide +kernel
theorem dX5_houseOf_45 : decode cX5_houseOf 45 = .ok (.ireturn, 1) := by decide +kernel
theorem dX5_letterTold_0 : decode cX5_letterTold 0 = .ok (.iload_n 1, 1) := by decide +kernel
theorem dX5_letterTold_1 : decode cX5_letterTold 1 = .ok (.aload_n 0, 1) := by decide +kernel
theorem dX5_letterTold_2 : decode cX5_letterTold 2 = .ok (.getfield 7, 3) := by decide +kernel
theorem dX5_letterTold_5 : decode cX5_letterTold 5 = .ok (.iconst 4, 1) := by decide +kernel
theorem dX5_letterTold_6 : decode cX5_letterTold 6 = .ok (.iaload, 1) := by decide +kernel
theorem dX5_letterTold_7 : decode cX5_letterTold 7 = .ok (.if_icmp .ge 19, 3) := by decide +kernel
theorem dX5_letterTold_10 : decode cX5_letterTold 10 = .ok (.aload_n 0, 1) := by decide +kernel
theorem dX5_letterTold_11 : decode cX5_letterTold 11 = .ok (.getfield 7, 3) := by decide +kernel
theorem dX5_letterTold_14 : decode cX5_letterTold 14 = .ok (.bipush 83, 2) := by decide +kernel
theorem dX5_letterTold_16 : decode cX5_letterTold 16 = .ok (.iconst 5, 1) := by decide +kernel
theorem dX5_letterTold_17 : decode cX5_letterTold 17 = .ok (.iload_n 1, 1) := by decide +kernel
theorem dX5_letterTold_18 : decode cX5_letterTold 18 = .ok (.imul, 1) := by decide +kernel
theorem dX5_letterTold_19 : decode cX5_letterTold 19 = .ok (.iadd, 1) := by decide +kernel
theorem dX5_letterTold_20 : decode cX5_letterTold 20 = .ok (.iload_n 2, 1) := by decide +kernel
theorem dX5_letterTold_21 : decode cX5_letterTold 21 = .ok (.iadd, 1) := by decide +kernel
theorem dX5_letterTold_22 : decode cX5_letterTold 22 = .ok (.iaload, 1) := by decide +kernel
theorem dX5_letterTold_23 : decode cX5_letterTold 23 = .ok (.goto 4, 3) := by decide +kernel
theorem dX5_letterTold_26 : decode cX5_letterTold 26 = .ok (.iconst (-1), 1) := by decide +kernel
theorem dX5_letterTold_27 : decode cX5_letterTold 27 = .ok (.ireturn, 1) := by decide +kernel
set_option maxRecDepth 20000 in
theorem ggX5_letter_X5_in : GoodIn wsX5_letter wsX5_in := goodIn_r _ [5] (by decide +kernel) (by decide +kernel)
set_option maxRecDepth 20000 in
theorem gX5_letter_X5_in : GoodIn wsX5_letter (va_wsS RX5 39 yX5_in wsX5_in) := goodIn_app (goodIn_of _ (by decide +kernel)) ggX5_letter_X5_in
set_option maxRecDepth 20000 in
theorem ggX5_letter_X5_letterTold : GoodIn wsX5_letter wsX5_letterTold := goodIn_r _ [9, 10, 15, 16, 17, 18, 19, 20, 21, 22, 23, 24, 25, 26, 27] (by decide +kernel) (by decide +kernel)
set_option maxRecDepth 20000 in
theorem gX5_letter_X5_letterTold : GoodIn wsX5_letter (wsV RX5 176 RX5 yX5_letterTold wsX5_letterTold) := goodIn_app (goodIn_of _ (by decide +kernel)) ggX5_letter_X5_letterTold
set_option maxRecDepth 20000 in
theorem ggX5_letter_X5_fails : GoodIn wsX5_letter wsX5_fails := goodIn_r _ [14, 1, 15, 16, 17, 18, 19, 20, 21, 22, 23, 24, 25, 26, 27] (by decide +kernel) (by decide +kernel)
set_option maxRecDepth 20000 in
theorem gX5_letter_X5_fails : GoodIn wsX5_letter (wsV RX5 112 RX5 yX5_fails wsX5_fails) := goodIn_app (goodIn_of _ (by decide +kernel)) ggX5_letter_X5_fails
theorem dX5_letter_0 : decode cX5_letter 0 = .ok (.aload_n 0, 1) := by decide +kernel
theorem dX5_letter_1 : decode cX5_letter 1 = .ok (.iconst 0, 1) := by decide +kernel
theorem dX5_letter_2 : decode cX5_letter 2 = .ok (.putfield 28, 3) := by decide +kernel
theorem dX5_letter_5 : decode cX5_letter 5 = .ok (.iload_n 1, 1) := by decide +kernel
theorem dX5_letter_6 : decode cX5_letter 6 = .ok (.ifCond .lt 21, 3) := by decide +kernel
theorem dX5_letter_9 : decode cX5_letter 9 = .ok (.iload_n 2, 1) := by decide +kernel
theorem dX5_letter_10 : decode cX5_letter 10 = .ok (.iconst 0, 1) := by decide +kernel
theorem dX5_letter_11 : decode cX5_letter 11 = .ok (.iconst 4, 1) := by decide +kernel
theorem dX5_letter_12 : decode cX5_letter 12 = .ok (.invokestatic 39, 3) := by decide +kernel
theorem dX5_letter_15 : decode cX5_letter 15 = .ok (.ifCond .eq 12, 3) := by decide +kernel
theorem dX5_letter_18 : decode cX5_letter 18 = .ok (.aload_n 0, 1) := by decide +kernel
theorem dX5_letter_19 : decode cX5_letter 19 = .ok (.iload_n 1, 1) := by decide +kernel
theorem dX5_letter_20 : decode cX5_letter 20 = .ok (.iload_n 2, 1) := by decide +kernel
theorem dX5_letter_21 : decode cX5_letter 21 = .ok (.invokevirtual 176, 3) := by decide +kernel
theorem dX5_letter_24 : decode cX5_letter 24 = .ok (.goto 8, 3) := by decide +kernel
theorem dX5_letter_27 : decode cX5_letter 27 = .ok (.aload_n 0, 1) := by decide +kernel
theorem dX5_letter_28 : decode cX5_letter 28 = .ok (.iconst 1, 1) := by decide +kernel
theorem dX5_letter_29 : decode cX5_letter 29 = .ok (.invokevirtual 112, 3) := by decide +kernel
theorem dX5_letter_32 : decode cX5_letter 32 = .ok (.ireturn, 1) := by decide +kernel
set_option maxRecDepth 20000 in
theorem ggX5_ofKinds_X5_ofKind : GoodIn wsX5_ofKinds wsX5_ofKind := goodIn_r _ [5, 6, 7, 8, 9, 10, 11, 12, 13, 14, 15, 16, 17, 18, 19] (by decide +kernel) (by decide +kernel)
set_option maxRecDepth 20000 in
theorem gX5_ofKinds_X5_ofKind : GoodIn wsX5_ofKinds (wsV RX5 61 RX5 yX5_ofKind wsX5_ofKind) := goodIn_app (goodIn_of _ (by decide +kernel)) ggX5_ofKinds_X5_ofKind
theorem dX5_ofKinds_0 : decode cX5_ofKinds 0 = .ok (.iconst 0, 1) := by decide +kernel
theorem dX5_ofKinds_1 : decode cX5_ofKinds 1 = .ok (.istore_n 2, 1) := by decide +kernel
theorem dX5_ofKinds_2 : decode cX5_ofKinds 2 = .ok (.iconst 0, 1) := by decide +kernel
theorem dX5_ofKinds_3 : decode cX5_ofKinds 3 = .ok (.istore_n 3, 1) := by decide +kernel
theorem dX5_ofKinds_4 : decode cX5_ofKinds 4 = .ok (.iload_n 3, 1) := by decide +kernel
theorem dX5_ofKinds_5 : decode cX5_ofKinds 5 = .ok (.iconst 3, 1) := by decide +kernel
theorem dX5_ofKinds_6 : decode cX5_ofKinds 6 = .ok (.if_icmp .ge 18, 3) := by decide +kernel
theorem dX5_ofKinds_9 : decode cX5_ofKinds 9 = .ok (.iload_n 2, 1) := by decide +kernel
theorem dX5_ofKinds_10 : decode cX5_ofKinds 10 = .ok (.aload_n 0, 1) := by decide +kernel
theorem dX5_ofKinds_11 : decode cX5_ofKinds 11 = .ok (.iload_n 3, 1) := by decide +kernel
theorem dX5_ofKinds_12 : decode cX5_ofKinds 12 = .ok (.iload_n 1, 1) := by decide +kernel
theorem dX5_ofKinds_13 : decode cX5_ofKinds 13 = .ok (.invokevirtual 61, 3) := by decide +kernel
theorem dX5_ofKinds_16 : decode cX5_ofKinds 16 = .ok (.iadd, 1) := by decide +kernel
theorem dX5_ofKinds_17 : decode cX5_ofKinds 17 = .ok (.istore_n 2, 1) := by decide +kernel
theorem dX5_ofKinds_18 : decode cX5_ofKinds 18 = .ok (.iinc 3 1, 3) := by decide +kernel
theorem dX5_ofKinds_21 : decode cX5_ofKinds 21 = .ok (.goto (-17), 3) := by decide +kernel
theorem dX5_ofKinds_24 : decode cX5_ofKinds 24 = .ok (.iload_n 2, 1) := by decide +kernel
theorem dX5_ofKinds_25 : decode cX5_ofKinds 25 = .ok (.ireturn, 1) := by decide +kernel
set_option maxRecDepth 20000 in
theorem ggX5_ofPairs_X5_of : GoodIn wsX5_ofPairs wsX5_of := goodIn_r _ [6, 1, 7, 8, 5, 9, 10, 11, 12, 13, 14, 15, 16, 17, 18, 19, 20, 21, 22] (by decide +kernel) (by decide +kernel)
set_option maxRecDepth 20000 in
theorem gX5_ofPairs_X5_of : GoodIn wsX5_ofPairs (wsV RX5 54 RX5 yX5_of wsX5_of) := goodIn_app (goodIn_of _ (by decide +kernel)) ggX5_ofPairs_X5_of
theorem dX5_ofPairs_0 : decode cX5_ofPairs 0 = .ok (.iconst 0, 1) := by decide +kernel
theorem dX5_ofPairs_1 : decode cX5_ofPairs 1 = .ok (.istore_n 2, 1) := by decide +kernel
theorem dX5_ofPairs_2 : decode cX5_ofPairs 2 = .ok (.iconst 0, 1) := by decide +kernel
theorem dX5_ofPairs_3 : decode cX5_ofPairs 3 = .ok (.istore_n 3, 1) := by decide +kernel
theorem dX5_ofPairs_4 : decode cX5_ofPairs 4 = .ok (.iload_n 3, 1) := by decide +kernel
theorem dX5_ofPairs_5 : decode cX5_ofPairs 5 = .ok (.iconst 3, 1) := by decide +kernel
theorem dX5_ofPairs_6 : decode cX5_ofPairs 6 = .ok (.aload_n 0, 1) := by decide +kernel
theorem dX5_ofPairs_7 : decode cX5_ofPairs 7 = .ok (.getfield 7, 3) := by decide +kernel
theorem dX5_ofPairs_10 : decode cX5_ofPairs 10 = .ok (.iconst 1, 1) := by decide +kernel
theorem dX5_ofPairs_11 : decode cX5_ofPairs 11 = .ok (.iaload, 1) := by decide +kernel
theorem dX5_ofPairs_12 : decode cX5_ofPairs 12 = .ok (.imul, 1) := by decide +kernel
theorem dX5_ofPairs_13 : decode cX5_ofPairs 13 = .ok (.if_icmp .ge 23, 3) := by decide +kernel
theorem dX5_ofPairs_16 : decode cX5_ofPairs 16 = .ok (.iload_n 2, 1) := by decide +kernel
theorem dX5_ofPairs_17 : decode cX5_ofPairs 17 = .ok (.aload_n 0, 1) := by decide +kernel
theorem dX5_ofPairs_18 : decode cX5_ofPairs 18 = .ok (.iload_n 3, 1) := by decide +kernel
theorem dX5_ofPairs_19 : decode cX5_ofPairs 19 = .ok (.iconst 3, 1) := by decide +kernel
theorem dX5_ofPairs_20 : decode cX5_ofPairs 20 = .ok (.idiv, 1) := by decide +kernel
theorem dX5_ofPairs_21 : decode cX5_ofPairs 21 = .ok (.iload_n 3, 1) := by decide +kernel
theorem dX5_ofPairs_22 : decode cX5_ofPairs 22 = .ok (.iconst 3, 1) := by decide +kernel
theorem dX5_ofPairs_23 : decode cX5_ofPairs 23 = .ok (.irem, 1) := by decide +kernel
theorem dX5_ofPairs_24 : decode cX5_ofPairs 24 = .ok (.iload_n 1, 1) := by decide +kernel
theorem dX5_ofPairs_25 : decode cX5_ofPairs 25 = .ok (.invokevirtual 54, 3) := by decide +kernel
theorem dX5_ofPairs_28 : decode cX5_ofPairs 28 = .ok (.iadd, 1) := by decide +kernel
theorem dX5_ofPairs_29 : decode cX5_ofPairs 29 = .ok (.istore_n 2, 1) := by decide +kernel
theorem dX5_ofPairs_30 : decode cX5_ofPairs 30 = .ok (.iinc 3 1, 3) := by decide +kernel
theorem dX5_ofPairs_33 : decode cX5_ofPairs 33 = .ok (.goto (-29), 3) := by decide +kernel
theorem dX5_ofPairs_36 : decode cX5_ofPairs 36 = .ok (.iload_n 2, 1) := by decide +kernel
theorem dX5_ofPairs_37 : decode cX5_ofPairs 37 = .ok (.ireturn, 1) := by decide +kernel
set_option maxRecDepth 20000 in
theorem ggX5_counted_X5_ofPairs : GoodIn wsX5_counted wsX5_ofPairs := goodIn_r _ [7, 1, 8, 9, 10, 6, 11, 12, 13, 14, 23, 24, 25, 26, 27, 28, 29, 30, 31, 32, 33, 34, 35] (by decide +kernel) (by decide +kernel)
set_option maxRecDepth 20000 in
theorem gX5_counted_X5_ofPairs : GoodIn wsX5_counted (wsV RX5 179 RX5 yX5_ofPairs wsX5_ofPairs) := goodIn_app (goodIn_of _ (by decide +kernel)) ggX5_counted_X5_ofPairs
set_option maxRecDepth 20000 in
theorem ggX5_counted_X5_ofKinds : GoodIn wsX5_counted wsX5_ofKinds := goodIn_r _ [18, 19, 20, 21, 6, 22, 1, 23, 24, 25, 26, 27, 28, 29, 30, 31, 32, 33, 34, 35] (by decide +kernel) (by decide +kernel)
set_option maxRecDepth 20000 in
theorem gX5_counted_X5_ofKinds : GoodIn wsX5_counted (wsV RX5 182 RX5 yX5_ofKinds wsX5_ofKinds) := goodIn_app (goodIn_of _ (by decide +kernel)) ggX5_counted_X5_ofKinds
theorem dX5_counted_0 : decode cX5_counted 0 = .ok (.iload_n 1, 1) := by decide +kernel
theorem dX5_counted_1 : decode cX5_counted 1 = .ok (.tableswitch 136 0 10 #[59, 66, 73, 80, 87, 94, 100, 106, 112, 118, 124], 59) := by decide +kernel
theorem dX5_counted_60 : decode cX5_counted 60 = .ok (.aload_n 0, 1) := by decide +kernel
theorem dX5_counted_61 : decode cX5_counted 61 = .ok (.getfield 7, 3) := by decide +kernel
theorem dX5_counted_64 : decode cX5_counted 64 = .ok (.iconst 0, 1) := by decide +kernel
theorem dX5_counted_65 : decode cX5_counted 65 = .ok (.iaload, 1) := by decide +kernel
theorem dX5_counted_66 : decode cX5_counted 66 = .ok (.ireturn, 1) := by decide +kernel
theorem dX5_counted_67 : decode cX5_counted 67 = .ok (.aload_n 0, 1) := by decide +kernel
theorem dX5_counted_68 : decode cX5_counted 68 = .ok (.getfield 7, 3) := by decide +kernel
theorem dX5_counted_71 : decode cX5_counted 71 = .ok (.iconst 1, 1) := by decide +kernel
theorem dX5_counted_72 : decode cX5_counted 72 = .ok (.iaload, 1) := by decide +kernel
theorem dX5_counted_73 : decode cX5_counted 73 = .ok (.ireturn, 1) := by decide +kernel
theorem dX5_counted_74 : decode cX5_counted 74 = .ok (.aload_n 0, 1) := by decide +kernel
theorem dX5_counted_75 : decode cX5_counted 75 = .ok (.getfield 7, 3) := by decide +kernel
theorem dX5_counted_78 : decode cX5_counted 78 = .ok (.iconst 4, 1) := by decide +kernel
theorem dX5_counted_79 : decode cX5_counted 79 = .ok (.iaload, 1) := by decide +kernel
theorem dX5_counted_80 : decode cX5_counted 80 = .ok (.ireturn, 1) := by decide +kernel
theorem dX5_counted_81 : decode cX5_counted 81 = .ok (.aload_n 0, 1) := by decide +kernel
theorem dX5_counted_82 : decode cX5_counted 82 = .ok (.getfield 7, 3) := by decide +kernel
theorem dX5_counted_85 : decode cX5_counted 85 = .ok (.iconst 2, 1) := by decide +kernel
theorem dX5_counted_86 : decode cX5_counted 86 = .ok (.iaload, 1) := by decide +kernel
theorem dX5_counted_87 : decode cX5_counted 87 = .ok (.ireturn, 1) := by decide +kernel
theorem dX5_counted_88 : decode cX5_counted 88 = .ok (.aload_n 0, 1) := by decide +kernel
theorem dX5_counted_89 : decode cX5_counted 89 = .ok (.getfield 7, 3) := by decide +kernel
theorem dX5_counted_92 : decode cX5_counted 92 = .ok (.iconst 3, 1) := by decide +kernel
theorem dX5_counted_93 : decode cX5_counted 93 = .ok (.iaload, 1) := by decide +kernel
theorem dX5_counted_94 : decode cX5_counted 94 = .ok (.ireturn, 1) := by decide +kernel
theorem dX5_counted_95 : decode cX5_counted 95 = .ok (.aload_n 0, 1) := by decide +kernel
theorem dX5_counted_96 : decode cX5_counted 96 = .ok (.iconst 3, 1) := by decide +kernel
theorem dX5_counted_97 : decode cX5_counted 97 = .ok (.invokevirtual 179, 3) := by decide +kernel
theorem dX5_counted_100 : decode cX5_counted 100 = .ok (.ireturn, 1) := by decide +kernel
theorem dX5_counted_101 : decode cX5_counted 101 = .ok (.aload_n 0, 1) := by decide +kernel
theorem dX5_counted_102 : decode cX5_counted 102 = .ok (.iconst 3, 1) := by decide +kernel
theorem dX5_counted_103 : decode cX5_counted 103 = .ok (.invokevirtual 182, 3) := by decide +kernel
theorem dX5_counted_106 : decode cX5_counted 106 = .ok (.ireturn, 1) := by decide +kernel
theorem dX5_counted_107 : decode cX5_counted 107 = .ok (.aload_n 0, 1) := by decide +kernel
theorem dX5_counted_108 : decode cX5_counted 108 = .ok (.iconst 4, 1) := by decide +kernel
theorem dX5_counted_109 : decode cX5_counted 109 = .ok (.invokevirtual 182, 3) := by decide +kernel
theorem dX5_counted_112 : decode cX5_counted 112 = .ok (.ireturn, 1) := by decide +kernel
theorem dX5_counted_113 : decode cX5_counted 113 = .ok (.aload_n 0, 1) := by decide +kernel
theorem dX5_counted_114 : decode cX5_counted 114 = .ok (.iconst 4, 1) := by decide +kernel
theorem dX5_counted_115 : decode cX5_counted 115 = .ok (.invokevirtual 179, 3) := by decide +kernel
theorem dX5_counted_118 : decode cX5_counted 118 = .ok (.ireturn, 1) := by decide +kernel
theorem dX5_counted_119 : decode cX5_counted 119 = .ok (.aload_n 0, 1) := by decide +kernel
theorem dX5_counted_120 : decode cX5_counted 120 = .ok (.iconst 1, 1) := by decide +kernel
theorem dX5_counted_121 : decode cX5_counted 121 = .ok (.invokevirtual 182, 3) := by decide +kernel
theorem dX5_counted_124 : decode cX5_counted 124 = .ok (.ireturn, 1) := by decide +kernel
theorem dX5_counted_125 : decode cX5_counted 125 = .ok (.aload_n 0, 1) := by decide +kernel
theorem dX5_counted_126 : decode cX5_counted 126 = .ok (.iconst 0, 1) := by decide +kernel
theorem dX5_counted_127 : decode cX5_counted 127 = .ok (.invokevirtual 179, 3) := by decide +kernel
theorem dX5_counted_130 : decode cX5_counted 130 = .ok (.aload_n 0, 1) := by decide +kernel
theorem dX5_counted_131 : decode cX5_counted 131 = .ok (.iconst 1, 1) := by decide +kernel
theorem dX5_counted_132 : decode cX5_counted 132 = .ok (.invokevirtual 179, 3) := by decide +kernel
theorem dX5_counted_135 : decode cX5_counted 135 = .ok (.isub, 1) := by decide +kernel
theorem dX5_counted_136 : decode cX5_counted 136 = .ok (.ireturn, 1) := by decide +kernel
theorem dX5_counted_137 : decode cX5_counted 137 = .ok (.aload_n 0, 1) := by decide +kernel
theorem dX5_counted_138 : decode cX5_counted 138 = .ok (.getfield 32, 3) := by decide +kernel
theorem dX5_counted_141 : decode cX5_counted 141 = .ok (.ireturn, 1) := by decide +kernel
set_option maxRecDepth 20000 in
theorem ggX5_count_X5_in : GoodIn wsX5_count wsX5_in := goodIn_r _ [5] (by decide +kernel) (by decide +kernel)
set_option maxRecDepth 20000 in
theorem gX5_count_X5_in : GoodIn wsX5_count (va_wsS RX5 39 yX5_in wsX5_in) := goodIn_app (goodIn_of _ (by decide +kernel)) ggX5_count_X5_in
set_option maxRecDepth 20000 in
theorem ggX5_count_X5_counted : GoodIn wsX5_count wsX5_counted := goodIn_r _ [9, 10, 11, 12, 13, 14, 4, 15, 16, 17, 18, 19, 20, 21, 22, 23, 24, 25, 26, 27, 28, 29, 30, 35, 36, 37, 38, 39, 40, 41, 42, 43, 44, 45, 46, 47] (by decide +kernel) (by decide +kernel)
set_option maxRecDepth 20000 in
theorem gX5_count_X5_counted : GoodIn wsX5_count (wsV RX5 185 RX5 yX5_counted wsX5_counted) := goodIn_app (goodIn_of _ (by decide +kernel)) ggX5_count_X5_counted
set_option maxRecDepth 20000 in
theorem ggX5_count_X5_fails : GoodIn wsX5_count wsX5_fails := goodIn_r _ [34, 1, 35, 36, 37, 38, 39, 40, 41, 42, 43, 44, 45, 46, 47] (by decide +kernel) (by decide +kernel)
set_option maxRecDepth 20000 in
theorem gX5_count_X5_fails : GoodIn wsX5_count (wsV RX5 112 RX5 yX5_fails wsX5_fails) := goodIn_app (goodIn_of _ (by decide +kernel)) ggX5_count_X5_fails
theorem dX5_count_0 : decode cX5_count 0 = .ok (.aload_n 0, 1) := by decide +kernel
theorem dX5_count_1 : decode cX5_count 1 = .ok (.iconst 0, 1) := by decide +kernel
theorem dX5_count_2 : decode cX5_count 2 = .ok (.putfield 28, 3) := by decide +kernel
theorem dX5_count_5 : decode cX5_count 5 = .ok (.iload_n 1, 1) := by decide +kernel
theorem dX5_count_6 : decode cX5_count 6 = .ok (.iconst 0, 1) := by decide +kernel
theorem dX5_count_7 : decode cX5_count 7 = .ok (.bipush 11, 2) := by decide +kernel
theorem dX5_count_9 : decode cX5_count 9 = .ok (.invokestatic 39, 3) := by decide +kernel
theorem dX5_count_12 : decode cX5_count 12 = .ok (.ifCond .eq 11, 3) := by decide +kernel
theorem dX5_count_15 : decode cX5_count 15 = .ok (.aload_n 0, 1) := by decide +kernel
theorem dX5_count_16 : decode cX5_count 16 = .ok (.iload_n 1, 1) := by decide +kernel
theorem dX5_count_17 : decode cX5_count 17 = .ok (.invokevirtual 185, 3) := by decide +kernel
theorem dX5_count_20 : decode cX5_count 20 = .ok (.goto 8, 3) := by decide +kernel
theorem dX5_count_23 : decode cX5_count 23 = .ok (.aload_n 0, 1) := by decide +kernel
theorem dX5_count_24 : decode cX5_count 24 = .ok (.iconst 1, 1) := by decide +kernel
theorem dX5_count_25 : decode cX5_count 25 = .ok (.invokevirtual 112, 3) := by decide +kernel
theorem dX5_count_28 : decode cX5_count 28 = .ok (.ireturn, 1) := by decide +kernel
set_option maxRecDepth 20000 in
theorem ggX5_setting_X5_in : GoodIn wsX5_setting wsX5_in := goodIn_r _ [6] (by decide +kernel) (by decide +kernel)
set_option maxRecDepth 20000 in
theorem gX5_setting_X5_in : GoodIn wsX5_setting (va_wsS RX5 39 yX5_in wsX5_in) := goodIn_app (goodIn_of _ (by decide +kernel)) ggX5_setting_X5_in
set_option maxRecDepth 20000 in
theorem ggX5_setting_X5_fails : GoodIn wsX5_setting wsX5_fails := goodIn_r _ [10, 1, 11, 12, 13, 14, 15, 16, 17, 18, 19, 20, 21, 22, 23] (by decide +kernel) (by decide +kernel)
set_option maxRecDepth 20000 in
theorem gX5_setting_X5_fails : GoodIn wsX5_setting (wsV RX5 112 RX5 yX5_fails wsX5_fails) := goodIn_app (goodIn_of _ (by decide +kernel)) ggX5_setting_X5_fails
theorem dX5_setting_0 : decode cX5_setting 0 = .ok (.aload_n 0, 1) := by decide +kernel
theorem dX5_setting_1 : decode cX5_setting 1 = .ok (.iconst 0, 1) := by decide +kernel
theorem dX5_setting_2 : decode cX5_setting 2 = .ok (.putfield 28, 3) := by decide +kernel
theorem dX5_setting_5 : decode cX5_setting 5 = .ok (.iload_n 1, 1) := by decide +kernel
theorem dX5_setting_6 : decode cX5_setting 6 = .ok (.iconst 0, 1) := by decide +kernel
theorem dX5_setting_7 : decode cX5_setting 7 = .ok (.iconst 2, 1) := by decide +kernel
theorem dX5_setting_8 : decode cX5_setting 8 = .ok (.invokestatic 39, 3) := by decide +kernel
theorem dX5_setting_11 : decode cX5_setting 11 = .ok (.ifCond .eq 14, 3) := by decide +kernel
theorem dX5_setting_14 : decode cX5_setting 14 = .ok (.aload_n 0, 1) := by decide +kernel
theorem dX5_setting_15 : decode cX5_setting 15 = .ok (.getfield 7, 3) := by decide +kernel
theorem dX5_setting_18 : decode cX5_setting 18 = .ok (.iconst 5, 1) := by decide +kernel
theorem dX5_setting_19 : decode cX5_setting 19 = .ok (.iload_n 1, 1) := by decide +kernel
theorem dX5_setting_20 : decode cX5_setting 20 = .ok (.iadd, 1) := by decide +kernel
theorem dX5_setting_21 : decode cX5_setting 21 = .ok (.iaload, 1) := by decide +kernel
theorem dX5_setting_22 : decode cX5_setting 22 = .ok (.goto 8, 3) := by decide +kernel
theorem dX5_setting_25 : decode cX5_setting 25 = .ok (.aload_n 0, 1) := by decide +kernel
theorem dX5_setting_26 : decode cX5_setting 26 = .ok (.iconst 1, 1) := by decide +kernel
theorem dX5_setting_27 : decode cX5_setting 27 = .ok (.invokevirtual 112, 3) := by decide +kernel
theorem dX5_setting_30 : decode cX5_setting 30 = .ok (.ireturn, 1) := by decide +kernel
set_option maxRecDepth 20000 in
theorem ggX5_passed_X5_copies : GoodIn wsX5_passed wsX5_copies := goodIn_r _ [6] (by decide +kernel) (by decide +kernel)
set_option maxRecDepth 20000 in
theorem gX5_passed_X5_copies : GoodIn wsX5_passed (va_wsS RX5 35 yX5_copies wsX5_copies) := goodIn_app (goodIn_of _ (by decide +kernel)) ggX5_passed_X5_copies
set_option maxRecDepth 20000 in
theorem ggX5_passed_X5_ofKinds : GoodIn wsX5_passed wsX5_ofKinds := goodIn_r _ [10, 11, 12, 13, 5, 14, 1, 90, 91, 92, 93, 94, 95, 96, 97, 98, 99, 100, 101, 102] (by decide +kernel) (by decide +kernel)
set_option maxRecDepth 20000 in
theorem gX5_passed_X5_ofKinds : GoodIn wsX5_passed (wsV RX5 182 RX5 yX5_ofKinds wsX5_ofKinds) := goodIn_app (goodIn_of _ (by decide +kernel)) ggX5_passed_X5_ofKinds
set_option maxRecDepth 20000 in
theorem ggX5_passed_X5_ticks : GoodIn wsX5_passed wsX5_ticks := goodIn_r _ [18, 19, 20, 21, 5, 22, 1, 23, 24, 25, 26, 27, 28, 29, 30, 31, 32, 33, 34, 35, 36, 37, 38, 39, 40, 41, 42, 43, 44, 45, 46, 47, 48, 49, 50, 51, 52, 53, 54, 55, 56, 57, 58, 59, 60, 61, 62, 63, 64, 65, 66, 67, 68, 69, 70, 71, 72, 73, 74, 75, 76, 77, 11, 12, 13, 14, 78, 79, 80, 81, 82, 83, 84, 85, 90, 91, 92, 93, 94, 95, 96, 97, 98, 99, 100, 101, 102] (by decide +kernel) (by decide +kernel)
set_option maxRecDepth 20000 in
theorem gX5_passed_X5_ticks : GoodIn wsX5_passed (wsV RX5 131 RX5 yX5_ticks wsX5_ticks) := goodIn_app (goodIn_of _ (by decide +kernel)) ggX5_passed_X5_ticks
set_option maxRecDepth 20000 in
theorem ggX5_passed_X5_ofPairs : GoodIn wsX5_passed wsX5_ofPairs := goodIn_r _ [89, 1, 39, 40, 41, 5, 42, 43, 44, 45, 90, 91, 92, 93, 94, 95, 96, 97, 98, 99, 100, 101, 102] (by decide +kernel) (by decide +kernel)
set_option maxRecDepth 20000 in
theorem gX5_passed_X5_ofPairs : GoodIn wsX5_passed (wsV RX5 179 RX5 yX5_ofPairs wsX5_ofPairs) := goodIn_app (goodIn_of _ (by decide +kernel)) ggX5_passed_X5_ofPairs
theorem dX5_passed_0 : decode cX5_passed 0 = .ok (.aload_n 0, 1) := by decide +kernel
theorem dX5_passed_1 : decode cX5_passed 1 = .ok (.getfield 7, 3) := by decide +kernel
theorem dX5_passed_4 : decode cX5_passed 4 = .ok (.iconst 0, 1) := by decide +kernel
theorem dX5_passed_5 : decode cX5_passed 5 = .ok (.aload_n 0, 1) := by decide +kernel
theorem dX5_passed_6 : decode cX5_passed 6 = .ok (.getfield 13, 3) := by decide +kernel
theorem dX5_passed_9 : decode cX5_passed 9 = .ok (.iconst 0, 1) := by decide +kernel
theorem dX5_passed_10 : decode cX5_passed 10 = .ok (.invokestatic 35, 3) := by decide +kernel
theorem dX5_passed_13 : decode cX5_passed 13 = .ok (.aload_n 0, 1) := by decide +kernel
theorem dX5_passed_14 : decode cX5_passed 14 = .ok (.iconst 3, 1) := by decide +kernel
theorem dX5_passed_15 : decode cX5_passed 15 = .ok (.invokevirtual 182, 3) := by decide +kernel
theorem dX5_passed_18 : decode cX5_passed 18 = .ok (.istore_n 3, 1) := by decide +kernel
theorem dX5_passed_19 : decode cX5_passed 19 = .ok (.aload_n 0, 1) := by decide +kernel
theorem dX5_passed_20 : decode cX5_passed 20 = .ok (.iload_n 1, 1) := by decide +kernel
theorem dX5_passed_21 : decode cX5_passed 21 = .ok (.invokevirtual 131, 3) := by decide +kernel
theorem dX5_passed_24 : decode cX5_passed 24 = .ok (.istore 4, 2) := by decide +kernel
theorem dX5_passed_26 : decode cX5_passed 26 = .ok (.iload_n 2, 1) := by decide +kernel
theorem dX5_passed_27 : decode cX5_passed 27 = .ok (.ifCond .ne 8, 3) := by decide +kernel
theorem dX5_passed_30 : decode cX5_passed 30 = .ok (.iload 4, 2) := by decide +kernel
theorem dX5_passed_32 : decode cX5_passed 32 = .ok (.goto 44, 3) := by decide +kernel
theorem dX5_passed_35 : decode cX5_passed 35 = .ok (.iload_n 2, 1) := by decide +kernel
theorem dX5_passed_36 : decode cX5_passed 36 = .ok (.iconst 1, 1) := by decide +kernel
theorem dX5_passed_37 : decode cX5_passed 37 = .ok (.if_icmp .ne 13, 3) := by decide +kernel
theorem dX5_passed_40 : decode cX5_passed 40 = .ok (.aload_n 0, 1) := by decide +kernel
theorem dX5_passed_41 : decode cX5_passed 41 = .ok (.iconst 3, 1) := by decide +kernel
theorem dX5_passed_42 : decode cX5_passed 42 = .ok (.invokevirtual 182, 3) := by decide +kernel
theorem dX5_passed_45 : decode cX5_passed 45 = .ok (.iload_n 3, 1) := by decide +kernel
theorem dX5_passed_46 : decode cX5_passed 46 = .ok (.isub, 1) := by decide +kernel
theorem dX5_passed_47 : decode cX5_passed 47 = .ok (.goto 29, 3) := by decide +kernel
theorem dX5_passed_50 : decode cX5_passed 50 = .ok (.iload_n 2, 1) := by decide +kernel
theorem dX5_passed_51 : decode cX5_passed 51 = .ok (.iconst 2, 1) := by decide +kernel
theorem dX5_passed_52 : decode cX5_passed 52 = .ok (.if_icmp .ne 11, 3) := by decide +kernel
theorem dX5_passed_55 : decode cX5_passed 55 = .ok (.aload_n 0, 1) := by decide +kernel
theorem dX5_passed_56 : decode cX5_passed 56 = .ok (.iconst 4, 1) := by decide +kernel
theorem dX5_passed_57 : decode cX5_passed 57 = .ok (.invokevirtual 179, 3) := by decide +kernel
theorem dX5_passed_60 : decode cX5_passed 60 = .ok (.goto 16, 3) := by decide +kernel
theorem dX5_passed_63 : decode cX5_passed 63 = .ok (.aload_n 0, 1) := by decide +kernel
theorem dX5_passed_64 : decode cX5_passed 64 = .ok (.getfield 7, 3) := by decide +kernel
theorem dX5_passed_67 : decode cX5_passed 67 = .ok (.iconst 3, 1) := by decide +kernel
theorem dX5_passed_68 : decode cX5_passed 68 = .ok (.iaload, 1) := by decide +kernel
theorem dX5_passed_69 : decode cX5_passed 69 = .ok (.aload_n 0, 1) := by decide +kernel
theorem dX5_passed_70 : decode cX5_passed 70 = .ok (.getfield 13, 3) := by decide +kernel
theorem dX5_passed_73 : decode cX5_passed 73 = .ok (.iconst 3, 1) := by decide +kernel
theorem dX5_passed_74 : decode cX5_passed 74 = .ok (.iaload, 1) := by decide +kernel
theorem dX5_passed_75 : decode cX5_passed 75 = .ok (.isub, 1) := by decide +kernel
theorem dX5_passed_76 : decode cX5_passed 76 = .ok (.istore 5, 2) := by decide +kernel
theorem dX5_passed_78 : decode cX5_passed 78 = .ok (.aload_n 0, 1) := by decide +kernel
theorem dX5_passed_79 : decode cX5_passed 79 = .ok (.getfield 13, 3) := by decide +kernel
theorem dX5_passed_82 : decode cX5_passed 82 = .ok (.iconst 0, 1) := by decide +kernel
theorem dX5_passed_83 : decode cX5_passed 83 = .ok (.aload_n 0, 1) := by decide +kernel
theorem dX5_passed_84 : decode cX5_passed 84 = .ok (.getfield 7, 3) := by decide +kernel
theorem dX5_passed_87 : decode cX5_passed 87 = .ok (.iconst 0, 1) := by decide +kernel
theorem dX5_passed_88 : decode cX5_passed 88 = .ok (.invokestatic 35, 3) := by decide +kernel
theorem dX5_passed_91 : decode cX5_passed 91 = .ok (.iload 5, 2) := by decide +kernel
theorem dX5_passed_93 : decode cX5_passed 93 = .ok (.ireturn, 1) := by decide +kernel
set_option maxRecDepth 20000 in
theorem ggX5_ifPassed_X5_in : GoodIn wsX5_ifPassed wsX5_in := goodIn_r _ [5] (by decide +kernel) (by decide +kernel)
set_option maxRecDepth 20000 in
theorem gX5_ifPassed_X5_in : GoodIn wsX5_ifPassed (va_wsS RX5 39 yX5_in wsX5_in) := goodIn_app (goodIn_of _ (by decide +kernel)) ggX5_ifPassed_X5_in
set_option maxRecDepth 20000 in
theorem ggX5_ifPassed_X5_passed : GoodIn wsX5_ifPassed wsX5_passed := goodIn_r _ [9, 10, 11, 12, 13, 4, 14, 15, 16, 17, 18, 19, 20, 21, 22, 23, 24, 25, 26, 27, 28, 29, 30, 31, 32, 33, 34, 35, 36, 37, 38, 39, 40, 41, 42, 43, 44, 45, 46, 47, 48, 49, 50, 51, 52, 53, 54, 55, 56, 57, 58, 59, 60, 61, 62, 63, 64, 65, 66, 67, 68, 69, 70, 71, 72, 73, 74, 75, 76, 77, 78, 79, 80, 81, 82, 83, 84, 85, 86, 87, 88, 89, 90, 91, 92, 93, 94, 95, 96, 97, 102, 103, 104, 105, 106, 107, 108, 109, 110, 111, 112, 113, 114] (by decide +kernel) (by decide +kernel)
set_option maxRecDepth 20000 in
theorem gX5_ifPassed_X5_passed : GoodIn wsX5_ifPassed (wsV RX5 188 RX5 yX5_passed wsX5_passed) := goodIn_app (goodIn_of _ (by decide +kernel)) ggX5_ifPassed_X5_passed
set_option maxRecDepth 20000 in
theorem ggX5_ifPassed_X5_fails : GoodIn wsX5_ifPassed wsX5_fails := goodIn_r _ [101, 1, 102, 103, 104, 105, 106, 107, 108, 109, 110, 111, 112, 113, 114] (by decide +kernel) (by decide +kernel)
set_option maxRecDepth 20000 in
theorem gX5_ifPassed_X5_fails : GoodIn wsX5_ifPassed (wsV RX5 112 RX5 yX5_fails wsX5_fails) := goodIn_app (goodIn_of _ (by decide +kernel)) ggX5_ifPassed_X5_fails
theorem dX5_ifPassed_0 : decode cX5_ifPassed 0 = .ok (.aload_n 0, 1) := by decide +kernel
theorem dX5_ifPassed_1 : decode cX5_ifPassed 1 = .ok (.iconst 0, 1) := by decide +kernel
theorem dX5_ifPassed_2 : decode cX5_ifPassed 2 = .ok (.putfield 28, 3) := by decide +kernel
theorem dX5_ifPassed_5 : decode cX5_ifPassed 5 = .ok (.iload_n 1, 1) := by decide +kernel
theorem dX5_ifPassed_6 : decode cX5_ifPassed 6 = .ok (.iconst 1, 1) := by decide +kernel
theorem dX5_ifPassed_7 : decode cX5_ifPassed 7 = .ok (.bipush 60, 2) := by decide +kernel
theorem dX5_ifPassed_9 : decode cX5_ifPassed 9 = .ok (.invokestatic 39, 3) := by decide +kernel
theorem dX5_ifPassed_12 : decode cX5_ifPassed 12 = .ok (.ifCond .eq 21, 3) := by decide +kernel
theorem dX5_ifPassed_15 : decode cX5_ifPassed 15 = .ok (.iload_n 2, 1) := by decide +kernel
theorem dX5_ifPassed_16 : decode cX5_ifPassed 16 = .ok (.iconst 0, 1) := by decide +kernel
theorem dX5_ifPassed_17 : decode cX5_ifPassed 17 = .ok (.iconst 3, 1) := by decide +kernel
theorem dX5_ifPassed_18 : decode cX5_ifPassed 18 = .ok (.invokestatic 39, 3) := by decide +kernel
theorem dX5_ifPassed_21 : decode cX5_ifPassed 21 = .ok (.ifCond .eq 12, 3) := by decide +kernel
theorem dX5_ifPassed_24 : decode cX5_ifPassed 24 = .ok (.aload_n 0, 1) := by decide +kernel
theorem dX5_ifPassed_25 : decode cX5_ifPassed 25 = .ok (.iload_n 1, 1) := by decide +kernel
theorem dX5_ifPassed_26 : decode cX5_ifPassed 26 = .ok (.iload_n 2, 1) := by decide +kernel
theorem dX5_ifPassed_27 : decode cX5_ifPassed 27 = .ok (.invokevirtual 188, 3) := by decide +kernel
theorem dX5_ifPassed_30 : decode cX5_ifPassed 30 = .ok (.goto 8, 3) := by decide +kernel
theorem dX5_ifPassed_33 : decode cX5_ifPassed 33 = .ok (.aload_n 0, 1) := by decide +kernel
theorem dX5_ifPassed_34 : decode cX5_ifPassed 34 = .ok (.iconst 1, 1) := by decide +kernel
theorem dX5_ifPassed_35 : decode cX5_ifPassed 35 = .ok (.invokevirtual 112, 3) := by decide +kernel
theorem dX5_ifPassed_38 : decode cX5_ifPassed 38 = .ok (.ireturn, 1) := by decide +kernel
set_option maxRecDepth 20000 in
theorem ggX5_still_X5_copies : GoodIn wsX5_still wsX5_copies := goodIn_r _ [6] (by decide +kernel) (by decide +kernel)
set_option maxRecDepth 20000 in
theorem gX5_still_X5_copies : GoodIn wsX5_still (va_wsS RX5 35 yX5_copies wsX5_copies) := goodIn_app (goodIn_of _ (by decide +kernel)) ggX5_still_X5_copies
set_option maxRecDepth 20000 in
theorem ggX5_still_X5_tick : GoodIn wsX5_still wsX5_tick := goodIn_r _ [10, 1, 11, 12, 13, 5, 14, 15, 16, 17, 18, 19, 20, 21, 22, 23, 24, 25, 26, 27, 28, 29, 30, 31, 32, 33, 34, 35, 36, 37, 38, 39, 40, 41, 42, 43, 44, 45, 46, 47, 48, 49, 50, 51, 52, 53, 54, 55, 56, 57, 58, 59, 60, 61, 62, 63, 64, 65, 66, 67, 68, 69, 70, 71, 72, 73, 74, 75, 76, 77, 78, 79, 80, 81, 82, 83, 84, 85, 86, 87, 88, 89, 90] (by decide +kernel) (by decide +kernel)
set_option maxRecDepth 20000 in
theorem gX5_still_X5_tick : GoodIn wsX5_still (wsV RX5 109 RX5 yX5_tick wsX5_tick) := goodIn_app (goodIn_of _ (by decide +kernel)) ggX5_still_X5_tick
theorem dX5_still_0 : decode cX5_still 0 = .ok (.aload_n 0, 1) := by decide +kernel
theorem dX5_still_1 : decode cX5_still 1 = .ok (.getfield 7, 3) := by decide +kernel
theorem dX5_still_4 : decode cX5_still 4 = .ok (.iconst 0, 1) := by decide +kernel
theorem dX5_still_5 : decode cX5_still 5 = .ok (.aload_n 0, 1) := by decide +kernel
theorem dX5_still_6 : decode cX5_still 6 = .ok (.getfield 13, 3) := by decide +kernel
theorem dX5_still_9 : decode cX5_still 9 = .ok (.iconst 0, 1) := by decide +kernel
theorem dX5_still_10 : decode cX5_still 10 = .ok (.invokestatic 35, 3) := by decide +kernel
theorem dX5_still_13 : decode cX5_still 13 = .ok (.iconst 0, 1) := by decide +kernel
theorem dX5_still_14 : decode cX5_still 14 = .ok (.istore_n 1, 1) := by decide +kernel
theorem dX5_still_15 : decode cX5_still 15 = .ok (.iload_n 1, 1) := by decide +kernel
theorem dX5_still_16 : decode cX5_still 16 = .ok (.sipush 200, 3) := by decide +kernel
theorem dX5_still_19 : decode cX5_still 19 = .ok (.if_icmp .ge 23, 3) := by decide +kernel
theorem dX5_still_22 : decode cX5_still 22 = .ok (.aload_n 0, 1) := by decide +kernel
theorem dX5_still_23 : decode cX5_still 23 = .ok (.getfield 7, 3) := by decide +kernel
theorem dX5_still_26 : decode cX5_still 26 = .ok (.iconst 4, 1) := by decide +kernel
theorem dX5_still_27 : decode cX5_still 27 = .ok (.iaload, 1) := by decide +kernel
theorem dX5_still_28 : decode cX5_still 28 = .ok (.ifCond .le 14, 3) := by decide +kernel
theorem dX5_still_31 : decode cX5_still 31 = .ok (.aload_n 0, 1) := by decide +kernel
theorem dX5_still_32 : decode cX5_still 32 = .ok (.invokevirtual 109, 3) := by decide +kernel
theorem dX5_still_35 : decode cX5_still 35 = .ok (.istore_n 2, 1) := by decide +kernel
theorem dX5_still_36 : decode cX5_still 36 = .ok (.iinc 1 1, 3) := by decide +kernel
theorem dX5_still_39 : decode cX5_still 39 = .ok (.goto (-24), 3) := by decide +kernel
theorem dX5_still_42 : decode cX5_still 42 = .ok (.aload_n 0, 1) := by decide +kernel
theorem dX5_still_43 : decode cX5_still 43 = .ok (.getfield 7, 3) := by decide +kernel
theorem dX5_still_46 : decode cX5_still 46 = .ok (.iconst 4, 1) := by decide +kernel
theorem dX5_still_47 : decode cX5_still 47 = .ok (.iaload, 1) := by decide +kernel
theorem dX5_still_48 : decode cX5_still 48 = .ok (.ifCond .ne 7, 3) := by decide +kernel
theorem dX5_still_51 : decode cX5_still 51 = .ok (.iload_n 1, 1) := by decide +kernel
theorem dX5_still_52 : decode cX5_still 52 = .ok (.goto 4, 3) := by decide +kernel
theorem dX5_still_55 : decode cX5_still 55 = .ok (.iconst (-1), 1) := by decide +kernel
theorem dX5_still_56 : decode cX5_still 56 = .ok (.istore_n 2, 1) := by decide +kernel
theorem dX5_still_57 : decode cX5_still 57 = .ok (.aload_n 0, 1) := by decide +kernel
theorem dX5_still_58 : decode cX5_still 58 = .ok (.getfield 13, 3) := by decide +kernel
theorem dX5_still_61 : decode cX5_still 61 = .ok (.iconst 0, 1) := by decide +kernel
theorem dX5_still_62 : decode cX5_still 62 = .ok (.aload_n 0, 1) := by decide +kernel
theorem dX5_still_63 : decode cX5_still 63 = .ok (.getfield 7, 3) := by decide +kernel
theorem dX5_still_66 : decode cX5_still 66 = .ok (.iconst 0, 1) := by decide +kernel
theorem dX5_still_67 : decode cX5_still 67 = .ok (.invokestatic 35, 3) := by decide +kernel
theorem dX5_still_70 : decode cX5_still 70 = .ok (.iload_n 2, 1) := by decide +kernel
theorem dX5_still_71 : decode cX5_still 71 = .ok (.ireturn, 1) := by decide +kernel
set_option maxRecDepth 20000 in
theorem ggX5_stillIn_X5_still : GoodIn wsX5_stillIn wsX5_still := goodIn_r _ [6, 7, 8, 9, 10, 5, 11, 12, 13, 14, 15, 16, 17, 18, 19, 20, 21, 22, 23, 24, 25, 26, 27, 28, 29, 30, 31, 32, 33, 34, 35, 36, 37, 38, 39, 40, 41, 42, 43, 44, 45, 46, 47, 48, 49, 50, 51, 52, 53, 54, 55, 56, 57, 58, 59, 60, 61, 62, 63, 64, 65, 66, 67, 68, 69, 70, 71, 72, 73, 74, 75, 76, 77, 78, 79, 80, 81, 82, 83, 84, 85, 86, 87, 88, 89, 90, 91, 92, 93, 94, 95] (by decide +kernel) (by decide +kernel)
set_option maxRecDepth 20000 in
theorem gX5_stillIn_X5_still : GoodIn wsX5_stillIn (wsV RX5 191 RX5 yX5_still wsX5_still) := goodIn_app (goodIn_of _ (by decide +kernel)) ggX5_stillIn_X5_still
theorem dX5_stillIn_0 : decode cX5_stillIn 0 = .ok (.aload_n 0, 1) := by decide +kernel
theorem dX5_stillIn_1 : decode cX5_stillIn 1 = .ok (.iconst 0, 1) := by decide +kernel
theorem dX5_stillIn_2 : decode cX5_stillIn 2 = .ok (.putfield 28, 3) := by decide +kernel
theorem dX5_stillIn_5 : decode cX5_stillIn 5 = .ok (.aload_n 0, 1) := by decide +kernel
theorem dX5_stillIn_6 : decode cX5_stillIn 6 = .ok (.invokevirtual 191, 3) := by decide +kernel
theorem dX5_stillIn_9 : decode cX5_stillIn 9 = .ok (.ireturn, 1) := by decide +kernel
set_option maxRecDepth 20000 in
theorem ggX5_unknown_X5_ofPairs : GoodIn wsX5_unknown wsX5_ofPairs := goodIn_r _ [5, 6, 7, 8, 9, 4, 10, 11, 12, 13, 14, 15, 16, 17, 18, 19, 20, 21, 22, 23, 24, 25, 26] (by decide +kernel) (by decide +kernel)
set_option maxRecDepth 20000 in
theorem gX5_unknown_X5_ofPairs : GoodIn wsX5_unknown (wsV RX5 179 RX5 yX5_ofPairs wsX5_ofPairs) := goodIn_app (goodIn_of _ (by decide +kernel)) ggX5_unknown_X5_ofPairs
theorem dX5_unknown_0 : decode cX5_unknown 0 = .ok (.aload_n 0, 1) := by decide +kernel
theorem dX5_unknown_1 : decode cX5_unknown 1 = .ok (.iconst 3, 1) := by decide +kernel
theorem dX5_unknown_2 : decode cX5_unknown 2 = .ok (.invokevirtual 179, 3) := by decide +kernel
theorem dX5_unknown_5 : decode cX5_unknown 5 = .ok (.aload_n 0, 1) := by decide +kernel
theorem dX5_unknown_6 : decode cX5_unknown 6 = .ok (.iconst 1, 1) := by decide +kernel
theorem dX5_unknown_7 : decode cX5_unknown 7 = .ok (.invokevirtual 179, 3) := by decide +kernel
theorem dX5_unknown_10 : decode cX5_unknown 10 = .ok (.isub, 1) := by decide +kernel
theorem dX5_unknown_11 : decode cX5_unknown 11 = .ok (.ireturn, 1) := by decide +kernel
set_option maxRecDepth 20000 in
theorem ggX5_hidden_X5_unknown : GoodIn wsX5_hidden wsX5_unknown := goodIn_r _ [6, 7, 8, 9, 5, 10, 11, 12, 13, 14, 15, 16, 17, 18, 19, 20, 21, 22, 23, 24, 25, 26, 27, 28, 29, 30, 31] (by decide +kernel) (by decide +kernel)
set_option maxRecDepth 20000 in
theorem gX5_hidden_X5_unknown : GoodIn wsX5_hidden (wsV RX5 194 RX5 yX5_unknown wsX5_unknown) := goodIn_app (goodIn_of _ (by decide +kernel)) ggX5_hidden_X5_unknown
theorem dX5_hidden_0 : decode cX5_hidden 0 = .ok (.aload_n 0, 1) := by decide +kernel
theorem dX5_hidden_1 : decode cX5_hidden 1 = .ok (.iconst 0, 1) := by decide +kernel
theorem dX5_hidden_2 : decode cX5_hidden 2 = .ok (.putfield 28, 3) := by decide +kernel
theorem dX5_hidden_5 : decode cX5_hidden 5 = .ok (.aload_n 0, 1) := by decide +kernel
theorem dX5_hidden_6 : decode cX5_hidden 6 = .ok (.invokevirtual 194, 3) := by decide +kernel
theorem dX5_hidden_9 : decode cX5_hidden 9 = .ok (.ireturn, 1) := by decide +kernel
set_option maxRecDepth 20000 in
theorem ggX5_wants_X5_of : GoodIn wsX5_wants wsX5_of := goodIn_r _ [5, 6, 7, 8, 4, 9, 14, 15, 16, 17, 18, 19, 20, 21, 22, 23, 24, 25, 26] (by decide +kernel) (by decide +kernel)
set_option maxRecDepth 20000 in
theorem gX5_wants_X5_of : GoodIn wsX5_wants (wsV RX5 54 RX5 yX5_of wsX5_of) := goodIn_app (goodIn_of _ (by decide +kernel)) ggX5_wants_X5_of
set_option maxRecDepth 20000 in
theorem ggX5_wants_X5_corks : GoodIn wsX5_wants wsX5_corks := goodIn_r _ [13, 1, 2, 3, 4, 5, 6, 7, 8, 9, 14, 15, 16, 17, 18, 19, 20, 21, 22, 23, 24, 25, 26] (by decide +kernel) (by decide +kernel)
set_option maxRecDepth 20000 in
theorem gX5_wants_X5_corks : GoodIn wsX5_wants (wsV RX5 82 RX5 yX5_corks wsX5_corks) := goodIn_app (goodIn_of _ (by decide +kernel)) ggX5_wants_X5_corks
theorem dX5_wants_0 : decode cX5_wants 0 = .ok (.iconst 0, 1) := by decide +kernel
theorem dX5_wants_1 : decode cX5_wants 1 = .ok (.istore_n 2, 1) := by decide +kernel
theorem dX5_wants_2 : decode cX5_wants 2 = .ok (.iconst 0, 1) := by decide +kernel
theorem dX5_wants_3 : decode cX5_wants 3 = .ok (.istore_n 3, 1) := by decide +kernel
theorem dX5_wants_4 : decode cX5_wants 4 = .ok (.iload_n 3, 1) := by decide +kernel
theorem dX5_wants_5 : decode cX5_wants 5 = .ok (.iconst 3, 1) := by decide +kernel
theorem dX5_wants_6 : decode cX5_wants 6 = .ok (.if_icmp .ge 39, 3) := by decide +kernel
theorem dX5_wants_9 : decode cX5_wants 9 = .ok (.aload_n 0, 1) := by decide +kernel
theorem dX5_wants_10 : decode cX5_wants 10 = .ok (.iload_n 1, 1) := by decide +kernel
theorem dX5_wants_11 : decode cX5_wants 11 = .ok (.iload_n 3, 1) := by decide +kernel
theorem dX5_wants_12 : decode cX5_wants 12 = .ok (.iconst 4, 1) := by decide +kernel
theorem dX5_wants_13 : decode cX5_wants 13 = .ok (.invokevirtual 54, 3) := by decide +kernel
theorem dX5_wants_16 : decode cX5_wants 16 = .ok (.aload_n 0, 1) := by decide +kernel
theorem dX5_wants_17 : decode cX5_wants 17 = .ok (.iload_n 1, 1) := by decide +kernel
theorem dX5_wants_18 : decode cX5_wants 18 = .ok (.iload_n 3, 1) := by decide +kernel
theorem dX5_wants_19 : decode cX5_wants 19 = .ok (.invokevirtual 82, 3) := by decide +kernel
theorem dX5_wants_22 : decode cX5_wants 22 = .ok (.isub, 1) := by decide +kernel
theorem dX5_wants_23 : decode cX5_wants 23 = .ok (.istore 4, 2) := by decide +kernel
theorem dX5_wants_25 : decode cX5_wants 25 = .ok (.iload_n 2, 1) := by decide +kernel
theorem dX5_wants_26 : decode cX5_wants 26 = .ok (.iload 4, 2) := by decide +kernel
theorem dX5_wants_28 : decode cX5_wants 28 = .ok (.ifCond .le 8, 3) := by decide +kernel
theorem dX5_wants_31 : decode cX5_wants 31 = .ok (.iload 4, 2) := by decide +kernel
theorem dX5_wants_33 : decode cX5_wants 33 = .ok (.goto 4, 3) := by decide +kernel
theorem dX5_wants_36 : decode cX5_wants 36 = .ok (.iconst 0, 1) := by decide +kernel
theorem dX5_wants_37 : decode cX5_wants 37 = .ok (.iadd, 1) := by decide +kernel
theorem dX5_wants_38 : decode cX5_wants 38 = .ok (.istore_n 2, 1) := by decide +kernel
theorem dX5_wants_39 : decode cX5_wants 39 = .ok (.iinc 3 1, 3) := by decide +kernel
theorem dX5_wants_42 : decode cX5_wants 42 = .ok (.goto (-38), 3) := by decide +kernel
theorem dX5_wants_45 : decode cX5_wants 45 = .ok (.iload_n 2, 1) := by decide +kernel
theorem dX5_wants_46 : decode cX5_wants 46 = .ok (.ireturn, 1) := by decide +kernel
set_option maxRecDepth 20000 in
theorem ggX5_needy_X5_wants : GoodIn wsX5_needy wsX5_wants := goodIn_r _ [6, 7, 8, 9, 5, 10, 1, 11, 12, 13, 14, 15, 16, 17, 18, 19, 20, 21, 22, 23, 24, 25, 26, 27, 28, 29, 30] (by decide +kernel) (by decide +kernel)
set_option maxRecDepth 20000 in
theorem gX5_needy_X5_wants : GoodIn wsX5_needy (wsV RX5 197 RX5 yX5_wants wsX5_wants) := goodIn_app (goodIn_of _ (by decide +kernel)) ggX5_needy_X5_wants
theorem dX5_needy_0 : decode cX5_needy 0 = .ok (.iconst (-1), 1) := by decide +kernel
theorem dX5_needy_1 : decode cX5_needy 1 = .ok (.istore_n 1, 1) := by decide +kernel
theorem dX5_needy_2 : decode cX5_needy 2 = .ok (.iconst 0, 1) := by decide +kernel
theorem dX5_needy_3 : decode cX5_needy 3 = .ok (.istore_n 2, 1) := by decide +kernel
theorem dX5_needy_4 : decode cX5_needy 4 = .ok (.iconst 0, 1) := by decide +kernel
theorem dX5_needy_5 : decode cX5_needy 5 = .ok (.istore_n 3, 1) := by decide +kernel
theorem dX5_needy_6 : decode cX5_needy 6 = .ok (.iload_n 3, 1) := by decide +kernel
theorem dX5_needy_7 : decode cX5_needy 7 = .ok (.aload_n 0, 1) := by decide +kernel
theorem dX5_needy_8 : decode cX5_needy 8 = .ok (.getfield 7, 3) := by decide +kernel
theorem dX5_needy_11 : decode cX5_needy 11 = .ok (.iconst 1, 1) := by decide +kernel
theorem dX5_needy_12 : decode cX5_needy 12 = .ok (.iaload, 1) := by decide +kernel
theorem dX5_needy_13 : decode cX5_needy 13 = .ok (.if_icmp .ge 43, 3) := by decide +kernel
theorem dX5_needy_16 : decode cX5_needy 16 = .ok (.aload_n 0, 1) := by decide +kernel
theorem dX5_needy_17 : decode cX5_needy 17 = .ok (.iload_n 3, 1) := by decide +kernel
theorem dX5_needy_18 : decode cX5_needy 18 = .ok (.invokevirtual 197, 3) := by decide +kernel
theorem dX5_needy_21 : decode cX5_needy 21 = .ok (.iload_n 2, 1) := by decide +kernel
theorem dX5_needy_22 : decode cX5_needy 22 = .ok (.if_icmp .le 7, 3) := by decide +kernel
theorem dX5_needy_25 : decode cX5_needy 25 = .ok (.iload_n 3, 1) := by decide +kernel
theorem dX5_needy_26 : decode cX5_needy 26 = .ok (.goto 4, 3) := by decide +kernel
theorem dX5_needy_29 : decode cX5_needy 29 = .ok (.iload_n 1, 1) := by decide +kernel
theorem dX5_needy_30 : decode cX5_needy 30 = .ok (.istore_n 1, 1) := by decide +kernel
theorem dX5_needy_31 : decode cX5_needy 31 = .ok (.aload_n 0, 1) := by decide +kernel
theorem dX5_needy_32 : decode cX5_needy 32 = .ok (.iload_n 3, 1) := by decide +kernel
theorem dX5_needy_33 : decode cX5_needy 33 = .ok (.invokevirtual 197, 3) := by decide +kernel
theorem dX5_needy_36 : decode cX5_needy 36 = .ok (.iload_n 2, 1) := by decide +kernel
theorem dX5_needy_37 : decode cX5_needy 37 = .ok (.if_icmp .le 11, 3) := by decide +kernel
theorem dX5_needy_40 : decode cX5_needy 40 = .ok (.aload_n 0, 1) := by decide +kernel
theorem dX5_needy_41 : decode cX5_needy 41 = .ok (.iload_n 3, 1) := by decide +kernel
theorem dX5_needy_42 : decode cX5_needy 42 = .ok (.invokevirtual 197, 3) := by decide +kernel
theorem dX5_needy_45 : decode cX5_needy 45 = .ok (.goto 4, 3) := by decide +kernel
theorem dX5_needy_48 : decode cX5_needy 48 = .ok (.iload_n 2, 1) := by decide +kernel
theorem dX5_needy_49 : decode cX5_needy 49 = .ok (.istore_n 2, 1) := by decide +kernel
theorem dX5_needy_50 : decode cX5_needy 50 = .ok (.iinc 3 1, 3) := by decide +kernel
theorem dX5_needy_53 : decode cX5_needy 53 = .ok (.goto (-47), 3) := by decide +kernel
theorem dX5_needy_56 : decode cX5_needy 56 = .ok (.iload_n 1, 1) := by decide +kernel
theorem dX5_needy_57 : decode cX5_needy 57 = .ok (.ireturn, 1) := by decide +kernel
set_option maxRecDepth 20000 in
theorem ggX5_neediest_X5_needy : GoodIn wsX5_neediest wsX5_needy := goodIn_r _ [6, 7, 8, 9, 10, 5, 11, 12, 13, 14, 15, 16, 17, 18, 19, 20, 21, 22, 23, 24, 25, 26, 27, 28, 29, 30, 31, 32, 33, 34, 35] (by decide +kernel) (by decide +kernel)
set_option maxRecDepth 20000 in
theorem gX5_neediest_X5_needy : GoodIn wsX5_neediest (wsV RX5 200 RX5 yX5_needy wsX5_needy) := goodIn_app (goodIn_of _ (by decide +kernel)) ggX5_neediest_X5_needy
theorem dX5_neediest_0 : decode cX5_neediest 0 = .ok (.aload_n 0, 1) := by decide +kernel
theorem dX5_neediest_1 : decode cX5_neediest 1 = .ok (.iconst 0, 1) := by decide +kernel
theorem dX5_neediest_2 : decode cX5_neediest 2 = .ok (.putfield 28, 3) := by decide +kernel
theorem dX5_neediest_5 : decode cX5_neediest 5 = .ok (.aload_n 0, 1) := by decide +kernel
theorem dX5_neediest_6 : decode cX5_neediest 6 = .ok (.invokevirtual 200, 3) := by decide +kernel
theorem dX5_neediest_9 : decode cX5_neediest 9 = .ok (.ireturn, 1) := by decide +kernel
set_option maxRecDepth 20000 in
theorem ggX5_share_X5_ofKinds : GoodIn wsX5_share wsX5_ofKinds := goodIn_r _ [5, 6, 7, 8, 4, 9, 10, 11, 12, 13, 14, 15, 16, 17, 18, 19, 20, 21, 22, 23] (by decide +kernel) (by decide +kernel)
set_option maxRecDepth 20000 in
theorem gX5_share_X5_ofKinds : GoodIn wsX5_share (wsV RX5 182 RX5 yX5_ofKinds wsX5_ofKinds) := goodIn_app (goodIn_of _ (by decide +kernel)) ggX5_share_X5_ofKinds
theorem dX5_share_0 : decode cX5_share 0 = .ok (.aload_n 0, 1) := by decide +kernel
theorem dX5_share_1 : decode cX5_share 1 = .ok (.iconst 3, 1) := by decide +kernel
theorem dX5_share_2 : decode cX5_share 2 = .ok (.invokevirtual 182, 3) := by decide +kernel
theorem dX5_share_5 : decode cX5_share 5 = .ok (.istore_n 1, 1) := by decide +kernel
theorem dX5_share_6 : decode cX5_share 6 = .ok (.iload_n 1, 1) := by decide +kernel
theorem dX5_share_7 : decode cX5_share 7 = .ok (.aload_n 0, 1) := by decide +kernel
theorem dX5_share_8 : decode cX5_share 8 = .ok (.iconst 4, 1) := by decide +kernel
theorem dX5_share_9 : decode cX5_share 9 = .ok (.invokevirtual 182, 3) := by decide +kernel
theorem dX5_share_12 : decode cX5_share 12 = .ok (.iadd, 1) := by decide +kernel
theorem dX5_share_13 : decode cX5_share 13 = .ok (.istore_n 2, 1) := by decide +kernel
theorem dX5_share_14 : decode cX5_share 14 = .ok (.iload_n 2, 1) := by decide +kernel
theorem dX5_share_15 : decode cX5_share 15 = .ok (.ifCond .ne 7, 3) := by decide +kernel
theorem dX5_share_18 : decode cX5_share 18 = .ok (.dconst 1, 1) := by decide +kernel
theorem dX5_share_19 : decode cX5_share 19 = .ok (.goto 8, 3) := by decide +kernel
theorem dX5_share_22 : decode cX5_share 22 = .ok (.iload_n 1, 1) := by decide +kernel
theorem dX5_share_23 : decode cX5_share 23 = .ok (.i2d, 1) := by decide +kernel
theorem dX5_share_24 : decode cX5_share 24 = .ok (.iload_n 2, 1) := by decide +kernel
theorem dX5_share_25 : decode cX5_share 25 = .ok (.i2d, 1) := by decide +kernel
theorem dX5_share_26 : decode cX5_share 26 = .ok (.ddiv, 1) := by decide +kernel
theorem dX5_share_27 : decode cX5_share 27 = .ok (.dreturn, 1) := by decide +kernel
set_option maxRecDepth 20000 in
theorem ggX5_arrivedShare_X5_share : GoodIn wsX5_arrivedShare wsX5_share := goodIn_r _ [6, 7, 8, 9, 5, 10, 11, 12, 13, 14, 15, 16, 17, 18, 19, 20, 21, 22, 23, 24, 25, 26, 27, 28] (by decide +kernel) (by decide +kernel)
set_option maxRecDepth 20000 in
theorem gX5_arrivedShare_X5_share : GoodIn wsX5_arrivedShare (wsV RX5 203 RX5 yX5_share wsX5_share) := goodIn_app (goodIn_of _ (by decide +kernel)) ggX5_arrivedShare_X5_share
theorem dX5_arrivedShare_0 : decode cX5_arrivedShare 0 = .ok (.aload_n 0, 1) := by decide +kernel
theorem dX5_arrivedShare_1 : decode cX5_arrivedShare 1 = .ok (.iconst 0, 1) := by decide +kernel
theorem dX5_arrivedShare_2 : decode cX5_arrivedShare 2 = .ok (.putfield 28, 3) := by decide +kernel
theorem dX5_arrivedShare_5 : decode cX5_arrivedShare 5 = .ok (.aload_n 0, 1) := by decide +kernel
theorem dX5_arrivedShare_6 : decode cX5_arrivedShare 6 = .ok (.invokevirtual 203, 3) := by decide +kernel
theorem dX5_arrivedShare_9 : decode cX5_arrivedShare 9 = .ok (.dreturn, 1) := by decide +kernel
set_option maxRecDepth 20000 in
theorem ggX5_digest_X5_counted : GoodIn wsX5_digest wsX5_counted := goodIn_r _ [12, 4, 13, 14, 15, 16, 11, 17, 18, 19, 20, 21, 22, 23, 24, 25, 26, 27, 28, 29, 30, 31, 32, 149, 150, 151, 152, 153, 154, 155, 156, 157, 158, 159, 160, 161] (by decide +kernel) (by decide +kernel)
set_option maxRecDepth 20000 in
theorem gX5_digest_X5_counted : GoodIn wsX5_digest (wsV RX5 185 RX5 yX5_counted wsX5_counted) := goodIn_app (goodIn_of _ (by decide +kernel)) ggX5_digest_X5_counted
set_option maxRecDepth 20000 in
theorem ggX5_digest_X5_kindTold : GoodIn wsX5_digest wsX5_kindTold := goodIn_r _ [36, 29, 30, 31, 11, 32, 4, 37, 38, 39, 40, 41, 42, 43, 44, 18, 19, 20, 21, 22, 23, 24, 45, 46, 47, 48, 149, 150, 151, 152, 153, 154, 155, 156, 157, 158, 159, 160, 161] (by decide +kernel) (by decide +kernel)
set_option maxRecDepth 20000 in
theorem gX5_digest_X5_kindTold : GoodIn wsX5_digest (wsV RX5 170 RX5 yX5_kindTold wsX5_kindTold) := goodIn_app (goodIn_of _ (by decide +kernel)) ggX5_digest_X5_kindTold
set_option maxRecDepth 20000 in
theorem ggX5_digest_X5_pairTold : GoodIn wsX5_digest wsX5_pairTold := goodIn_r _ [52, 18, 19, 20, 11, 21, 4, 22, 23, 24, 41, 42, 43, 44, 53, 54, 55, 56, 57, 58, 59, 60, 61, 62, 63, 64, 149, 150, 151, 152, 153, 154, 155, 156, 157, 158, 159, 160, 161] (by decide +kernel) (by decide +kernel)
set_option maxRecDepth 20000 in
theorem gX5_digest_X5_pairTold : GoodIn wsX5_digest (wsV RX5 173 RX5 yX5_pairTold wsX5_pairTold) := goodIn_app (goodIn_of _ (by decide +kernel)) ggX5_digest_X5_pairTold
set_option maxRecDepth 20000 in
theorem ggX5_digest_X5_letterTold : GoodIn wsX5_digest wsX5_letterTold := goodIn_r _ [68, 4, 149, 150, 151, 152, 153, 154, 155, 156, 157, 158, 159, 160, 161] (by decide +kernel) (by decide +kernel)
set_option maxRecDepth 20000 in
theorem gX5_digest_X5_letterTold : GoodIn wsX5_digest (wsV RX5 176 RX5 yX5_letterTold wsX5_letterTold) := goodIn_app (goodIn_of _ (by decide +kernel)) ggX5_digest_X5_letterTold
set_option maxRecDepth 20000 in
theorem ggX5_digest_X5_passed : GoodIn wsX5_digest wsX5_passed := goodIn_r _ [72, 4, 73, 74, 75, 11, 76, 25, 26, 27, 28, 29, 30, 31, 32, 77, 78, 79, 80, 81, 82, 83, 84, 85, 86, 87, 88, 89, 90, 91, 92, 93, 94, 95, 96, 97, 98, 99, 100, 18, 19, 20, 21, 22, 23, 24, 101, 102, 103, 104, 105, 106, 107, 108, 57, 58, 59, 60, 53, 54, 55, 56, 41, 42, 43, 44, 61, 62, 63, 64, 109, 110, 111, 112, 45, 46, 47, 48, 37, 38, 39, 40, 113, 114, 115, 116, 14, 15, 16, 17, 149, 150, 151, 152, 153, 154, 155, 156, 157, 158, 159, 160, 161] (by decide +kernel) (by decide +kernel)
set_option maxRecDepth 20000 in
theorem gX5_digest_X5_passed : GoodIn wsX5_digest (wsV RX5 188 RX5 yX5_passed wsX5_passed) := goodIn_app (goodIn_of _ (by decide +kernel)) ggX5_digest_X5_passed
set_option maxRecDepth 20000 in
theorem ggX5_digest_X5_still : GoodIn wsX5_digest wsX5_still := goodIn_r _ [120, 4, 73, 74, 75, 11, 76, 81, 82, 83, 84, 85, 86, 87, 88, 89, 90, 91, 92, 93, 94, 95, 96, 97, 98, 99, 100, 18, 19, 20, 21, 22, 23, 24, 101, 102, 103, 104, 105, 106, 107, 108, 57, 58, 59, 60, 53, 54, 55, 56, 41, 42, 43, 44, 61, 62, 63, 64, 109, 110, 111, 112, 45, 46, 47, 48, 29, 30, 31, 32, 37, 38, 39, 40, 113, 114, 115, 116, 149, 150, 151, 152, 153, 154, 155, 156, 157, 158, 159, 160, 161] (by decide +kernel) (by decide +kernel)
set_option maxRecDepth 20000 in
theorem gX5_digest_X5_still : GoodIn wsX5_digest (wsV RX5 191 RX5 yX5_still wsX5_still) := goodIn_app (goodIn_of _ (by decide +kernel)) ggX5_digest_X5_still
set_option maxRecDepth 20000 in
theorem ggX5_digest_X5_unknown : GoodIn wsX5_digest wsX5_unknown := goodIn_r _ [124, 14, 15, 16, 11, 17, 4, 18, 19, 20, 21, 22, 23, 24, 149, 150, 151, 152, 153, 154, 155, 156, 157, 158, 159, 160, 161] (by decide +kernel) (by decide +kernel)
set_option maxRecDepth 20000 in
theorem gX5_digest_X5_unknown : GoodIn wsX5_digest (wsV RX5 194 RX5 yX5_unknown wsX5_unknown) := goodIn_app (goodIn_of _ (by decide +kernel)) ggX5_digest_X5_unknown
set_option maxRecDepth 20000 in
theorem ggX5_digest_X5_needy : GoodIn wsX5_digest wsX5_needy := goodIn_r _ [128, 4, 129, 130, 131, 11, 132, 18, 19, 20, 21, 22, 23, 24, 53, 54, 55, 56, 149, 150, 151, 152, 153, 154, 155, 156, 157, 158, 159, 160, 161] (by decide +kernel) (by decide +kernel)
set_option maxRecDepth 20000 in
theorem gX5_digest_X5_needy : GoodIn wsX5_digest (wsV RX5 200 RX5 yX5_needy wsX5_needy) := goodIn_app (goodIn_of _ (by decide +kernel)) ggX5_digest_X5_needy
set_option maxRecDepth 20000 in
theorem ggX5_digest_X5_share : GoodIn wsX5_digest wsX5_share := goodIn_r _ [136, 25, 26, 27, 11, 28, 29, 30, 31, 32, 4, 149, 150, 151, 152, 153, 154, 155, 156, 157, 158, 159, 160, 161] (by decide +kernel) (by decide +kernel)
set_option maxRecDepth 20000 in
theorem gX5_digest_X5_share : GoodIn wsX5_digest (wsV RX5 203 RX5 yX5_share wsX5_share) := goodIn_app (goodIn_of _ (by decide +kernel)) ggX5_digest_X5_share
set_option maxRecDepth 20000 in
theorem ggX5_digest_Jxe99ae_doubleToLongBits_ccdee : GoodIn wsX5_digest wsJxe99ae_doubleToLongBits_ccdee := goodIn_r _ [140, 141, 142, 143, 144, 145, 146, 147, 139, 148] (by decide +kernel) (by decide +kernel)
set_option maxRecDepth 20000 in
theorem gX5_digest_Jxe99ae_doubleToLongBits_ccdee : GoodIn wsX5_digest (va_wsS RX5 211 yJxe99ae_doubleToLongBits_ccdee wsJxe99ae_doubleToLongBits_ccdee) := goodIn_app (goodIn_of _ (by decide +kernel)) ggX5_digest_Jxe99ae_doubleToLongBits_ccdee
theorem dX5_digest_0 : decode cX5_digest 0 = .ok (.aload_n 0, 1) := by decide +kernel
theorem dX5_digest_1 : decode cX5_digest 1 = .ok (.iconst 0, 1) := by decide +kernel
theorem dX5_digest_2 : decode cX5_digest 2 = .ok (.putfield 28, 3) := by decide +kernel
theorem dX5_digest_5 : decode cX5_digest 5 = .ok (.ldc2_w 207, 3) := by decide +kernel
theorem dX5_digest_8 : decode cX5_digest 8 = .ok (.lstore_n 1, 1) := by decide +kernel
theorem dX5_digest_9 : decode cX5_digest 9 = .ok (.iconst 0, 1) := by decide +kernel
theorem dX5_digest_10 : decode cX5_digest 10 = .ok (.istore_n 3, 1) := by decide +kernel
theorem dX5_digest_11 : decode cX5_digest 11 = .ok (.iload_n 3, 1) := by decide +kernel
theorem dX5_digest_12 : decode cX5_digest 12 = .ok (.bipush 12, 2) := by decide +kernel
theorem dX5_digest_14 : decode cX5_digest 14 = .ok (.if_icmp .ge 22, 3) := by decide +kernel
theorem dX5_digest_17 : decode cX5_digest 17 = .ok (.ldc2_w 209, 3) := by decide +kernel
theorem dX5_digest_20 : decode cX5_digest 20 = .ok (.lload_n 1, 1) := by decide +kernel
theorem dX5_digest_21 : decode cX5_digest 21 = .ok (.lmul, 1) := by decide +kernel
theorem dX5_digest_22 : decode cX5_digest 22 = .ok (.aload_n 0, 1) := by decide +kernel
theorem dX5_digest_23 : decode cX5_digest 23 = .ok (.iload_n 3, 1) := by decide +kernel
theorem dX5_digest_24 : decode cX5_digest 24 = .ok (.invokevirtual 185, 3) := by decide +kernel
theorem dX5_digest_27 : decode cX5_digest 27 = .ok (.i2l, 1) := by decide +kernel
theorem dX5_digest_28 : decode cX5_digest 28 = .ok (.ladd, 1) := by decide +kernel
theorem dX5_digest_29 : decode cX5_digest 29 = .ok (.lstore_n 1, 1) := by decide +kernel
theorem dX5_digest_30 : decode cX5_digest 30 = .ok (.iinc 3 1, 3) := by decide +kernel
theorem dX5_digest_33 : decode cX5_digest 33 = .ok (.goto (-22), 3) := by decide +kernel
theorem dX5_digest_36 : decode cX5_digest 36 = .ok (.iconst 0, 1) := by decide +kernel
theorem dX5_digest_37 : decode cX5_digest 37 = .ok (.istore_n 3, 1) := by decide +kernel
theorem dX5_digest_38 : decode cX5_digest 38 = .ok (.iload_n 3, 1) := by decide +kernel
theorem dX5_digest_39 : decode cX5_digest 39 = .ok (.iconst 3, 1) := by decide +kernel
theorem dX5_digest_40 : decode cX5_digest 40 = .ok (.if_icmp .ge 25, 3) := by decide +kernel
theorem dX5_digest_43 : decode cX5_digest 43 = .ok (.ldc2_w 209, 3) := by decide +kernel
theorem dX5_digest_46 : decode cX5_digest 46 = .ok (.lload_n 1, 1) := by decide +kernel
theorem dX5_digest_47 : decode cX5_digest 47 = .ok (.lmul, 1) := by decide +kernel
theorem dX5_digest_48 : decode cX5_digest 48 = .ok (.aload_n 0, 1) := by decide +kernel
theorem dX5_digest_49 : decode cX5_digest 49 = .ok (.getfield 7, 3) := by decide +kernel
theorem dX5_digest_52 : decode cX5_digest 52 = .ok (.iconst 5, 1) := by decide +kernel
theorem dX5_digest_53 : decode cX5_digest 53 = .ok (.iload_n 3, 1) := by decide +kernel
theorem dX5_digest_54 : decode cX5_digest 54 = .ok (.iadd, 1) := by decide +kernel
theorem dX5_digest_55 : decode cX5_digest 55 = .ok (.iaload, 1) := by decide +kernel
theorem dX5_digest_56 : decode cX5_digest 56 = .ok (.i2l, 1) := by decide +kernel
theorem dX5_digest_57 : decode cX5_digest 57 = .ok (.ladd, 1) := by decide +kernel
theorem dX5_digest_58 : decode cX5_digest 58 = .ok (.lstore_n 1, 1) := by decide +kernel
theorem dX5_digest_59 : decode cX5_digest 59 = .ok (.iinc 3 1, 3) := by decide +kernel
theorem dX5_digest_62 : decode cX5_digest 62 = .ok (.goto (-24), 3) := by decide +kernel
theorem dX5_digest_65 : decode cX5_digest 65 = .ok (.iconst 0, 1) := by decide +kernel
theorem dX5_digest_66 : decode cX5_digest 66 = .ok (.istore_n 3, 1) := by decide +kernel
theorem dX5_digest_67 : decode cX5_digest 67 = .ok (.iload_n 3, 1) := by decide +kernel
theorem dX5_digest_68 : decode cX5_digest 68 = .ok (.bipush 21, 2) := by decide +kernel
theorem dX5_digest_70 : decode cX5_digest 70 = .ok (.if_icmp .ge 29, 3) := by decide +kernel
theorem dX5_digest_73 : decode cX5_digest 73 = .ok (.ldc2_w 209, 3) := by decide +kernel
theorem dX5_digest_76 : decode cX5_digest 76 = .ok (.lload_n 1, 1) := by decide +kernel
theorem dX5_digest_77 : decode cX5_digest 77 = .ok (.lmul, 1) := by decide +kernel
theorem dX5_digest_78 : decode cX5_digest 78 = .ok (.aload_n 0, 1) := by decide +kernel
theorem dX5_digest_79 : decode cX5_digest 79 = .ok (.iload_n 3, 1) := by decide +kernel
theorem dX5_digest_80 : decode cX5_digest 80 = .ok (.bipush 7, 2) := by decide +kernel
theorem dX5_digest_82 : decode cX5_digest 82 = .ok (.idiv, 1) := by decide +kernel
theorem dX5_digest_83 : decode cX5_digest 83 = .ok (.iload_n 3, 1) := by decide +kernel
theorem dX5_digest_84 : decode cX5_digest 84 = .ok (.bipush 7, 2) := by decide +kernel
theorem dX5_digest_86 : decode cX5_digest 86 = .ok (.irem, 1) := by decide +kernel
theorem dX5_digest_87 : decode cX5_digest 87 = .ok (.invokevirtual 170, 3) := by decide +kernel
theorem dX5_digest_90 : decode cX5_digest 90 = .ok (.i2l, 1) := by decide +kernel
theorem dX5_digest_91 : decode cX5_digest 91 = .ok (.ladd, 1) := by decide +kernel
theorem dX5_digest_92 : decode cX5_digest 92 = .ok (.lstore_n 1, 1) := by decide +kernel
theorem dX5_digest_93 : decode cX5_digest 93 = .ok (.iinc 3 1, 3) := by decide +kernel
theorem dX5_digest_96 : decode cX5_digest 96 = .ok (.goto (-29), 3) := by decide +kernel
theorem dX5_digest_99 : decode cX5_digest 99 = .ok (.iconst 0, 1) := by decide +kernel
theorem dX5_digest_100 : decode cX5_digest 100 = .ok (.istore_n 3, 1) := by decide +kernel
theorem dX5_digest_101 : decode cX5_digest 101 = .ok (.iload_n 3, 1) := by decide +kernel
theorem dX5_digest_102 : decode cX5_digest 102 = .ok (.bipush 30, 2) := by decide +kernel
theorem dX5_digest_104 : decode cX5_digest 104 = .ok (.aload_n 0, 1) := by decide +kernel
theorem dX5_digest_105 : decode cX5_digest 105 = .ok (.getfield 7, 3) := by decide +kernel
theorem dX5_digest_108 : decode cX5_digest 108 = .ok (.iconst 1, 1) := by decide +kernel
theorem dX5_digest_109 : decode cX5_digest 109 = .ok (.iaload, 1) := by decide +kernel
theorem dX5_digest_110 : decode cX5_digest 110 = .ok (.imul, 1) := by decide +kernel
theorem dX5_digest_111 : decode cX5_digest 111 = .ok (.if_icmp .ge 35, 3) := by decide +kernel
theorem dX5_digest_114 : decode cX5_digest 114 = .ok (.ldc2_w 209, 3) := by decide +kernel
theorem dX5_digest_117 : decode cX5_digest 117 = .ok (.lload_n 1, 1) := by decide +kernel
theorem dX5_digest_118 : decode cX5_digest 118 = .ok (.lmul, 1) := by decide +kernel
theorem dX5_digest_119 : decode cX5_digest 119 = .ok (.aload_n 0, 1) := by decide +kernel
theorem dX5_digest_120 : decode cX5_digest 120 = .ok (.iload_n 3, 1) := by decide +kernel
theorem dX5_digest_121 : decode cX5_digest 121 = .ok (.bipush 30, 2) := by decide +kernel
theorem dX5_digest_123 : decode cX5_digest 123 = .ok (.idiv, 1) := by decide +kernel
theorem dX5_digest_124 : decode cX5_digest 124 = .ok (.iload_n 3, 1) := by decide +kernel
theorem dX5_digest_125 : decode cX5_digest 125 = .ok (.bipush 10, 2) := by decide +kernel
theorem dX5_digest_127 : decode cX5_digest 127 = .ok (.idiv, 1) := by decide +kernel
theorem dX5_digest_128 : decode cX5_digest 128 = .ok (.iconst 3, 1) := by decide +kernel
theorem dX5_digest_129 : decode cX5_digest 129 = .ok (.irem, 1) := by decide +kernel
theorem dX5_digest_130 : decode cX5_digest 130 = .ok (.iload_n 3, 1) := by decide +kernel
theorem dX5_digest_131 : decode cX5_digest 131 = .ok (.bipush 10, 2) := by decide +kernel
theorem dX5_digest_133 : decode cX5_digest 133 = .ok (.irem, 1) := by decide +kernel
theorem dX5_digest_134 : decode cX5_digest 134 = .ok (.invokevirtual 173, 3) := by decide +kernel
theorem dX5_digest_137 : decode cX5_digest 137 = .ok (.i2l, 1) := by decide +kernel
theorem dX5_digest_138 : decode cX5_digest 138 = .ok (.ladd, 1) := by decide +kernel
theorem dX5_digest_139 : decode cX5_digest 139 = .ok (.lstore_n 1, 1) := by decide +kernel
theorem dX5_digest_140 : decode cX5_digest 140 = .ok (.iinc 3 1, 3) := by decide +kernel
theorem dX5_digest_143 : decode cX5_digest 143 = .ok (.goto (-42), 3) := by decide +kernel
theorem dX5_digest_146 : decode cX5_digest 146 = .ok (.iconst 0, 1) := by decide +kernel
theorem dX5_digest_147 : decode cX5_digest 147 = .ok (.istore_n 3, 1) := by decide +kernel
theorem dX5_digest_148 : decode cX5_digest 148 = .ok (.iload_n 3, 1) := by decide +kernel
theorem dX5_digest_149 : decode cX5_digest 149 = .ok (.bipush 50, 2) := by decide +kernel
theorem dX5_digest_151 : decode cX5_digest 151 = .ok (.if_icmp .ge 27, 3) := by decide +kernel
theorem dX5_digest_154 : decode cX5_digest 154 = .ok (.ldc2_w 209, 3) := by decide +kernel
theorem dX5_digest_157 : decode cX5_digest 157 = .ok (.lload_n 1, 1) := by decide +kernel
theorem dX5_digest_158 : decode cX5_digest 158 = .ok (.lmul, 1) := by decide +kernel
theorem dX5_digest_159 : decode cX5_digest 159 = .ok (.aload_n 0, 1) := by decide +kernel
theorem dX5_digest_160 : decode cX5_digest 160 = .ok (.iload_n 3, 1) := by decide +kernel
theorem dX5_digest_161 : decode cX5_digest 161 = .ok (.iconst 5, 1) := by decide +kernel
theorem dX5_digest_162 : decode cX5_digest 162 = .ok (.idiv, 1) := by decide +kernel
theorem dX5_digest_163 : decode cX5_digest 163 = .ok (.iload_n 3, 1) := by decide +kernel
theorem dX5_digest_164 : decode cX5_digest 164 = .ok (.iconst 5, 1) := by decide +kernel
theorem dX5_digest_165 : decode cX5_digest 165 = .ok (.irem, 1) := by decide +kernel
theorem dX5_digest_166 : decode cX5_digest 166 = .ok (.invokevirtual 176, 3) := by decide +kernel
theorem dX5_digest_169 : decode cX5_digest 169 = .ok (.i2l, 1) := by decide +kernel
theorem dX5_digest_170 : decode cX5_digest 170 = .ok (.ladd, 1) := by decide +kernel
theorem dX5_digest_171 : decode cX5_digest 171 = .ok (.lstore_n 1, 1) := by decide +kernel
theorem dX5_digest_172 : decode cX5_digest 172 = .ok (.iinc 3 1, 3) := by decide +kernel
theorem dX5_digest_175 : decode cX5_digest 175 = .ok (.goto (-27), 3) := by decide +kernel
theorem dX5_digest_178 : decode cX5_digest 178 = .ok (.iconst 0, 1) := by decide +kernel
theorem dX5_digest_179 : decode cX5_digest 179 = .ok (.istore_n 3, 1) := by decide +kernel
theorem dX5_digest_180 : decode cX5_digest 180 = .ok (.iload_n 3, 1) := by decide +kernel
theorem dX5_digest_181 : decode cX5_digest 181 = .ok (.iconst 4, 1) := by decide +kernel
theorem dX5_digest_182 : decode cX5_digest 182 = .ok (.if_icmp .ge 24, 3) := by decide +kernel
theorem dX5_digest_185 : decode cX5_digest 185 = .ok (.ldc2_w 209, 3) := by decide +kernel
theorem dX5_digest_188 : decode cX5_digest 188 = .ok (.lload_n 1, 1) := by decide +kernel
theorem dX5_digest_189 : decode cX5_digest 189 = .ok (.lmul, 1) := by decide +kernel
theorem dX5_digest_190 : decode cX5_digest 190 = .ok (.aload_n 0, 1) := by decide +kernel
theorem dX5_digest_191 : decode cX5_digest 191 = .ok (.bipush 12, 2) := by decide +kernel
theorem dX5_digest_193 : decode cX5_digest 193 = .ok (.iload_n 3, 1) := by decide +kernel
theorem dX5_digest_194 : decode cX5_digest 194 = .ok (.invokevirtual 188, 3) := by decide +kernel
theorem dX5_digest_197 : decode cX5_digest 197 = .ok (.i2l, 1) := by decide +kernel
theorem dX5_digest_198 : decode cX5_digest 198 = .ok (.ladd, 1) := by decide +kernel
theorem dX5_digest_199 : decode cX5_digest 199 = .ok (.lstore_n 1, 1) := by decide +kernel
theorem dX5_digest_200 : decode cX5_digest 200 = .ok (.iinc 3 1, 3) := by decide +kernel
theorem dX5_digest_203 : decode cX5_digest 203 = .ok (.goto (-23), 3) := by decide +kernel
theorem dX5_digest_206 : decode cX5_digest 206 = .ok (.ldc2_w 209, 3) := by decide +kernel
theorem dX5_digest_209 : decode cX5_digest 209 = .ok (.ldc2_w 209, 3) := by decide +kernel
theorem dX5_digest_212 : decode cX5_digest 212 = .ok (.ldc2_w 209, 3) := by decide +kernel
theorem dX5_digest_215 : decode cX5_digest 215 = .ok (.lload_n 1, 1) := by decide +kernel
theorem dX5_digest_216 : decode cX5_digest 216 = .ok (.lmul, 1) := by decide +kernel
theorem dX5_digest_217 : decode cX5_digest 217 = .ok (.aload_n 0, 1) := by decide +kernel
theorem dX5_digest_218 : decode cX5_digest 218 = .ok (.invokevirtual 191, 3) := by decide +kernel
theorem dX5_digest_221 : decode cX5_digest 221 = .ok (.i2l, 1) := by decide +kernel
theorem dX5_digest_222 : decode cX5_digest 222 = .ok (.ladd, 1) := by decide +kernel
theorem dX5_digest_223 : decode cX5_digest 223 = .ok (.lmul, 1) := by decide +kernel
theorem dX5_digest_224 : decode cX5_digest 224 = .ok (.aload_n 0, 1) := by decide +kernel
theorem dX5_digest_225 : decode cX5_digest 225 = .ok (.invokevirtual 194, 3) := by decide +kernel
theorem dX5_digest_228 : decode cX5_digest 228 = .ok (.i2l, 1) := by decide +kernel
theorem dX5_digest_229 : decode cX5_digest 229 = .ok (.ladd, 1) := by decide +kernel
theorem dX5_digest_230 : decode cX5_digest 230 = .ok (.lmul, 1) := by decide +kernel
theorem dX5_digest_231 : decode cX5_digest 231 = .ok (.aload_n 0, 1) := by decide +kernel
theorem dX5_digest_232 : decode cX5_digest 232 = .ok (.invokevirtual 200, 3) := by decide +kernel
theorem dX5_digest_235 : decode cX5_digest 235 = .ok (.i2l, 1) := by decide +kernel
theorem dX5_digest_236 : decode cX5_digest 236 = .ok (.ladd, 1) := by decide +kernel
theorem dX5_digest_237 : decode cX5_digest 237 = .ok (.lstore_n 1, 1) := by decide +kernel
theorem dX5_digest_238 : decode cX5_digest 238 = .ok (.ldc2_w 209, 3) := by decide +kernel
theorem dX5_digest_241 : decode cX5_digest 241 = .ok (.lload_n 1, 1) := by decide +kernel
theorem dX5_digest_242 : decode cX5_digest 242 = .ok (.lmul, 1) := by decide +kernel
theorem dX5_digest_243 : decode cX5_digest 243 = .ok (.aload_n 0, 1) := by decide +kernel
theorem dX5_digest_244 : decode cX5_digest 244 = .ok (.invokevirtual 203, 3) := by decide +kernel
theorem dX5_digest_247 : decode cX5_digest 247 = .ok (.invokestatic 211, 3) := by decide +kernel
theorem dX5_digest_250 : decode cX5_digest 250 = .ok (.ladd, 1) := by decide +kernel
theorem dX5_digest_251 : decode cX5_digest 251 = .ok (.lstore_n 1, 1) := by decide +kernel
theorem dX5_digest_252 : decode cX5_digest 252 = .ok (.ldc2_w 209, 3) := by decide +kernel
theorem dX5_digest_255 : decode cX5_digest 255 = .ok (.ldc2_w 209, 3) := by decide +kernel
theorem dX5_digest_258 : decode cX5_digest 258 = .ok (.ldc2_w 209, 3) := by decide +kernel
theorem dX5_digest_261 : decode cX5_digest 261 = .ok (.lload_n 1, 1) := by decide +kernel
theorem dX5_digest_262 : decode cX5_digest 262 = .ok (.lmul, 1) := by decide +kernel
theorem dX5_digest_263 : decode cX5_digest 263 = .ok (.aload_n 0, 1) := by decide +kernel
theorem dX5_digest_264 : decode cX5_digest 264 = .ok (.getfield 22, 3) := by decide +kernel
theorem dX5_digest_267 : decode cX5_digest 267 = .ok (.iconst 0, 1) := by decide +kernel
theorem dX5_digest_268 : decode cX5_digest 268 = .ok (.iaload, 1) := by decide +kernel
theorem dX5_digest_269 : decode cX5_digest 269 = .ok (.i2l, 1) := by decide +kernel
theorem dX5_digest_270 : decode cX5_digest 270 = .ok (.ladd, 1) := by decide +kernel
theorem dX5_digest_271 : decode cX5_digest 271 = .ok (.lmul, 1) := by decide +kernel
theorem dX5_digest_272 : decode cX5_digest 272 = .ok (.aload_n 0, 1) := by decide +kernel
theorem dX5_digest_273 : decode cX5_digest 273 = .ok (.getfield 22, 3) := by decide +kernel
theorem dX5_digest_276 : decode cX5_digest 276 = .ok (.iconst 1, 1) := by decide +kernel
theorem dX5_digest_277 : decode cX5_digest 277 = .ok (.iaload, 1) := by decide +kernel
theorem dX5_digest_278 : decode cX5_digest 278 = .ok (.i2l, 1) := by decide +kernel
theorem dX5_digest_279 : decode cX5_digest 279 = .ok (.ladd, 1) := by decide +kernel
theorem dX5_digest_280 : decode cX5_digest 280 = .ok (.lmul, 1) := by decide +kernel
theorem dX5_digest_281 : decode cX5_digest 281 = .ok (.aload_n 0, 1) := by decide +kernel
theorem dX5_digest_282 : decode cX5_digest 282 = .ok (.getfield 134, 3) := by decide +kernel
theorem dX5_digest_285 : decode cX5_digest 285 = .ok (.i2l, 1) := by decide +kernel
theorem dX5_digest_286 : decode cX5_digest 286 = .ok (.ladd, 1) := by decide +kernel
theorem dX5_digest_287 : decode cX5_digest 287 = .ok (.lstore_n 1, 1) := by decide +kernel
theorem dX5_digest_288 : decode cX5_digest 288 = .ok (.iconst 0, 1) := by decide +kernel
theorem dX5_digest_289 : decode cX5_digest 289 = .ok (.istore_n 3, 1) := by decide +kernel
theorem dX5_digest_290 : decode cX5_digest 290 = .ok (.iload_n 3, 1) := by decide +kernel
theorem dX5_digest_291 : decode cX5_digest 291 = .ok (.aload_n 0, 1) := by decide +kernel
theorem dX5_digest_292 : decode cX5_digest 292 = .ok (.getfield 134, 3) := by decide +kernel
theorem dX5_digest_295 : decode cX5_digest 295 = .ok (.if_icmp .ge 23, 3) := by decide +kernel
theorem dX5_digest_298 : decode cX5_digest 298 = .ok (.ldc2_w 209, 3) := by decide +kernel
theorem dX5_digest_301 : decode cX5_digest 301 = .ok (.lload_n 1, 1) := by decide +kernel
theorem dX5_digest_302 : decode cX5_digest 302 = .ok (.lmul, 1) := by decide +kernel
theorem dX5_digest_303 : decode cX5_digest 303 = .ok (.aload_n 0, 1) := by decide +kernel
theorem dX5_digest_304 : decode cX5_digest 304 = .ok (.getfield 25, 3) := by decide +kernel
theorem dX5_digest_307 : decode cX5_digest 307 = .ok (.iload_n 3, 1) := by decide +kernel
theorem dX5_digest_308 : decode cX5_digest 308 = .ok (.iaload, 1) := by decide +kernel
theorem dX5_digest_309 : decode cX5_digest 309 = .ok (.i2l, 1) := by decide +kernel
theorem dX5_digest_310 : decode cX5_digest 310 = .ok (.ladd, 1) := by decide +kernel
theorem dX5_digest_311 : decode cX5_digest 311 = .ok (.lstore_n 1, 1) := by decide +kernel
theorem dX5_digest_312 : decode cX5_digest 312 = .ok (.iinc 3 1, 3) := by decide +kernel
theorem dX5_digest_315 : decode cX5_digest 315 = .ok (.goto (-25), 3) := by decide +kernel
theorem dX5_digest_318 : decode cX5_digest 318 = .ok (.lload_n 1, 1) := by decide +kernel
theorem dX5_digest_319 : decode cX5_digest 319 = .ok (.lreturn, 1) := by decide +kernel
abbrev vwCl : List vw_C := [(RX0, TX0, 14), (RX1, TX1, 2), (RX2, TX2, 2), (RX3, TX3, 7), (RX4, TX4, 6), (RX5, TX5, 13)]
