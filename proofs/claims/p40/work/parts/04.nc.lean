set_option maxRecDepth 20000 in
theorem ggX0_init_X3_init : GoodIn wsX0_init wsX3_init := goodIn_r _ [10, 11, 2, 3, 12, 13, 14, 15, 16, 17, 18] (by decide +kernel) (by decide +kernel)
set_option maxRecDepth 20000 in
theorem gX0_init_X3_init : GoodIn wsX0_init (wsX3_init) := ggX0_init_X3_init
theorem dX0_init_0 : decode cX0_init 0 = .ok (.aload_n 0, 1) := by decide +kernel
theorem dX0_init_1 : decode cX0_init 1 = .ok (.invokespecial 3, 3) := by decide +kernel
theorem dX0_init_4 : decode cX0_init 4 = .ok (.aload_n 0, 1) := by decide +kernel
theorem dX0_init_5 : decode cX0_init 5 = .ok (.new 9, 3) := by decide +kernel
theorem dX0_init_8 : decode cX0_init 8 = .ok (.dup, 1) := by decide +kernel
theorem dX0_init_9 : decode cX0_init 9 = .ok (.sipush 200, 3) := by decide +kernel
theorem dX0_init_12 : decode cX0_init 12 = .ok (.invokespecial 11, 3) := by decide +kernel
theorem dX0_init_15 : decode cX0_init 15 = .ok (.putfield 14, 3) := by decide +kernel
theorem dX0_init_18 : decode cX0_init 18 = .ok (.return_, 1) := by decide +kernel
set_option maxRecDepth 20000 in
theorem ggX0_tell_X3_fill : GoodIn wsX0_tell wsX3_fill := goodIn_r _ [10, 11, 17] (by decide +kernel) (by decide +kernel)
set_option maxRecDepth 20000 in
theorem gX0_tell_X3_fill : GoodIn wsX0_tell (wsV RX0 33 RX3 yX3_fill wsX3_fill) := goodIn_app (goodIn_of _ (by decide +kernel)) ggX0_tell_X3_fill
theorem dX0_tell_0 : decode cX0_tell 0 = .ok (.aload_n 0, 1) := by decide +kernel
theorem dX0_tell_1 : decode cX0_tell 1 = .ok (.iload_n 1, 1) := by decide +kernel
theorem dX0_tell_2 : decode cX0_tell 2 = .ok (.putfield 20, 3) := by decide +kernel
theorem dX0_tell_5 : decode cX0_tell 5 = .ok (.aload_n 0, 1) := by decide +kernel
theorem dX0_tell_6 : decode cX0_tell 6 = .ok (.iload_n 2, 1) := by decide +kernel
theorem dX0_tell_7 : decode cX0_tell 7 = .ok (.putfield 24, 3) := by decide +kernel
theorem dX0_tell_10 : decode cX0_tell 10 = .ok (.aload_n 0, 1) := by decide +kernel
theorem dX0_tell_11 : decode cX0_tell 11 = .ok (.iload_n 3, 1) := by decide +kernel
theorem dX0_tell_12 : decode cX0_tell 12 = .ok (.putfield 27, 3) := by decide +kernel
theorem dX0_tell_15 : decode cX0_tell 15 = .ok (.aload_n 0, 1) := by decide +kernel
theorem dX0_tell_16 : decode cX0_tell 16 = .ok (.iconst 0, 1) := by decide +kernel
theorem dX0_tell_17 : decode cX0_tell 17 = .ok (.putfield 30, 3) := by decide +kernel
theorem dX0_tell_20 : decode cX0_tell 20 = .ok (.aload_n 0, 1) := by decide +kernel
theorem dX0_tell_21 : decode cX0_tell 21 = .ok (.getfield 14, 3) := by decide +kernel
theorem dX0_tell_24 : decode cX0_tell 24 = .ok (.iconst 0, 1) := by decide +kernel
theorem dX0_tell_25 : decode cX0_tell 25 = .ok (.invokevirtual 33, 3) := by decide +kernel
theorem dX0_tell_28 : decode cX0_tell 28 = .ok (.return_, 1) := by decide +kernel
set_option maxRecDepth 20000 in
theorem ggX0_copy_X3_copy : GoodIn wsX0_copy wsX3_copy := goodIn_r _ [10, 11, 12, 13, 14, 9, 15, 21] (by decide +kernel) (by decide +kernel)
set_option maxRecDepth 20000 in
theorem gX0_copy_X3_copy : GoodIn wsX0_copy (wsV RX0 36 RX3 yX3_copy wsX3_copy) := goodIn_app (goodIn_of _ (by decide +kernel)) ggX0_copy_X3_copy
theorem dX0_copy_0 : decode cX0_copy 0 = .ok (.aload_n 0, 1) := by decide +kernel
theorem dX0_copy_1 : decode cX0_copy 1 = .ok (.aload_n 1, 1) := by decide +kernel
theorem dX0_copy_2 : decode cX0_copy 2 = .ok (.getfield 20, 3) := by decide +kernel
theorem dX0_copy_5 : decode cX0_copy 5 = .ok (.putfield 20, 3) := by decide +kernel
theorem dX0_copy_8 : decode cX0_copy 8 = .ok (.aload_n 0, 1) := by decide +kernel
theorem dX0_copy_9 : decode cX0_copy 9 = .ok (.aload_n 1, 1) := by decide +kernel
theorem dX0_copy_10 : decode cX0_copy 10 = .ok (.getfield 24, 3) := by decide +kernel
theorem dX0_copy_13 : decode cX0_copy 13 = .ok (.putfield 24, 3) := by decide +kernel
theorem dX0_copy_16 : decode cX0_copy 16 = .ok (.aload_n 0, 1) := by decide +kernel
theorem dX0_copy_17 : decode cX0_copy 17 = .ok (.aload_n 1, 1) := by decide +kernel
theorem dX0_copy_18 : decode cX0_copy 18 = .ok (.getfield 27, 3) := by decide +kernel
theorem dX0_copy_21 : decode cX0_copy 21 = .ok (.putfield 27, 3) := by decide +kernel
theorem dX0_copy_24 : decode cX0_copy 24 = .ok (.aload_n 0, 1) := by decide +kernel
theorem dX0_copy_25 : decode cX0_copy 25 = .ok (.aload_n 1, 1) := by decide +kernel
theorem dX0_copy_26 : decode cX0_copy 26 = .ok (.getfield 30, 3) := by decide +kernel
theorem dX0_copy_29 : decode cX0_copy 29 = .ok (.putfield 30, 3) := by decide +kernel
theorem dX0_copy_32 : decode cX0_copy 32 = .ok (.aload_n 0, 1) := by decide +kernel
theorem dX0_copy_33 : decode cX0_copy 33 = .ok (.getfield 14, 3) := by decide +kernel
theorem dX0_copy_36 : decode cX0_copy 36 = .ok (.aload_n 1, 1) := by decide +kernel
theorem dX0_copy_37 : decode cX0_copy 37 = .ok (.getfield 14, 3) := by decide +kernel
theorem dX0_copy_40 : decode cX0_copy 40 = .ok (.invokevirtual 36, 3) := by decide +kernel
theorem dX0_copy_43 : decode cX0_copy 43 = .ok (.return_, 1) := by decide +kernel
set_option maxRecDepth 20000 in
theorem ggX0_pass_X3_get : GoodIn wsX0_pass wsX3_get := goodIn_r _ [11, 12, 32] (by decide +kernel) (by decide +kernel)
set_option maxRecDepth 20000 in
theorem gX0_pass_X3_get : GoodIn wsX0_pass (wsV RX0 40 RX3 yX3_get wsX3_get) := goodIn_app (goodIn_of _ (by decide +kernel)) ggX0_pass_X3_get
set_option maxRecDepth 20000 in
theorem ggX0_pass_X9_kept : GoodIn wsX0_pass wsX9_kept := goodIn_r _ [15, 16, 17, 18, 19, 20, 21, 22] (by decide +kernel) (by decide +kernel)
set_option maxRecDepth 20000 in
theorem gX0_pass_X9_kept_n45 : GoodIn wsX0_pass (wsX9_kept) := ggX0_pass_X9_kept
set_option maxRecDepth 20000 in
theorem ggX0_pass_X3_put : GoodIn wsX0_pass wsX3_put := goodIn_r _ [26, 12, 32] (by decide +kernel) (by decide +kernel)
set_option maxRecDepth 20000 in
theorem gX0_pass_X3_put : GoodIn wsX0_pass (wsV RX0 49 RX3 yX3_put wsX3_put) := goodIn_app (goodIn_of _ (by decide +kernel)) ggX0_pass_X3_put
theorem dX0_pass_0 : decode cX0_pass 0 = .ok (.aload_n 0, 1) := by decide +kernel
theorem dX0_pass_1 : decode cX0_pass 1 = .ok (.getfield 20, 3) := by decide +kernel
theorem dX0_pass_4 : decode cX0_pass 4 = .ok (.ifCond .ne 5, 3) := by decide +kernel
theorem dX0_pass_7 : decode cX0_pass 7 = .ok (.iload_n 1, 1) := by decide +kernel
theorem dX0_pass_8 : decode cX0_pass 8 = .ok (.ireturn, 1) := by decide +kernel
theorem dX0_pass_9 : decode cX0_pass 9 = .ok (.aload_n 0, 1) := by decide +kernel
theorem dX0_pass_10 : decode cX0_pass 10 = .ok (.getfield 14, 3) := by decide +kernel
theorem dX0_pass_13 : decode cX0_pass 13 = .ok (.aload_n 0, 1) := by decide +kernel
theorem dX0_pass_14 : decode cX0_pass 14 = .ok (.getfield 30, 3) := by decide +kernel
theorem dX0_pass_17 : decode cX0_pass 17 = .ok (.invokevirtual 40, 3) := by decide +kernel
theorem dX0_pass_20 : decode cX0_pass 20 = .ok (.istore_n 2, 1) := by decide +kernel
theorem dX0_pass_21 : decode cX0_pass 21 = .ok (.aload_n 0, 1) := by decide +kernel
theorem dX0_pass_22 : decode cX0_pass 22 = .ok (.getfield 14, 3) := by decide +kernel
theorem dX0_pass_25 : decode cX0_pass 25 = .ok (.aload_n 0, 1) := by decide +kernel
theorem dX0_pass_26 : decode cX0_pass 26 = .ok (.getfield 30, 3) := by decide +kernel
theorem dX0_pass_29 : decode cX0_pass 29 = .ok (.iload_n 1, 1) := by decide +kernel
theorem dX0_pass_30 : decode cX0_pass 30 = .ok (.iload_n 2, 1) := by decide +kernel
theorem dX0_pass_31 : decode cX0_pass 31 = .ok (.aload_n 0, 1) := by decide +kernel
theorem dX0_pass_32 : decode cX0_pass 32 = .ok (.getfield 27, 3) := by decide +kernel
theorem dX0_pass_35 : decode cX0_pass 35 = .ok (.imul, 1) := by decide +kernel
theorem dX0_pass_36 : decode cX0_pass 36 = .ok (.sipush 256, 3) := by decide +kernel
theorem dX0_pass_39 : decode cX0_pass 39 = .ok (.idiv, 1) := by decide +kernel
theorem dX0_pass_40 : decode cX0_pass 40 = .ok (.iadd, 1) := by decide +kernel
theorem dX0_pass_41 : decode cX0_pass 41 = .ok (.ldc 44, 2) := by decide +kernel
theorem dX0_pass_43 : decode cX0_pass 43 = .ok (.invokestatic 45, 3) := by decide +kernel
theorem dX0_pass_46 : decode cX0_pass 46 = .ok (.invokevirtual 49, 3) := by decide +kernel
theorem dX0_pass_49 : decode cX0_pass 49 = .ok (.aload_n 0, 1) := by decide +kernel
theorem dX0_pass_50 : decode cX0_pass 50 = .ok (.aload_n 0, 1) := by decide +kernel
theorem dX0_pass_51 : decode cX0_pass 51 = .ok (.getfield 30, 3) := by decide +kernel
theorem dX0_pass_54 : decode cX0_pass 54 = .ok (.iconst 1, 1) := by decide +kernel
theorem dX0_pass_55 : decode cX0_pass 55 = .ok (.iadd, 1) := by decide +kernel
theorem dX0_pass_56 : decode cX0_pass 56 = .ok (.aload_n 0, 1) := by decide +kernel
theorem dX0_pass_57 : decode cX0_pass 57 = .ok (.getfield 20, 3) := by decide +kernel
theorem dX0_pass_60 : decode cX0_pass 60 = .ok (.if_icmp .ge 12, 3) := by decide +kernel
theorem dX0_pass_63 : decode cX0_pass 63 = .ok (.aload_n 0, 1) := by decide +kernel
theorem dX0_pass_64 : decode cX0_pass 64 = .ok (.getfield 30, 3) := by decide +kernel
theorem dX0_pass_67 : decode cX0_pass 67 = .ok (.iconst 1, 1) := by decide +kernel
theorem dX0_pass_68 : decode cX0_pass 68 = .ok (.iadd, 1) := by decide +kernel
theorem dX0_pass_69 : decode cX0_pass 69 = .ok (.goto 4, 3) := by decide +kernel
theorem dX0_pass_72 : decode cX0_pass 72 = .ok (.iconst 0, 1) := by decide +kernel
theorem dX0_pass_73 : decode cX0_pass 73 = .ok (.putfield 30, 3) := by decide +kernel
theorem dX0_pass_76 : decode cX0_pass 76 = .ok (.iload_n 1, 1) := by decide +kernel
theorem dX0_pass_77 : decode cX0_pass 77 = .ok (.iload_n 2, 1) := by decide +kernel
theorem dX0_pass_78 : decode cX0_pass 78 = .ok (.aload_n 0, 1) := by decide +kernel
theorem dX0_pass_79 : decode cX0_pass 79 = .ok (.getfield 24, 3) := by decide +kernel
theorem dX0_pass_82 : decode cX0_pass 82 = .ok (.imul, 1) := by decide +kernel
theorem dX0_pass_83 : decode cX0_pass 83 = .ok (.sipush 256, 3) := by decide +kernel
theorem dX0_pass_86 : decode cX0_pass 86 = .ok (.idiv, 1) := by decide +kernel
theorem dX0_pass_87 : decode cX0_pass 87 = .ok (.iadd, 1) := by decide +kernel
theorem dX0_pass_88 : decode cX0_pass 88 = .ok (.ireturn, 1) := by decide +kernel
set_option maxRecDepth 20000 in
theorem ggX0_at_X3_get : GoodIn wsX0_at wsX3_get := goodIn_r _ [8, 9, 15] (by decide +kernel) (by decide +kernel)
set_option maxRecDepth 20000 in
theorem gX0_at_X3_get : GoodIn wsX0_at (wsV RX0 40 RX3 yX3_get wsX3_get) := goodIn_app (goodIn_of _ (by decide +kernel)) ggX0_at_X3_get
theorem dX0_at_0 : decode cX0_at 0 = .ok (.aload_n 0, 1) := by decide +kernel
theorem dX0_at_1 : decode cX0_at 1 = .ok (.getfield 30, 3) := by decide +kernel
theorem dX0_at_4 : decode cX0_at 4 = .ok (.iload_n 1, 1) := by decide +kernel
theorem dX0_at_5 : decode cX0_at 5 = .ok (.iadd, 1) := by decide +kernel
theorem dX0_at_6 : decode cX0_at 6 = .ok (.istore_n 2, 1) := by decide +kernel
theorem dX0_at_7 : decode cX0_at 7 = .ok (.aload_n 0, 1) := by decide +kernel
theorem dX0_at_8 : decode cX0_at 8 = .ok (.getfield 14, 3) := by decide +kernel
theorem dX0_at_11 : decode cX0_at 11 = .ok (.iload_n 2, 1) := by decide +kernel
theorem dX0_at_12 : decode cX0_at 12 = .ok (.aload_n 0, 1) := by decide +kernel
theorem dX0_at_13 : decode cX0_at 13 = .ok (.getfield 20, 3) := by decide +kernel
theorem dX0_at_16 : decode cX0_at 16 = .ok (.if_icmp .ge 7, 3) := by decide +kernel
theorem dX0_at_19 : decode cX0_at 19 = .ok (.iload_n 2, 1) := by decide +kernel
theorem dX0_at_20 : decode cX0_at 20 = .ok (.goto 9, 3) := by decide +kernel
theorem dX0_at_23 : decode cX0_at 23 = .ok (.iload_n 2, 1) := by decide +kernel
theorem dX0_at_24 : decode cX0_at 24 = .ok (.aload_n 0, 1) := by decide +kernel
theorem dX0_at_25 : decode cX0_at 25 = .ok (.getfield 20, 3) := by decide +kernel
theorem dX0_at_28 : decode cX0_at 28 = .ok (.isub, 1) := by decide +kernel
theorem dX0_at_29 : decode cX0_at 29 = .ok (.invokevirtual 40, 3) := by decide +kernel
theorem dX0_at_32 : decode cX0_at 32 = .ok (.ireturn, 1) := by decide +kernel
theorem dX1_init_0 : decode cX1_init 0 = .ok (.aload_n 0, 1) := by decide +kernel
theorem dX1_init_1 : decode cX1_init 1 = .ok (.invokespecial 3, 3) := by decide +kernel
theorem dX1_init_4 : decode cX1_init 4 = .ok (.aload_n 0, 1) := by decide +kernel
theorem dX1_init_5 : decode cX1_init 5 = .ok (.bipush 10, 2) := by decide +kernel
theorem dX1_init_7 : decode cX1_init 7 = .ok (.putfield 9, 3) := by decide +kernel
theorem dX1_init_10 : decode cX1_init 10 = .ok (.aload_n 0, 1) := by decide +kernel
theorem dX1_init_11 : decode cX1_init 11 = .ok (.bipush 10, 2) := by decide +kernel
theorem dX1_init_13 : decode cX1_init 13 = .ok (.putfield 15, 3) := by decide +kernel
theorem dX1_init_16 : decode cX1_init 16 = .ok (.aload_n 0, 1) := by decide +kernel
theorem dX1_init_17 : decode cX1_init 17 = .ok (.sipush 1000, 3) := by decide +kernel
theorem dX1_init_20 : decode cX1_init 20 = .ok (.putfield 18, 3) := by decide +kernel
theorem dX1_init_23 : decode cX1_init 23 = .ok (.aload_n 0, 1) := by decide +kernel
theorem dX1_init_24 : decode cX1_init 24 = .ok (.bipush 10, 2) := by decide +kernel
theorem dX1_init_26 : decode cX1_init 26 = .ok (.putfield 21, 3) := by decide +kernel
theorem dX1_init_29 : decode cX1_init 29 = .ok (.aload_n 0, 1) := by decide +kernel
theorem dX1_init_30 : decode cX1_init 30 = .ok (.sipush 128, 3) := by decide +kernel
theorem dX1_init_33 : decode cX1_init 33 = .ok (.putfield 24, 3) := by decide +kernel
theorem dX1_init_36 : decode cX1_init 36 = .ok (.aload_n 0, 1) := by decide +kernel
theorem dX1_init_37 : decode cX1_init 37 = .ok (.sipush 256, 3) := by decide +kernel
theorem dX1_init_40 : decode cX1_init 40 = .ok (.putfield 27, 3) := by decide +kernel
theorem dX1_init_43 : decode cX1_init 43 = .ok (.aload_n 0, 1) := by decide +kernel
theorem dX1_init_44 : decode cX1_init 44 = .ok (.bipush 64, 2) := by decide +kernel
theorem dX1_init_46 : decode cX1_init 46 = .ok (.putfield 30, 3) := by decide +kernel
theorem dX1_init_49 : decode cX1_init 49 = .ok (.return_, 1) := by decide +kernel
set_option maxRecDepth 20000 in
theorem ggX1_vibratoAt_X9_quotient : GoodIn wsX1_vibratoAt wsX9_quotient := goodIn_r _ [6] (by decide +kernel) (by decide +kernel)
set_option maxRecDepth 20000 in
theorem gX1_vibratoAt_X9_quotient_n34 : GoodIn wsX1_vibratoAt (wsX9_quotient) := ggX1_vibratoAt_X9_quotient
set_option maxRecDepth 20000 in
theorem ggX1_vibratoAt_X8_at : GoodIn wsX1_vibratoAt wsX8_at := goodIn_r _ [11, 12, 13, 14, 15, 16, 17, 18, 31, 32] (by decide +kernel) (by decide +kernel)
set_option maxRecDepth 20000 in
theorem gX1_vibratoAt_X8_at : GoodIn wsX1_vibratoAt (wsV RX1 38 RX8 yX8_at wsX8_at) := goodIn_app (goodIn_of _ (by decide +kernel)) ggX1_vibratoAt_X8_at
theorem dX1_vibratoAt_0 : decode cX1_vibratoAt 0 = .ok (.aload_n 0, 1) := by decide +kernel
theorem dX1_vibratoAt_1 : decode cX1_vibratoAt 1 = .ok (.getfield 30, 3) := by decide +kernel
theorem dX1_vibratoAt_4 : decode cX1_vibratoAt 4 = .ok (.ifCond .ne 7, 3) := by decide +kernel
theorem dX1_vibratoAt_7 : decode cX1_vibratoAt 7 = .ok (.iconst 0, 1) := by decide +kernel
theorem dX1_vibratoAt_8 : decode cX1_vibratoAt 8 = .ok (.goto 9, 3) := by decide +kernel
theorem dX1_vibratoAt_11 : decode cX1_vibratoAt 11 = .ok (.iload_n 1, 1) := by decide +kernel
theorem dX1_vibratoAt_12 : decode cX1_vibratoAt 12 = .ok (.aload_n 0, 1) := by decide +kernel
theorem dX1_vibratoAt_13 : decode cX1_vibratoAt 13 = .ok (.getfield 30, 3) := by decide +kernel
theorem dX1_vibratoAt_16 : decode cX1_vibratoAt 16 = .ok (.irem, 1) := by decide +kernel
theorem dX1_vibratoAt_17 : decode cX1_vibratoAt 17 = .ok (.istore_n 3, 1) := by decide +kernel
theorem dX1_vibratoAt_18 : decode cX1_vibratoAt 18 = .ok (.aload_n 2, 1) := by decide +kernel
theorem dX1_vibratoAt_19 : decode cX1_vibratoAt 19 = .ok (.iconst 2, 1) := by decide +kernel
theorem dX1_vibratoAt_20 : decode cX1_vibratoAt 20 = .ok (.iload_n 3, 1) := by decide +kernel
theorem dX1_vibratoAt_21 : decode cX1_vibratoAt 21 = .ok (.ldc 33, 2) := by decide +kernel
theorem dX1_vibratoAt_23 : decode cX1_vibratoAt 23 = .ok (.imul, 1) := by decide +kernel
theorem dX1_vibratoAt_24 : decode cX1_vibratoAt 24 = .ok (.aload_n 0, 1) := by decide +kernel
theorem dX1_vibratoAt_25 : decode cX1_vibratoAt 25 = .ok (.getfield 30, 3) := by decide +kernel
theorem dX1_vibratoAt_28 : decode cX1_vibratoAt 28 = .ok (.invokestatic 34, 3) := by decide +kernel
theorem dX1_vibratoAt_31 : decode cX1_vibratoAt 31 = .ok (.invokevirtual 38, 3) := by decide +kernel
theorem dX1_vibratoAt_34 : decode cX1_vibratoAt 34 = .ok (.istore 4, 2) := by decide +kernel
theorem dX1_vibratoAt_36 : decode cX1_vibratoAt 36 = .ok (.aload_n 0, 1) := by decide +kernel
theorem dX1_vibratoAt_37 : decode cX1_vibratoAt 37 = .ok (.getfield 43, 3) := by decide +kernel
theorem dX1_vibratoAt_40 : decode cX1_vibratoAt 40 = .ok (.iload 4, 2) := by decide +kernel
theorem dX1_vibratoAt_42 : decode cX1_vibratoAt 42 = .ok (.imul, 1) := by decide +kernel
theorem dX1_vibratoAt_43 : decode cX1_vibratoAt 43 = .ok (.sipush 1000, 3) := by decide +kernel
theorem dX1_vibratoAt_46 : decode cX1_vibratoAt 46 = .ok (.idiv, 1) := by decide +kernel
theorem dX1_vibratoAt_47 : decode cX1_vibratoAt 47 = .ok (.ireturn, 1) := by decide +kernel
set_option maxRecDepth 20000 in
theorem ggX2_init_X3_init : GoodIn wsX2_init wsX3_init := goodIn_r _ [10, 11, 2, 3, 12, 13, 14, 15, 16, 17, 18] (by decide +kernel) (by decide +kernel)
set_option maxRecDepth 20000 in
theorem gX2_init_X3_init : GoodIn wsX2_init (wsX3_init) := ggX2_init_X3_init
theorem dX2_init_0 : decode cX2_init 0 = .ok (.aload_n 0, 1) := by decide +kernel
theorem dX2_init_1 : decode cX2_init 1 = .ok (.invokespecial 3, 3) := by decide +kernel
theorem dX2_init_4 : decode cX2_init 4 = .ok (.aload_n 0, 1) := by decide +kernel
theorem dX2_init_5 : decode cX2_init 5 = .ok (.new 9, 3) := by decide +kernel
theorem dX2_init_8 : decode cX2_init 8 = .ok (.dup, 1) := by decide +kernel
theorem dX2_init_9 : decode cX2_init 9 = .ok (.bipush 64, 2) := by decide +kernel
theorem dX2_init_11 : decode cX2_init 11 = .ok (.invokespecial 11, 3) := by decide +kernel
theorem dX2_init_14 : decode cX2_init 14 = .ok (.putfield 14, 3) := by decide +kernel
theorem dX2_init_17 : decode cX2_init 17 = .ok (.return_, 1) := by decide +kernel
set_option maxRecDepth 20000 in
theorem ggX2_count_X9_kept : GoodIn wsX2_count wsX9_kept := goodIn_r _ [18, 19, 20, 8, 21, 22, 12, 13] (by decide +kernel) (by decide +kernel)
set_option maxRecDepth 20000 in
theorem gX2_count_X9_kept_n20 : GoodIn wsX2_count (wsX9_kept) := ggX2_count_X9_kept
set_option maxRecDepth 20000 in
theorem ggX2_count_X3_put : GoodIn wsX2_count wsX3_put := goodIn_r _ [27, 28, 37] (by decide +kernel) (by decide +kernel)
set_option maxRecDepth 20000 in
theorem gX2_count_X3_put : GoodIn wsX2_count (wsV RX2 56 RX3 yX3_put wsX3_put) := goodIn_app (goodIn_of _ (by decide +kernel)) ggX2_count_X3_put
theorem dX2_count_0 : decode cX2_count 0 = .ok (.iload_n 1, 1) := by decide +kernel
theorem dX2_count_1 : decode cX2_count 1 = .ok (.sipush 32767, 3) := by decide +kernel
theorem dX2_count_4 : decode cX2_count 4 = .ok (.invokestatic 20, 3) := by decide +kernel
theorem dX2_count_7 : decode cX2_count 7 = .ok (.istore_n 2, 1) := by decide +kernel
theorem dX2_count_8 : decode cX2_count 8 = .ok (.iload_n 2, 1) := by decide +kernel
theorem dX2_count_9 : decode cX2_count 9 = .ok (.iload_n 1, 1) := by decide +kernel
theorem dX2_count_10 : decode cX2_count 10 = .ok (.if_icmp .eq 13, 3) := by decide +kernel
theorem dX2_count_13 : decode cX2_count 13 = .ok (.aload_n 0, 1) := by decide +kernel
theorem dX2_count_14 : decode cX2_count 14 = .ok (.dup, 1) := by decide +kernel
theorem dX2_count_15 : decode cX2_count 15 = .ok (.getfield 24, 3) := by decide +kernel
theorem dX2_count_18 : decode cX2_count 18 = .ok (.iconst 1, 1) := by decide +kernel
theorem dX2_count_19 : decode cX2_count 19 = .ok (.iadd, 1) := by decide +kernel
theorem dX2_count_20 : decode cX2_count 20 = .ok (.putfield 24, 3) := by decide +kernel
theorem dX2_count_23 : decode cX2_count 23 = .ok (.iload_n 2, 1) := by decide +kernel
theorem dX2_count_24 : decode cX2_count 24 = .ok (.ifCond .le 20, 3) := by decide +kernel
theorem dX2_count_27 : decode cX2_count 27 = .ok (.aload_n 0, 1) := by decide +kernel
theorem dX2_count_28 : decode cX2_count 28 = .ok (.getfield 28, 3) := by decide +kernel
theorem dX2_count_31 : decode cX2_count 31 = .ok (.ifCond .gt 13, 3) := by decide +kernel
theorem dX2_count_34 : decode cX2_count 34 = .ok (.aload_n 0, 1) := by decide +kernel
theorem dX2_count_35 : decode cX2_count 35 = .ok (.dup, 1) := by decide +kernel
theorem dX2_count_36 : decode cX2_count 36 = .ok (.getfield 31, 3) := by decide +kernel
theorem dX2_count_39 : decode cX2_count 39 = .ok (.iconst 1, 1) := by decide +kernel
theorem dX2_count_40 : decode cX2_count 40 = .ok (.iadd, 1) := by decide +kernel
theorem dX2_count_41 : decode cX2_count 41 = .ok (.putfield 31, 3) := by decide +kernel
theorem dX2_count_44 : decode cX2_count 44 = .ok (.aload_n 0, 1) := by decide +kernel
theorem dX2_count_45 : decode cX2_count 45 = .ok (.dup, 1) := by decide +kernel
theorem dX2_count_46 : decode cX2_count 46 = .ok (.getfield 34, 3) := by decide +kernel
theorem dX2_count_49 : decode cX2_count 49 = .ok (.iconst 1, 1) := by decide +kernel
theorem dX2_count_50 : decode cX2_count 50 = .ok (.iadd, 1) := by decide +kernel
theorem dX2_count_51 : decode cX2_count 51 = .ok (.putfield 34, 3) := by decide +kernel
theorem dX2_count_54 : decode cX2_count 54 = .ok (.aload_n 0, 1) := by decide +kernel
theorem dX2_count_55 : decode cX2_count 55 = .ok (.dup, 1) := by decide +kernel
theorem dX2_count_56 : decode cX2_count 56 = .ok (.getfield 37, 3) := by decide +kernel
theorem dX2_count_59 : decode cX2_count 59 = .ok (.iload_n 2, 1) := by decide +kernel
theorem dX2_count_60 : decode cX2_count 60 = .ok (.invokestatic 41, 3) := by decide +kernel
theorem dX2_count_63 : decode cX2_count 63 = .ok (.i2l, 1) := by decide +kernel
theorem dX2_count_64 : decode cX2_count 64 = .ok (.ladd, 1) := by decide +kernel
theorem dX2_count_65 : decode cX2_count 65 = .ok (.putfield 37, 3) := by decide +kernel
theorem dX2_count_68 : decode cX2_count 68 = .ok (.aload_n 0, 1) := by decide +kernel
theorem dX2_count_69 : decode cX2_count 69 = .ok (.aload_n 0, 1) := by decide +kernel
theorem dX2_count_70 : decode cX2_count 70 = .ok (.getfield 47, 3) := by decide +kernel
theorem dX2_count_73 : decode cX2_count 73 = .ok (.iload_n 2, 1) := by decide +kernel
theorem dX2_count_74 : decode cX2_count 74 = .ok (.invokestatic 41, 3) := by decide +kernel
theorem dX2_count_77 : decode cX2_count 77 = .ok (.invokestatic 50, 3) := by decide +kernel
theorem dX2_count_80 : decode cX2_count 80 = .ok (.putfield 47, 3) := by decide +kernel
theorem dX2_count_83 : decode cX2_count 83 = .ok (.aload_n 0, 1) := by decide +kernel
theorem dX2_count_84 : decode cX2_count 84 = .ok (.iload_n 2, 1) := by decide +kernel
theorem dX2_count_85 : decode cX2_count 85 = .ok (.putfield 28, 3) := by decide +kernel
theorem dX2_count_88 : decode cX2_count 88 = .ok (.aload_n 0, 1) := by decide +kernel
theorem dX2_count_89 : decode cX2_count 89 = .ok (.getfield 14, 3) := by decide +kernel
theorem dX2_count_92 : decode cX2_count 92 = .ok (.aload_n 0, 1) := by decide +kernel
theorem dX2_count_93 : decode cX2_count 93 = .ok (.getfield 53, 3) := by decide +kernel
theorem dX2_count_96 : decode cX2_count 96 = .ok (.iload_n 2, 1) := by decide +kernel
theorem dX2_count_97 : decode cX2_count 97 = .ok (.invokevirtual 56, 3) := by decide +kernel
theorem dX2_count_100 : decode cX2_count 100 = .ok (.aload_n 0, 1) := by decide +kernel
theorem dX2_count_101 : decode cX2_count 101 = .ok (.aload_n 0, 1) := by decide +kernel
theorem dX2_count_102 : decode cX2_count 102 = .ok (.getfield 53, 3) := by decide +kernel
theorem dX2_count_105 : decode cX2_count 105 = .ok (.iconst 1, 1) := by decide +kernel
theorem dX2_count_106 : decode cX2_count 106 = .ok (.iadd, 1) := by decide +kernel
theorem dX2_count_107 : decode cX2_count 107 = .ok (.bipush 64, 2) := by decide +kernel
theorem dX2_count_109 : decode cX2_count 109 = .ok (.irem, 1) := by decide +kernel
theorem dX2_count_110 : decode cX2_count 110 = .ok (.putfield 53, 3) := by decide +kernel
theorem dX2_count_113 : decode cX2_count 113 = .ok (.iload_n 2, 1) := by decide +kernel
theorem dX2_count_114 : decode cX2_count 114 = .ok (.ireturn, 1) := by decide +kernel
set_option maxRecDepth 20000 in
theorem ggX2_latest_J9_floorMod_7cf53 : GoodIn wsX2_latest wsJ9_floorMod_7cf53 := goodIn_r _ [6] (by decide +kernel) (by decide +kernel)
set_option maxRecDepth 20000 in
theorem gX2_latest_J9_floorMod_7cf53 : GoodIn wsX2_latest (va_wsS RX2 60 yJ9_floorMod_7cf53 wsJ9_floorMod_7cf53) := goodIn_app (goodIn_of _ (by decide +kernel)) ggX2_latest_J9_floorMod_7cf53
set_option maxRecDepth 20000 in
theorem ggX2_latest_X3_get : GoodIn wsX2_latest wsX3_get := goodIn_r _ [11, 12, 21] (by decide +kernel) (by decide +kernel)
set_option maxRecDepth 20000 in
theorem gX2_latest_X3_get : GoodIn wsX2_latest (wsV RX2 63 RX3 yX3_get wsX3_get) := goodIn_app (goodIn_of _ (by decide +kernel)) ggX2_latest_X3_get
theorem dX2_latest_0 : decode cX2_latest 0 = .ok (.aload_n 0, 1) := by decide +kernel
theorem dX2_latest_1 : decode cX2_latest 1 = .ok (.getfield 14, 3) := by decide +kernel
theorem dX2_latest_4 : decode cX2_latest 4 = .ok (.aload_n 0, 1) := by decide +kernel
theorem dX2_latest_5 : decode cX2_latest 5 = .ok (.getfield 53, 3) := by decide +kernel
theorem dX2_latest_8 : decode cX2_latest 8 = .ok (.iconst 1, 1) := by decide +kernel
theorem dX2_latest_9 : decode cX2_latest 9 = .ok (.isub, 1) := by decide +kernel
theorem dX2_latest_10 : decode cX2_latest 10 = .ok (.iload_n 1, 1) := by decide +kernel
theorem dX2_latest_11 : decode cX2_latest 11 = .ok (.isub, 1) := by decide +kernel
theorem dX2_latest_12 : decode cX2_latest 12 = .ok (.bipush 64, 2) := by decide +kernel
theorem dX2_latest_14 : decode cX2_latest 14 = .ok (.invokestatic 60, 3) := by decide +kernel
theorem dX2_latest_17 : decode cX2_latest 17 = .ok (.invokevirtual 63, 3) := by decide +kernel
theorem dX2_latest_20 : decode cX2_latest 20 = .ok (.ireturn, 1) := by decide +kernel
theorem dX2_mean_0 : decode cX2_mean 0 = .ok (.aload_n 0, 1) := by decide +kernel
theorem dX2_mean_1 : decode cX2_mean 1 = .ok (.getfield 34, 3) := by decide +kernel
theorem dX2_mean_4 : decode cX2_mean 4 = .ok (.ifCond .ne 7, 3) := by decide +kernel
theorem dX2_mean_7 : decode cX2_mean 7 = .ok (.dconst 0, 1) := by decide +kernel
theorem dX2_mean_8 : decode cX2_mean 8 = .ok (.goto 14, 3) := by decide +kernel
theorem dX2_mean_11 : decode cX2_mean 11 = .ok (.aload_n 0, 1) := by decide +kernel
theorem dX2_mean_12 : decode cX2_mean 12 = .ok (.getfield 37, 3) := by decide +kernel
theorem dX2_mean_15 : decode cX2_mean 15 = .ok (.l2d, 1) := by decide +kernel
theorem dX2_mean_16 : decode cX2_mean 16 = .ok (.aload_n 0, 1) := by decide +kernel
theorem dX2_mean_17 : decode cX2_mean 17 = .ok (.getfield 34, 3) := by decide +kernel
theorem dX2_mean_20 : decode cX2_mean 20 = .ok (.i2d, 1) := by decide +kernel
theorem dX2_mean_21 : decode cX2_mean 21 = .ok (.ddiv, 1) := by decide +kernel
theorem dX2_mean_22 : decode cX2_mean 22 = .ok (.dreturn, 1) := by decide +kernel
theorem dX3_init_0 : decode cX3_init 0 = .ok (.aload_n 0, 1) := by decide +kernel
theorem dX3_init_1 : decode cX3_init 1 = .ok (.invokespecial 1, 3) := by decide +kernel
theorem dX3_init_4 : decode cX3_init 4 = .ok (.aload_n 0, 1) := by decide +kernel
theorem dX3_init_5 : decode cX3_init 5 = .ok (.iconst 0, 1) := by decide +kernel
theorem dX3_init_6 : decode cX3_init 6 = .ok (.iload_n 1, 1) := by decide +kernel
theorem dX3_init_7 : decode cX3_init 7 = .ok (.invokestatic 7, 3) := by decide +kernel
theorem dX3_init_10 : decode cX3_init 10 = .ok (.newarray .int, 2) := by decide +kernel
theorem dX3_init_12 : decode cX3_init 12 = .ok (.putfield 13, 3) := by decide +kernel
theorem dX3_init_15 : decode cX3_init 15 = .ok (.return_, 1) := by decide +kernel
theorem dX3_get_0 : decode cX3_get 0 = .ok (.iload_n 1, 1) := by decide +kernel
theorem dX3_get_1 : decode cX3_get 1 = .ok (.ifCond .lt 21, 3) := by decide +kernel
theorem dX3_get_4 : decode cX3_get 4 = .ok (.iload_n 1, 1) := by decide +kernel
theorem dX3_get_5 : decode cX3_get 5 = .ok (.aload_n 0, 1) := by decide +kernel
theorem dX3_get_6 : decode cX3_get 6 = .ok (.getfield 13, 3) := by decide +kernel
theorem dX3_get_9 : decode cX3_get 9 = .ok (.arraylength, 1) := by decide +kernel
theorem dX3_get_10 : decode cX3_get 10 = .ok (.if_icmp .ge 12, 3) := by decide +kernel
theorem dX3_get_13 : decode cX3_get 13 = .ok (.aload_n 0, 1) := by decide +kernel
theorem dX3_get_14 : decode cX3_get 14 = .ok (.getfield 13, 3) := by decide +kernel
theorem dX3_get_17 : decode cX3_get 17 = .ok (.iload_n 1, 1) := by decide +kernel
theorem dX3_get_18 : decode cX3_get 18 = .ok (.iaload, 1) := by decide +kernel
theorem dX3_get_19 : decode cX3_get 19 = .ok (.goto 4, 3) := by decide +kernel
theorem dX3_get_22 : decode cX3_get 22 = .ok (.iconst 0, 1) := by decide +kernel
theorem dX3_get_23 : decode cX3_get 23 = .ok (.ireturn, 1) := by decide +kernel
theorem dX3_put_0 : decode cX3_put 0 = .ok (.iload_n 1, 1) := by decide +kernel
theorem dX3_put_1 : decode cX3_put 1 = .ok (.ifCond .lt 19, 3) := by decide +kernel
theorem dX3_put_4 : decode cX3_put 4 = .ok (.iload_n 1, 1) := by decide +kernel
theorem dX3_put_5 : decode cX3_put 5 = .ok (.aload_n 0, 1) := by decide +kernel
theorem dX3_put_6 : decode cX3_put 6 = .ok (.getfield 13, 3) := by decide +kernel
theorem dX3_put_9 : decode cX3_put 9 = .ok (.arraylength, 1) := by decide +kernel
theorem dX3_put_10 : decode cX3_put 10 = .ok (.if_icmp .ge 10, 3) := by decide +kernel
theorem dX3_put_13 : decode cX3_put 13 = .ok (.aload_n 0, 1) := by decide +kernel
theorem dX3_put_14 : decode cX3_put 14 = .ok (.getfield 13, 3) := by decide +kernel
theorem dX3_put_17 : decode cX3_put 17 = .ok (.iload_n 1, 1) := by decide +kernel
theorem dX3_put_18 : decode cX3_put 18 = .ok (.iload_n 2, 1) := by decide +kernel
theorem dX3_put_19 : decode cX3_put 19 = .ok (.iastore, 1) := by decide +kernel
theorem dX3_put_20 : decode cX3_put 20 = .ok (.return_, 1) := by decide +kernel
theorem dX3_fill_0 : decode cX3_fill 0 = .ok (.iconst 0, 1) := by decide +kernel
theorem dX3_fill_1 : decode cX3_fill 1 = .ok (.istore_n 2, 1) := by decide +kernel
theorem dX3_fill_2 : decode cX3_fill 2 = .ok (.iload_n 2, 1) := by decide +kernel
theorem dX3_fill_3 : decode cX3_fill 3 = .ok (.aload_n 0, 1) := by decide +kernel
theorem dX3_fill_4 : decode cX3_fill 4 = .ok (.getfield 13, 3) := by decide +kernel
theorem dX3_fill_7 : decode cX3_fill 7 = .ok (.arraylength, 1) := by decide +kernel
theorem dX3_fill_8 : decode cX3_fill 8 = .ok (.if_icmp .ge 16, 3) := by decide +kernel
theorem dX3_fill_11 : decode cX3_fill 11 = .ok (.aload_n 0, 1) := by decide +kernel
theorem dX3_fill_12 : decode cX3_fill 12 = .ok (.getfield 13, 3) := by decide +kernel
theorem dX3_fill_15 : decode cX3_fill 15 = .ok (.iload_n 2, 1) := by decide +kernel
theorem dX3_fill_16 : decode cX3_fill 16 = .ok (.iload_n 1, 1) := by decide +kernel
theorem dX3_fill_17 : decode cX3_fill 17 = .ok (.iastore, 1) := by decide +kernel
theorem dX3_fill_18 : decode cX3_fill 18 = .ok (.iinc 2 1, 3) := by decide +kernel
theorem dX3_fill_21 : decode cX3_fill 21 = .ok (.goto (-19), 3) := by decide +kernel
theorem dX3_fill_24 : decode cX3_fill 24 = .ok (.return_, 1) := by decide +kernel
set_option maxRecDepth 20000 in
theorem ggX3_copy_X3_get : GoodIn wsX3_copy wsX3_get := goodIn_r _ [6, 1, 7] (by decide +kernel) (by decide +kernel)
set_option maxRecDepth 20000 in
theorem gX3_copy_X3_get : GoodIn wsX3_copy (wsV RX3 19 RX3 yX3_get wsX3_get) := goodIn_app (goodIn_of _ (by decide +kernel)) ggX3_copy_X3_get
theorem dX3_copy_0 : decode cX3_copy 0 = .ok (.iconst 0, 1) := by decide +kernel
theorem dX3_copy_1 : decode cX3_copy 1 = .ok (.istore_n 2, 1) := by decide +kernel
theorem dX3_copy_2 : decode cX3_copy 2 = .ok (.iload_n 2, 1) := by decide +kernel
theorem dX3_copy_3 : decode cX3_copy 3 = .ok (.aload_n 0, 1) := by decide +kernel
theorem dX3_copy_4 : decode cX3_copy 4 = .ok (.getfield 13, 3) := by decide +kernel
theorem dX3_copy_7 : decode cX3_copy 7 = .ok (.arraylength, 1) := by decide +kernel
theorem dX3_copy_8 : decode cX3_copy 8 = .ok (.if_icmp .ge 20, 3) := by decide +kernel
theorem dX3_copy_11 : decode cX3_copy 11 = .ok (.aload_n 0, 1) := by decide +kernel
theorem dX3_copy_12 : decode cX3_copy 12 = .ok (.getfield 13, 3) := by decide +kernel
theorem dX3_copy_15 : decode cX3_copy 15 = .ok (.iload_n 2, 1) := by decide +kernel
theorem dX3_copy_16 : decode cX3_copy 16 = .ok (.aload_n 1, 1) := by decide +kernel
theorem dX3_copy_17 : decode cX3_copy 17 = .ok (.iload_n 2, 1) := by decide +kernel
theorem dX3_copy_18 : decode cX3_copy 18 = .ok (.invokevirtual 19, 3) := by decide +kernel
theorem dX3_copy_21 : decode cX3_copy 21 = .ok (.iastore, 1) := by decide +kernel
theorem dX3_copy_22 : decode cX3_copy 22 = .ok (.iinc 2 1, 3) := by decide +kernel
theorem dX3_copy_25 : decode cX3_copy 25 = .ok (.goto (-23), 3) := by decide +kernel
theorem dX3_copy_28 : decode cX3_copy 28 = .ok (.return_, 1) := by decide +kernel
set_option maxRecDepth 20000 in
theorem ggX4_init_X3_init : GoodIn wsX4_init wsX3_init := goodIn_r _ [14, 15, 2, 3, 16, 17, 18, 19, 20, 21, 26] (by decide +kernel) (by decide +kernel)
set_option maxRecDepth 20000 in
theorem gX4_init_X3_init : GoodIn wsX4_init (wsX3_init) := ggX4_init_X3_init
set_option maxRecDepth 20000 in
theorem ggX4_init_X3_fill : GoodIn wsX4_init wsX3_fill := goodIn_r _ [25, 21, 26] (by decide +kernel) (by decide +kernel)
set_option maxRecDepth 20000 in
theorem gX4_init_X3_fill : GoodIn wsX4_init (wsV RX4 33 RX3 yX3_fill wsX3_fill) := goodIn_app (goodIn_of _ (by decide +kernel)) ggX4_init_X3_fill
theorem dX4_init_0 : decode cX4_init 0 = .ok (.aload_n 0, 1) := by decide +kernel
theorem dX4_init_1 : decode cX4_init 1 = .ok (.invokespecial 3, 3) := by decide +kernel
theorem dX4_init_4 : decode cX4_init 4 = .ok (.aload_n 0, 1) := by decide +kernel
theorem dX4_init_5 : decode cX4_init 5 = .ok (.new 9, 3) := by decide +kernel
theorem dX4_init_8 : decode cX4_init 8 = .ok (.dup, 1) := by decide +kernel
theorem dX4_init_9 : decode cX4_init 9 = .ok (.iconst 3, 1) := by decide +kernel
theorem dX4_init_10 : decode cX4_init 10 = .ok (.invokespecial 11, 3) := by decide +kernel
theorem dX4_init_13 : decode cX4_init 13 = .ok (.putfield 14, 3) := by decide +kernel
theorem dX4_init_16 : decode cX4_init 16 = .ok (.aload_n 0, 1) := by decide +kernel
theorem dX4_init_17 : decode cX4_init 17 = .ok (.new 9, 3) := by decide +kernel
theorem dX4_init_20 : decode cX4_init 20 = .ok (.dup, 1) := by decide +kernel
theorem dX4_init_21 : decode cX4_init 21 = .ok (.bipush 24, 2) := by decide +kernel
theorem dX4_init_23 : decode cX4_init 23 = .ok (.invokespecial 11, 3) := by decide +kernel
theorem dX4_init_26 : decode cX4_init 26 = .ok (.putfield 20, 3) := by decide +kernel
theorem dX4_init_29 : decode cX4_init 29 = .ok (.aload_n 0, 1) := by decide +kernel
theorem dX4_init_30 : decode cX4_init 30 = .ok (.new 9, 3) := by decide +kernel
theorem dX4_init_33 : decode cX4_init 33 = .ok (.dup, 1) := by decide +kernel
theorem dX4_init_34 : decode cX4_init 34 = .ok (.bipush 24, 2) := by decide +kernel
theorem dX4_init_36 : decode cX4_init 36 = .ok (.invokespecial 11, 3) := by decide +kernel
theorem dX4_init_39 : decode cX4_init 39 = .ok (.putfield 23, 3) := by decide +kernel
theorem dX4_init_42 : decode cX4_init 42 = .ok (.aload_n 0, 1) := by decide +kernel
theorem dX4_init_43 : decode cX4_init 43 = .ok (.new 9, 3) := by decide +kernel
theorem dX4_init_46 : decode cX4_init 46 = .ok (.dup, 1) := by decide +kernel
theorem dX4_init_47 : decode cX4_init 47 = .ok (.bipush 24, 2) := by decide +kernel
theorem dX4_init_49 : decode cX4_init 49 = .ok (.invokespecial 11, 3) := by decide +kernel
theorem dX4_init_52 : decode cX4_init 52 = .ok (.putfield 26, 3) := by decide +kernel
theorem dX4_init_55 : decode cX4_init 55 = .ok (.aload_n 0, 1) := by decide +kernel
theorem dX4_init_56 : decode cX4_init 56 = .ok (.bipush 20, 2) := by decide +kernel
theorem dX4_init_58 : decode cX4_init 58 = .ok (.putfield 29, 3) := by decide +kernel
theorem dX4_init_61 : decode cX4_init 61 = .ok (.aload_n 0, 1) := by decide +kernel
theorem dX4_init_62 : decode cX4_init 62 = .ok (.getfield 20, 3) := by decide +kernel
theorem dX4_init_65 : decode cX4_init 65 = .ok (.iconst (-1), 1) := by decide +kernel
theorem dX4_init_66 : decode cX4_init 66 = .ok (.invokevirtual 33, 3) := by decide +kernel
theorem dX4_init_69 : decode cX4_init 69 = .ok (.return_, 1) := by decide +kernel
set_option maxRecDepth 20000 in
theorem ggX4_note_X3_put : GoodIn wsX4_note wsX3_put := goodIn_r _ [8, 9, 16] (by decide +kernel) (by decide +kernel)
set_option maxRecDepth 20000 in
theorem gX4_note_X3_put : GoodIn wsX4_note (wsV RX4 36 RX3 yX3_put wsX3_put) := goodIn_app (goodIn_of _ (by decide +kernel)) ggX4_note_X3_put
theorem dX4_note_0 : decode cX4_note 0 = .ok (.iload_n 1, 1) := by decide +kernel
theorem dX4_note_1 : decode cX4_note 1 = .ok (.bipush 8, 2) := by decide +kernel
theorem dX4_note_3 : decode cX4_note 3 = .ok (.imul, 1) := by decide +kernel
theorem dX4_note_4 : decode cX4_note 4 = .ok (.iload_n 2, 1) := by decide +kernel
theorem dX4_note_5 : decode cX4_note 5 = .ok (.iadd, 1) := by decide +kernel
theorem dX4_note_6 : decode cX4_note 6 = .ok (.istore 6, 2) := by decide +kernel
theorem dX4_note_8 : decode cX4_note 8 = .ok (.aload_n 0, 1) := by decide +kernel
theorem dX4_note_9 : decode cX4_note 9 = .ok (.getfield 20, 3) := by decide +kernel
theorem dX4_note_12 : decode cX4_note 12 = .ok (.iload 6, 2) := by decide +kernel
theorem dX4_note_14 : decode cX4_note 14 = .ok (.iload_n 3, 1) := by decide +kernel
theorem dX4_note_15 : decode cX4_note 15 = .ok (.invokevirtual 36, 3) := by decide +kernel
theorem dX4_note_18 : decode cX4_note 18 = .ok (.aload_n 0, 1) := by decide +kernel
theorem dX4_note_19 : decode cX4_note 19 = .ok (.getfield 23, 3) := by decide +kernel
theorem dX4_note_22 : decode cX4_note 22 = .ok (.iload 6, 2) := by decide +kernel
theorem dX4_note_24 : decode cX4_note 24 = .ok (.iload 4, 2) := by decide +kernel
theorem dX4_note_26 : decode cX4_note 26 = .ok (.invokevirtual 36, 3) := by decide +kernel
theorem dX4_note_29 : decode cX4_note 29 = .ok (.aload_n 0, 1) := by decide +kernel
theorem dX4_note_30 : decode cX4_note 30 = .ok (.getfield 26, 3) := by decide +kernel
theorem dX4_note_33 : decode cX4_note 33 = .ok (.iload 6, 2) := by decide +kernel
theorem dX4_note_35 : decode cX4_note 35 = .ok (.iload 5, 2) := by decide +kernel
theorem dX4_note_37 : decode cX4_note 37 = .ok (.invokevirtual 36, 3) := by decide +kernel
theorem dX4_note_40 : decode cX4_note 40 = .ok (.return_, 1) := by decide +kernel
set_option maxRecDepth 20000 in
theorem ggX4_pitchOf_X3_get : GoodIn wsX4_pitchOf wsX3_get := goodIn_r _ [6, 7, 14] (by decide +kernel) (by decide +kernel)
set_option maxRecDepth 20000 in
theorem gX4_pitchOf_X3_get : GoodIn wsX4_pitchOf (wsV RX4 40 RX3 yX3_get wsX3_get) := goodIn_app (goodIn_of _ (by decide +kernel)) ggX4_pitchOf_X3_get
theorem dX4_pitchOf_0 : decode cX4_pitchOf 0 = .ok (.aload_n 0, 1) := by decide +kernel
theorem dX4_pitchOf_1 : decode cX4_pitchOf 1 = .ok (.getfield 20, 3) := by decide +kernel
theorem dX4_pitchOf_4 : decode cX4_pitchOf 4 = .ok (.iload_n 1, 1) := by decide +kernel
theorem dX4_pitchOf_5 : decode cX4_pitchOf 5 = .ok (.bipush 8, 2) := by decide +kernel
theorem dX4_pitchOf_7 : decode cX4_pitchOf 7 = .ok (.imul, 1) := by decide +kernel
theorem dX4_pitchOf_8 : decode cX4_pitchOf 8 = .ok (.iload_n 2, 1) := by decide +kernel
theorem dX4_pitchOf_9 : decode cX4_pitchOf 9 = .ok (.iadd, 1) := by decide +kernel
theorem dX4_pitchOf_10 : decode cX4_pitchOf 10 = .ok (.invokevirtual 40, 3) := by decide +kernel
theorem dX4_pitchOf_13 : decode cX4_pitchOf 13 = .ok (.ireturn, 1) := by decide +kernel
set_option maxRecDepth 20000 in
theorem ggX4_forceOf_X3_get : GoodIn wsX4_forceOf wsX3_get := goodIn_r _ [6, 7, 14] (by decide +kernel) (by decide +kernel)
set_option maxRecDepth 20000 in
theorem gX4_forceOf_X3_get : GoodIn wsX4_forceOf (wsV RX4 40 RX3 yX3_get wsX3_get) := goodIn_app (goodIn_of _ (by decide +kernel)) ggX4_forceOf_X3_get
theorem dX4_forceOf_0 : decode cX4_forceOf 0 = .ok (.aload_n 0, 1) := by decide +kernel
theorem dX4_forceOf_1 : decode cX4_forceOf 1 = .ok (.getfield 23, 3) := by decide +kernel
theorem dX4_forceOf_4 : decode cX4_forceOf 4 = .ok (.iload_n 1, 1) := by decide +kernel
theorem dX4_forceOf_5 : decode cX4_forceOf 5 = .ok (.bipush 8, 2) := by decide +kernel
theorem dX4_forceOf_7 : decode cX4_forceOf 7 = .ok (.imul, 1) := by decide +kernel
theorem dX4_forceOf_8 : decode cX4_forceOf 8 = .ok (.iload_n 2, 1) := by decide +kernel
theorem dX4_forceOf_9 : decode cX4_forceOf 9 = .ok (.iadd, 1) := by decide +kernel
theorem dX4_forceOf_10 : decode cX4_forceOf 10 = .ok (.invokevirtual 40, 3) := by decide +kernel
theorem dX4_forceOf_13 : decode cX4_forceOf 13 = .ok (.ireturn, 1) := by decide +kernel
set_option maxRecDepth 20000 in
theorem ggX4_gateOf_X3_get : GoodIn wsX4_gateOf wsX3_get := goodIn_r _ [6, 7, 14] (by decide +kernel) (by decide +kernel)
set_option maxRecDepth 20000 in
theorem gX4_gateOf_X3_get : GoodIn wsX4_gateOf (wsV RX4 40 RX3 yX3_get wsX3_get) := goodIn_app (goodIn_of _ (by decide +kernel)) ggX4_gateOf_X3_get
theorem dX4_gateOf_0 : decode cX4_gateOf 0 = .ok (.aload_n 0, 1) := by decide +kernel
theorem dX4_gateOf_1 : decode cX4_gateOf 1 = .ok (.getfield 26, 3) := by decide +kernel
theorem dX4_gateOf_4 : decode cX4_gateOf 4 = .ok (.iload_n 1, 1) := by decide +kernel
theorem dX4_gateOf_5 : decode cX4_gateOf 5 = .ok (.bipush 8, 2) := by decide +kernel
theorem dX4_gateOf_7 : decode cX4_gateOf 7 = .ok (.imul, 1) := by decide +kernel
theorem dX4_gateOf_8 : decode cX4_gateOf 8 = .ok (.iload_n 2, 1) := by decide +kernel
theorem dX4_gateOf_9 : decode cX4_gateOf 9 = .ok (.iadd, 1) := by decide +kernel
theorem dX4_gateOf_10 : decode cX4_gateOf 10 = .ok (.invokevirtual 40, 3) := by decide +kernel
theorem dX4_gateOf_13 : decode cX4_gateOf 13 = .ok (.ireturn, 1) := by decide +kernel
set_option maxRecDepth 20000 in
theorem ggX4_fact_X4_pitchOf : GoodIn wsX4_fact wsX4_pitchOf := goodIn_r _ [5, 6, 7, 8, 9, 10, 11, 12, 23, 24, 25, 26, 27, 28, 29] (by decide +kernel) (by decide +kernel)
set_option maxRecDepth 20000 in
theorem gX4_fact_X4_pitchOf : GoodIn wsX4_fact (wsV RX4 44 RX4 yX4_pitchOf wsX4_pitchOf) := goodIn_app (goodIn_of _ (by decide +kernel)) ggX4_fact_X4_pitchOf
set_option maxRecDepth 20000 in
theorem ggX4_fact_X4_forceOf : GoodIn wsX4_fact wsX4_forceOf := goodIn_r _ [16, 17, 7, 8, 9, 10, 11, 12, 23, 24, 25, 26, 27, 28, 29] (by decide +kernel) (by decide +kernel)
set_option maxRecDepth 20000 in
theorem gX4_fact_X4_forceOf : GoodIn wsX4_fact (wsV RX4 48 RX4 yX4_forceOf wsX4_forceOf) := goodIn_app (goodIn_of _ (by decide +kernel)) ggX4_fact_X4_forceOf
set_option maxRecDepth 20000 in
theorem ggX4_fact_X4_gateOf : GoodIn wsX4_fact wsX4_gateOf := goodIn_r _ [21, 22, 7, 8, 9, 10, 11, 12, 23, 24, 25, 26, 27, 28, 29] (by decide +kernel) (by decide +kernel)
set_option maxRecDepth 20000 in
theorem gX4_fact_X4_gateOf : GoodIn wsX4_fact (wsV RX4 51 RX4 yX4_gateOf wsX4_gateOf) := goodIn_app (goodIn_of _ (by decide +kernel)) ggX4_fact_X4_gateOf
theorem dX4_fact_0 : decode cX4_fact 0 = .ok (.iload_n 3, 1) := by decide +kernel
theorem dX4_fact_1 : decode cX4_fact 1 = .ok (.lookupswitch 41 #[(0, 27), (1, 34)], 27) := by decide +kernel
theorem dX4_fact_28 : decode cX4_fact 28 = .ok (.aload_n 0, 1) := by decide +kernel
theorem dX4_fact_29 : decode cX4_fact 29 = .ok (.iload_n 1, 1) := by decide +kernel
theorem dX4_fact_30 : decode cX4_fact 30 = .ok (.iload_n 2, 1) := by decide +kernel
theorem dX4_fact_31 : decode cX4_fact 31 = .ok (.invokevirtual 44, 3) := by decide +kernel
theorem dX4_fact_34 : decode cX4_fact 34 = .ok (.ireturn, 1) := by decide +kernel
theorem dX4_fact_35 : decode cX4_fact 35 = .ok (.aload_n 0, 1) := by decide +kernel
theorem dX4_fact_36 : decode cX4_fact 36 = .ok (.iload_n 1, 1) := by decide +kernel
theorem dX4_fact_37 : decode cX4_fact 37 = .ok (.iload_n 2, 1) := by decide +kernel
theorem dX4_fact_38 : decode cX4_fact 38 = .ok (.invokevirtual 48, 3) := by decide +kernel
theorem dX4_fact_41 : decode cX4_fact 41 = .ok (.ireturn, 1) := by decide +kernel
theorem dX4_fact_42 : decode cX4_fact 42 = .ok (.aload_n 0, 1) := by decide +kernel
theorem dX4_fact_43 : decode cX4_fact 43 = .ok (.iload_n 1, 1) := by decide +kernel
theorem dX4_fact_44 : decode cX4_fact 44 = .ok (.iload_n 2, 1) := by decide +kernel
theorem dX4_fact_45 : decode cX4_fact 45 = .ok (.invokevirtual 51, 3) := by decide +kernel
theorem dX4_fact_48 : decode cX4_fact 48 = .ok (.ireturn, 1) := by decide +kernel
theorem dX4_lengthOf_0 : decode cX4_lengthOf 0 = .ok (.iload_n 1, 1) := by decide +kernel
theorem dX4_lengthOf_1 : decode cX4_lengthOf 1 = .ok (.iconst 2, 1) := by decide +kernel
theorem dX4_lengthOf_2 : decode cX4_lengthOf 2 = .ok (.irem, 1) := by decide +kernel
theorem dX4_lengthOf_3 : decode cX4_lengthOf 3 = .ok (.ifCond .ne 15, 3) := by decide +kernel
theorem dX4_lengthOf_6 : decode cX4_lengthOf 6 = .ok (.aload_n 0, 1) := by decide +kernel
theorem dX4_lengthOf_7 : decode cX4_lengthOf 7 = .ok (.getfield 29, 3) := by decide +kernel
theorem dX4_lengthOf_10 : decode cX4_lengthOf 10 = .ok (.aload_n 0, 1) := by decide +kernel
theorem dX4_lengthOf_11 : decode cX4_lengthOf 11 = .ok (.getfield 54, 3) := by decide +kernel
theorem dX4_lengthOf_14 : decode cX4_lengthOf 14 = .ok (.iadd, 1) := by decide +kernel
theorem dX4_lengthOf_15 : decode cX4_lengthOf 15 = .ok (.goto 12, 3) := by decide +kernel
theorem dX4_lengthOf_18 : decode cX4_lengthOf 18 = .ok (.aload_n 0, 1) := by decide +kernel
theorem dX4_lengthOf_19 : decode cX4_lengthOf 19 = .ok (.getfield 29, 3) := by decide +kernel
theorem dX4_lengthOf_22 : decode cX4_lengthOf 22 = .ok (.aload_n 0, 1) := by decide +kernel
theorem dX4_lengthOf_23 : decode cX4_lengthOf 23 = .ok (.getfield 54, 3) := by decide +kernel
theorem dX4_lengthOf_26 : decode cX4_lengthOf 26 = .ok (.isub, 1) := by decide +kernel
theorem dX4_lengthOf_27 : decode cX4_lengthOf 27 = .ok (.ireturn, 1) := by decide +kernel
set_option maxRecDepth 20000 in
theorem ggX5_init_X8_init : GoodIn wsX5_init wsX8_init := goodIn_r _ [22, 23, 2, 3, 24, 25, 26, 27, 28, 29, 30, 31, 32, 33, 34, 35, 36, 37, 38, 39, 40, 41, 93, 67] (by decide +kernel) (by decide +kernel)
set_option maxRecDepth 20000 in
theorem gX5_init_X8_init : GoodIn wsX5_init (wsX8_init) := ggX5_init_X8_init
set_option maxRecDepth 20000 in
theorem ggX5_init_X4_init : GoodIn wsX5_init wsX4_init := goodIn_r _ [44, 45, 2, 3, 46, 25, 26, 47, 48, 49, 50, 51, 52, 29, 30, 31, 32, 33, 34, 35, 36, 37, 53, 54, 55, 56, 93, 75, 76, 77, 78, 79, 80] (by decide +kernel) (by decide +kernel)
set_option maxRecDepth 20000 in
theorem gX5_init_X4_init : GoodIn wsX5_init (wsX4_init) := ggX5_init_X4_init
set_option maxRecDepth 20000 in
theorem ggX5_init_X1_init : GoodIn wsX5_init wsX1_init := goodIn_r _ [58, 59, 2, 3, 60, 61, 62, 63, 64, 65, 66, 81, 82, 83, 84, 85, 86, 87, 88, 89, 90, 91, 92] (by decide +kernel) (by decide +kernel)
set_option maxRecDepth 20000 in
theorem gX5_init_X1_init_n29 : GoodIn wsX5_init (wsX1_init) := ggX5_init_X1_init
theorem dX5_init_0 : decode cX5_init 0 = .ok (.aload_n 0, 1) := by decide +kernel
theorem dX5_init_1 : decode cX5_init 1 = .ok (.invokespecial 1, 3) := by decide +kernel
theorem dX5_init_4 : decode cX5_init 4 = .ok (.aload_n 0, 1) := by decide +kernel
theorem dX5_init_5 : decode cX5_init 5 = .ok (.new 7, 3) := by decide +kernel
theorem dX5_init_8 : decode cX5_init 8 = .ok (.dup, 1) := by decide +kernel
theorem dX5_init_9 : decode cX5_init 9 = .ok (.invokespecial 9, 3) := by decide +kernel
theorem dX5_init_12 : decode cX5_init 12 = .ok (.putfield 10, 3) := by decide +kernel
theorem dX5_init_15 : decode cX5_init 15 = .ok (.aload_n 0, 1) := by decide +kernel
theorem dX5_init_16 : decode cX5_init 16 = .ok (.new 16, 3) := by decide +kernel
theorem dX5_init_19 : decode cX5_init 19 = .ok (.dup, 1) := by decide +kernel
theorem dX5_init_20 : decode cX5_init 20 = .ok (.invokespecial 18, 3) := by decide +kernel
theorem dX5_init_23 : decode cX5_init 23 = .ok (.putfield 19, 3) := by decide +kernel
theorem dX5_init_26 : decode cX5_init 26 = .ok (.aload_n 0, 1) := by decide +kernel
theorem dX5_init_27 : decode cX5_init 27 = .ok (.bipush 64, 2) := by decide +kernel
theorem dX5_init_29 : decode cX5_init 29 = .ok (.putfield 23, 3) := by decide +kernel
theorem dX5_init_32 : decode cX5_init 32 = .ok (.aload_n 0, 1) := by decide +kernel
theorem dX5_init_33 : decode cX5_init 33 = .ok (.new 27, 3) := by decide +kernel
theorem dX5_init_36 : decode cX5_init 36 = .ok (.dup, 1) := by decide +kernel
theorem dX5_init_37 : decode cX5_init 37 = .ok (.invokespecial 29, 3) := by decide +kernel
theorem dX5_init_40 : decode cX5_init 40 = .ok (.putfield 30, 3) := by decide +kernel
theorem dX5_init_43 : decode cX5_init 43 = .ok (.aload_n 0, 1) := by decide +kernel
theorem dX5_init_44 : decode cX5_init 44 = .ok (.new 27, 3) := by decide +kernel
theorem dX5_init_47 : decode cX5_init 47 = .ok (.dup, 1) := by decide +kernel
theorem dX5_init_48 : decode cX5_init 48 = .ok (.invokespecial 29, 3) := by decide +kernel
theorem dX5_init_51 : decode cX5_init 51 = .ok (.putfield 34, 3) := by decide +kernel
theorem dX5_init_54 : decode cX5_init 54 = .ok (.aload_n 0, 1) := by decide +kernel
theorem dX5_init_55 : decode cX5_init 55 = .ok (.new 27, 3) := by decide +kernel
theorem dX5_init_58 : decode cX5_init 58 = .ok (.dup, 1) := by decide +kernel
theorem dX5_init_59 : decode cX5_init 59 = .ok (.invokespecial 29, 3) := by decide +kernel
theorem dX5_init_62 : decode cX5_init 62 = .ok (.putfield 37, 3) := by decide +kernel
theorem dX5_init_65 : decode cX5_init 65 = .ok (.aload_n 0, 1) := by decide +kernel
theorem dX5_init_66 : decode cX5_init 66 = .ok (.new 27, 3) := by decide +kernel
theorem dX5_init_69 : decode cX5_init 69 = .ok (.dup, 1) := by decide +kernel
theorem dX5_init_70 : decode cX5_init 70 = .ok (.invokespecial 29, 3) := by decide +kernel
theorem dX5_init_73 : decode cX5_init 73 = .ok (.putfield 40, 3) := by decide +kernel
theorem dX5_init_76 : decode cX5_init 76 = .ok (.return_, 1) := by decide +kernel
theorem dX5_instrumentOf_0 : decode cX5_instrumentOf 0 = .ok (.iload_n 1, 1) := by decide +kernel
theorem dX5_instrumentOf_1 : decode cX5_instrumentOf 1 = .ok (.tableswitch 42 0 2 #[27, 32, 37], 27) := by decide +kernel
theorem dX5_instrumentOf_28 : decode cX5_instrumentOf 28 = .ok (.aload_n 0, 1) := by decide +kernel
theorem dX5_instrumentOf_29 : decode cX5_instrumentOf 29 = .ok (.getfield 30, 3) := by decide +kernel
theorem dX5_instrumentOf_32 : decode cX5_instrumentOf 32 = .ok (.areturn, 1) := by decide +kernel
theorem dX5_instrumentOf_33 : decode cX5_instrumentOf 33 = .ok (.aload_n 0, 1) := by decide +kernel
theorem dX5_instrumentOf_34 : decode cX5_instrumentOf 34 = .ok (.getfield 34, 3) := by decide +kernel
theorem dX5_instrumentOf_37 : decode cX5_instrumentOf 37 = .ok (.areturn, 1) := by decide +kernel
theorem dX5_instrumentOf_38 : decode cX5_instrumentOf 38 = .ok (.aload_n 0, 1) := by decide +kernel
theorem dX5_instrumentOf_39 : decode cX5_instrumentOf 39 = .ok (.getfield 37, 3) := by decide +kernel
theorem dX5_instrumentOf_42 : decode cX5_instrumentOf 42 = .ok (.areturn, 1) := by decide +kernel
theorem dX5_instrumentOf_43 : decode cX5_instrumentOf 43 = .ok (.aload_n 0, 1) := by decide +kernel
theorem dX5_instrumentOf_44 : decode cX5_instrumentOf 44 = .ok (.getfield 40, 3) := by decide +kernel
theorem dX5_instrumentOf_47 : decode cX5_instrumentOf 47 = .ok (.areturn, 1) := by decide +kernel
set_option maxRecDepth 20000 in
theorem ggX6_init_X0_init : GoodIn wsX6_init wsX0_init := goodIn_r _ [17, 18, 2, 3, 19, 20, 21, 22, 23, 24, 25, 26, 27, 28, 29, 30, 31, 32, 66, 38, 39, 40, 41, 42] (by decide +kernel) (by decide +kernel)
set_option maxRecDepth 20000 in
theorem gX6_init_X0_init_n11 : GoodIn wsX6_init (wsX0_init) := ggX6_init_X0_init
set_option maxRecDepth 20000 in
theorem ggX6_init_X7_init : GoodIn wsX6_init wsX7_init := goodIn_r _ [34, 35, 2, 3, 36, 37, 55, 56, 57, 58, 59, 60, 61, 62, 63, 64, 65] (by decide +kernel) (by decide +kernel)
set_option maxRecDepth 20000 in
theorem gX6_init_X7_init_n20 : GoodIn wsX6_init (wsX7_init) := ggX6_init_X7_init
theorem dX6_init_0 : decode cX6_init 0 = .ok (.aload_n 0, 1) := by decide +kernel
theorem dX6_init_1 : decode cX6_init 1 = .ok (.invokespecial 3, 3) := by decide +kernel
theorem dX6_init_4 : decode cX6_init 4 = .ok (.aload_n 0, 1) := by decide +kernel
theorem dX6_init_5 : decode cX6_init 5 = .ok (.new 9, 3) := by decide +kernel
theorem dX6_init_8 : decode cX6_init 8 = .ok (.dup, 1) := by decide +kernel
theorem dX6_init_9 : decode cX6_init 9 = .ok (.invokespecial 11, 3) := by decide +kernel
theorem dX6_init_12 : decode cX6_init 12 = .ok (.putfield 12, 3) := by decide +kernel
theorem dX6_init_15 : decode cX6_init 15 = .ok (.aload_n 0, 1) := by decide +kernel
theorem dX6_init_16 : decode cX6_init 16 = .ok (.new 18, 3) := by decide +kernel
theorem dX6_init_19 : decode cX6_init 19 = .ok (.dup, 1) := by decide +kernel
theorem dX6_init_20 : decode cX6_init 20 = .ok (.invokespecial 20, 3) := by decide +kernel
theorem dX6_init_23 : decode cX6_init 23 = .ok (.putfield 21, 3) := by decide +kernel
theorem dX6_init_26 : decode cX6_init 26 = .ok (.aload_n 0, 1) := by decide +kernel
theorem dX6_init_27 : decode cX6_init 27 = .ok (.new 18, 3) := by decide +kernel
theorem dX6_init_30 : decode cX6_init 30 = .ok (.dup, 1) := by decide +kernel
theorem dX6_init_31 : decode cX6_init 31 = .ok (.invokespecial 20, 3) := by decide +kernel
theorem dX6_init_34 : decode cX6_init 34 = .ok (.putfield 25, 3) := by decide +kernel
theorem dX6_init_37 : decode cX6_init 37 = .ok (.aload_n 0, 1) := by decide +kernel
theorem dX6_init_38 : decode cX6_init 38 = .ok (.new 18, 3) := by decide +kernel
theorem dX6_init_41 : decode cX6_init 41 = .ok (.dup, 1) := by decide +kernel
theorem dX6_init_42 : decode cX6_init 42 = .ok (.invokespecial 20, 3) := by decide +kernel
theorem dX6_init_45 : decode cX6_init 45 = .ok (.putfield 28, 3) := by decide +kernel
theorem dX6_init_48 : decode cX6_init 48 = .ok (.aload_n 0, 1) := by decide +kernel
theorem dX6_init_49 : decode cX6_init 49 = .ok (.new 18, 3) := by decide +kernel
theorem dX6_init_52 : decode cX6_init 52 = .ok (.dup, 1) := by decide +kernel
theorem dX6_init_53 : decode cX6_init 53 = .ok (.invokespecial 20, 3) := by decide +kernel
theorem dX6_init_56 : decode cX6_init 56 = .ok (.putfield 31, 3) := by decide +kernel
theorem dX6_init_59 : decode cX6_init 59 = .ok (.aload_n 0, 1) := by decide +kernel
theorem dX6_init_60 : decode cX6_init 60 = .ok (.aload_n 1, 1) := by decide +kernel
theorem dX6_init_61 : decode cX6_init 61 = .ok (.putfield 34, 3) := by decide +kernel
theorem dX6_init_64 : decode cX6_init 64 = .ok (.return_, 1) := by decide +kernel
set_option maxRecDepth 20000 in
theorem ggX6_copy_X6_voiceOf : GoodIn wsX6_copy wsX6_voiceOf := goodIn_r _ [12, 13, 14, 15, 16, 53, 54, 55, 56, 57, 58, 59, 60, 61, 62, 63, 64] (by decide +kernel) (by decide +kernel)
set_option maxRecDepth 20000 in
theorem gX6_copy_X6_voiceOf : GoodIn wsX6_copy (wsV RX6 38 RX6 yX6_voiceOf wsX6_voiceOf) := goodIn_app (goodIn_of _ (by decide +kernel)) ggX6_copy_X6_voiceOf
set_option maxRecDepth 20000 in
theorem ggX6_copy_X7_copy : GoodIn wsX6_copy wsX7_copy := goodIn_r _ [21, 22, 23, 24, 25, 26, 27, 28, 29, 30, 31, 32, 65, 66, 67, 68, 69, 70, 71, 72, 73, 74, 75] (by decide +kernel) (by decide +kernel)
set_option maxRecDepth 20000 in
theorem gX6_copy_X7_copy : GoodIn wsX6_copy (wsV RX6 42 RX7 yX7_copy wsX7_copy) := goodIn_app (goodIn_of _ (by decide +kernel)) ggX6_copy_X7_copy
set_option maxRecDepth 20000 in
theorem ggX6_copy_X0_copy : GoodIn wsX6_copy wsX0_copy := goodIn_r _ [37, 38, 39, 40, 41, 42, 43, 44, 45, 46, 47, 48, 49, 50, 51, 52, 76, 77, 78, 79, 80, 81] (by decide +kernel) (by decide +kernel)
set_option maxRecDepth 20000 in
theorem gX6_copy_X0_copy : GoodIn wsX6_copy (wsV RX6 46 RX0 yX0_copy wsX0_copy) := goodIn_app (goodIn_of _ (by decide +kernel)) ggX6_copy_X0_copy
theorem dX6_copy_0 : decode cX6_copy 0 = .ok (.iconst 0, 1) := by decide +kernel
theorem dX6_copy_1 : decode cX6_copy 1 = .ok (.istore_n 2, 1) := by decide +kernel
theorem dX6_copy_2 : decode cX6_copy 2 = .ok (.iload_n 2, 1) := by decide +kernel
theorem dX6_copy_3 : decode cX6_copy 3 = .ok (.iconst 4, 1) := by decide +kernel
theorem dX6_copy_4 : decode cX6_copy 4 = .ok (.if_icmp .ge 22, 3) := by decide +kernel
theorem dX6_copy_7 : decode cX6_copy 7 = .ok (.aload_n 0, 1) := by decide +kernel
theorem dX6_copy_8 : decode cX6_copy 8 = .ok (.iload_n 2, 1) := by decide +kernel
theorem dX6_copy_9 : decode cX6_copy 9 = .ok (.invokevirtual 38, 3) := by decide +kernel
theorem dX6_copy_12 : decode cX6_copy 12 = .ok (.aload_n 1, 1) := by decide +kernel
theorem dX6_copy_13 : decode cX6_copy 13 = .ok (.iload_n 2, 1) := by decide +kernel
theorem dX6_copy_14 : decode cX6_copy 14 = .ok (.invokevirtual 38, 3) := by decide +kernel
theorem dX6_copy_17 : decode cX6_copy 17 = .ok (.invokevirtual 42, 3) := by decide +kernel
theorem dX6_copy_20 : decode cX6_copy 20 = .ok (.iinc 2 1, 3) := by decide +kernel
theorem dX6_copy_23 : decode cX6_copy 23 = .ok (.goto (-21), 3) := by decide +kernel
theorem dX6_copy_26 : decode cX6_copy 26 = .ok (.aload_n 0, 1) := by decide +kernel
theorem dX6_copy_27 : decode cX6_copy 27 = .ok (.getfield 12, 3) := by decide +kernel
theorem dX6_copy_30 : decode cX6_copy 30 = .ok (.aload_n 1, 1) := by decide +kernel
theorem dX6_copy_31 : decode cX6_copy 31 = .ok (.getfield 12, 3) := by decide +kernel
theorem dX6_copy_34 : decode cX6_copy 34 = .ok (.invokevirtual 46, 3) := by decide +kernel
theorem dX6_copy_37 : decode cX6_copy 37 = .ok (.aload_n 0, 1) := by decide +kernel
theorem dX6_copy_38 : decode cX6_copy 38 = .ok (.aload_n 1, 1) := by decide +kernel
theorem dX6_copy_39 : decode cX6_copy 39 = .ok (.getfield 49, 3) := by decide +kernel
theorem dX6_copy_42 : decode cX6_copy 42 = .ok (.putfield 49, 3) := by decide +kernel
theorem dX6_copy_45 : decode cX6_copy 45 = .ok (.aload_n 0, 1) := by decide +kernel
theorem dX6_copy_46 : decode cX6_copy 46 = .ok (.aload_n 1, 1) := by decide +kernel
theorem dX6_copy_47 : decode cX6_copy 47 = .ok (.getfield 53, 3) := by decide +kernel
theorem dX6_copy_50 : decode cX6_copy 50 = .ok (.putfield 53, 3) := by decide +kernel
theorem dX6_copy_53 : decode cX6_copy 53 = .ok (.aload_n 0, 1) := by decide +kernel
theorem dX6_copy_54 : decode cX6_copy 54 = .ok (.aload_n 1, 1) := by decide +kernel
theorem dX6_copy_55 : decode cX6_copy 55 = .ok (.getfield 56, 3) := by decide +kernel
theorem dX6_copy_58 : decode cX6_copy 58 = .ok (.putfield 56, 3) := by decide +kernel
theorem dX6_copy_61 : decode cX6_copy 61 = .ok (.aload_n 0, 1) := by decide +kernel
theorem dX6_copy_62 : decode cX6_copy 62 = .ok (.aload_n 1, 1) := by decide +kernel
theorem dX6_copy_63 : decode cX6_copy 63 = .ok (.getfield 59, 3) := by decide +kernel
theorem dX6_copy_66 : decode cX6_copy 66 = .ok (.putfield 59, 3) := by decide +kernel
theorem dX6_copy_69 : decode cX6_copy 69 = .ok (.aload_n 0, 1) := by decide +kernel
theorem dX6_copy_70 : decode cX6_copy 70 = .ok (.aload_n 1, 1) := by decide +kernel
theorem dX6_copy_71 : decode cX6_copy 71 = .ok (.getfield 63, 3) := by decide +kernel
theorem dX6_copy_74 : decode cX6_copy 74 = .ok (.putfield 63, 3) := by decide +kernel
theorem dX6_copy_77 : decode cX6_copy 77 = .ok (.aload_n 0, 1) := by decide +kernel
theorem dX6_copy_78 : decode cX6_copy 78 = .ok (.aload_n 1, 1) := by decide +kernel
theorem dX6_copy_79 : decode cX6_copy 79 = .ok (.getfield 66, 3) := by decide +kernel
theorem dX6_copy_82 : decode cX6_copy 82 = .ok (.putfield 66, 3) := by decide +kernel
theorem dX6_copy_85 : decode cX6_copy 85 = .ok (.return_, 1) := by decide +kernel
theorem dX6_voiceOf_0 : decode cX6_voiceOf 0 = .ok (.iload_n 1, 1) := by decide +kernel
theorem dX6_voiceOf_1 : decode cX6_voiceOf 1 = .ok (.tableswitch 42 0 2 #[27, 32, 37], 27) := by decide +kernel
theorem dX6_voiceOf_28 : decode cX6_voiceOf 28 = .ok (.aload_n 0, 1) := by decide +kernel
theorem dX6_voiceOf_29 : decode cX6_voiceOf 29 = .ok (.getfield 21, 3) := by decide +kernel
theorem dX6_voiceOf_32 : decode cX6_voiceOf 32 = .ok (.areturn, 1) := by decide +kernel
theorem dX6_voiceOf_33 : decode cX6_voiceOf 33 = .ok (.aload_n 0, 1) := by decide +kernel
theorem dX6_voiceOf_34 : decode cX6_voiceOf 34 = .ok (.getfield 25, 3) := by decide +kernel
theorem dX6_voiceOf_37 : decode cX6_voiceOf 37 = .ok (.areturn, 1) := by decide +kernel
theorem dX6_voiceOf_38 : decode cX6_voiceOf 38 = .ok (.aload_n 0, 1) := by decide +kernel
theorem dX6_voiceOf_39 : decode cX6_voiceOf 39 = .ok (.getfield 28, 3) := by decide +kernel
theorem dX6_voiceOf_42 : decode cX6_voiceOf 42 = .ok (.areturn, 1) := by decide +kernel
theorem dX6_voiceOf_43 : decode cX6_voiceOf 43 = .ok (.aload_n 0, 1) := by decide +kernel
theorem dX6_voiceOf_44 : decode cX6_voiceOf 44 = .ok (.getfield 31, 3) := by decide +kernel
theorem dX6_voiceOf_47 : decode cX6_voiceOf 47 = .ok (.areturn, 1) := by decide +kernel
set_option maxRecDepth 20000 in
theorem ggX6_countSounding_X6_voiceOf : GoodIn wsX6_countSounding wsX6_voiceOf := goodIn_r _ [6, 7, 8, 9, 10, 22, 23, 24, 25, 26, 27, 28, 29, 30, 31, 32, 33] (by decide +kernel) (by decide +kernel)
set_option maxRecDepth 20000 in
theorem gX6_countSounding_X6_voiceOf : GoodIn wsX6_countSounding (wsV RX6 38 RX6 yX6_voiceOf wsX6_voiceOf) := goodIn_app (goodIn_of _ (by decide +kernel)) ggX6_countSounding_X6_voiceOf
theorem dX6_countSounding_0 : decode cX6_countSounding 0 = .ok (.iconst 0, 1) := by decide +kernel
theorem dX6_countSounding_1 : decode cX6_countSounding 1 = .ok (.istore_n 1, 1) := by decide +kernel
theorem dX6_countSounding_2 : decode cX6_countSounding 2 = .ok (.iconst 0, 1) := by decide +kernel
theorem dX6_countSounding_3 : decode cX6_countSounding 3 = .ok (.istore_n 2, 1) := by decide +kernel
theorem dX6_countSounding_4 : decode cX6_countSounding 4 = .ok (.iload_n 2, 1) := by decide +kernel
theorem dX6_countSounding_5 : decode cX6_countSounding 5 = .ok (.iconst 4, 1) := by decide +kernel
theorem dX6_countSounding_6 : decode cX6_countSounding 6 = .ok (.if_icmp .ge 23, 3) := by decide +kernel
theorem dX6_countSounding_9 : decode cX6_countSounding 9 = .ok (.aload_n 0, 1) := by decide +kernel
theorem dX6_countSounding_10 : decode cX6_countSounding 10 = .ok (.iload_n 2, 1) := by decide +kernel
theorem dX6_countSounding_11 : decode cX6_countSounding 11 = .ok (.invokevirtual 38, 3) := by decide +kernel
theorem dX6_countSounding_14 : decode cX6_countSounding 14 = .ok (.getfield 69, 3) := by decide +kernel
theorem dX6_countSounding_17 : decode cX6_countSounding 17 = .ok (.ifCond .eq 6, 3) := by decide +kernel
theorem dX6_countSounding_20 : decode cX6_countSounding 20 = .ok (.iinc 1 1, 3) := by decide +kernel
theorem dX6_countSounding_23 : decode cX6_countSounding 23 = .ok (.iinc 2 1, 3) := by decide +kernel
theorem dX6_countSounding_26 : decode cX6_countSounding 26 = .ok (.goto (-22), 3) := by decide +kernel
theorem dX6_countSounding_29 : decode cX6_countSounding 29 = .ok (.iload_n 1, 1) := by decide +kernel
theorem dX6_countSounding_30 : decode cX6_countSounding 30 = .ok (.ireturn, 1) := by decide +kernel
theorem dX6_stepOrNone_0 : decode cX6_stepOrNone 0 = .ok (.aload_n 0, 1) := by decide +kernel
theorem dX6_stepOrNone_1 : decode cX6_stepOrNone 1 = .ok (.getfield 59, 3) := by decide +kernel
theorem dX6_stepOrNone_4 : decode cX6_stepOrNone 4 = .ok (.ifCond .eq 10, 3) := by decide +kernel
theorem dX6_stepOrNone_7 : decode cX6_stepOrNone 7 = .ok (.aload_n 0, 1) := by decide +kernel
theorem dX6_stepOrNone_8 : decode cX6_stepOrNone 8 = .ok (.getfield 63, 3) := by decide +kernel
theorem dX6_stepOrNone_11 : decode cX6_stepOrNone 11 = .ok (.goto 4, 3) := by decide +kernel
theorem dX6_stepOrNone_14 : decode cX6_stepOrNone 14 = .ok (.iconst (-1), 1) := by decide +kernel
theorem dX6_stepOrNone_15 : decode cX6_stepOrNone 15 = .ok (.ireturn, 1) := by decide +kernel
set_option maxRecDepth 20000 in
theorem ggX6_voiceToTake_X6_voiceOf : GoodIn wsX6_voiceToTake wsX6_voiceOf := goodIn_r _ [5, 6, 7, 8, 9, 22, 23, 24, 25, 26, 27, 28, 29, 30, 31, 32, 33] (by decide +kernel) (by decide +kernel)
set_option maxRecDepth 20000 in
theorem gX6_voiceToTake_X6_voiceOf : GoodIn wsX6_voiceToTake (wsV RX6 38 RX6 yX6_voiceOf wsX6_voiceOf) := goodIn_app (goodIn_of _ (by decide +kernel)) ggX6_voiceToTake_X6_voiceOf
set_option maxRecDepth 20000 in
theorem ggX6_voiceToTake_X7_isTakenBefore : GoodIn wsX6_voiceToTake wsX7_isTakenBefore := goodIn_r _ [14, 15, 16, 17, 18, 19, 20, 13, 21, 34, 35, 36, 37, 38, 39, 40, 41, 42, 43, 44] (by decide +kernel) (by decide +kernel)
set_option maxRecDepth 20000 in
theorem gX6_voiceToTake_X7_isTakenBefore : GoodIn wsX6_voiceToTake (wsV RX6 72 RX7 yX7_isTakenBefore wsX7_isTakenBefore) := goodIn_app (goodIn_of _ (by decide +kernel)) ggX6_voiceToTake_X7_isTakenBefore
theorem dX6_voiceToTake_0 : decode cX6_voiceToTake 0 = .ok (.iconst 0, 1) := by decide +kernel
theorem dX6_voiceToTake_1 : decode cX6_voiceToTake 1 = .ok (.istore_n 1, 1) := by decide +kernel
theorem dX6_voiceToTake_2 : decode cX6_voiceToTake 2 = .ok (.iconst 1, 1) := by decide +kernel
theorem dX6_voiceToTake_3 : decode cX6_voiceToTake 3 = .ok (.istore_n 2, 1) := by decide +kernel
theorem dX6_voiceToTake_4 : decode cX6_voiceToTake 4 = .ok (.iload_n 2, 1) := by decide +kernel
theorem dX6_voiceToTake_5 : decode cX6_voiceToTake 5 = .ok (.iconst 4, 1) := by decide +kernel
theorem dX6_voiceToTake_6 : decode cX6_voiceToTake 6 = .ok (.if_icmp .ge 27, 3) := by decide +kernel
theorem dX6_voiceToTake_9 : decode cX6_voiceToTake 9 = .ok (.aload_n 0, 1) := by decide +kernel
theorem dX6_voiceToTake_10 : decode cX6_voiceToTake 10 = .ok (.iload_n 2, 1) := by decide +kernel
theorem dX6_voiceToTake_11 : decode cX6_voiceToTake 11 = .ok (.invokevirtual 38, 3) := by decide +kernel
theorem dX6_voiceToTake_14 : decode cX6_voiceToTake 14 = .ok (.aload_n 0, 1) := by decide +kernel
theorem dX6_voiceToTake_15 : decode cX6_voiceToTake 15 = .ok (.iload_n 1, 1) := by decide +kernel
theorem dX6_voiceToTake_16 : decode cX6_voiceToTake 16 = .ok (.invokevirtual 38, 3) := by decide +kernel
theorem dX6_voiceToTake_19 : decode cX6_voiceToTake 19 = .ok (.invokevirtual 72, 3) := by decide +kernel
theorem dX6_voiceToTake_22 : decode cX6_voiceToTake 22 = .ok (.ifCond .eq 5, 3) := by decide +kernel
theorem dX6_voiceToTake_25 : decode cX6_voiceToTake 25 = .ok (.iload_n 2, 1) := by decide +kernel
theorem dX6_voiceToTake_26 : decode cX6_voiceToTake 26 = .ok (.istore_n 1, 1) := by decide +kernel
theorem dX6_voiceToTake_27 : decode cX6_voiceToTake 27 = .ok (.iinc 2 1, 3) := by decide +kernel
theorem dX6_voiceToTake_30 : decode cX6_voiceToTake 30 = .ok (.goto (-26), 3) := by decide +kernel
theorem dX6_voiceToTake_33 : decode cX6_voiceToTake 33 = .ok (.iload_n 1, 1) := by decide +kernel
theorem dX6_voiceToTake_34 : decode cX6_voiceToTake 34 = .ok (.ireturn, 1) := by decide +kernel
set_option maxRecDepth 20000 in
theorem ggX6_startNote_X6_voiceToTake : GoodIn wsX6_startNote wsX6_voiceToTake := goodIn_r _ [8, 9, 10, 11, 7, 12, 13, 14, 15, 16, 17, 18, 19, 20, 21, 22, 23, 24, 25, 26, 27, 28, 52, 53, 54, 55, 56, 57, 58, 59, 60, 61, 62, 63, 41, 42, 43, 44, 45, 46, 47, 48, 49, 50, 51] (by decide +kernel) (by decide +kernel)
set_option maxRecDepth 20000 in
theorem gX6_startNote_X6_voiceToTake : GoodIn wsX6_startNote (wsV RX6 76 RX6 yX6_voiceToTake wsX6_voiceToTake) := goodIn_app (goodIn_of _ (by decide +kernel)) ggX6_startNote_X6_voiceToTake
set_option maxRecDepth 20000 in
theorem ggX6_startNote_X6_voiceOf : GoodIn wsX6_startNote wsX6_voiceOf := goodIn_r _ [12, 13, 14, 15, 16, 52, 53, 54, 55, 56, 57, 58, 59, 60, 61, 62, 63] (by decide +kernel) (by decide +kernel)
set_option maxRecDepth 20000 in
theorem gX6_startNote_X6_voiceOf : GoodIn wsX6_startNote (wsV RX6 38 RX6 yX6_voiceOf wsX6_voiceOf) := goodIn_app (goodIn_of _ (by decide +kernel)) ggX6_startNote_X6_voiceOf
set_option maxRecDepth 20000 in
theorem ggX6_startNote_X7_start : GoodIn wsX6_startNote wsX7_start := goodIn_r _ [32, 22, 33, 34, 35, 36, 24, 37, 38, 39, 40, 41, 42, 43, 44, 45, 46, 47, 48, 49, 50, 51] (by decide +kernel) (by decide +kernel)
set_option maxRecDepth 20000 in
theorem gX6_startNote_X7_start : GoodIn wsX6_startNote (wsV RX6 80 RX7 yX7_start wsX7_start) := goodIn_app (goodIn_of _ (by decide +kernel)) ggX6_startNote_X7_start
theorem dX6_startNote_0 : decode cX6_startNote 0 = .ok (.aload_n 0, 1) := by decide +kernel
theorem dX6_startNote_1 : decode cX6_startNote 1 = .ok (.invokevirtual 76, 3) := by decide +kernel
theorem dX6_startNote_4 : decode cX6_startNote 4 = .ok (.istore 5, 2) := by decide +kernel
theorem dX6_startNote_6 : decode cX6_startNote 6 = .ok (.aload_n 0, 1) := by decide +kernel
theorem dX6_startNote_7 : decode cX6_startNote 7 = .ok (.iload 5, 2) := by decide +kernel
theorem dX6_startNote_9 : decode cX6_startNote 9 = .ok (.invokevirtual 38, 3) := by decide +kernel
theorem dX6_startNote_12 : decode cX6_startNote 12 = .ok (.astore 6, 2) := by decide +kernel
theorem dX6_startNote_14 : decode cX6_startNote 14 = .ok (.aload 6, 2) := by decide +kernel
theorem dX6_startNote_16 : decode cX6_startNote 16 = .ok (.getfield 69, 3) := by decide +kernel
theorem dX6_startNote_19 : decode cX6_startNote 19 = .ok (.ifCond .eq 13, 3) := by decide +kernel
theorem dX6_startNote_22 : decode cX6_startNote 22 = .ok (.aload_n 0, 1) := by decide +kernel
theorem dX6_startNote_23 : decode cX6_startNote 23 = .ok (.dup, 1) := by decide +kernel
theorem dX6_startNote_24 : decode cX6_startNote 24 = .ok (.getfield 56, 3) := by decide +kernel
theorem dX6_startNote_27 : decode cX6_startNote 27 = .ok (.iconst 1, 1) := by decide +kernel
theorem dX6_startNote_28 : decode cX6_startNote 28 = .ok (.iadd, 1) := by decide +kernel
theorem dX6_startNote_29 : decode cX6_startNote 29 = .ok (.putfield 56, 3) := by decide +kernel
theorem dX6_startNote_32 : decode cX6_startNote 32 = .ok (.aload_n 0, 1) := by decide +kernel
theorem dX6_startNote_33 : decode cX6_startNote 33 = .ok (.dup, 1) := by decide +kernel
theorem dX6_startNote_34 : decode cX6_startNote 34 = .ok (.getfield 53, 3) := by decide +kernel
theorem dX6_startNote_37 : decode cX6_startNote 37 = .ok (.iconst 1, 1) := by decide +kernel
theorem dX6_startNote_38 : decode cX6_startNote 38 = .ok (.iadd, 1) := by decide +kernel
theorem dX6_startNote_39 : decode cX6_startNote 39 = .ok (.putfield 53, 3) := by decide +kernel
theorem dX6_startNote_42 : decode cX6_startNote 42 = .ok (.aload 6, 2) := by decide +kernel
theorem dX6_startNote_44 : decode cX6_startNote 44 = .ok (.iload_n 1, 1) := by decide +kernel
theorem dX6_startNote_45 : decode cX6_startNote 45 = .ok (.iload_n 2, 1) := by decide +kernel
theorem dX6_startNote_46 : decode cX6_startNote 46 = .ok (.iload_n 3, 1) := by decide +kernel
theorem dX6_startNote_47 : decode cX6_startNote 47 = .ok (.iload 4, 2) := by decide +kernel
theorem dX6_startNote_49 : decode cX6_startNote 49 = .ok (.aload_n 0, 1) := by decide +kernel
theorem dX6_startNote_50 : decode cX6_startNote 50 = .ok (.getfield 53, 3) := by decide +kernel
theorem dX6_startNote_53 : decode cX6_startNote 53 = .ok (.invokevirtual 80, 3) := by decide +kernel
theorem dX6_startNote_56 : decode cX6_startNote 56 = .ok (.iload 5, 2) := by decide +kernel
theorem dX6_startNote_58 : decode cX6_startNote 58 = .ok (.ireturn, 1) := by decide +kernel
set_option maxRecDepth 20000 in
theorem ggX6_advance_X6_closeGates : GoodIn wsX6_advance wsX6_closeGates := goodIn_r _ [11, 12, 13, 14, 10, 15, 16, 17, 18, 19, 20, 21, 22, 23, 24, 25, 26, 27, 28, 29, 30, 205, 206, 207, 208, 209, 210, 211, 212, 213, 214, 215, 216, 224, 225, 226, 227, 228, 229, 230, 231, 232, 233, 234] (by decide +kernel) (by decide +kernel)
set_option maxRecDepth 20000 in
theorem gX6_advance_X6_closeGates : GoodIn wsX6_advance (wsV RX6 84 RX6 yX6_closeGates wsX6_closeGates) := goodIn_app (goodIn_of _ (by decide +kernel)) ggX6_advance_X6_closeGates
set_option maxRecDepth 20000 in
theorem ggX6_advance_X6_startStep : GoodIn wsX6_advance wsX6_startStep := goodIn_r _ [34, 4, 35, 36, 2, 37, 38, 39, 40, 41, 42, 43, 44, 45, 46, 47, 48, 49, 50, 51, 52, 53, 54, 55, 56, 57, 58, 59, 60, 61, 62, 63, 64, 65, 66, 67, 68, 69, 10, 70, 71, 72, 73, 74, 75, 76, 77, 12, 13, 14, 15, 16, 17, 18, 19, 78, 79, 80, 23, 81, 30, 82, 83, 84, 85, 86, 87, 88, 89, 90, 91, 92, 93, 94, 25, 95, 96, 97, 98, 205, 206, 207, 208, 209, 210, 211, 212, 213, 214, 215, 216, 217, 218, 219, 220, 221, 222, 223, 235, 236, 237, 238, 239, 240, 241, 224, 225, 226, 227, 228, 229, 230, 231, 232, 233, 234] (by decide +kernel) (by decide +kernel)
set_option maxRecDepth 20000 in
theorem gX6_advance_X6_startStep : GoodIn wsX6_advance (wsV RX6 87 RX6 yX6_startStep wsX6_startStep) := goodIn_app (goodIn_of _ (by decide +kernel)) ggX6_advance_X6_startStep
set_option maxRecDepth 20000 in
theorem ggX6_advance_X6_mixVoices : GoodIn wsX6_advance wsX6_mixVoices := goodIn_r _ [102, 4, 103, 104, 6, 12, 13, 14, 10, 15, 16, 17, 18, 19, 105, 106, 107, 108, 109, 110, 111, 112, 113, 114, 115, 116, 23, 117, 30, 97, 94, 82, 118, 119, 120, 121, 122, 123, 124, 125, 126, 127, 128, 129, 130, 131, 132, 133, 134, 95, 135, 96, 93, 136, 137, 138, 139, 140, 141, 142, 143, 144, 145, 51, 52, 53, 54, 55, 146, 147, 148, 149, 150, 151, 152, 153, 154, 155, 156, 157, 158, 159, 160, 161, 162, 163, 164, 165, 166, 98, 167, 168, 169, 170, 171, 172, 173, 174, 175, 176, 205, 206, 207, 208, 209, 210, 211, 212, 213, 214, 215, 216, 224, 225, 226, 227, 228, 229, 230, 231, 232, 233, 234, 217, 218, 219, 220, 221, 222, 223, 242, 243, 244, 245, 246, 247, 248, 249, 250, 251, 252, 253, 254, 241] (by decide +kernel) (by decide +kernel)
set_option maxRecDepth 20000 in
theorem gX6_advance_X6_mixVoices : GoodIn wsX6_advance (wsV RX6 90 RX6 yX6_mixVoices wsX6_mixVoices) := goodIn_app (goodIn_of _ (by decide +kernel)) ggX6_advance_X6_mixVoices
set_option maxRecDepth 20000 in
theorem ggX6_advance_X0_pass : GoodIn wsX6_advance wsX0_pass := goodIn_r _ [181, 182, 183, 184, 185, 186, 187, 188, 51, 52, 53, 54, 55, 168, 128, 169, 170, 171, 172, 173, 174, 175, 176, 189, 190, 191, 192, 255, 256, 257, 258, 259, 241] (by decide +kernel) (by decide +kernel)
set_option maxRecDepth 20000 in
theorem gX6_advance_X0_pass : GoodIn wsX6_advance (wsV RX6 98 RX0 yX0_pass wsX0_pass) := goodIn_app (goodIn_of _ (by decide +kernel)) ggX6_advance_X0_pass
set_option maxRecDepth 20000 in
theorem ggX6_advance_X6_countGates : GoodIn wsX6_advance wsX6_countGates := goodIn_r _ [196, 12, 13, 14, 10, 15, 16, 17, 18, 19, 197, 198, 199, 23, 200, 25, 205, 206, 207, 208, 209, 210, 211, 212, 213, 214, 215, 216, 224, 225, 226, 227, 228, 229, 230, 231, 232, 233, 234] (by decide +kernel) (by decide +kernel)
set_option maxRecDepth 20000 in
theorem gX6_advance_X6_countGates : GoodIn wsX6_advance (wsV RX6 102 RX6 yX6_countGates wsX6_countGates) := goodIn_app (goodIn_of _ (by decide +kernel)) ggX6_advance_X6_countGates
set_option maxRecDepth 20000 in
theorem ggX6_advance_X6_countStep : GoodIn wsX6_advance wsX6_countStep := goodIn_r _ [204, 2, 36, 205, 206, 207, 208, 209, 210, 211, 212, 213, 214, 215, 216] (by decide +kernel) (by decide +kernel)
set_option maxRecDepth 20000 in
theorem gX6_advance_X6_countStep : GoodIn wsX6_advance (wsV RX6 105 RX6 yX6_countStep wsX6_countStep) := goodIn_app (goodIn_of _ (by decide +kernel)) ggX6_advance_X6_countStep
theorem dX6_advance_0 : decode cX6_advance 0 = .ok (.aload_n 0, 1) := by decide +kernel
theorem dX6_advance_1 : decode cX6_advance 1 = .ok (.invokevirtual 84, 3) := by decide +kernel
theorem dX6_advance_4 : decode cX6_advance 4 = .ok (.aload_n 0, 1) := by decide +kernel
theorem dX6_advance_5 : decode cX6_advance 5 = .ok (.getfield 59, 3) := by decide +kernel
theorem dX6_advance_8 : decode cX6_advance 8 = .ok (.ifCond .eq 14, 3) := by decide +kernel
theorem dX6_advance_11 : decode cX6_advance 11 = .ok (.aload_n 0, 1) := by decide +kernel
theorem dX6_advance_12 : decode cX6_advance 12 = .ok (.getfield 66, 3) := by decide +kernel
theorem dX6_advance_15 : decode cX6_advance 15 = .ok (.ifCond .ne 7, 3) := by decide +kernel
theorem dX6_advance_18 : decode cX6_advance 18 = .ok (.aload_n 0, 1) := by decide +kernel
theorem dX6_advance_19 : decode cX6_advance 19 = .ok (.invokevirtual 87, 3) := by decide +kernel
theorem dX6_advance_22 : decode cX6_advance 22 = .ok (.aload_n 0, 1) := by decide +kernel
theorem dX6_advance_23 : decode cX6_advance 23 = .ok (.getfield 12, 3) := by decide +kernel
theorem dX6_advance_26 : decode cX6_advance 26 = .ok (.aload_n 0, 1) := by decide +kernel
theorem dX6_advance_27 : decode cX6_advance 27 = .ok (.invokevirtual 90, 3) := by decide +kernel
theorem dX6_advance_30 : decode cX6_advance 30 = .ok (.aload_n 0, 1) := by decide +kernel
theorem dX6_advance_31 : decode cX6_advance 31 = .ok (.getfield 34, 3) := by decide +kernel
theorem dX6_advance_34 : decode cX6_advance 34 = .ok (.getfield 93, 3) := by decide +kernel
theorem dX6_advance_37 : decode cX6_advance 37 = .ok (.imul, 1) := by decide +kernel
theorem dX6_advance_38 : decode cX6_advance 38 = .ok (.bipush 16, 2) := by decide +kernel
theorem dX6_advance_40 : decode cX6_advance 40 = .ok (.idiv, 1) := by decide +kernel
theorem dX6_advance_41 : decode cX6_advance 41 = .ok (.invokevirtual 98, 3) := by decide +kernel
theorem dX6_advance_44 : decode cX6_advance 44 = .ok (.istore_n 1, 1) := by decide +kernel
theorem dX6_advance_45 : decode cX6_advance 45 = .ok (.aload_n 0, 1) := by decide +kernel
theorem dX6_advance_46 : decode cX6_advance 46 = .ok (.invokevirtual 102, 3) := by decide +kernel
theorem dX6_advance_49 : decode cX6_advance 49 = .ok (.aload_n 0, 1) := by decide +kernel
theorem dX6_advance_50 : decode cX6_advance 50 = .ok (.getfield 59, 3) := by decide +kernel
theorem dX6_advance_53 : decode cX6_advance 53 = .ok (.ifCond .eq 7, 3) := by decide +kernel
theorem dX6_advance_56 : decode cX6_advance 56 = .ok (.aload_n 0, 1) := by decide +kernel
theorem dX6_advance_57 : decode cX6_advance 57 = .ok (.invokevirtual 105, 3) := by decide +kernel
theorem dX6_advance_60 : decode cX6_advance 60 = .ok (.aload_n 0, 1) := by decide +kernel
theorem dX6_advance_61 : decode cX6_advance 61 = .ok (.dup, 1) := by decide +kernel
theorem dX6_advance_62 : decode cX6_advance 62 = .ok (.getfield 49, 3) := by decide +kernel
theorem dX6_advance_65 : decode cX6_advance 65 = .ok (.iconst 1, 1) := by decide +kernel
theorem dX6_advance_66 : decode cX6_advance 66 = .ok (.iadd, 1) := by decide +kernel
theorem dX6_advance_67 : decode cX6_advance 67 = .ok (.putfield 49, 3) := by decide +kernel
theorem dX6_advance_70 : decode cX6_advance 70 = .ok (.iload_n 1, 1) := by decide +kernel
theorem dX6_advance_71 : decode cX6_advance 71 = .ok (.ireturn, 1) := by decide +kernel
set_option maxRecDepth 20000 in
theorem ggX6_closeGates_X6_voiceOf : GoodIn wsX6_closeGates wsX6_voiceOf := goodIn_r _ [5, 6, 7, 8, 9, 21, 22, 23, 24, 25, 26, 27, 28, 29, 30, 31, 32] (by decide +kernel) (by decide +kernel)
set_option maxRecDepth 20000 in
theorem gX6_closeGates_X6_voiceOf : GoodIn wsX6_closeGates (wsV RX6 38 RX6 yX6_voiceOf wsX6_voiceOf) := goodIn_app (goodIn_of _ (by decide +kernel)) ggX6_closeGates_X6_voiceOf
set_option maxRecDepth 20000 in
theorem ggX6_closeGates_X7_closeGate : GoodIn wsX6_closeGates wsX7_closeGate := goodIn_r _ [14, 15, 16, 17, 18, 13, 19, 20, 33, 34, 35, 36, 37, 38, 39, 40, 41, 42, 43] (by decide +kernel) (by decide +kernel)
set_option maxRecDepth 20000 in
theorem gX6_closeGates_X7_closeGate : GoodIn wsX6_closeGates (wsV RX6 108 RX7 yX7_closeGate wsX7_closeGate) := goodIn_app (goodIn_of _ (by decide +kernel)) ggX6_closeGates_X7_closeGate
theorem dX6_closeGates_0 : decode cX6_closeGates 0 = .ok (.iconst 0, 1) := by decide +kernel
theorem dX6_closeGates_1 : decode cX6_closeGates 1 = .ok (.istore_n 1, 1) := by decide +kernel
theorem dX6_closeGates_2 : decode cX6_closeGates 2 = .ok (.iload_n 1, 1) := by decide +kernel
theorem dX6_closeGates_3 : decode cX6_closeGates 3 = .ok (.iconst 4, 1) := by decide +kernel
theorem dX6_closeGates_4 : decode cX6_closeGates 4 = .ok (.if_icmp .ge 17, 3) := by decide +kernel
theorem dX6_closeGates_7 : decode cX6_closeGates 7 = .ok (.aload_n 0, 1) := by decide +kernel
theorem dX6_closeGates_8 : decode cX6_closeGates 8 = .ok (.iload_n 1, 1) := by decide +kernel
theorem dX6_closeGates_9 : decode cX6_closeGates 9 = .ok (.invokevirtual 38, 3) := by decide +kernel
theorem dX6_closeGates_12 : decode cX6_closeGates 12 = .ok (.invokevirtual 108, 3) := by decide +kernel
theorem dX6_closeGates_15 : decode cX6_closeGates 15 = .ok (.iinc 1 1, 3) := by decide +kernel
theorem dX6_closeGates_18 : decode cX6_closeGates 18 = .ok (.goto (-16), 3) := by decide +kernel
theorem dX6_closeGates_21 : decode cX6_closeGates 21 = .ok (.return_, 1) := by decide +kernel
set_option maxRecDepth 20000 in
theorem ggX6_countGates_X6_voiceOf : GoodIn wsX6_countGates wsX6_voiceOf := goodIn_r _ [5, 6, 7, 8, 9, 16, 17, 18, 19, 20, 21, 22, 23, 24, 25, 26, 27] (by decide +kernel) (by decide +kernel)
set_option maxRecDepth 20000 in
theorem gX6_countGates_X6_voiceOf : GoodIn wsX6_countGates (wsV RX6 38 RX6 yX6_voiceOf wsX6_voiceOf) := goodIn_app (goodIn_of _ (by decide +kernel)) ggX6_countGates_X6_voiceOf
set_option maxRecDepth 20000 in
theorem ggX6_countGates_X7_countGate : GoodIn wsX6_countGates wsX7_countGate := goodIn_r _ [14, 15, 28, 29, 30, 31, 32, 33, 34, 35, 36, 37, 38] (by decide +kernel) (by decide +kernel)
set_option maxRecDepth 20000 in
theorem gX6_countGates_X7_countGate : GoodIn wsX6_countGates (wsV RX6 111 RX7 yX7_countGate wsX7_countGate) := goodIn_app (goodIn_of _ (by decide +kernel)) ggX6_countGates_X7_countGate
theorem dX6_countGates_0 : decode cX6_countGates 0 = .ok (.iconst 0, 1) := by decide +kernel
theorem dX6_countGates_1 : decode cX6_countGates 1 = .ok (.istore_n 1, 1) := by decide +kernel
theorem dX6_countGates_2 : decode cX6_countGates 2 = .ok (.iload_n 1, 1) := by decide +kernel
theorem dX6_countGates_3 : decode cX6_countGates 3 = .ok (.iconst 4, 1) := by decide +kernel
theorem dX6_countGates_4 : decode cX6_countGates 4 = .ok (.if_icmp .ge 17, 3) := by decide +kernel
theorem dX6_countGates_7 : decode cX6_countGates 7 = .ok (.aload_n 0, 1) := by decide +kernel
theorem dX6_countGates_8 : decode cX6_countGates 8 = .ok (.iload_n 1, 1) := by decide +kernel
theorem dX6_countGates_9 : decode cX6_countGates 9 = .ok (.invokevirtual 38, 3) := by decide +kernel
theorem dX6_countGates_12 : decode cX6_countGates 12 = .ok (.invokevirtual 111, 3) := by decide +kernel
theorem dX6_countGates_15 : decode cX6_countGates 15 = .ok (.iinc 1 1, 3) := by decide +kernel
theorem dX6_countGates_18 : decode cX6_countGates 18 = .ok (.goto (-16), 3) := by decide +kernel
theorem dX6_countGates_21 : decode cX6_countGates 21 = .ok (.return_, 1) := by decide +kernel
set_option maxRecDepth 20000 in
theorem ggX6_startStep_X4_lengthOf : GoodIn wsX6_startStep wsX4_lengthOf := goodIn_r _ [10, 11, 12, 98, 99, 100, 101, 102, 103] (by decide +kernel) (by decide +kernel)
set_option maxRecDepth 20000 in
theorem gX6_startStep_X4_lengthOf : GoodIn wsX6_startStep (wsV RX6 118 RX4 yX4_lengthOf wsX4_lengthOf) := goodIn_app (goodIn_of _ (by decide +kernel)) ggX6_startStep_X4_lengthOf
set_option maxRecDepth 20000 in
theorem ggX6_startStep_X4_pitchOf : GoodIn wsX6_startStep wsX4_pitchOf := goodIn_r _ [16, 17, 18, 19, 20, 21, 22, 23, 98, 99, 100, 101, 102, 103, 104] (by decide +kernel) (by decide +kernel)
set_option maxRecDepth 20000 in
theorem gX6_startStep_X4_pitchOf : GoodIn wsX6_startStep (wsV RX6 123 RX4 yX4_pitchOf wsX4_pitchOf) := goodIn_app (goodIn_of _ (by decide +kernel)) ggX6_startStep_X4_pitchOf
set_option maxRecDepth 20000 in
theorem ggX6_startStep_X3_get : GoodIn wsX6_startStep wsX3_get := goodIn_r _ [22, 23, 104] (by decide +kernel) (by decide +kernel)
set_option maxRecDepth 20000 in
theorem gX6_startStep_X3_get : GoodIn wsX6_startStep (wsV RX6 131 RX3 yX3_get wsX3_get) := goodIn_app (goodIn_of _ (by decide +kernel)) ggX6_startStep_X3_get
set_option maxRecDepth 20000 in
theorem ggX6_startStep_X4_forceOf : GoodIn wsX6_startStep wsX4_forceOf := goodIn_r _ [28, 29, 18, 19, 20, 21, 22, 23, 98, 99, 100, 101, 102, 103, 104] (by decide +kernel) (by decide +kernel)
set_option maxRecDepth 20000 in
theorem gX6_startStep_X4_forceOf : GoodIn wsX6_startStep (wsV RX6 136 RX4 yX4_forceOf wsX4_forceOf) := goodIn_app (goodIn_of _ (by decide +kernel)) ggX6_startStep_X4_forceOf
set_option maxRecDepth 20000 in
theorem ggX6_startStep_X4_gateOf : GoodIn wsX6_startStep wsX4_gateOf := goodIn_r _ [33, 34, 18, 19, 20, 21, 22, 23, 98, 99, 100, 101, 102, 103, 104] (by decide +kernel) (by decide +kernel)
set_option maxRecDepth 20000 in
theorem gX6_startStep_X4_gateOf : GoodIn wsX6_startStep (wsV RX6 139 RX4 yX4_gateOf wsX4_gateOf) := goodIn_app (goodIn_of _ (by decide +kernel)) ggX6_startStep_X4_gateOf
set_option maxRecDepth 20000 in
theorem ggX6_startStep_X6_startNote : GoodIn wsX6_startStep wsX6_startNote := goodIn_r _ [39, 40, 41, 42, 43, 44, 45, 38, 46, 47, 48, 49, 50, 51, 52, 53, 54, 55, 56, 57, 58, 59, 60, 61, 62, 63, 64, 65, 66, 67, 68, 69, 70, 71, 72, 73, 74, 75, 76, 77, 78, 105, 106, 107, 108, 109, 110, 111, 112, 113, 114, 115, 79, 80, 81, 82, 83, 84, 85, 86, 87, 88, 89, 90] (by decide +kernel) (by decide +kernel)
set_option maxRecDepth 20000 in
theorem gX6_startStep_X6_startNote : GoodIn wsX6_startStep (wsV RX6 142 RX6 yX6_startNote wsX6_startNote) := goodIn_app (goodIn_of _ (by decide +kernel)) ggX6_startStep_X6_startNote
theorem dX6_startStep_0 : decode cX6_startStep 0 = .ok (.aload_n 0, 1) := by decide +kernel
theorem dX6_startStep_1 : decode cX6_startStep 1 = .ok (.getfield 34, 3) := by decide +kernel
theorem dX6_startStep_4 : decode cX6_startStep 4 = .ok (.getfield 114, 3) := by decide +kernel
theorem dX6_startStep_7 : decode cX6_startStep 7 = .ok (.astore_n 1, 1) := by decide +kernel
theorem dX6_startStep_8 : decode cX6_startStep 8 = .ok (.aload_n 0, 1) := by decide +kernel
theorem dX6_startStep_9 : decode cX6_startStep 9 = .ok (.aload_n 1, 1) := by decide +kernel
theorem dX6_startStep_10 : decode cX6_startStep 10 = .ok (.aload_n 0, 1) := by decide +kernel
theorem dX6_startStep_11 : decode cX6_startStep 11 = .ok (.getfield 63, 3) := by decide +kernel
theorem dX6_startStep_14 : decode cX6_startStep 14 = .ok (.invokevirtual 118, 3) := by decide +kernel
theorem dX6_startStep_17 : decode cX6_startStep 17 = .ok (.putfield 66, 3) := by decide +kernel
theorem dX6_startStep_20 : decode cX6_startStep 20 = .ok (.iconst 0, 1) := by decide +kernel
theorem dX6_startStep_21 : decode cX6_startStep 21 = .ok (.istore_n 2, 1) := by decide +kernel
theorem dX6_startStep_22 : decode cX6_startStep 22 = .ok (.iload_n 2, 1) := by decide +kernel
theorem dX6_startStep_23 : decode cX6_startStep 23 = .ok (.iconst 3, 1) := by decide +kernel
theorem dX6_startStep_24 : decode cX6_startStep 24 = .ok (.if_icmp .ge 60, 3) := by decide +kernel
theorem dX6_startStep_27 : decode cX6_startStep 27 = .ok (.aload_n 1, 1) := by decide +kernel
theorem dX6_startStep_28 : decode cX6_startStep 28 = .ok (.iload_n 2, 1) := by decide +kernel
theorem dX6_startStep_29 : decode cX6_startStep 29 = .ok (.aload_n 0, 1) := by decide +kernel
theorem dX6_startStep_30 : decode cX6_startStep 30 = .ok (.getfield 63, 3) := by decide +kernel
theorem dX6_startStep_33 : decode cX6_startStep 33 = .ok (.invokevirtual 123, 3) := by decide +kernel
theorem dX6_startStep_36 : decode cX6_startStep 36 = .ok (.istore_n 3, 1) := by decide +kernel
theorem dX6_startStep_37 : decode cX6_startStep 37 = .ok (.iload_n 3, 1) := by decide +kernel
theorem dX6_startStep_38 : decode cX6_startStep 38 = .ok (.iconst (-1), 1) := by decide +kernel
theorem dX6_startStep_39 : decode cX6_startStep 39 = .ok (.if_icmp .eq 39, 3) := by decide +kernel
theorem dX6_startStep_42 : decode cX6_startStep 42 = .ok (.aload_n 1, 1) := by decide +kernel
theorem dX6_startStep_43 : decode cX6_startStep 43 = .ok (.getfield 127, 3) := by decide +kernel
theorem dX6_startStep_46 : decode cX6_startStep 46 = .ok (.iload_n 2, 1) := by decide +kernel
theorem dX6_startStep_47 : decode cX6_startStep 47 = .ok (.invokevirtual 131, 3) := by decide +kernel
theorem dX6_startStep_50 : decode cX6_startStep 50 = .ok (.istore 4, 2) := by decide +kernel
theorem dX6_startStep_52 : decode cX6_startStep 52 = .ok (.aload_n 0, 1) := by decide +kernel
theorem dX6_startStep_53 : decode cX6_startStep 53 = .ok (.iload 4, 2) := by decide +kernel
theorem dX6_startStep_55 : decode cX6_startStep 55 = .ok (.iload_n 3, 1) := by decide +kernel
theorem dX6_startStep_56 : decode cX6_startStep 56 = .ok (.aload_n 1, 1) := by decide +kernel
theorem dX6_startStep_57 : decode cX6_startStep 57 = .ok (.iload_n 2, 1) := by decide +kernel
theorem dX6_startStep_58 : decode cX6_startStep 58 = .ok (.aload_n 0, 1) := by decide +kernel
theorem dX6_startStep_59 : decode cX6_startStep 59 = .ok (.getfield 63, 3) := by decide +kernel
theorem dX6_startStep_62 : decode cX6_startStep 62 = .ok (.invokevirtual 136, 3) := by decide +kernel
theorem dX6_startStep_65 : decode cX6_startStep 65 = .ok (.aload_n 1, 1) := by decide +kernel
theorem dX6_startStep_66 : decode cX6_startStep 66 = .ok (.iload_n 2, 1) := by decide +kernel
theorem dX6_startStep_67 : decode cX6_startStep 67 = .ok (.aload_n 0, 1) := by decide +kernel
theorem dX6_startStep_68 : decode cX6_startStep 68 = .ok (.getfield 63, 3) := by decide +kernel
theorem dX6_startStep_71 : decode cX6_startStep 71 = .ok (.invokevirtual 139, 3) := by decide +kernel
theorem dX6_startStep_74 : decode cX6_startStep 74 = .ok (.invokevirtual 142, 3) := by decide +kernel
theorem dX6_startStep_77 : decode cX6_startStep 77 = .ok (.pop, 1) := by decide +kernel
theorem dX6_startStep_78 : decode cX6_startStep 78 = .ok (.iinc 2 1, 3) := by decide +kernel
theorem dX6_startStep_81 : decode cX6_startStep 81 = .ok (.goto (-59), 3) := by decide +kernel
theorem dX6_startStep_84 : decode cX6_startStep 84 = .ok (.return_, 1) := by decide +kernel
theorem dX6_countStep_0 : decode cX6_countStep 0 = .ok (.aload_n 0, 1) := by decide +kernel
theorem dX6_countStep_1 : decode cX6_countStep 1 = .ok (.dup, 1) := by decide +kernel
theorem dX6_countStep_2 : decode cX6_countStep 2 = .ok (.getfield 66, 3) := by decide +kernel
theorem dX6_countStep_5 : decode cX6_countStep 5 = .ok (.iconst 1, 1) := by decide +kernel
theorem dX6_countStep_6 : decode cX6_countStep 6 = .ok (.isub, 1) := by decide +kernel
theorem dX6_countStep_7 : decode cX6_countStep 7 = .ok (.putfield 66, 3) := by decide +kernel
theorem dX6_countStep_10 : decode cX6_countStep 10 = .ok (.aload_n 0, 1) := by decide +kernel
theorem dX6_countStep_11 : decode cX6_countStep 11 = .ok (.getfield 66, 3) := by decide +kernel
theorem dX6_countStep_14 : decode cX6_countStep 14 = .ok (.ifCond .ne 16, 3) := by decide +kernel
theorem dX6_countStep_17 : decode cX6_countStep 17 = .ok (.aload_n 0, 1) := by decide +kernel
theorem dX6_countStep_18 : decode cX6_countStep 18 = .ok (.aload_n 0, 1) := by decide +kernel
theorem dX6_countStep_19 : decode cX6_countStep 19 = .ok (.getfield 63, 3) := by decide +kernel
theorem dX6_countStep_22 : decode cX6_countStep 22 = .ok (.iconst 1, 1) := by decide +kernel
theorem dX6_countStep_23 : decode cX6_countStep 23 = .ok (.iadd, 1) := by decide +kernel
theorem dX6_countStep_24 : decode cX6_countStep 24 = .ok (.bipush 8, 2) := by decide +kernel
theorem dX6_countStep_26 : decode cX6_countStep 26 = .ok (.irem, 1) := by decide +kernel
theorem dX6_countStep_27 : decode cX6_countStep 27 = .ok (.putfield 63, 3) := by decide +kernel
theorem dX6_countStep_30 : decode cX6_countStep 30 = .ok (.return_, 1) := by decide +kernel
set_option maxRecDepth 20000 in
theorem ggX6_mixVoices_X6_voiceOf : GoodIn wsX6_mixVoices wsX6_voiceOf := goodIn_r _ [9, 10, 11, 12, 13, 100, 101, 102, 103, 104, 105, 106, 107, 108, 109, 110, 111] (by decide +kernel) (by decide +kernel)
set_option maxRecDepth 20000 in
theorem gX6_mixVoices_X6_voiceOf : GoodIn wsX6_mixVoices (wsV RX6 38 RX6 yX6_voiceOf wsX6_voiceOf) := goodIn_app (goodIn_of _ (by decide +kernel)) ggX6_mixVoices_X6_voiceOf
set_option maxRecDepth 20000 in
theorem ggX6_mixVoices_X5_instrumentOf : GoodIn wsX6_mixVoices wsX5_instrumentOf := goodIn_r _ [18, 19, 20, 21, 22, 123, 124, 125, 126, 127, 128, 129] (by decide +kernel) (by decide +kernel)
set_option maxRecDepth 20000 in
theorem gX6_mixVoices_X5_instrumentOf : GoodIn wsX6_mixVoices (wsV RX6 149 RX5 yX5_instrumentOf wsX5_instrumentOf) := goodIn_app (goodIn_of _ (by decide +kernel)) ggX6_mixVoices_X5_instrumentOf
set_option maxRecDepth 20000 in
theorem ggX6_mixVoices_X7_give : GoodIn wsX6_mixVoices wsX7_give := goodIn_r _ [27, 28, 29, 30, 31, 32, 33, 34, 26, 35, 36, 37, 38, 39, 40, 41, 42, 43, 44, 45, 46, 47, 48, 49, 50, 51, 52, 53, 54, 55, 56, 57, 58, 59, 60, 61, 62, 63, 64, 65, 66, 67, 68, 69, 70, 71, 72, 73, 74, 75, 76, 77, 78, 79, 80, 81, 82, 83, 84, 85, 86, 87, 88, 89, 90, 91, 92, 93, 94, 95, 96, 97, 98, 99, 112, 113, 114, 115, 116, 117, 118, 119, 120, 121, 122, 130, 131, 132, 133, 134, 135, 136, 137, 138, 139, 140, 141, 142, 143] (by decide +kernel) (by decide +kernel)
set_option maxRecDepth 20000 in
theorem gX6_mixVoices_X7_give : GoodIn wsX6_mixVoices (wsV RX6 157 RX7 yX7_give wsX7_give) := goodIn_app (goodIn_of _ (by decide +kernel)) ggX6_mixVoices_X7_give
theorem dX6_mixVoices_0 : decode cX6_mixVoices 0 = .ok (.iconst 0, 1) := by decide +kernel
theorem dX6_mixVoices_1 : decode cX6_mixVoices 1 = .ok (.istore_n 1, 1) := by decide +kernel
theorem dX6_mixVoices_2 : decode cX6_mixVoices 2 = .ok (.iconst 0, 1) := by decide +kernel
theorem dX6_mixVoices_3 : decode cX6_mixVoices 3 = .ok (.istore_n 2, 1) := by decide +kernel
theorem dX6_mixVoices_4 : decode cX6_mixVoices 4 = .ok (.iload_n 2, 1) := by decide +kernel
theorem dX6_mixVoices_5 : decode cX6_mixVoices 5 = .ok (.iconst 4, 1) := by decide +kernel
theorem dX6_mixVoices_6 : decode cX6_mixVoices 6 = .ok (.if_icmp .ge 44, 3) := by decide +kernel
theorem dX6_mixVoices_9 : decode cX6_mixVoices 9 = .ok (.aload_n 0, 1) := by decide +kernel
theorem dX6_mixVoices_10 : decode cX6_mixVoices 10 = .ok (.iload_n 2, 1) := by decide +kernel
theorem dX6_mixVoices_11 : decode cX6_mixVoices 11 = .ok (.invokevirtual 38, 3) := by decide +kernel
theorem dX6_mixVoices_14 : decode cX6_mixVoices 14 = .ok (.astore_n 3, 1) := by decide +kernel
theorem dX6_mixVoices_15 : decode cX6_mixVoices 15 = .ok (.iload_n 1, 1) := by decide +kernel
theorem dX6_mixVoices_16 : decode cX6_mixVoices 16 = .ok (.aload_n 3, 1) := by decide +kernel
theorem dX6_mixVoices_17 : decode cX6_mixVoices 17 = .ok (.aload_n 0, 1) := by decide +kernel
theorem dX6_mixVoices_18 : decode cX6_mixVoices 18 = .ok (.getfield 34, 3) := by decide +kernel
theorem dX6_mixVoices_21 : decode cX6_mixVoices 21 = .ok (.aload_n 3, 1) := by decide +kernel
theorem dX6_mixVoices_22 : decode cX6_mixVoices 22 = .ok (.getfield 146, 3) := by decide +kernel
theorem dX6_mixVoices_25 : decode cX6_mixVoices 25 = .ok (.invokevirtual 149, 3) := by decide +kernel
theorem dX6_mixVoices_28 : decode cX6_mixVoices 28 = .ok (.aload_n 0, 1) := by decide +kernel
theorem dX6_mixVoices_29 : decode cX6_mixVoices 29 = .ok (.getfield 34, 3) := by decide +kernel
theorem dX6_mixVoices_32 : decode cX6_mixVoices 32 = .ok (.getfield 153, 3) := by decide +kernel
theorem dX6_mixVoices_35 : decode cX6_mixVoices 35 = .ok (.aload_n 0, 1) := by decide +kernel
theorem dX6_mixVoices_36 : decode cX6_mixVoices 36 = .ok (.getfield 49, 3) := by decide +kernel
theorem dX6_mixVoices_39 : decode cX6_mixVoices 39 = .ok (.invokevirtual 157, 3) := by decide +kernel
theorem dX6_mixVoices_42 : decode cX6_mixVoices 42 = .ok (.iadd, 1) := by decide +kernel
theorem dX6_mixVoices_43 : decode cX6_mixVoices 43 = .ok (.istore_n 1, 1) := by decide +kernel
theorem dX6_mixVoices_44 : decode cX6_mixVoices 44 = .ok (.iinc 2 1, 3) := by decide +kernel
theorem dX6_mixVoices_47 : decode cX6_mixVoices 47 = .ok (.goto (-43), 3) := by decide +kernel
theorem dX6_mixVoices_50 : decode cX6_mixVoices 50 = .ok (.iload_n 1, 1) := by decide +kernel
theorem dX6_mixVoices_51 : decode cX6_mixVoices 51 = .ok (.ireturn, 1) := by decide +kernel
theorem dX7_init_0 : decode cX7_init 0 = .ok (.aload_n 0, 1) := by decide +kernel
theorem dX7_init_1 : decode cX7_init 1 = .ok (.invokespecial 3, 3) := by decide +kernel
theorem dX7_init_4 : decode cX7_init 4 = .ok (.aload_n 0, 1) := by decide +kernel
theorem dX7_init_5 : decode cX7_init 5 = .ok (.iconst 0, 1) := by decide +kernel
theorem dX7_init_6 : decode cX7_init 6 = .ok (.putfield 9, 3) := by decide +kernel
theorem dX7_init_9 : decode cX7_init 9 = .ok (.aload_n 0, 1) := by decide +kernel
theorem dX7_init_10 : decode cX7_init 10 = .ok (.iconst (-1), 1) := by decide +kernel
theorem dX7_init_11 : decode cX7_init 11 = .ok (.putfield 15, 3) := by decide +kernel
theorem dX7_init_14 : decode cX7_init 14 = .ok (.return_, 1) := by decide +kernel
theorem dX7_copy_0 : decode cX7_copy 0 = .ok (.aload_n 0, 1) := by decide +kernel
theorem dX7_copy_1 : decode cX7_copy 1 = .ok (.aload_n 1, 1) := by decide +kernel
theorem dX7_copy_2 : decode cX7_copy 2 = .ok (.getfield 9, 3) := by decide +kernel
theorem dX7_copy_5 : decode cX7_copy 5 = .ok (.putfield 9, 3) := by decide +kernel
theorem dX7_copy_8 : decode cX7_copy 8 = .ok (.aload_n 0, 1) := by decide +kernel
theorem dX7_copy_9 : decode cX7_copy 9 = .ok (.aload_n 1, 1) := by decide +kernel
theorem dX7_copy_10 : decode cX7_copy 10 = .ok (.getfield 18, 3) := by decide +kernel
theorem dX7_copy_13 : decode cX7_copy 13 = .ok (.putfield 18, 3) := by decide +kernel
theorem dX7_copy_16 : decode cX7_copy 16 = .ok (.aload_n 0, 1) := by decide +kernel
theorem dX7_copy_17 : decode cX7_copy 17 = .ok (.aload_n 1, 1) := by decide +kernel
theorem dX7_copy_18 : decode cX7_copy 18 = .ok (.getfield 21, 3) := by decide +kernel
theorem dX7_copy_21 : decode cX7_copy 21 = .ok (.putfield 21, 3) := by decide +kernel
theorem dX7_copy_24 : decode cX7_copy 24 = .ok (.aload_n 0, 1) := by decide +kernel
theorem dX7_copy_25 : decode cX7_copy 25 = .ok (.aload_n 1, 1) := by decide +kernel
theorem dX7_copy_26 : decode cX7_copy 26 = .ok (.getfield 24, 3) := by decide +kernel
theorem dX7_copy_29 : decode cX7_copy 29 = .ok (.putfield 24, 3) := by decide +kernel
theorem dX7_copy_32 : decode cX7_copy 32 = .ok (.aload_n 0, 1) := by decide +kernel
theorem dX7_copy_33 : decode cX7_copy 33 = .ok (.aload_n 1, 1) := by decide +kernel
theorem dX7_copy_34 : decode cX7_copy 34 = .ok (.getfield 27, 3) := by decide +kernel
theorem dX7_copy_37 : decode cX7_copy 37 = .ok (.putfield 27, 3) := by decide +kernel
theorem dX7_copy_40 : decode cX7_copy 40 = .ok (.aload_n 0, 1) := by decide +kernel
theorem dX7_copy_41 : decode cX7_copy 41 = .ok (.aload_n 1, 1) := by decide +kernel
theorem dX7_copy_42 : decode cX7_copy 42 = .ok (.getfield 30, 3) := by decide +kernel
theorem dX7_copy_45 : decode cX7_copy 45 = .ok (.putfield 30, 3) := by decide +kernel
theorem dX7_copy_48 : decode cX7_copy 48 = .ok (.aload_n 0, 1) := by decide +kernel
theorem dX7_copy_49 : decode cX7_copy 49 = .ok (.aload_n 1, 1) := by decide +kernel
theorem dX7_copy_50 : decode cX7_copy 50 = .ok (.getfield 33, 3) := by decide +kernel
theorem dX7_copy_53 : decode cX7_copy 53 = .ok (.putfield 33, 3) := by decide +kernel
theorem dX7_copy_56 : decode cX7_copy 56 = .ok (.aload_n 0, 1) := by decide +kernel
theorem dX7_copy_57 : decode cX7_copy 57 = .ok (.aload_n 1, 1) := by decide +kernel
theorem dX7_copy_58 : decode cX7_copy 58 = .ok (.getfield 36, 3) := by decide +kernel
theorem dX7_copy_61 : decode cX7_copy 61 = .ok (.putfield 36, 3) := by decide +kernel
theorem dX7_copy_64 : decode cX7_copy 64 = .ok (.aload_n 0, 1) := by decide +kernel
theorem dX7_copy_65 : decode cX7_copy 65 = .ok (.aload_n 1, 1) := by decide +kernel
theorem dX7_copy_66 : decode cX7_copy 66 = .ok (.getfield 39, 3) := by decide +kernel
theorem dX7_copy_69 : decode cX7_copy 69 = .ok (.putfield 39, 3) := by decide +kernel
theorem dX7_copy_72 : decode cX7_copy 72 = .ok (.aload_n 0, 1) := by decide +kernel
theorem dX7_copy_73 : decode cX7_copy 73 = .ok (.aload_n 1, 1) := by decide +kernel
theorem dX7_copy_74 : decode cX7_copy 74 = .ok (.getfield 15, 3) := by decide +kernel
theorem dX7_copy_77 : decode cX7_copy 77 = .ok (.putfield 15, 3) := by decide +kernel
theorem dX7_copy_80 : decode cX7_copy 80 = .ok (.aload_n 0, 1) := by decide +kernel
theorem dX7_copy_81 : decode cX7_copy 81 = .ok (.aload_n 1, 1) := by decide +kernel
theorem dX7_copy_82 : decode cX7_copy 82 = .ok (.getfield 42, 3) := by decide +kernel
theorem dX7_copy_85 : decode cX7_copy 85 = .ok (.putfield 42, 3) := by decide +kernel
theorem dX7_copy_88 : decode cX7_copy 88 = .ok (.return_, 1) := by decide +kernel
theorem dX7_start_0 : decode cX7_start 0 = .ok (.aload_n 0, 1) := by decide +kernel
theorem dX7_start_1 : decode cX7_start 1 = .ok (.iconst 1, 1) := by decide +kernel
theorem dX7_start_2 : decode cX7_start 2 = .ok (.putfield 9, 3) := by decide +kernel
theorem dX7_start_5 : decode cX7_start 5 = .ok (.aload_n 0, 1) := by decide +kernel
theorem dX7_start_6 : decode cX7_start 6 = .ok (.iload_n 1, 1) := by decide +kernel
theorem dX7_start_7 : decode cX7_start 7 = .ok (.putfield 21, 3) := by decide +kernel
theorem dX7_start_10 : decode cX7_start 10 = .ok (.aload_n 0, 1) := by decide +kernel
theorem dX7_start_11 : decode cX7_start 11 = .ok (.iload_n 2, 1) := by decide +kernel
theorem dX7_start_12 : decode cX7_start 12 = .ok (.putfield 24, 3) := by decide +kernel
theorem dX7_start_15 : decode cX7_start 15 = .ok (.aload_n 0, 1) := by decide +kernel
theorem dX7_start_16 : decode cX7_start 16 = .ok (.iload_n 3, 1) := by decide +kernel
theorem dX7_start_17 : decode cX7_start 17 = .ok (.putfield 27, 3) := by decide +kernel
theorem dX7_start_20 : decode cX7_start 20 = .ok (.aload_n 0, 1) := by decide +kernel
theorem dX7_start_21 : decode cX7_start 21 = .ok (.iload 4, 2) := by decide +kernel
theorem dX7_start_23 : decode cX7_start 23 = .ok (.putfield 15, 3) := by decide +kernel
theorem dX7_start_26 : decode cX7_start 26 = .ok (.aload_n 0, 1) := by decide +kernel
theorem dX7_start_27 : decode cX7_start 27 = .ok (.iload 5, 2) := by decide +kernel
theorem dX7_start_29 : decode cX7_start 29 = .ok (.putfield 42, 3) := by decide +kernel
theorem dX7_start_32 : decode cX7_start 32 = .ok (.aload_n 0, 1) := by decide +kernel
theorem dX7_start_33 : decode cX7_start 33 = .ok (.iconst 0, 1) := by decide +kernel
theorem dX7_start_34 : decode cX7_start 34 = .ok (.putfield 30, 3) := by decide +kernel
theorem dX7_start_37 : decode cX7_start 37 = .ok (.aload_n 0, 1) := by decide +kernel
theorem dX7_start_38 : decode cX7_start 38 = .ok (.iconst 0, 1) := by decide +kernel
theorem dX7_start_39 : decode cX7_start 39 = .ok (.putfield 33, 3) := by decide +kernel
theorem dX7_start_42 : decode cX7_start 42 = .ok (.aload_n 0, 1) := by decide +kernel
theorem dX7_start_43 : decode cX7_start 43 = .ok (.iconst 0, 1) := by decide +kernel
theorem dX7_start_44 : decode cX7_start 44 = .ok (.putfield 36, 3) := by decide +kernel
theorem dX7_start_47 : decode cX7_start 47 = .ok (.aload_n 0, 1) := by decide +kernel
theorem dX7_start_48 : decode cX7_start 48 = .ok (.iconst 0, 1) := by decide +kernel
theorem dX7_start_49 : decode cX7_start 49 = .ok (.putfield 39, 3) := by decide +kernel
theorem dX7_start_52 : decode cX7_start 52 = .ok (.return_, 1) := by decide +kernel
theorem dX7_release_0 : decode cX7_release 0 = .ok (.aload_n 0, 1) := by decide +kernel
theorem dX7_release_1 : decode cX7_release 1 = .ok (.getfield 9, 3) := by decide +kernel
theorem dX7_release_4 : decode cX7_release 4 = .ok (.ifCond .eq 8, 3) := by decide +kernel
theorem dX7_release_7 : decode cX7_release 7 = .ok (.aload_n 0, 1) := by decide +kernel
theorem dX7_release_8 : decode cX7_release 8 = .ok (.iconst 4, 1) := by decide +kernel
theorem dX7_release_9 : decode cX7_release 9 = .ok (.putfield 9, 3) := by decide +kernel
theorem dX7_release_12 : decode cX7_release 12 = .ok (.return_, 1) := by decide +kernel
theorem dX7_silence_0 : decode cX7_silence 0 = .ok (.aload_n 0, 1) := by decide +kernel
theorem dX7_silence_1 : decode cX7_silence 1 = .ok (.iconst 0, 1) := by decide +kernel
theorem dX7_silence_2 : decode cX7_silence 2 = .ok (.putfield 9, 3) := by decide +kernel
theorem dX7_silence_5 : decode cX7_silence 5 = .ok (.aload_n 0, 1) := by decide +kernel
theorem dX7_silence_6 : decode cX7_silence 6 = .ok (.iconst 0, 1) := by decide +kernel
theorem dX7_silence_7 : decode cX7_silence 7 = .ok (.putfield 18, 3) := by decide +kernel
theorem dX7_silence_10 : decode cX7_silence 10 = .ok (.aload_n 0, 1) := by decide +kernel
theorem dX7_silence_11 : decode cX7_silence 11 = .ok (.iconst (-1), 1) := by decide +kernel
theorem dX7_silence_12 : decode cX7_silence 12 = .ok (.putfield 15, 3) := by decide +kernel
theorem dX7_silence_15 : decode cX7_silence 15 = .ok (.return_, 1) := by decide +kernel
set_option maxRecDepth 20000 in
theorem ggX7_closeGate_X7_release : GoodIn wsX7_closeGate wsX7_release := goodIn_r _ [6, 7, 8, 9, 10, 11, 12, 13, 14, 15, 16, 17, 18] (by decide +kernel) (by decide +kernel)
set_option maxRecDepth 20000 in
theorem gX7_closeGate_X7_release : GoodIn wsX7_closeGate (wsV RX7 45 RX7 yX7_release wsX7_release) := goodIn_app (goodIn_of _ (by decide +kernel)) ggX7_closeGate_X7_release
theorem dX7_closeGate_0 : decode cX7_closeGate 0 = .ok (.aload_n 0, 1) := by decide +kernel
theorem dX7_closeGate_1 : decode cX7_closeGate 1 = .ok (.getfield 15, 3) := by decide +kernel
theorem dX7_closeGate_4 : decode cX7_closeGate 4 = .ok (.ifCond .ne 12, 3) := by decide +kernel
theorem dX7_closeGate_7 : decode cX7_closeGate 7 = .ok (.aload_n 0, 1) := by decide +kernel
theorem dX7_closeGate_8 : decode cX7_closeGate 8 = .ok (.invokevirtual 45, 3) := by decide +kernel
theorem dX7_closeGate_11 : decode cX7_closeGate 11 = .ok (.aload_n 0, 1) := by decide +kernel
theorem dX7_closeGate_12 : decode cX7_closeGate 12 = .ok (.iconst (-1), 1) := by decide +kernel
theorem dX7_closeGate_13 : decode cX7_closeGate 13 = .ok (.putfield 15, 3) := by decide +kernel
theorem dX7_closeGate_16 : decode cX7_closeGate 16 = .ok (.return_, 1) := by decide +kernel
theorem dX7_countGate_0 : decode cX7_countGate 0 = .ok (.aload_n 0, 1) := by decide +kernel
theorem dX7_countGate_1 : decode cX7_countGate 1 = .ok (.getfield 15, 3) := by decide +kernel
theorem dX7_countGate_4 : decode cX7_countGate 4 = .ok (.ifCond .le 13, 3) := by decide +kernel
theorem dX7_countGate_7 : decode cX7_countGate 7 = .ok (.aload_n 0, 1) := by decide +kernel
theorem dX7_countGate_8 : decode cX7_countGate 8 = .ok (.dup, 1) := by decide +kernel
theorem dX7_countGate_9 : decode cX7_countGate 9 = .ok (.getfield 15, 3) := by decide +kernel
theorem dX7_countGate_12 : decode cX7_countGate 12 = .ok (.iconst 1, 1) := by decide +kernel
theorem dX7_countGate_13 : decode cX7_countGate 13 = .ok (.isub, 1) := by decide +kernel
theorem dX7_countGate_14 : decode cX7_countGate 14 = .ok (.putfield 15, 3) := by decide +kernel
theorem dX7_countGate_17 : decode cX7_countGate 17 = .ok (.return_, 1) := by decide +kernel
set_option maxRecDepth 20000 in
theorem ggX7_isTakenBefore_X7_rankToTake : GoodIn wsX7_isTakenBefore wsX7_rankToTake := goodIn_r _ [8, 1, 9, 10, 11, 12, 13, 14, 15, 16, 17, 18, 19] (by decide +kernel) (by decide +kernel)
set_option maxRecDepth 20000 in
theorem gX7_isTakenBefore_X7_rankToTake : GoodIn wsX7_isTakenBefore (wsV RX7 48 RX7 yX7_rankToTake wsX7_rankToTake) := goodIn_app (goodIn_of _ (by decide +kernel)) ggX7_isTakenBefore_X7_rankToTake
theorem dX7_isTakenBefore_0 : decode cX7_isTakenBefore 0 = .ok (.aload_n 0, 1) := by decide +kernel
theorem dX7_isTakenBefore_1 : decode cX7_isTakenBefore 1 = .ok (.invokevirtual 48, 3) := by decide +kernel
theorem dX7_isTakenBefore_4 : decode cX7_isTakenBefore 4 = .ok (.istore_n 2, 1) := by decide +kernel
theorem dX7_isTakenBefore_5 : decode cX7_isTakenBefore 5 = .ok (.aload_n 1, 1) := by decide +kernel
theorem dX7_isTakenBefore_6 : decode cX7_isTakenBefore 6 = .ok (.invokevirtual 48, 3) := by decide +kernel
theorem dX7_isTakenBefore_9 : decode cX7_isTakenBefore 9 = .ok (.istore_n 3, 1) := by decide +kernel
theorem dX7_isTakenBefore_10 : decode cX7_isTakenBefore 10 = .ok (.iload_n 2, 1) := by decide +kernel
theorem dX7_isTakenBefore_11 : decode cX7_isTakenBefore 11 = .ok (.iload_n 3, 1) := by decide +kernel
theorem dX7_isTakenBefore_12 : decode cX7_isTakenBefore 12 = .ok (.if_icmp .eq 14, 3) := by decide +kernel
theorem dX7_isTakenBefore_15 : decode cX7_isTakenBefore 15 = .ok (.iload_n 2, 1) := by decide +kernel
theorem dX7_isTakenBefore_16 : decode cX7_isTakenBefore 16 = .ok (.iload_n 3, 1) := by decide +kernel
theorem dX7_isTakenBefore_17 : decode cX7_isTakenBefore 17 = .ok (.if_icmp .ge 7, 3) := by decide +kernel
theorem dX7_isTakenBefore_20 : decode cX7_isTakenBefore 20 = .ok (.iconst 1, 1) := by decide +kernel
theorem dX7_isTakenBefore_21 : decode cX7_isTakenBefore 21 = .ok (.goto 4, 3) := by decide +kernel
theorem dX7_isTakenBefore_24 : decode cX7_isTakenBefore 24 = .ok (.iconst 0, 1) := by decide +kernel
theorem dX7_isTakenBefore_25 : decode cX7_isTakenBefore 25 = .ok (.ireturn, 1) := by decide +kernel
theorem dX7_isTakenBefore_26 : decode cX7_isTakenBefore 26 = .ok (.aload_n 0, 1) := by decide +kernel
theorem dX7_isTakenBefore_27 : decode cX7_isTakenBefore 27 = .ok (.getfield 9, 3) := by decide +kernel
theorem dX7_isTakenBefore_30 : decode cX7_isTakenBefore 30 = .ok (.iconst 4, 1) := by decide +kernel
theorem dX7_isTakenBefore_31 : decode cX7_isTakenBefore 31 = .ok (.if_icmp .ne 20, 3) := by decide +kernel
theorem dX7_isTakenBefore_34 : decode cX7_isTakenBefore 34 = .ok (.aload_n 0, 1) := by decide +kernel
theorem dX7_isTakenBefore_35 : decode cX7_isTakenBefore 35 = .ok (.getfield 18, 3) := by decide +kernel
theorem dX7_isTakenBefore_38 : decode cX7_isTakenBefore 38 = .ok (.aload_n 1, 1) := by decide +kernel
theorem dX7_isTakenBefore_39 : decode cX7_isTakenBefore 39 = .ok (.getfield 18, 3) := by decide +kernel
theorem dX7_isTakenBefore_42 : decode cX7_isTakenBefore 42 = .ok (.if_icmp .ge 7, 3) := by decide +kernel
theorem dX7_isTakenBefore_45 : decode cX7_isTakenBefore 45 = .ok (.iconst 1, 1) := by decide +kernel
theorem dX7_isTakenBefore_46 : decode cX7_isTakenBefore 46 = .ok (.goto 4, 3) := by decide +kernel
theorem dX7_isTakenBefore_49 : decode cX7_isTakenBefore 49 = .ok (.iconst 0, 1) := by decide +kernel
theorem dX7_isTakenBefore_50 : decode cX7_isTakenBefore 50 = .ok (.ireturn, 1) := by decide +kernel
theorem dX7_isTakenBefore_51 : decode cX7_isTakenBefore 51 = .ok (.aload_n 0, 1) := by decide +kernel
theorem dX7_isTakenBefore_52 : decode cX7_isTakenBefore 52 = .ok (.getfield 9, 3) := by decide +kernel
theorem dX7_isTakenBefore_55 : decode cX7_isTakenBefore 55 = .ok (.ifCond .eq 18, 3) := by decide +kernel
theorem dX7_isTakenBefore_58 : decode cX7_isTakenBefore 58 = .ok (.aload_n 0, 1) := by decide +kernel
theorem dX7_isTakenBefore_59 : decode cX7_isTakenBefore 59 = .ok (.getfield 42, 3) := by decide +kernel
theorem dX7_isTakenBefore_62 : decode cX7_isTakenBefore 62 = .ok (.aload_n 1, 1) := by decide +kernel
theorem dX7_isTakenBefore_63 : decode cX7_isTakenBefore 63 = .ok (.getfield 42, 3) := by decide +kernel
theorem dX7_isTakenBefore_66 : decode cX7_isTakenBefore 66 = .ok (.if_icmp .ge 7, 3) := by decide +kernel
theorem dX7_isTakenBefore_69 : decode cX7_isTakenBefore 69 = .ok (.iconst 1, 1) := by decide +kernel
theorem dX7_isTakenBefore_70 : decode cX7_isTakenBefore 70 = .ok (.goto 4, 3) := by decide +kernel
theorem dX7_isTakenBefore_73 : decode cX7_isTakenBefore 73 = .ok (.iconst 0, 1) := by decide +kernel
theorem dX7_isTakenBefore_74 : decode cX7_isTakenBefore 74 = .ok (.ireturn, 1) := by decide +kernel
theorem dX7_rankToTake_0 : decode cX7_rankToTake 0 = .ok (.aload_n 0, 1) := by decide +kernel
theorem dX7_rankToTake_1 : decode cX7_rankToTake 1 = .ok (.getfield 9, 3) := by decide +kernel
theorem dX7_rankToTake_4 : decode cX7_rankToTake 4 = .ok (.lookupswitch 32 #[(0, 28), (4, 30)], 28) := by decide +kernel
theorem dX7_rankToTake_32 : decode cX7_rankToTake 32 = .ok (.iconst 0, 1) := by decide +kernel
theorem dX7_rankToTake_33 : decode cX7_rankToTake 33 = .ok (.ireturn, 1) := by decide +kernel
theorem dX7_rankToTake_34 : decode cX7_rankToTake 34 = .ok (.iconst 1, 1) := by decide +kernel
theorem dX7_rankToTake_35 : decode cX7_rankToTake 35 = .ok (.ireturn, 1) := by decide +kernel
theorem dX7_rankToTake_36 : decode cX7_rankToTake 36 = .ok (.iconst 2, 1) := by decide +kernel
theorem dX7_rankToTake_37 : decode cX7_rankToTake 37 = .ok (.ireturn, 1) := by decide +kernel
set_option maxRecDepth 20000 in
theorem ggX7_give_X7_moveLevel : GoodIn wsX7_give wsX7_moveLevel := goodIn_r _ [9, 10, 1, 4, 11, 12, 13, 14, 15, 16, 17, 85, 86, 87, 88, 89, 90, 91, 92, 93, 94, 95, 96, 74, 75, 76, 77, 78, 79, 80, 81, 82, 83, 84] (by decide +kernel) (by decide +kernel)
set_option maxRecDepth 20000 in
theorem gX7_give_X7_moveLevel : GoodIn wsX7_give (wsV RX7 52 RX7 yX7_moveLevel wsX7_moveLevel) := goodIn_app (goodIn_of _ (by decide +kernel)) ggX7_give_X7_moveLevel
set_option maxRecDepth 20000 in
theorem ggX7_give_X7_oscillate : GoodIn wsX7_give wsX7_oscillate := goodIn_r _ [21, 22, 23, 24, 25, 26, 27, 28, 29, 30, 31, 32, 33, 34, 35, 36, 37, 38, 39, 40, 41, 42, 16, 43, 44, 45, 46, 47, 48, 49, 50, 51, 52, 15, 17, 53, 54, 55, 56, 57, 85, 86, 87, 88, 89, 90, 91, 92, 93, 94, 95, 96, 74, 75, 76, 77, 78, 79, 80, 81, 82, 83, 84, 97, 98] (by decide +kernel) (by decide +kernel)
set_option maxRecDepth 20000 in
theorem gX7_give_X7_oscillate : GoodIn wsX7_give (wsV RX7 56 RX7 yX7_oscillate wsX7_oscillate) := goodIn_app (goodIn_of _ (by decide +kernel)) ggX7_give_X7_oscillate
set_option maxRecDepth 20000 in
theorem ggX7_give_X7_filter : GoodIn wsX7_give wsX7_filter := goodIn_r _ [61, 2, 62, 63, 64, 65, 16, 66, 67, 68, 69, 70, 71, 72, 73, 74, 75, 76, 77, 78, 79, 80, 81, 82, 83, 84, 85, 86, 87, 88, 89, 90, 91, 92, 93, 94, 95, 96] (by decide +kernel) (by decide +kernel)
set_option maxRecDepth 20000 in
theorem gX7_give_X7_filter : GoodIn wsX7_give (wsV RX7 60 RX7 yX7_filter wsX7_filter) := goodIn_app (goodIn_of _ (by decide +kernel)) ggX7_give_X7_filter
theorem dX7_give_0 : decode cX7_give 0 = .ok (.aload_n 0, 1) := by decide +kernel
theorem dX7_give_1 : decode cX7_give 1 = .ok (.aload_n 1, 1) := by decide +kernel
theorem dX7_give_2 : decode cX7_give 2 = .ok (.invokevirtual 52, 3) := by decide +kernel
theorem dX7_give_5 : decode cX7_give 5 = .ok (.aload_n 0, 1) := by decide +kernel
theorem dX7_give_6 : decode cX7_give 6 = .ok (.getfield 9, 3) := by decide +kernel
theorem dX7_give_9 : decode cX7_give 9 = .ok (.ifCond .ne 5, 3) := by decide +kernel
theorem dX7_give_12 : decode cX7_give 12 = .ok (.iconst 0, 1) := by decide +kernel
theorem dX7_give_13 : decode cX7_give 13 = .ok (.ireturn, 1) := by decide +kernel
theorem dX7_give_14 : decode cX7_give 14 = .ok (.aload_n 0, 1) := by decide +kernel
theorem dX7_give_15 : decode cX7_give 15 = .ok (.aload_n 1, 1) := by decide +kernel
theorem dX7_give_16 : decode cX7_give 16 = .ok (.aload_n 0, 1) := by decide +kernel
theorem dX7_give_17 : decode cX7_give 17 = .ok (.aload_n 1, 1) := by decide +kernel
theorem dX7_give_18 : decode cX7_give 18 = .ok (.aload_n 2, 1) := by decide +kernel
theorem dX7_give_19 : decode cX7_give 19 = .ok (.iload_n 3, 1) := by decide +kernel
theorem dX7_give_20 : decode cX7_give 20 = .ok (.invokevirtual 56, 3) := by decide +kernel
theorem dX7_give_23 : decode cX7_give 23 = .ok (.invokevirtual 60, 3) := by decide +kernel
theorem dX7_give_26 : decode cX7_give 26 = .ok (.aload_n 0, 1) := by decide +kernel
theorem dX7_give_27 : decode cX7_give 27 = .ok (.getfield 36, 3) := by decide +kernel
theorem dX7_give_30 : decode cX7_give 30 = .ok (.aload_n 0, 1) := by decide +kernel
theorem dX7_give_31 : decode cX7_give 31 = .ok (.getfield 27, 3) := by decide +kernel
theorem dX7_give_34 : decode cX7_give 34 = .ok (.imul, 1) := by decide +kernel
theorem dX7_give_35 : decode cX7_give 35 = .ok (.bipush 127, 2) := by decide +kernel
theorem dX7_give_37 : decode cX7_give 37 = .ok (.idiv, 1) := by decide +kernel
theorem dX7_give_38 : decode cX7_give 38 = .ok (.aload_n 0, 1) := by decide +kernel
theorem dX7_give_39 : decode cX7_give 39 = .ok (.getfield 18, 3) := by decide +kernel
theorem dX7_give_42 : decode cX7_give 42 = .ok (.sipush 1000, 3) := by decide +kernel
theorem dX7_give_45 : decode cX7_give 45 = .ok (.idiv, 1) := by decide +kernel
theorem dX7_give_46 : decode cX7_give 46 = .ok (.imul, 1) := by decide +kernel
theorem dX7_give_47 : decode cX7_give 47 = .ok (.sipush 1000, 3) := by decide +kernel
theorem dX7_give_50 : decode cX7_give 50 = .ok (.idiv, 1) := by decide +kernel
theorem dX7_give_51 : decode cX7_give 51 = .ok (.ireturn, 1) := by decide +kernel
set_option maxRecDepth 20000 in
theorem ggX7_moveLevel_X9_quotient : GoodIn wsX7_moveLevel wsX9_quotient := goodIn_r _ [10] (by decide +kernel) (by decide +kernel)
set_option maxRecDepth 20000 in
theorem gX7_moveLevel_X9_quotient_n73 : GoodIn wsX7_moveLevel (wsX9_quotient) := ggX7_moveLevel_X9_quotient
theorem dX7_moveLevel_0 : decode cX7_moveLevel 0 = .ok (.sipush 1000, 3) := by decide +kernel
theorem dX7_moveLevel_3 : decode cX7_moveLevel 3 = .ok (.aload_n 1, 1) := by decide +kernel
theorem dX7_moveLevel_4 : decode cX7_moveLevel 4 = .ok (.getfield 64, 3) := by decide +kernel
theorem dX7_moveLevel_7 : decode cX7_moveLevel 7 = .ok (.imul, 1) := by decide +kernel
theorem dX7_moveLevel_8 : decode cX7_moveLevel 8 = .ok (.istore_n 2, 1) := by decide +kernel
theorem dX7_moveLevel_9 : decode cX7_moveLevel 9 = .ok (.aload_n 0, 1) := by decide +kernel
theorem dX7_moveLevel_10 : decode cX7_moveLevel 10 = .ok (.getfield 9, 3) := by decide +kernel
theorem dX7_moveLevel_13 : decode cX7_moveLevel 13 = .ok (.tableswitch 161 1 4 #[31, 72, 115, 123], 31) := by decide +kernel
theorem dX7_moveLevel_44 : decode cX7_moveLevel 44 = .ok (.aload_n 0, 1) := by decide +kernel
theorem dX7_moveLevel_45 : decode cX7_moveLevel 45 = .ok (.dup, 1) := by decide +kernel
theorem dX7_moveLevel_46 : decode cX7_moveLevel 46 = .ok (.getfield 18, 3) := by decide +kernel
theorem dX7_moveLevel_49 : decode cX7_moveLevel 49 = .ok (.ldc 69, 2) := by decide +kernel
theorem dX7_moveLevel_51 : decode cX7_moveLevel 51 = .ok (.aload_n 1, 1) := by decide +kernel
theorem dX7_moveLevel_52 : decode cX7_moveLevel 52 = .ok (.getfield 70, 3) := by decide +kernel
theorem dX7_moveLevel_55 : decode cX7_moveLevel 55 = .ok (.invokestatic 73, 3) := by decide +kernel
theorem dX7_moveLevel_58 : decode cX7_moveLevel 58 = .ok (.iadd, 1) := by decide +kernel
theorem dX7_moveLevel_59 : decode cX7_moveLevel 59 = .ok (.putfield 18, 3) := by decide +kernel
theorem dX7_moveLevel_62 : decode cX7_moveLevel 62 = .ok (.aload_n 0, 1) := by decide +kernel
theorem dX7_moveLevel_63 : decode cX7_moveLevel 63 = .ok (.getfield 18, 3) := by decide +kernel
theorem dX7_moveLevel_66 : decode cX7_moveLevel 66 = .ok (.ldc 69, 2) := by decide +kernel
theorem dX7_moveLevel_68 : decode cX7_moveLevel 68 = .ok (.if_icmp .lt 106, 3) := by decide +kernel
theorem dX7_moveLevel_71 : decode cX7_moveLevel 71 = .ok (.aload_n 0, 1) := by decide +kernel
theorem dX7_moveLevel_72 : decode cX7_moveLevel 72 = .ok (.ldc 69, 2) := by decide +kernel
theorem dX7_moveLevel_74 : decode cX7_moveLevel 74 = .ok (.putfield 18, 3) := by decide +kernel
theorem dX7_moveLevel_77 : decode cX7_moveLevel 77 = .ok (.aload_n 0, 1) := by decide +kernel
theorem dX7_moveLevel_78 : decode cX7_moveLevel 78 = .ok (.iconst 2, 1) := by decide +kernel
theorem dX7_moveLevel_79 : decode cX7_moveLevel 79 = .ok (.putfield 9, 3) := by decide +kernel
theorem dX7_moveLevel_82 : decode cX7_moveLevel 82 = .ok (.goto 92, 3) := by decide +kernel
theorem dX7_moveLevel_85 : decode cX7_moveLevel 85 = .ok (.aload_n 0, 1) := by decide +kernel
theorem dX7_moveLevel_86 : decode cX7_moveLevel 86 = .ok (.dup, 1) := by decide +kernel
theorem dX7_moveLevel_87 : decode cX7_moveLevel 87 = .ok (.getfield 18, 3) := by decide +kernel
theorem dX7_moveLevel_90 : decode cX7_moveLevel 90 = .ok (.ldc 69, 2) := by decide +kernel
theorem dX7_moveLevel_92 : decode cX7_moveLevel 92 = .ok (.iload_n 2, 1) := by decide +kernel
theorem dX7_moveLevel_93 : decode cX7_moveLevel 93 = .ok (.isub, 1) := by decide +kernel
theorem dX7_moveLevel_94 : decode cX7_moveLevel 94 = .ok (.aload_n 1, 1) := by decide +kernel
theorem dX7_moveLevel_95 : decode cX7_moveLevel 95 = .ok (.getfield 77, 3) := by decide +kernel
theorem dX7_moveLevel_98 : decode cX7_moveLevel 98 = .ok (.invokestatic 73, 3) := by decide +kernel
theorem dX7_moveLevel_101 : decode cX7_moveLevel 101 = .ok (.iconst 1, 1) := by decide +kernel
theorem dX7_moveLevel_102 : decode cX7_moveLevel 102 = .ok (.iadd, 1) := by decide +kernel
theorem dX7_moveLevel_103 : decode cX7_moveLevel 103 = .ok (.isub, 1) := by decide +kernel
theorem dX7_moveLevel_104 : decode cX7_moveLevel 104 = .ok (.putfield 18, 3) := by decide +kernel
theorem dX7_moveLevel_107 : decode cX7_moveLevel 107 = .ok (.aload_n 0, 1) := by decide +kernel
theorem dX7_moveLevel_108 : decode cX7_moveLevel 108 = .ok (.getfield 18, 3) := by decide +kernel
theorem dX7_moveLevel_111 : decode cX7_moveLevel 111 = .ok (.iload_n 2, 1) := by decide +kernel
theorem dX7_moveLevel_112 : decode cX7_moveLevel 112 = .ok (.if_icmp .gt 62, 3) := by decide +kernel
theorem dX7_moveLevel_115 : decode cX7_moveLevel 115 = .ok (.aload_n 0, 1) := by decide +kernel
theorem dX7_moveLevel_116 : decode cX7_moveLevel 116 = .ok (.iload_n 2, 1) := by decide +kernel
theorem dX7_moveLevel_117 : decode cX7_moveLevel 117 = .ok (.putfield 18, 3) := by decide +kernel
theorem dX7_moveLevel_120 : decode cX7_moveLevel 120 = .ok (.aload_n 0, 1) := by decide +kernel
theorem dX7_moveLevel_121 : decode cX7_moveLevel 121 = .ok (.iconst 3, 1) := by decide +kernel
theorem dX7_moveLevel_122 : decode cX7_moveLevel 122 = .ok (.putfield 9, 3) := by decide +kernel
theorem dX7_moveLevel_125 : decode cX7_moveLevel 125 = .ok (.goto 49, 3) := by decide +kernel
theorem dX7_moveLevel_128 : decode cX7_moveLevel 128 = .ok (.aload_n 0, 1) := by decide +kernel
theorem dX7_moveLevel_129 : decode cX7_moveLevel 129 = .ok (.iload_n 2, 1) := by decide +kernel
theorem dX7_moveLevel_130 : decode cX7_moveLevel 130 = .ok (.putfield 18, 3) := by decide +kernel
theorem dX7_moveLevel_133 : decode cX7_moveLevel 133 = .ok (.goto 41, 3) := by decide +kernel
theorem dX7_moveLevel_136 : decode cX7_moveLevel 136 = .ok (.aload_n 0, 1) := by decide +kernel
theorem dX7_moveLevel_137 : decode cX7_moveLevel 137 = .ok (.dup, 1) := by decide +kernel
theorem dX7_moveLevel_138 : decode cX7_moveLevel 138 = .ok (.getfield 18, 3) := by decide +kernel
theorem dX7_moveLevel_141 : decode cX7_moveLevel 141 = .ok (.ldc 69, 2) := by decide +kernel
theorem dX7_moveLevel_143 : decode cX7_moveLevel 143 = .ok (.aload_n 1, 1) := by decide +kernel
theorem dX7_moveLevel_144 : decode cX7_moveLevel 144 = .ok (.getfield 80, 3) := by decide +kernel
theorem dX7_moveLevel_147 : decode cX7_moveLevel 147 = .ok (.invokestatic 73, 3) := by decide +kernel
theorem dX7_moveLevel_150 : decode cX7_moveLevel 150 = .ok (.isub, 1) := by decide +kernel
theorem dX7_moveLevel_151 : decode cX7_moveLevel 151 = .ok (.putfield 18, 3) := by decide +kernel
theorem dX7_moveLevel_154 : decode cX7_moveLevel 154 = .ok (.aload_n 0, 1) := by decide +kernel
theorem dX7_moveLevel_155 : decode cX7_moveLevel 155 = .ok (.getfield 18, 3) := by decide +kernel
theorem dX7_moveLevel_158 : decode cX7_moveLevel 158 = .ok (.ifCond .gt 16, 3) := by decide +kernel
theorem dX7_moveLevel_161 : decode cX7_moveLevel 161 = .ok (.aload_n 0, 1) := by decide +kernel
theorem dX7_moveLevel_162 : decode cX7_moveLevel 162 = .ok (.iconst 0, 1) := by decide +kernel
theorem dX7_moveLevel_163 : decode cX7_moveLevel 163 = .ok (.putfield 18, 3) := by decide +kernel
theorem dX7_moveLevel_166 : decode cX7_moveLevel 166 = .ok (.aload_n 0, 1) := by decide +kernel
theorem dX7_moveLevel_167 : decode cX7_moveLevel 167 = .ok (.iconst 0, 1) := by decide +kernel
theorem dX7_moveLevel_168 : decode cX7_moveLevel 168 = .ok (.putfield 9, 3) := by decide +kernel
theorem dX7_moveLevel_171 : decode cX7_moveLevel 171 = .ok (.goto 3, 3) := by decide +kernel
theorem dX7_moveLevel_174 : decode cX7_moveLevel 174 = .ok (.return_, 1) := by decide +kernel
set_option maxRecDepth 20000 in
theorem ggX7_oscillate_X8_at : GoodIn wsX7_oscillate wsX8_at := goodIn_r _ [13, 14, 15, 16, 17, 18, 19, 20, 63, 64] (by decide +kernel) (by decide +kernel)
set_option maxRecDepth 20000 in
theorem gX7_oscillate_X8_at : GoodIn wsX7_oscillate (wsV RX7 85 RX8 yX8_at wsX8_at) := goodIn_app (goodIn_of _ (by decide +kernel)) ggX7_oscillate_X8_at
set_option maxRecDepth 20000 in
theorem ggX7_oscillate_X9_strideOf : GoodIn wsX7_oscillate wsX9_strideOf := goodIn_r _ [23, 24] (by decide +kernel) (by decide +kernel)
set_option maxRecDepth 20000 in
theorem gX7_oscillate_X9_strideOf_n93 : GoodIn wsX7_oscillate (wsX9_strideOf) := ggX7_oscillate_X9_strideOf
set_option maxRecDepth 20000 in
theorem ggX7_oscillate_X1_vibratoAt : GoodIn wsX7_oscillate wsX1_vibratoAt := goodIn_r _ [29, 30, 31, 32, 33, 22, 34, 35, 10, 11, 12, 13, 14, 15, 16, 17, 18, 19, 20, 40, 41, 42, 43, 44, 45, 46, 47, 48, 49, 50, 51, 63, 64] (by decide +kernel) (by decide +kernel)
set_option maxRecDepth 20000 in
theorem gX7_oscillate_X1_vibratoAt : GoodIn wsX7_oscillate (wsV RX7 97 RX1 yX1_vibratoAt wsX1_vibratoAt) := goodIn_app (goodIn_of _ (by decide +kernel)) ggX7_oscillate_X1_vibratoAt
set_option maxRecDepth 20000 in
theorem ggX7_oscillate_J9_floorMod_7cf53 : GoodIn wsX7_oscillate wsJ9_floorMod_7cf53 := goodIn_r _ [39] (by decide +kernel) (by decide +kernel)
set_option maxRecDepth 20000 in
theorem gX7_oscillate_J9_floorMod_7cf53 : GoodIn wsX7_oscillate (va_wsS RX7 102 yJ9_floorMod_7cf53 wsJ9_floorMod_7cf53) := goodIn_app (goodIn_of _ (by decide +kernel)) ggX7_oscillate_J9_floorMod_7cf53
theorem dX7_oscillate_0 : decode cX7_oscillate 0 = .ok (.aload_n 2, 1) := by decide +kernel
theorem dX7_oscillate_1 : decode cX7_oscillate 1 = .ok (.aload_n 1, 1) := by decide +kernel
theorem dX7_oscillate_2 : decode cX7_oscillate 2 = .ok (.getfield 82, 3) := by decide +kernel
theorem dX7_oscillate_5 : decode cX7_oscillate 5 = .ok (.aload_n 0, 1) := by decide +kernel
theorem dX7_oscillate_6 : decode cX7_oscillate 6 = .ok (.getfield 30, 3) := by decide +kernel
theorem dX7_oscillate_9 : decode cX7_oscillate 9 = .ok (.invokevirtual 85, 3) := by decide +kernel
theorem dX7_oscillate_12 : decode cX7_oscillate 12 = .ok (.istore 4, 2) := by decide +kernel
theorem dX7_oscillate_14 : decode cX7_oscillate 14 = .ok (.aload_n 2, 1) := by decide +kernel
theorem dX7_oscillate_15 : decode cX7_oscillate 15 = .ok (.aload_n 1, 1) := by decide +kernel
theorem dX7_oscillate_16 : decode cX7_oscillate 16 = .ok (.getfield 90, 3) := by decide +kernel
theorem dX7_oscillate_19 : decode cX7_oscillate 19 = .ok (.aload_n 0, 1) := by decide +kernel
theorem dX7_oscillate_20 : decode cX7_oscillate 20 = .ok (.getfield 33, 3) := by decide +kernel
theorem dX7_oscillate_23 : decode cX7_oscillate 23 = .ok (.invokevirtual 85, 3) := by decide +kernel
theorem dX7_oscillate_26 : decode cX7_oscillate 26 = .ok (.istore 5, 2) := by decide +kernel
theorem dX7_oscillate_28 : decode cX7_oscillate 28 = .ok (.aload_n 0, 1) := by decide +kernel
theorem dX7_oscillate_29 : decode cX7_oscillate 29 = .ok (.getfield 24, 3) := by decide +kernel
theorem dX7_oscillate_32 : decode cX7_oscillate 32 = .ok (.invokestatic 93, 3) := by decide +kernel
theorem dX7_oscillate_35 : decode cX7_oscillate 35 = .ok (.aload_n 1, 1) := by decide +kernel
theorem dX7_oscillate_36 : decode cX7_oscillate 36 = .ok (.iload_n 3, 1) := by decide +kernel
theorem dX7_oscillate_37 : decode cX7_oscillate 37 = .ok (.aload_n 2, 1) := by decide +kernel
theorem dX7_oscillate_38 : decode cX7_oscillate 38 = .ok (.invokevirtual 97, 3) := by decide +kernel
theorem dX7_oscillate_41 : decode cX7_oscillate 41 = .ok (.iadd, 1) := by decide +kernel
theorem dX7_oscillate_42 : decode cX7_oscillate 42 = .ok (.istore 6, 2) := by decide +kernel
theorem dX7_oscillate_44 : decode cX7_oscillate 44 = .ok (.aload_n 0, 1) := by decide +kernel
theorem dX7_oscillate_45 : decode cX7_oscillate 45 = .ok (.aload_n 0, 1) := by decide +kernel
theorem dX7_oscillate_46 : decode cX7_oscillate 46 = .ok (.getfield 30, 3) := by decide +kernel
theorem dX7_oscillate_49 : decode cX7_oscillate 49 = .ok (.iload 6, 2) := by decide +kernel
theorem dX7_oscillate_51 : decode cX7_oscillate 51 = .ok (.iadd, 1) := by decide +kernel
theorem dX7_oscillate_52 : decode cX7_oscillate 52 = .ok (.ldc 101, 2) := by decide +kernel
theorem dX7_oscillate_54 : decode cX7_oscillate 54 = .ok (.invokestatic 102, 3) := by decide +kernel
theorem dX7_oscillate_57 : decode cX7_oscillate 57 = .ok (.putfield 30, 3) := by decide +kernel
theorem dX7_oscillate_60 : decode cX7_oscillate 60 = .ok (.aload_n 0, 1) := by decide +kernel
theorem dX7_oscillate_61 : decode cX7_oscillate 61 = .ok (.aload_n 0, 1) := by decide +kernel
theorem dX7_oscillate_62 : decode cX7_oscillate 62 = .ok (.getfield 33, 3) := by decide +kernel
theorem dX7_oscillate_65 : decode cX7_oscillate 65 = .ok (.iload 6, 2) := by decide +kernel
theorem dX7_oscillate_67 : decode cX7_oscillate 67 = .ok (.iadd, 1) := by decide +kernel
theorem dX7_oscillate_68 : decode cX7_oscillate 68 = .ok (.aload_n 1, 1) := by decide +kernel
theorem dX7_oscillate_69 : decode cX7_oscillate 69 = .ok (.getfield 107, 3) := by decide +kernel
theorem dX7_oscillate_72 : decode cX7_oscillate 72 = .ok (.iadd, 1) := by decide +kernel
theorem dX7_oscillate_73 : decode cX7_oscillate 73 = .ok (.ldc 101, 2) := by decide +kernel
theorem dX7_oscillate_75 : decode cX7_oscillate 75 = .ok (.invokestatic 102, 3) := by decide +kernel
theorem dX7_oscillate_78 : decode cX7_oscillate 78 = .ok (.putfield 33, 3) := by decide +kernel
theorem dX7_oscillate_81 : decode cX7_oscillate 81 = .ok (.iload 4, 2) := by decide +kernel
theorem dX7_oscillate_83 : decode cX7_oscillate 83 = .ok (.bipush 100, 2) := by decide +kernel
theorem dX7_oscillate_85 : decode cX7_oscillate 85 = .ok (.aload_n 1, 1) := by decide +kernel
theorem dX7_oscillate_86 : decode cX7_oscillate 86 = .ok (.getfield 110, 3) := by decide +kernel
theorem dX7_oscillate_89 : decode cX7_oscillate 89 = .ok (.isub, 1) := by decide +kernel
theorem dX7_oscillate_90 : decode cX7_oscillate 90 = .ok (.imul, 1) := by decide +kernel
theorem dX7_oscillate_91 : decode cX7_oscillate 91 = .ok (.iload 5, 2) := by decide +kernel
theorem dX7_oscillate_93 : decode cX7_oscillate 93 = .ok (.aload_n 1, 1) := by decide +kernel
theorem dX7_oscillate_94 : decode cX7_oscillate 94 = .ok (.getfield 110, 3) := by decide +kernel
theorem dX7_oscillate_97 : decode cX7_oscillate 97 = .ok (.imul, 1) := by decide +kernel
theorem dX7_oscillate_98 : decode cX7_oscillate 98 = .ok (.iadd, 1) := by decide +kernel
theorem dX7_oscillate_99 : decode cX7_oscillate 99 = .ok (.bipush 100, 2) := by decide +kernel
theorem dX7_oscillate_101 : decode cX7_oscillate 101 = .ok (.idiv, 1) := by decide +kernel
theorem dX7_oscillate_102 : decode cX7_oscillate 102 = .ok (.ireturn, 1) := by decide +kernel
set_option maxRecDepth 20000 in
theorem ggX7_filter_X9_kept : GoodIn wsX7_filter wsX9_kept := goodIn_r _ [7, 8, 9, 10, 11, 12, 13, 14] (by decide +kernel) (by decide +kernel)
set_option maxRecDepth 20000 in
theorem gX7_filter_X9_kept_n116 : GoodIn wsX7_filter (wsX9_kept) := ggX7_filter_X9_kept
theorem dX7_filter_0 : decode cX7_filter 0 = .ok (.aload_n 0, 1) := by decide +kernel
theorem dX7_filter_1 : decode cX7_filter 1 = .ok (.aload_n 0, 1) := by decide +kernel
theorem dX7_filter_2 : decode cX7_filter 2 = .ok (.getfield 36, 3) := by decide +kernel
theorem dX7_filter_5 : decode cX7_filter 5 = .ok (.aload_n 1, 1) := by decide +kernel
theorem dX7_filter_6 : decode cX7_filter 6 = .ok (.getfield 113, 3) := by decide +kernel
theorem dX7_filter_9 : decode cX7_filter 9 = .ok (.aload_n 0, 1) := by decide +kernel
theorem dX7_filter_10 : decode cX7_filter 10 = .ok (.getfield 39, 3) := by decide +kernel
theorem dX7_filter_13 : decode cX7_filter 13 = .ok (.imul, 1) := by decide +kernel
theorem dX7_filter_14 : decode cX7_filter 14 = .ok (.sipush 256, 3) := by decide +kernel
theorem dX7_filter_17 : decode cX7_filter 17 = .ok (.idiv, 1) := by decide +kernel
theorem dX7_filter_18 : decode cX7_filter 18 = .ok (.iadd, 1) := by decide +kernel
theorem dX7_filter_19 : decode cX7_filter 19 = .ok (.sipush 4000, 3) := by decide +kernel
theorem dX7_filter_22 : decode cX7_filter 22 = .ok (.invokestatic 116, 3) := by decide +kernel
theorem dX7_filter_25 : decode cX7_filter 25 = .ok (.putfield 36, 3) := by decide +kernel
theorem dX7_filter_28 : decode cX7_filter 28 = .ok (.iload_n 2, 1) := by decide +kernel
theorem dX7_filter_29 : decode cX7_filter 29 = .ok (.aload_n 0, 1) := by decide +kernel
theorem dX7_filter_30 : decode cX7_filter 30 = .ok (.getfield 36, 3) := by decide +kernel
theorem dX7_filter_33 : decode cX7_filter 33 = .ok (.isub, 1) := by decide +kernel
theorem dX7_filter_34 : decode cX7_filter 34 = .ok (.aload_n 1, 1) := by decide +kernel
theorem dX7_filter_35 : decode cX7_filter 35 = .ok (.getfield 119, 3) := by decide +kernel
theorem dX7_filter_38 : decode cX7_filter 38 = .ok (.aload_n 0, 1) := by decide +kernel
theorem dX7_filter_39 : decode cX7_filter 39 = .ok (.getfield 39, 3) := by decide +kernel
theorem dX7_filter_42 : decode cX7_filter 42 = .ok (.imul, 1) := by decide +kernel
theorem dX7_filter_43 : decode cX7_filter 43 = .ok (.sipush 256, 3) := by decide +kernel
theorem dX7_filter_46 : decode cX7_filter 46 = .ok (.idiv, 1) := by decide +kernel
theorem dX7_filter_47 : decode cX7_filter 47 = .ok (.isub, 1) := by decide +kernel
theorem dX7_filter_48 : decode cX7_filter 48 = .ok (.istore_n 3, 1) := by decide +kernel
theorem dX7_filter_49 : decode cX7_filter 49 = .ok (.aload_n 0, 1) := by decide +kernel
theorem dX7_filter_50 : decode cX7_filter 50 = .ok (.aload_n 0, 1) := by decide +kernel
theorem dX7_filter_51 : decode cX7_filter 51 = .ok (.getfield 39, 3) := by decide +kernel
theorem dX7_filter_54 : decode cX7_filter 54 = .ok (.aload_n 1, 1) := by decide +kernel
theorem dX7_filter_55 : decode cX7_filter 55 = .ok (.getfield 113, 3) := by decide +kernel
theorem dX7_filter_58 : decode cX7_filter 58 = .ok (.iload_n 3, 1) := by decide +kernel
theorem dX7_filter_59 : decode cX7_filter 59 = .ok (.imul, 1) := by decide +kernel
theorem dX7_filter_60 : decode cX7_filter 60 = .ok (.sipush 256, 3) := by decide +kernel
theorem dX7_filter_63 : decode cX7_filter 63 = .ok (.idiv, 1) := by decide +kernel
theorem dX7_filter_64 : decode cX7_filter 64 = .ok (.iadd, 1) := by decide +kernel
theorem dX7_filter_65 : decode cX7_filter 65 = .ok (.sipush 4000, 3) := by decide +kernel
theorem dX7_filter_68 : decode cX7_filter 68 = .ok (.invokestatic 116, 3) := by decide +kernel
theorem dX7_filter_71 : decode cX7_filter 71 = .ok (.putfield 39, 3) := by decide +kernel
theorem dX7_filter_74 : decode cX7_filter 74 = .ok (.return_, 1) := by decide +kernel
theorem dX7_fact_0 : decode cX7_fact 0 = .ok (.iload_n 1, 1) := by decide +kernel
theorem dX7_fact_1 : decode cX7_fact 1 = .ok (.tableswitch 96 0 8 #[51, 56, 61, 66, 71, 76, 81, 86, 91], 51) := by decide +kernel
theorem dX7_fact_52 : decode cX7_fact 52 = .ok (.aload_n 0, 1) := by decide +kernel
theorem dX7_fact_53 : decode cX7_fact 53 = .ok (.getfield 9, 3) := by decide +kernel
theorem dX7_fact_56 : decode cX7_fact 56 = .ok (.ireturn, 1) := by decide +kernel
theorem dX7_fact_57 : decode cX7_fact 57 = .ok (.aload_n 0, 1) := by decide +kernel
theorem dX7_fact_58 : decode cX7_fact 58 = .ok (.getfield 18, 3) := by decide +kernel
theorem dX7_fact_61 : decode cX7_fact 61 = .ok (.ireturn, 1) := by decide +kernel
theorem dX7_fact_62 : decode cX7_fact 62 = .ok (.aload_n 0, 1) := by decide +kernel
theorem dX7_fact_63 : decode cX7_fact 63 = .ok (.getfield 21, 3) := by decide +kernel
theorem dX7_fact_66 : decode cX7_fact 66 = .ok (.ireturn, 1) := by decide +kernel
theorem dX7_fact_67 : decode cX7_fact 67 = .ok (.aload_n 0, 1) := by decide +kernel
theorem dX7_fact_68 : decode cX7_fact 68 = .ok (.getfield 24, 3) := by decide +kernel
theorem dX7_fact_71 : decode cX7_fact 71 = .ok (.ireturn, 1) := by decide +kernel
theorem dX7_fact_72 : decode cX7_fact 72 = .ok (.aload_n 0, 1) := by decide +kernel
theorem dX7_fact_73 : decode cX7_fact 73 = .ok (.getfield 27, 3) := by decide +kernel
theorem dX7_fact_76 : decode cX7_fact 76 = .ok (.ireturn, 1) := by decide +kernel
theorem dX7_fact_77 : decode cX7_fact 77 = .ok (.aload_n 0, 1) := by decide +kernel
theorem dX7_fact_78 : decode cX7_fact 78 = .ok (.getfield 30, 3) := by decide +kernel
theorem dX7_fact_81 : decode cX7_fact 81 = .ok (.ireturn, 1) := by decide +kernel
theorem dX7_fact_82 : decode cX7_fact 82 = .ok (.aload_n 0, 1) := by decide +kernel
theorem dX7_fact_83 : decode cX7_fact 83 = .ok (.getfield 33, 3) := by decide +kernel
theorem dX7_fact_86 : decode cX7_fact 86 = .ok (.ireturn, 1) := by decide +kernel
theorem dX7_fact_87 : decode cX7_fact 87 = .ok (.aload_n 0, 1) := by decide +kernel
theorem dX7_fact_88 : decode cX7_fact 88 = .ok (.getfield 36, 3) := by decide +kernel
theorem dX7_fact_91 : decode cX7_fact 91 = .ok (.ireturn, 1) := by decide +kernel
theorem dX7_fact_92 : decode cX7_fact 92 = .ok (.aload_n 0, 1) := by decide +kernel
theorem dX7_fact_93 : decode cX7_fact 93 = .ok (.getfield 39, 3) := by decide +kernel
theorem dX7_fact_96 : decode cX7_fact 96 = .ok (.ireturn, 1) := by decide +kernel
theorem dX7_fact_97 : decode cX7_fact 97 = .ok (.aload_n 0, 1) := by decide +kernel
theorem dX7_fact_98 : decode cX7_fact 98 = .ok (.getfield 15, 3) := by decide +kernel
theorem dX7_fact_101 : decode cX7_fact 101 = .ok (.ireturn, 1) := by decide +kernel
set_option maxRecDepth 20000 in
theorem ggX8_init_X3_init : GoodIn wsX8_init wsX3_init := goodIn_r _ [10, 11, 2, 3, 12, 13, 14, 15, 16, 17, 22] (by decide +kernel) (by decide +kernel)
set_option maxRecDepth 20000 in
theorem gX8_init_X3_init : GoodIn wsX8_init (wsX3_init) := ggX8_init_X3_init
set_option maxRecDepth 20000 in
theorem ggX8_init_X3_put : GoodIn wsX8_init wsX3_put := goodIn_r _ [21, 17, 22] (by decide +kernel) (by decide +kernel)
set_option maxRecDepth 20000 in
theorem gX8_init_X3_put : GoodIn wsX8_init (wsV RX8 20 RX3 yX3_put wsX3_put) := goodIn_app (goodIn_of _ (by decide +kernel)) ggX8_init_X3_put
theorem dX8_init_0 : decode cX8_init 0 = .ok (.aload_n 0, 1) := by decide +kernel
theorem dX8_init_1 : decode cX8_init 1 = .ok (.invokespecial 3, 3) := by decide +kernel
theorem dX8_init_4 : decode cX8_init 4 = .ok (.aload_n 0, 1) := by decide +kernel
theorem dX8_init_5 : decode cX8_init 5 = .ok (.new 9, 3) := by decide +kernel
theorem dX8_init_8 : decode cX8_init 8 = .ok (.dup, 1) := by decide +kernel
theorem dX8_init_9 : decode cX8_init 9 = .ok (.sipush 128, 3) := by decide +kernel
theorem dX8_init_12 : decode cX8_init 12 = .ok (.invokespecial 11, 3) := by decide +kernel
theorem dX8_init_15 : decode cX8_init 15 = .ok (.putfield 14, 3) := by decide +kernel
theorem dX8_init_18 : decode cX8_init 18 = .ok (.iconst 0, 1) := by decide +kernel
theorem dX8_init_19 : decode cX8_init 19 = .ok (.istore_n 1, 1) := by decide +kernel
theorem dX8_init_20 : decode cX8_init 20 = .ok (.iload_n 1, 1) := by decide +kernel
theorem dX8_init_21 : decode cX8_init 21 = .ok (.bipush 32, 2) := by decide +kernel
theorem dX8_init_23 : decode cX8_init 23 = .ok (.if_icmp .ge 100, 3) := by decide +kernel
theorem dX8_init_26 : decode cX8_init 26 = .ok (.iload_n 1, 1) := by decide +kernel
theorem dX8_init_27 : decode cX8_init 27 = .ok (.bipush 16, 2) := by decide +kernel
theorem dX8_init_29 : decode cX8_init 29 = .ok (.if_icmp .ge 7, 3) := by decide +kernel
theorem dX8_init_32 : decode cX8_init 32 = .ok (.iconst 1, 1) := by decide +kernel
theorem dX8_init_33 : decode cX8_init 33 = .ok (.goto 4, 3) := by decide +kernel
theorem dX8_init_36 : decode cX8_init 36 = .ok (.iconst 0, 1) := by decide +kernel
theorem dX8_init_37 : decode cX8_init 37 = .ok (.istore_n 2, 1) := by decide +kernel
theorem dX8_init_38 : decode cX8_init 38 = .ok (.aload_n 0, 1) := by decide +kernel
theorem dX8_init_39 : decode cX8_init 39 = .ok (.getfield 14, 3) := by decide +kernel
theorem dX8_init_42 : decode cX8_init 42 = .ok (.iconst 0, 1) := by decide +kernel
theorem dX8_init_43 : decode cX8_init 43 = .ok (.iload_n 1, 1) := by decide +kernel
theorem dX8_init_44 : decode cX8_init 44 = .ok (.iadd, 1) := by decide +kernel
theorem dX8_init_45 : decode cX8_init 45 = .ok (.sipush (-992), 3) := by decide +kernel
theorem dX8_init_48 : decode cX8_init 48 = .ok (.bipush 64, 2) := by decide +kernel
theorem dX8_init_50 : decode cX8_init 50 = .ok (.iload_n 1, 1) := by decide +kernel
theorem dX8_init_51 : decode cX8_init 51 = .ok (.imul, 1) := by decide +kernel
theorem dX8_init_52 : decode cX8_init 52 = .ok (.iadd, 1) := by decide +kernel
theorem dX8_init_53 : decode cX8_init 53 = .ok (.invokevirtual 20, 3) := by decide +kernel
theorem dX8_init_56 : decode cX8_init 56 = .ok (.aload_n 0, 1) := by decide +kernel
theorem dX8_init_57 : decode cX8_init 57 = .ok (.getfield 14, 3) := by decide +kernel
theorem dX8_init_60 : decode cX8_init 60 = .ok (.bipush 32, 2) := by decide +kernel
theorem dX8_init_62 : decode cX8_init 62 = .ok (.iload_n 1, 1) := by decide +kernel
theorem dX8_init_63 : decode cX8_init 63 = .ok (.iadd, 1) := by decide +kernel
theorem dX8_init_64 : decode cX8_init 64 = .ok (.iload_n 2, 1) := by decide +kernel
theorem dX8_init_65 : decode cX8_init 65 = .ok (.ifCond .eq 9, 3) := by decide +kernel
theorem dX8_init_68 : decode cX8_init 68 = .ok (.sipush 1000, 3) := by decide +kernel
theorem dX8_init_71 : decode cX8_init 71 = .ok (.goto 6, 3) := by decide +kernel
theorem dX8_init_74 : decode cX8_init 74 = .ok (.sipush (-1000), 3) := by decide +kernel
theorem dX8_init_77 : decode cX8_init 77 = .ok (.invokevirtual 20, 3) := by decide +kernel
theorem dX8_init_80 : decode cX8_init 80 = .ok (.aload_n 0, 1) := by decide +kernel
theorem dX8_init_81 : decode cX8_init 81 = .ok (.getfield 14, 3) := by decide +kernel
theorem dX8_init_84 : decode cX8_init 84 = .ok (.bipush 64, 2) := by decide +kernel
theorem dX8_init_86 : decode cX8_init 86 = .ok (.iload_n 1, 1) := by decide +kernel
theorem dX8_init_87 : decode cX8_init 87 = .ok (.iadd, 1) := by decide +kernel
theorem dX8_init_88 : decode cX8_init 88 = .ok (.iload_n 2, 1) := by decide +kernel
theorem dX8_init_89 : decode cX8_init 89 = .ok (.ifCond .eq 14, 3) := by decide +kernel
theorem dX8_init_92 : decode cX8_init 92 = .ok (.sipush (-1000), 3) := by decide +kernel
theorem dX8_init_95 : decode cX8_init 95 = .ok (.bipush 125, 2) := by decide +kernel
theorem dX8_init_97 : decode cX8_init 97 = .ok (.iload_n 1, 1) := by decide +kernel
theorem dX8_init_98 : decode cX8_init 98 = .ok (.imul, 1) := by decide +kernel
theorem dX8_init_99 : decode cX8_init 99 = .ok (.iadd, 1) := by decide +kernel
theorem dX8_init_100 : decode cX8_init 100 = .ok (.goto 14, 3) := by decide +kernel
theorem dX8_init_103 : decode cX8_init 103 = .ok (.sipush 1000, 3) := by decide +kernel
theorem dX8_init_106 : decode cX8_init 106 = .ok (.bipush 125, 2) := by decide +kernel
theorem dX8_init_108 : decode cX8_init 108 = .ok (.iload_n 1, 1) := by decide +kernel
theorem dX8_init_109 : decode cX8_init 109 = .ok (.bipush 16, 2) := by decide +kernel
theorem dX8_init_111 : decode cX8_init 111 = .ok (.isub, 1) := by decide +kernel
theorem dX8_init_112 : decode cX8_init 112 = .ok (.imul, 1) := by decide +kernel
theorem dX8_init_113 : decode cX8_init 113 = .ok (.isub, 1) := by decide +kernel
theorem dX8_init_114 : decode cX8_init 114 = .ok (.invokevirtual 20, 3) := by decide +kernel
theorem dX8_init_117 : decode cX8_init 117 = .ok (.iinc 1 1, 3) := by decide +kernel
theorem dX8_init_120 : decode cX8_init 120 = .ok (.goto (-100), 3) := by decide +kernel
theorem dX8_init_123 : decode cX8_init 123 = .ok (.return_, 1) := by decide +kernel
set_option maxRecDepth 20000 in
theorem ggX8_redraw_X3_get : GoodIn wsX8_redraw wsX3_get := goodIn_r _ [6, 7, 13] (by decide +kernel) (by decide +kernel)
set_option maxRecDepth 20000 in
theorem gX8_redraw_X3_get : GoodIn wsX8_redraw (wsV RX8 24 RX3 yX3_get wsX3_get) := goodIn_app (goodIn_of _ (by decide +kernel)) ggX8_redraw_X3_get
set_option maxRecDepth 20000 in
theorem ggX8_redraw_X3_put : GoodIn wsX8_redraw wsX3_put := goodIn_r _ [11, 7, 13] (by decide +kernel) (by decide +kernel)
set_option maxRecDepth 20000 in
theorem gX8_redraw_X3_put : GoodIn wsX8_redraw (wsV RX8 20 RX3 yX3_put wsX3_put) := goodIn_app (goodIn_of _ (by decide +kernel)) ggX8_redraw_X3_put
theorem dX8_redraw_0 : decode cX8_redraw 0 = .ok (.aload_n 0, 1) := by decide +kernel
theorem dX8_redraw_1 : decode cX8_redraw 1 = .ok (.getfield 14, 3) := by decide +kernel
theorem dX8_redraw_4 : decode cX8_redraw 4 = .ok (.bipush 96, 2) := by decide +kernel
theorem dX8_redraw_6 : decode cX8_redraw 6 = .ok (.iload_n 1, 1) := by decide +kernel
theorem dX8_redraw_7 : decode cX8_redraw 7 = .ok (.iadd, 1) := by decide +kernel
theorem dX8_redraw_8 : decode cX8_redraw 8 = .ok (.invokevirtual 24, 3) := by decide +kernel
theorem dX8_redraw_11 : decode cX8_redraw 11 = .ok (.istore_n 3, 1) := by decide +kernel
theorem dX8_redraw_12 : decode cX8_redraw 12 = .ok (.aload_n 0, 1) := by decide +kernel
theorem dX8_redraw_13 : decode cX8_redraw 13 = .ok (.getfield 14, 3) := by decide +kernel
theorem dX8_redraw_16 : decode cX8_redraw 16 = .ok (.bipush 96, 2) := by decide +kernel
theorem dX8_redraw_18 : decode cX8_redraw 18 = .ok (.iload_n 1, 1) := by decide +kernel
theorem dX8_redraw_19 : decode cX8_redraw 19 = .ok (.iadd, 1) := by decide +kernel
theorem dX8_redraw_20 : decode cX8_redraw 20 = .ok (.iload_n 2, 1) := by decide +kernel
theorem dX8_redraw_21 : decode cX8_redraw 21 = .ok (.invokevirtual 20, 3) := by decide +kernel
theorem dX8_redraw_24 : decode cX8_redraw 24 = .ok (.iload_n 3, 1) := by decide +kernel
theorem dX8_redraw_25 : decode cX8_redraw 25 = .ok (.ireturn, 1) := by decide +kernel
set_option maxRecDepth 20000 in
theorem ggX8_at_X3_get : GoodIn wsX8_at wsX3_get := goodIn_r _ [6, 7, 9] (by decide +kernel) (by decide +kernel)
set_option maxRecDepth 20000 in
theorem gX8_at_X3_get : GoodIn wsX8_at (wsV RX8 24 RX3 yX3_get wsX3_get) := goodIn_app (goodIn_of _ (by decide +kernel)) ggX8_at_X3_get
theorem dX8_at_0 : decode cX8_at 0 = .ok (.iload_n 2, 1) := by decide +kernel
theorem dX8_at_1 : decode cX8_at 1 = .ok (.sipush 2048, 3) := by decide +kernel
theorem dX8_at_4 : decode cX8_at 4 = .ok (.idiv, 1) := by decide +kernel
theorem dX8_at_5 : decode cX8_at 5 = .ok (.istore_n 3, 1) := by decide +kernel
theorem dX8_at_6 : decode cX8_at 6 = .ok (.aload_n 0, 1) := by decide +kernel
theorem dX8_at_7 : decode cX8_at 7 = .ok (.getfield 14, 3) := by decide +kernel
theorem dX8_at_10 : decode cX8_at 10 = .ok (.iload_n 1, 1) := by decide +kernel
theorem dX8_at_11 : decode cX8_at 11 = .ok (.bipush 32, 2) := by decide +kernel
theorem dX8_at_13 : decode cX8_at 13 = .ok (.imul, 1) := by decide +kernel
theorem dX8_at_14 : decode cX8_at 14 = .ok (.iload_n 3, 1) := by decide +kernel
theorem dX8_at_15 : decode cX8_at 15 = .ok (.iadd, 1) := by decide +kernel
theorem dX8_at_16 : decode cX8_at 16 = .ok (.invokevirtual 24, 3) := by decide +kernel
theorem dX8_at_19 : decode cX8_at 19 = .ok (.istore 4, 2) := by decide +kernel
theorem dX8_at_21 : decode cX8_at 21 = .ok (.aload_n 0, 1) := by decide +kernel
theorem dX8_at_22 : decode cX8_at 22 = .ok (.getfield 14, 3) := by decide +kernel
theorem dX8_at_25 : decode cX8_at 25 = .ok (.iload_n 1, 1) := by decide +kernel
theorem dX8_at_26 : decode cX8_at 26 = .ok (.bipush 32, 2) := by decide +kernel
theorem dX8_at_28 : decode cX8_at 28 = .ok (.imul, 1) := by decide +kernel
theorem dX8_at_29 : decode cX8_at 29 = .ok (.iload_n 3, 1) := by decide +kernel
theorem dX8_at_30 : decode cX8_at 30 = .ok (.iconst 1, 1) := by decide +kernel
theorem dX8_at_31 : decode cX8_at 31 = .ok (.iadd, 1) := by decide +kernel
theorem dX8_at_32 : decode cX8_at 32 = .ok (.bipush 32, 2) := by decide +kernel
theorem dX8_at_34 : decode cX8_at 34 = .ok (.irem, 1) := by decide +kernel
theorem dX8_at_35 : decode cX8_at 35 = .ok (.iadd, 1) := by decide +kernel
theorem dX8_at_36 : decode cX8_at 36 = .ok (.invokevirtual 24, 3) := by decide +kernel
theorem dX8_at_39 : decode cX8_at 39 = .ok (.istore 5, 2) := by decide +kernel
theorem dX8_at_41 : decode cX8_at 41 = .ok (.iload 4, 2) := by decide +kernel
theorem dX8_at_43 : decode cX8_at 43 = .ok (.iload 5, 2) := by decide +kernel
theorem dX8_at_45 : decode cX8_at 45 = .ok (.iload 4, 2) := by decide +kernel
theorem dX8_at_47 : decode cX8_at 47 = .ok (.isub, 1) := by decide +kernel
theorem dX8_at_48 : decode cX8_at 48 = .ok (.iload_n 2, 1) := by decide +kernel
theorem dX8_at_49 : decode cX8_at 49 = .ok (.sipush 2048, 3) := by decide +kernel
theorem dX8_at_52 : decode cX8_at 52 = .ok (.irem, 1) := by decide +kernel
theorem dX8_at_53 : decode cX8_at 53 = .ok (.imul, 1) := by decide +kernel
theorem dX8_at_54 : decode cX8_at 54 = .ok (.sipush 2048, 3) := by decide +kernel
theorem dX8_at_57 : decode cX8_at 57 = .ok (.idiv, 1) := by decide +kernel
theorem dX8_at_58 : decode cX8_at 58 = .ok (.iadd, 1) := by decide +kernel
theorem dX8_at_59 : decode cX8_at 59 = .ok (.ireturn, 1) := by decide +kernel
theorem dJ9_floorMod_7cf53_0 : decode cJ9_floorMod_7cf53 0 = .ok (.iload_n 0, 1) := by decide +kernel
theorem dJ9_floorMod_7cf53_1 : decode cJ9_floorMod_7cf53 1 = .ok (.iload_n 1, 1) := by decide +kernel
theorem dJ9_floorMod_7cf53_2 : decode cJ9_floorMod_7cf53 2 = .ok (.irem, 1) := by decide +kernel
theorem dJ9_floorMod_7cf53_3 : decode cJ9_floorMod_7cf53 3 = .ok (.istore_n 2, 1) := by decide +kernel
theorem dJ9_floorMod_7cf53_4 : decode cJ9_floorMod_7cf53 4 = .ok (.iload_n 0, 1) := by decide +kernel
theorem dJ9_floorMod_7cf53_5 : decode cJ9_floorMod_7cf53 5 = .ok (.iload_n 1, 1) := by decide +kernel
theorem dJ9_floorMod_7cf53_6 : decode cJ9_floorMod_7cf53 6 = .ok (.ixor, 1) := by decide +kernel
theorem dJ9_floorMod_7cf53_7 : decode cJ9_floorMod_7cf53 7 = .ok (.ifCond .ge 11, 3) := by decide +kernel
theorem dJ9_floorMod_7cf53_10 : decode cJ9_floorMod_7cf53 10 = .ok (.iload_n 2, 1) := by decide +kernel
theorem dJ9_floorMod_7cf53_11 : decode cJ9_floorMod_7cf53 11 = .ok (.ifCond .eq 7, 3) := by decide +kernel
theorem dJ9_floorMod_7cf53_14 : decode cJ9_floorMod_7cf53 14 = .ok (.iload_n 2, 1) := by decide +kernel
theorem dJ9_floorMod_7cf53_15 : decode cJ9_floorMod_7cf53 15 = .ok (.iload_n 1, 1) := by decide +kernel
theorem dJ9_floorMod_7cf53_16 : decode cJ9_floorMod_7cf53 16 = .ok (.iadd, 1) := by decide +kernel
theorem dJ9_floorMod_7cf53_17 : decode cJ9_floorMod_7cf53 17 = .ok (.ireturn, 1) := by decide +kernel
theorem dJ9_floorMod_7cf53_18 : decode cJ9_floorMod_7cf53 18 = .ok (.iload_n 2, 1) := by decide +kernel
theorem dJ9_floorMod_7cf53_19 : decode cJ9_floorMod_7cf53 19 = .ok (.ireturn, 1) := by decide +kernel
theorem dJ9_abs_0f7a4_0 : decode cJ9_abs_0f7a4 0 = .ok (.iload_n 0, 1) := by decide +kernel
theorem dJ9_abs_0f7a4_1 : decode cJ9_abs_0f7a4 1 = .ok (.ifCond .ge 8, 3) := by decide +kernel
theorem dJ9_abs_0f7a4_4 : decode cJ9_abs_0f7a4 4 = .ok (.iload_n 0, 1) := by decide +kernel
theorem dJ9_abs_0f7a4_5 : decode cJ9_abs_0f7a4 5 = .ok (.ineg, 1) := by decide +kernel
theorem dJ9_abs_0f7a4_6 : decode cJ9_abs_0f7a4 6 = .ok (.goto 4, 3) := by decide +kernel
theorem dJ9_abs_0f7a4_9 : decode cJ9_abs_0f7a4 9 = .ok (.iload_n 0, 1) := by decide +kernel
theorem dJ9_abs_0f7a4_10 : decode cJ9_abs_0f7a4 10 = .ok (.ireturn, 1) := by decide +kernel
theorem dJ9_max_7cf53_0 : decode cJ9_max_7cf53 0 = .ok (.iload_n 0, 1) := by decide +kernel
theorem dJ9_max_7cf53_1 : decode cJ9_max_7cf53 1 = .ok (.iload_n 1, 1) := by decide +kernel
theorem dJ9_max_7cf53_2 : decode cJ9_max_7cf53 2 = .ok (.if_icmp .lt 7, 3) := by decide +kernel
theorem dJ9_max_7cf53_5 : decode cJ9_max_7cf53 5 = .ok (.iload_n 0, 1) := by decide +kernel
theorem dJ9_max_7cf53_6 : decode cJ9_max_7cf53 6 = .ok (.goto 4, 3) := by decide +kernel
theorem dJ9_max_7cf53_9 : decode cJ9_max_7cf53 9 = .ok (.iload_n 1, 1) := by decide +kernel
theorem dJ9_max_7cf53_10 : decode cJ9_max_7cf53 10 = .ok (.ireturn, 1) := by decide +kernel
theorem dJ9_min_7cf53_0 : decode cJ9_min_7cf53 0 = .ok (.iload_n 0, 1) := by decide +kernel
theorem dJ9_min_7cf53_1 : decode cJ9_min_7cf53 1 = .ok (.iload_n 1, 1) := by decide +kernel
theorem dJ9_min_7cf53_2 : decode cJ9_min_7cf53 2 = .ok (.if_icmp .gt 7, 3) := by decide +kernel
theorem dJ9_min_7cf53_5 : decode cJ9_min_7cf53 5 = .ok (.iload_n 0, 1) := by decide +kernel
theorem dJ9_min_7cf53_6 : decode cJ9_min_7cf53 6 = .ok (.goto 4, 3) := by decide +kernel
theorem dJ9_min_7cf53_9 : decode cJ9_min_7cf53 9 = .ok (.iload_n 1, 1) := by decide +kernel
theorem dJ9_min_7cf53_10 : decode cJ9_min_7cf53 10 = .ok (.ireturn, 1) := by decide +kernel
