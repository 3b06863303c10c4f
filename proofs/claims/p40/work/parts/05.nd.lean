set_option maxRecDepth 20000 in
theorem ggX9_init_X5_init : GoodIn wsX9_init wsX5_init := goodIn_r _ [18, 19, 2, 3, 20, 21, 22, 23, 24, 25, 26, 27, 28, 29, 30, 31, 32, 33, 34, 35, 36, 37, 38, 39, 40, 41, 42, 43, 44, 45, 46, 47, 48, 49, 50, 51, 52, 53, 54, 55, 56, 57, 58, 59, 60, 61, 62, 63, 64, 65, 66, 67, 68, 69, 70, 71, 72, 73, 74, 75, 76, 77, 78, 79, 80, 81, 82, 147, 116, 117, 118, 119, 120, 121, 122, 148, 149, 150, 151, 152, 153, 154, 155, 156, 157, 158, 159, 160, 161, 162, 163, 164, 165, 166] (by decide +kernel) (by decide +kernel)
set_option maxRecDepth 20000 in
theorem gX9_init_X5_init_n9 : GoodIn wsX9_init (wsX5_init) := ggX9_init_X5_init
set_option maxRecDepth 20000 in
theorem ggX9_init_X6_init : GoodIn wsX9_init wsX6_init := goodIn_r _ [85, 86, 2, 3, 87, 88, 89, 90, 91, 92, 93, 94, 95, 96, 97, 98, 99, 100, 101, 102, 41, 42, 103, 104, 45, 46, 47, 48, 49, 50, 51, 52, 53, 105, 106, 107, 108, 109, 167, 168, 169, 170, 171, 127, 128, 129, 130, 131, 132, 133, 134, 135, 136, 137, 138, 172, 173, 174, 175, 176, 177, 178, 179, 180, 181, 182, 166] (by decide +kernel) (by decide +kernel)
set_option maxRecDepth 20000 in
theorem gX9_init_X6_init : GoodIn wsX9_init (wsX6_init) := ggX9_init_X6_init
set_option maxRecDepth 20000 in
theorem ggX9_init_X2_init : GoodIn wsX9_init wsX2_init := goodIn_r _ [111, 112, 2, 3, 113, 41, 42, 114, 115, 45, 46, 47, 48, 49, 50, 51, 52, 53, 166, 139, 140, 141, 142, 143, 144, 145, 146] (by decide +kernel) (by decide +kernel)
set_option maxRecDepth 20000 in
theorem gX9_init_X2_init_n30 : GoodIn wsX9_init (wsX2_init) := ggX9_init_X2_init
theorem dX9_init_0 : decode cX9_init 0 = .ok (.aload_n 0, 1) := by decide +kernel
theorem dX9_init_1 : decode cX9_init 1 = .ok (.invokespecial 1, 3) := by decide +kernel
theorem dX9_init_4 : decode cX9_init 4 = .ok (.aload_n 0, 1) := by decide +kernel
theorem dX9_init_5 : decode cX9_init 5 = .ok (.new 7, 3) := by decide +kernel
theorem dX9_init_8 : decode cX9_init 8 = .ok (.dup, 1) := by decide +kernel
theorem dX9_init_9 : decode cX9_init 9 = .ok (.invokespecial 9, 3) := by decide +kernel
theorem dX9_init_12 : decode cX9_init 12 = .ok (.putfield 10, 3) := by decide +kernel
theorem dX9_init_15 : decode cX9_init 15 = .ok (.aload_n 0, 1) := by decide +kernel
theorem dX9_init_16 : decode cX9_init 16 = .ok (.new 16, 3) := by decide +kernel
theorem dX9_init_19 : decode cX9_init 19 = .ok (.dup, 1) := by decide +kernel
theorem dX9_init_20 : decode cX9_init 20 = .ok (.aload_n 0, 1) := by decide +kernel
theorem dX9_init_21 : decode cX9_init 21 = .ok (.getfield 10, 3) := by decide +kernel
theorem dX9_init_24 : decode cX9_init 24 = .ok (.invokespecial 18, 3) := by decide +kernel
theorem dX9_init_27 : decode cX9_init 27 = .ok (.putfield 21, 3) := by decide +kernel
theorem dX9_init_30 : decode cX9_init 30 = .ok (.aload_n 0, 1) := by decide +kernel
theorem dX9_init_31 : decode cX9_init 31 = .ok (.new 16, 3) := by decide +kernel
theorem dX9_init_34 : decode cX9_init 34 = .ok (.dup, 1) := by decide +kernel
theorem dX9_init_35 : decode cX9_init 35 = .ok (.aload_n 0, 1) := by decide +kernel
theorem dX9_init_36 : decode cX9_init 36 = .ok (.getfield 10, 3) := by decide +kernel
theorem dX9_init_39 : decode cX9_init 39 = .ok (.invokespecial 18, 3) := by decide +kernel
theorem dX9_init_42 : decode cX9_init 42 = .ok (.putfield 25, 3) := by decide +kernel
theorem dX9_init_45 : decode cX9_init 45 = .ok (.aload_n 0, 1) := by decide +kernel
theorem dX9_init_46 : decode cX9_init 46 = .ok (.new 28, 3) := by decide +kernel
theorem dX9_init_49 : decode cX9_init 49 = .ok (.dup, 1) := by decide +kernel
theorem dX9_init_50 : decode cX9_init 50 = .ok (.invokespecial 30, 3) := by decide +kernel
theorem dX9_init_53 : decode cX9_init 53 = .ok (.putfield 31, 3) := by decide +kernel
theorem dX9_init_56 : decode cX9_init 56 = .ok (.return_, 1) := by decide +kernel
set_option maxRecDepth 20000 in
theorem ggX9_draw_X9_needPlace : GoodIn wsX9_draw wsX9_needPlace := goodIn_ca (goodIn_r _ [6, 7, 8] (by decide +kernel) (by decide +kernel)) (goodIn_sub (fun _ h => List.mem_cons_of_mem _ (List.mem_append_left _ (List.mem_append_right _ h))) (by decide +kernel))
set_option maxRecDepth 20000 in
theorem gX9_draw_X9_needPlace : GoodIn wsX9_draw (va_wsS RX9 35 yX9_needPlace wsX9_needPlace) := goodIn_app (goodIn_of _ (by decide +kernel)) ggX9_draw_X9_needPlace
set_option maxRecDepth 20000 in
theorem ggX9_draw_X9_needWithin : GoodIn wsX9_draw wsX9_needWithin := goodIn_ca (goodIn_r _ [11, 12, 13] (by decide +kernel) (by decide +kernel)) (goodIn_sub (fun _ h => List.mem_cons_of_mem _ (List.mem_append_right _ h)) (by decide +kernel))
set_option maxRecDepth 20000 in
theorem gX9_draw_X9_needWithin : GoodIn wsX9_draw (va_wsS RX9 39 yX9_needWithin wsX9_needWithin) := goodIn_app (goodIn_of _ (by decide +kernel)) ggX9_draw_X9_needWithin
set_option maxRecDepth 20000 in
theorem ggX9_draw_X8_redraw : GoodIn wsX9_draw wsX8_redraw := goodIn_r _ [18, 19, 20, 21, 22, 23, 24, 25, 26, 27, 28, 29, 41, 42] (by decide +kernel) (by decide +kernel)
set_option maxRecDepth 20000 in
theorem gX9_draw_X8_redraw : GoodIn wsX9_draw (wsV RX9 47 RX8 yX8_redraw wsX8_redraw) := goodIn_app (goodIn_of _ (by decide +kernel)) ggX9_draw_X8_redraw
theorem dX9_draw_0 : decode cX9_draw 0 = .ok (.iload_n 1, 1) := by decide +kernel
theorem dX9_draw_1 : decode cX9_draw 1 = .ok (.bipush 32, 2) := by decide +kernel
theorem dX9_draw_3 : decode cX9_draw 3 = .ok (.invokestatic 35, 3) := by decide +kernel
theorem dX9_draw_6 : decode cX9_draw 6 = .ok (.iload_n 2, 1) := by decide +kernel
theorem dX9_draw_7 : decode cX9_draw 7 = .ok (.sipush (-1000), 3) := by decide +kernel
theorem dX9_draw_10 : decode cX9_draw 10 = .ok (.sipush 1000, 3) := by decide +kernel
theorem dX9_draw_13 : decode cX9_draw 13 = .ok (.invokestatic 39, 3) := by decide +kernel
theorem dX9_draw_16 : decode cX9_draw 16 = .ok (.aload_n 0, 1) := by decide +kernel
theorem dX9_draw_17 : decode cX9_draw 17 = .ok (.getfield 10, 3) := by decide +kernel
theorem dX9_draw_20 : decode cX9_draw 20 = .ok (.getfield 43, 3) := by decide +kernel
theorem dX9_draw_23 : decode cX9_draw 23 = .ok (.iload_n 1, 1) := by decide +kernel
theorem dX9_draw_24 : decode cX9_draw 24 = .ok (.iload_n 2, 1) := by decide +kernel
theorem dX9_draw_25 : decode cX9_draw 25 = .ok (.invokevirtual 47, 3) := by decide +kernel
theorem dX9_draw_28 : decode cX9_draw 28 = .ok (.ireturn, 1) := by decide +kernel
set_option maxRecDepth 20000 in
theorem ggX9_setWaves_X9_needPlace : GoodIn wsX9_setWaves wsX9_needPlace := goodIn_ca (goodIn_r _ [9, 10, 11] (by decide +kernel) (by decide +kernel)) (goodIn_sub (fun _ h => List.mem_cons_of_mem _ (List.mem_append_left _ (List.mem_append_right _ h))) (by decide +kernel))
set_option maxRecDepth 20000 in
theorem gX9_setWaves_X9_needPlace : GoodIn wsX9_setWaves (va_wsS RX9 35 yX9_needPlace wsX9_needPlace) := goodIn_app (goodIn_of _ (by decide +kernel)) ggX9_setWaves_X9_needPlace
set_option maxRecDepth 20000 in
theorem ggX9_setWaves_X9_needWithin : GoodIn wsX9_setWaves wsX9_needWithin := goodIn_ca (goodIn_r _ [14, 15, 16] (by decide +kernel) (by decide +kernel)) (goodIn_sub (fun _ h => List.mem_cons_of_mem _ (List.mem_append_right _ h)) (by decide +kernel))
set_option maxRecDepth 20000 in
theorem gX9_setWaves_X9_needWithin : GoodIn wsX9_setWaves (va_wsS RX9 39 yX9_needWithin wsX9_needWithin) := goodIn_app (goodIn_of _ (by decide +kernel)) ggX9_setWaves_X9_needWithin
set_option maxRecDepth 20000 in
theorem ggX9_setWaves_X5_instrumentOf : GoodIn wsX9_setWaves wsX5_instrumentOf := goodIn_r _ [21, 22, 23, 24, 25, 42, 43, 44, 45, 46, 47, 48] (by decide +kernel) (by decide +kernel)
set_option maxRecDepth 20000 in
theorem gX9_setWaves_X5_instrumentOf : GoodIn wsX9_setWaves (wsV RX9 61 RX5 yX5_instrumentOf wsX5_instrumentOf) := goodIn_app (goodIn_of _ (by decide +kernel)) ggX9_setWaves_X5_instrumentOf
theorem dX9_setWaves_0 : decode cX9_setWaves 0 = .ok (.iload_n 1, 1) := by decide +kernel
theorem dX9_setWaves_1 : decode cX9_setWaves 1 = .ok (.iconst 4, 1) := by decide +kernel
theorem dX9_setWaves_2 : decode cX9_setWaves 2 = .ok (.invokestatic 35, 3) := by decide +kernel
theorem dX9_setWaves_5 : decode cX9_setWaves 5 = .ok (.iload_n 2, 1) := by decide +kernel
theorem dX9_setWaves_6 : decode cX9_setWaves 6 = .ok (.iconst 4, 1) := by decide +kernel
theorem dX9_setWaves_7 : decode cX9_setWaves 7 = .ok (.invokestatic 35, 3) := by decide +kernel
theorem dX9_setWaves_10 : decode cX9_setWaves 10 = .ok (.iload_n 3, 1) := by decide +kernel
theorem dX9_setWaves_11 : decode cX9_setWaves 11 = .ok (.iconst 4, 1) := by decide +kernel
theorem dX9_setWaves_12 : decode cX9_setWaves 12 = .ok (.invokestatic 35, 3) := by decide +kernel
theorem dX9_setWaves_15 : decode cX9_setWaves 15 = .ok (.iload 4, 2) := by decide +kernel
theorem dX9_setWaves_17 : decode cX9_setWaves 17 = .ok (.bipush (-64), 2) := by decide +kernel
theorem dX9_setWaves_19 : decode cX9_setWaves 19 = .ok (.bipush 64, 2) := by decide +kernel
theorem dX9_setWaves_21 : decode cX9_setWaves 21 = .ok (.invokestatic 39, 3) := by decide +kernel
theorem dX9_setWaves_24 : decode cX9_setWaves 24 = .ok (.iload 5, 2) := by decide +kernel
theorem dX9_setWaves_26 : decode cX9_setWaves 26 = .ok (.iconst 0, 1) := by decide +kernel
theorem dX9_setWaves_27 : decode cX9_setWaves 27 = .ok (.bipush 100, 2) := by decide +kernel
theorem dX9_setWaves_29 : decode cX9_setWaves 29 = .ok (.invokestatic 39, 3) := by decide +kernel
theorem dX9_setWaves_32 : decode cX9_setWaves 32 = .ok (.aload_n 0, 1) := by decide +kernel
theorem dX9_setWaves_33 : decode cX9_setWaves 33 = .ok (.getfield 10, 3) := by decide +kernel
theorem dX9_setWaves_36 : decode cX9_setWaves 36 = .ok (.iload_n 1, 1) := by decide +kernel
theorem dX9_setWaves_37 : decode cX9_setWaves 37 = .ok (.invokevirtual 61, 3) := by decide +kernel
theorem dX9_setWaves_40 : decode cX9_setWaves 40 = .ok (.astore 6, 2) := by decide +kernel
theorem dX9_setWaves_42 : decode cX9_setWaves 42 = .ok (.aload 6, 2) := by decide +kernel
theorem dX9_setWaves_44 : decode cX9_setWaves 44 = .ok (.getfield 65, 3) := by decide +kernel
theorem dX9_setWaves_47 : decode cX9_setWaves 47 = .ok (.istore 7, 2) := by decide +kernel
theorem dX9_setWaves_49 : decode cX9_setWaves 49 = .ok (.aload 6, 2) := by decide +kernel
theorem dX9_setWaves_51 : decode cX9_setWaves 51 = .ok (.iload_n 2, 1) := by decide +kernel
theorem dX9_setWaves_52 : decode cX9_setWaves 52 = .ok (.putfield 71, 3) := by decide +kernel
theorem dX9_setWaves_55 : decode cX9_setWaves 55 = .ok (.aload 6, 2) := by decide +kernel
theorem dX9_setWaves_57 : decode cX9_setWaves 57 = .ok (.iload_n 3, 1) := by decide +kernel
theorem dX9_setWaves_58 : decode cX9_setWaves 58 = .ok (.putfield 74, 3) := by decide +kernel
theorem dX9_setWaves_61 : decode cX9_setWaves 61 = .ok (.aload 6, 2) := by decide +kernel
theorem dX9_setWaves_63 : decode cX9_setWaves 63 = .ok (.iload 4, 2) := by decide +kernel
theorem dX9_setWaves_65 : decode cX9_setWaves 65 = .ok (.putfield 77, 3) := by decide +kernel
theorem dX9_setWaves_68 : decode cX9_setWaves 68 = .ok (.aload 6, 2) := by decide +kernel
theorem dX9_setWaves_70 : decode cX9_setWaves 70 = .ok (.iload 5, 2) := by decide +kernel
theorem dX9_setWaves_72 : decode cX9_setWaves 72 = .ok (.putfield 65, 3) := by decide +kernel
theorem dX9_setWaves_75 : decode cX9_setWaves 75 = .ok (.iload 7, 2) := by decide +kernel
theorem dX9_setWaves_77 : decode cX9_setWaves 77 = .ok (.ireturn, 1) := by decide +kernel
set_option maxRecDepth 20000 in
theorem ggX9_setEnvelope_X9_needPlace : GoodIn wsX9_setEnvelope wsX9_needPlace := goodIn_ca (goodIn_r _ [9, 10, 11] (by decide +kernel) (by decide +kernel)) (goodIn_sub (fun _ h => List.mem_cons_of_mem _ (List.mem_append_left _ (List.mem_append_right _ h))) (by decide +kernel))
set_option maxRecDepth 20000 in
theorem gX9_setEnvelope_X9_needPlace : GoodIn wsX9_setEnvelope (va_wsS RX9 35 yX9_needPlace wsX9_needPlace) := goodIn_app (goodIn_of _ (by decide +kernel)) ggX9_setEnvelope_X9_needPlace
set_option maxRecDepth 20000 in
theorem ggX9_setEnvelope_X9_needWithin : GoodIn wsX9_setEnvelope wsX9_needWithin := goodIn_ca (goodIn_r _ [14, 15, 16] (by decide +kernel) (by decide +kernel)) (goodIn_sub (fun _ h => List.mem_cons_of_mem _ (List.mem_append_right _ h)) (by decide +kernel))
set_option maxRecDepth 20000 in
theorem gX9_setEnvelope_X9_needWithin : GoodIn wsX9_setEnvelope (va_wsS RX9 39 yX9_needWithin wsX9_needWithin) := goodIn_app (goodIn_of _ (by decide +kernel)) ggX9_setEnvelope_X9_needWithin
set_option maxRecDepth 20000 in
theorem ggX9_setEnvelope_X5_instrumentOf : GoodIn wsX9_setEnvelope wsX5_instrumentOf := goodIn_r _ [21, 22, 23, 24, 25, 42, 43, 44, 45, 46, 47, 48] (by decide +kernel) (by decide +kernel)
set_option maxRecDepth 20000 in
theorem gX9_setEnvelope_X5_instrumentOf : GoodIn wsX9_setEnvelope (wsV RX9 61 RX5 yX5_instrumentOf wsX5_instrumentOf) := goodIn_app (goodIn_of _ (by decide +kernel)) ggX9_setEnvelope_X5_instrumentOf
theorem dX9_setEnvelope_0 : decode cX9_setEnvelope 0 = .ok (.iload_n 1, 1) := by decide +kernel
theorem dX9_setEnvelope_1 : decode cX9_setEnvelope 1 = .ok (.iconst 4, 1) := by decide +kernel
theorem dX9_setEnvelope_2 : decode cX9_setEnvelope 2 = .ok (.invokestatic 35, 3) := by decide +kernel
theorem dX9_setEnvelope_5 : decode cX9_setEnvelope 5 = .ok (.iload_n 2, 1) := by decide +kernel
theorem dX9_setEnvelope_6 : decode cX9_setEnvelope 6 = .ok (.iconst 1, 1) := by decide +kernel
theorem dX9_setEnvelope_7 : decode cX9_setEnvelope 7 = .ok (.sipush 400, 3) := by decide +kernel
theorem dX9_setEnvelope_10 : decode cX9_setEnvelope 10 = .ok (.invokestatic 39, 3) := by decide +kernel
theorem dX9_setEnvelope_13 : decode cX9_setEnvelope 13 = .ok (.iload_n 3, 1) := by decide +kernel
theorem dX9_setEnvelope_14 : decode cX9_setEnvelope 14 = .ok (.iconst 1, 1) := by decide +kernel
theorem dX9_setEnvelope_15 : decode cX9_setEnvelope 15 = .ok (.sipush 400, 3) := by decide +kernel
theorem dX9_setEnvelope_18 : decode cX9_setEnvelope 18 = .ok (.invokestatic 39, 3) := by decide +kernel
theorem dX9_setEnvelope_21 : decode cX9_setEnvelope 21 = .ok (.iload 4, 2) := by decide +kernel
theorem dX9_setEnvelope_23 : decode cX9_setEnvelope 23 = .ok (.iconst 0, 1) := by decide +kernel
theorem dX9_setEnvelope_24 : decode cX9_setEnvelope 24 = .ok (.sipush 1000, 3) := by decide +kernel
theorem dX9_setEnvelope_27 : decode cX9_setEnvelope 27 = .ok (.invokestatic 39, 3) := by decide +kernel
theorem dX9_setEnvelope_30 : decode cX9_setEnvelope 30 = .ok (.iload 5, 2) := by decide +kernel
theorem dX9_setEnvelope_32 : decode cX9_setEnvelope 32 = .ok (.iconst 1, 1) := by decide +kernel
theorem dX9_setEnvelope_33 : decode cX9_setEnvelope 33 = .ok (.sipush 400, 3) := by decide +kernel
theorem dX9_setEnvelope_36 : decode cX9_setEnvelope 36 = .ok (.invokestatic 39, 3) := by decide +kernel
theorem dX9_setEnvelope_39 : decode cX9_setEnvelope 39 = .ok (.aload_n 0, 1) := by decide +kernel
theorem dX9_setEnvelope_40 : decode cX9_setEnvelope 40 = .ok (.getfield 10, 3) := by decide +kernel
theorem dX9_setEnvelope_43 : decode cX9_setEnvelope 43 = .ok (.iload_n 1, 1) := by decide +kernel
theorem dX9_setEnvelope_44 : decode cX9_setEnvelope 44 = .ok (.invokevirtual 61, 3) := by decide +kernel
theorem dX9_setEnvelope_47 : decode cX9_setEnvelope 47 = .ok (.astore 6, 2) := by decide +kernel
theorem dX9_setEnvelope_49 : decode cX9_setEnvelope 49 = .ok (.aload 6, 2) := by decide +kernel
theorem dX9_setEnvelope_51 : decode cX9_setEnvelope 51 = .ok (.getfield 80, 3) := by decide +kernel
theorem dX9_setEnvelope_54 : decode cX9_setEnvelope 54 = .ok (.istore 7, 2) := by decide +kernel
theorem dX9_setEnvelope_56 : decode cX9_setEnvelope 56 = .ok (.aload 6, 2) := by decide +kernel
theorem dX9_setEnvelope_58 : decode cX9_setEnvelope 58 = .ok (.iload_n 2, 1) := by decide +kernel
theorem dX9_setEnvelope_59 : decode cX9_setEnvelope 59 = .ok (.putfield 83, 3) := by decide +kernel
theorem dX9_setEnvelope_62 : decode cX9_setEnvelope 62 = .ok (.aload 6, 2) := by decide +kernel
theorem dX9_setEnvelope_64 : decode cX9_setEnvelope 64 = .ok (.iload_n 3, 1) := by decide +kernel
theorem dX9_setEnvelope_65 : decode cX9_setEnvelope 65 = .ok (.putfield 86, 3) := by decide +kernel
theorem dX9_setEnvelope_68 : decode cX9_setEnvelope 68 = .ok (.aload 6, 2) := by decide +kernel
theorem dX9_setEnvelope_70 : decode cX9_setEnvelope 70 = .ok (.iload 4, 2) := by decide +kernel
theorem dX9_setEnvelope_72 : decode cX9_setEnvelope 72 = .ok (.putfield 80, 3) := by decide +kernel
theorem dX9_setEnvelope_75 : decode cX9_setEnvelope 75 = .ok (.aload 6, 2) := by decide +kernel
theorem dX9_setEnvelope_77 : decode cX9_setEnvelope 77 = .ok (.iload 5, 2) := by decide +kernel
theorem dX9_setEnvelope_79 : decode cX9_setEnvelope 79 = .ok (.putfield 89, 3) := by decide +kernel
theorem dX9_setEnvelope_82 : decode cX9_setEnvelope 82 = .ok (.iload 7, 2) := by decide +kernel
theorem dX9_setEnvelope_84 : decode cX9_setEnvelope 84 = .ok (.ireturn, 1) := by decide +kernel
set_option maxRecDepth 20000 in
theorem ggX9_setFilter_X9_needPlace : GoodIn wsX9_setFilter wsX9_needPlace := goodIn_ca (goodIn_r _ [7, 8, 9] (by decide +kernel) (by decide +kernel)) (goodIn_sub (fun _ h => List.mem_cons_of_mem _ (List.mem_append_left _ (List.mem_append_right _ h))) (by decide +kernel))
set_option maxRecDepth 20000 in
theorem gX9_setFilter_X9_needPlace : GoodIn wsX9_setFilter (va_wsS RX9 35 yX9_needPlace wsX9_needPlace) := goodIn_app (goodIn_of _ (by decide +kernel)) ggX9_setFilter_X9_needPlace
set_option maxRecDepth 20000 in
theorem ggX9_setFilter_X9_needWithin : GoodIn wsX9_setFilter wsX9_needWithin := goodIn_ca (goodIn_r _ [12, 13, 14] (by decide +kernel) (by decide +kernel)) (goodIn_sub (fun _ h => List.mem_cons_of_mem _ (List.mem_append_right _ h)) (by decide +kernel))
set_option maxRecDepth 20000 in
theorem gX9_setFilter_X9_needWithin : GoodIn wsX9_setFilter (va_wsS RX9 39 yX9_needWithin wsX9_needWithin) := goodIn_app (goodIn_of _ (by decide +kernel)) ggX9_setFilter_X9_needWithin
set_option maxRecDepth 20000 in
theorem ggX9_setFilter_X5_instrumentOf : GoodIn wsX9_setFilter wsX5_instrumentOf := goodIn_r _ [19, 20, 21, 22, 23, 40, 41, 42, 43, 44, 45, 46] (by decide +kernel) (by decide +kernel)
set_option maxRecDepth 20000 in
theorem gX9_setFilter_X5_instrumentOf : GoodIn wsX9_setFilter (wsV RX9 61 RX5 yX5_instrumentOf wsX5_instrumentOf) := goodIn_app (goodIn_of _ (by decide +kernel)) ggX9_setFilter_X5_instrumentOf
theorem dX9_setFilter_0 : decode cX9_setFilter 0 = .ok (.iload_n 1, 1) := by decide +kernel
theorem dX9_setFilter_1 : decode cX9_setFilter 1 = .ok (.iconst 4, 1) := by decide +kernel
theorem dX9_setFilter_2 : decode cX9_setFilter 2 = .ok (.invokestatic 35, 3) := by decide +kernel
theorem dX9_setFilter_5 : decode cX9_setFilter 5 = .ok (.iload_n 2, 1) := by decide +kernel
theorem dX9_setFilter_6 : decode cX9_setFilter 6 = .ok (.iconst 1, 1) := by decide +kernel
theorem dX9_setFilter_7 : decode cX9_setFilter 7 = .ok (.sipush 128, 3) := by decide +kernel
theorem dX9_setFilter_10 : decode cX9_setFilter 10 = .ok (.invokestatic 39, 3) := by decide +kernel
theorem dX9_setFilter_13 : decode cX9_setFilter 13 = .ok (.iload_n 3, 1) := by decide +kernel
theorem dX9_setFilter_14 : decode cX9_setFilter 14 = .ok (.bipush 16, 2) := by decide +kernel
theorem dX9_setFilter_16 : decode cX9_setFilter 16 = .ok (.sipush 256, 3) := by decide +kernel
theorem dX9_setFilter_19 : decode cX9_setFilter 19 = .ok (.invokestatic 39, 3) := by decide +kernel
theorem dX9_setFilter_22 : decode cX9_setFilter 22 = .ok (.aload_n 0, 1) := by decide +kernel
theorem dX9_setFilter_23 : decode cX9_setFilter 23 = .ok (.getfield 10, 3) := by decide +kernel
theorem dX9_setFilter_26 : decode cX9_setFilter 26 = .ok (.iload_n 1, 1) := by decide +kernel
theorem dX9_setFilter_27 : decode cX9_setFilter 27 = .ok (.invokevirtual 61, 3) := by decide +kernel
theorem dX9_setFilter_30 : decode cX9_setFilter 30 = .ok (.astore 4, 2) := by decide +kernel
theorem dX9_setFilter_32 : decode cX9_setFilter 32 = .ok (.aload 4, 2) := by decide +kernel
theorem dX9_setFilter_34 : decode cX9_setFilter 34 = .ok (.getfield 92, 3) := by decide +kernel
theorem dX9_setFilter_37 : decode cX9_setFilter 37 = .ok (.istore 5, 2) := by decide +kernel
theorem dX9_setFilter_39 : decode cX9_setFilter 39 = .ok (.aload 4, 2) := by decide +kernel
theorem dX9_setFilter_41 : decode cX9_setFilter 41 = .ok (.iload_n 2, 1) := by decide +kernel
theorem dX9_setFilter_42 : decode cX9_setFilter 42 = .ok (.putfield 92, 3) := by decide +kernel
theorem dX9_setFilter_45 : decode cX9_setFilter 45 = .ok (.aload 4, 2) := by decide +kernel
theorem dX9_setFilter_47 : decode cX9_setFilter 47 = .ok (.iload_n 3, 1) := by decide +kernel
theorem dX9_setFilter_48 : decode cX9_setFilter 48 = .ok (.putfield 95, 3) := by decide +kernel
theorem dX9_setFilter_51 : decode cX9_setFilter 51 = .ok (.iload 5, 2) := by decide +kernel
theorem dX9_setFilter_53 : decode cX9_setFilter 53 = .ok (.ireturn, 1) := by decide +kernel
set_option maxRecDepth 20000 in
theorem ggX9_setVibrato_X9_needPlace : GoodIn wsX9_setVibrato wsX9_needPlace := goodIn_ca (goodIn_r _ [7, 8, 9] (by decide +kernel) (by decide +kernel)) (goodIn_sub (fun _ h => List.mem_cons_of_mem _ (List.mem_append_left _ (List.mem_append_right _ h))) (by decide +kernel))
set_option maxRecDepth 20000 in
theorem gX9_setVibrato_X9_needPlace : GoodIn wsX9_setVibrato (va_wsS RX9 35 yX9_needPlace wsX9_needPlace) := goodIn_app (goodIn_of _ (by decide +kernel)) ggX9_setVibrato_X9_needPlace
set_option maxRecDepth 20000 in
theorem ggX9_setVibrato_X9_needWithin : GoodIn wsX9_setVibrato wsX9_needWithin := goodIn_ca (goodIn_r _ [12, 13, 14] (by decide +kernel) (by decide +kernel)) (goodIn_sub (fun _ h => List.mem_cons_of_mem _ (List.mem_append_right _ h)) (by decide +kernel))
set_option maxRecDepth 20000 in
theorem gX9_setVibrato_X9_needWithin : GoodIn wsX9_setVibrato (va_wsS RX9 39 yX9_needWithin wsX9_needWithin) := goodIn_app (goodIn_of _ (by decide +kernel)) ggX9_setVibrato_X9_needWithin
set_option maxRecDepth 20000 in
theorem ggX9_setVibrato_X5_instrumentOf : GoodIn wsX9_setVibrato wsX5_instrumentOf := goodIn_r _ [19, 20, 21, 22, 23, 40, 41, 42, 43, 44, 45, 46] (by decide +kernel) (by decide +kernel)
set_option maxRecDepth 20000 in
theorem gX9_setVibrato_X5_instrumentOf : GoodIn wsX9_setVibrato (wsV RX9 61 RX5 yX5_instrumentOf wsX5_instrumentOf) := goodIn_app (goodIn_of _ (by decide +kernel)) ggX9_setVibrato_X5_instrumentOf
theorem dX9_setVibrato_0 : decode cX9_setVibrato 0 = .ok (.iload_n 1, 1) := by decide +kernel
theorem dX9_setVibrato_1 : decode cX9_setVibrato 1 = .ok (.iconst 4, 1) := by decide +kernel
theorem dX9_setVibrato_2 : decode cX9_setVibrato 2 = .ok (.invokestatic 35, 3) := by decide +kernel
theorem dX9_setVibrato_5 : decode cX9_setVibrato 5 = .ok (.iload_n 2, 1) := by decide +kernel
theorem dX9_setVibrato_6 : decode cX9_setVibrato 6 = .ok (.iconst 0, 1) := by decide +kernel
theorem dX9_setVibrato_7 : decode cX9_setVibrato 7 = .ok (.bipush 64, 2) := by decide +kernel
theorem dX9_setVibrato_9 : decode cX9_setVibrato 9 = .ok (.invokestatic 39, 3) := by decide +kernel
theorem dX9_setVibrato_12 : decode cX9_setVibrato 12 = .ok (.iload_n 3, 1) := by decide +kernel
theorem dX9_setVibrato_13 : decode cX9_setVibrato 13 = .ok (.bipush 8, 2) := by decide +kernel
theorem dX9_setVibrato_15 : decode cX9_setVibrato 15 = .ok (.sipush 255, 3) := by decide +kernel
theorem dX9_setVibrato_18 : decode cX9_setVibrato 18 = .ok (.invokestatic 39, 3) := by decide +kernel
theorem dX9_setVibrato_21 : decode cX9_setVibrato 21 = .ok (.aload_n 0, 1) := by decide +kernel
theorem dX9_setVibrato_22 : decode cX9_setVibrato 22 = .ok (.getfield 10, 3) := by decide +kernel
theorem dX9_setVibrato_25 : decode cX9_setVibrato 25 = .ok (.iload_n 1, 1) := by decide +kernel
theorem dX9_setVibrato_26 : decode cX9_setVibrato 26 = .ok (.invokevirtual 61, 3) := by decide +kernel
theorem dX9_setVibrato_29 : decode cX9_setVibrato 29 = .ok (.astore 4, 2) := by decide +kernel
theorem dX9_setVibrato_31 : decode cX9_setVibrato 31 = .ok (.aload 4, 2) := by decide +kernel
theorem dX9_setVibrato_33 : decode cX9_setVibrato 33 = .ok (.getfield 98, 3) := by decide +kernel
theorem dX9_setVibrato_36 : decode cX9_setVibrato 36 = .ok (.istore 5, 2) := by decide +kernel
theorem dX9_setVibrato_38 : decode cX9_setVibrato 38 = .ok (.aload 4, 2) := by decide +kernel
theorem dX9_setVibrato_40 : decode cX9_setVibrato 40 = .ok (.iload_n 2, 1) := by decide +kernel
theorem dX9_setVibrato_41 : decode cX9_setVibrato 41 = .ok (.putfield 98, 3) := by decide +kernel
theorem dX9_setVibrato_44 : decode cX9_setVibrato 44 = .ok (.aload 4, 2) := by decide +kernel
theorem dX9_setVibrato_46 : decode cX9_setVibrato 46 = .ok (.iload_n 3, 1) := by decide +kernel
theorem dX9_setVibrato_47 : decode cX9_setVibrato 47 = .ok (.putfield 101, 3) := by decide +kernel
theorem dX9_setVibrato_50 : decode cX9_setVibrato 50 = .ok (.iload 5, 2) := by decide +kernel
theorem dX9_setVibrato_52 : decode cX9_setVibrato 52 = .ok (.ireturn, 1) := by decide +kernel
set_option maxRecDepth 20000 in
theorem ggX9_setGain_X9_needWithin : GoodIn wsX9_setGain wsX9_needWithin := goodIn_ca (goodIn_r _ [6, 7, 8] (by decide +kernel) (by decide +kernel)) (goodIn_sub (fun _ h => List.mem_cons_of_mem _ (List.mem_append_right _ h)) (by decide +kernel))
set_option maxRecDepth 20000 in
theorem gX9_setGain_X9_needWithin : GoodIn wsX9_setGain (va_wsS RX9 39 yX9_needWithin wsX9_needWithin) := goodIn_app (goodIn_of _ (by decide +kernel)) ggX9_setGain_X9_needWithin
theorem dX9_setGain_0 : decode cX9_setGain 0 = .ok (.iload_n 1, 1) := by decide +kernel
theorem dX9_setGain_1 : decode cX9_setGain 1 = .ok (.iconst 0, 1) := by decide +kernel
theorem dX9_setGain_2 : decode cX9_setGain 2 = .ok (.sipush 256, 3) := by decide +kernel
theorem dX9_setGain_5 : decode cX9_setGain 5 = .ok (.invokestatic 39, 3) := by decide +kernel
theorem dX9_setGain_8 : decode cX9_setGain 8 = .ok (.aload_n 0, 1) := by decide +kernel
theorem dX9_setGain_9 : decode cX9_setGain 9 = .ok (.getfield 10, 3) := by decide +kernel
theorem dX9_setGain_12 : decode cX9_setGain 12 = .ok (.getfield 104, 3) := by decide +kernel
theorem dX9_setGain_15 : decode cX9_setGain 15 = .ok (.istore_n 2, 1) := by decide +kernel
theorem dX9_setGain_16 : decode cX9_setGain 16 = .ok (.aload_n 0, 1) := by decide +kernel
theorem dX9_setGain_17 : decode cX9_setGain 17 = .ok (.getfield 10, 3) := by decide +kernel
theorem dX9_setGain_20 : decode cX9_setGain 20 = .ok (.iload_n 1, 1) := by decide +kernel
theorem dX9_setGain_21 : decode cX9_setGain 21 = .ok (.putfield 104, 3) := by decide +kernel
theorem dX9_setGain_24 : decode cX9_setGain 24 = .ok (.iload_n 2, 1) := by decide +kernel
theorem dX9_setGain_25 : decode cX9_setGain 25 = .ok (.ireturn, 1) := by decide +kernel
set_option maxRecDepth 20000 in
theorem ggX9_setDelay_X9_needWithin : GoodIn wsX9_setDelay wsX9_needWithin := goodIn_ca (goodIn_r _ [7, 8, 9] (by decide +kernel) (by decide +kernel)) (goodIn_sub (fun _ h => List.mem_cons_of_mem _ (List.mem_append_right _ h)) (by decide +kernel))
set_option maxRecDepth 20000 in
theorem gX9_setDelay_X9_needWithin : GoodIn wsX9_setDelay (va_wsS RX9 39 yX9_needWithin wsX9_needWithin) := goodIn_app (goodIn_of _ (by decide +kernel)) ggX9_setDelay_X9_needWithin
set_option maxRecDepth 20000 in
theorem ggX9_setDelay_X0_tell : GoodIn wsX9_setDelay wsX0_tell := goodIn_r _ [14, 15, 16, 17, 18, 19, 20, 21, 22, 23, 24, 25, 42, 43, 44, 45, 46, 47] (by decide +kernel) (by decide +kernel)
set_option maxRecDepth 20000 in
theorem gX9_setDelay_X0_tell : GoodIn wsX9_setDelay (wsV RX9 116 RX0 yX0_tell wsX0_tell) := goodIn_app (goodIn_of _ (by decide +kernel)) ggX9_setDelay_X0_tell
theorem dX9_setDelay_0 : decode cX9_setDelay 0 = .ok (.iload_n 1, 1) := by decide +kernel
theorem dX9_setDelay_1 : decode cX9_setDelay 1 = .ok (.iconst 0, 1) := by decide +kernel
theorem dX9_setDelay_2 : decode cX9_setDelay 2 = .ok (.sipush 200, 3) := by decide +kernel
theorem dX9_setDelay_5 : decode cX9_setDelay 5 = .ok (.invokestatic 39, 3) := by decide +kernel
theorem dX9_setDelay_8 : decode cX9_setDelay 8 = .ok (.iload_n 2, 1) := by decide +kernel
theorem dX9_setDelay_9 : decode cX9_setDelay 9 = .ok (.iconst 0, 1) := by decide +kernel
theorem dX9_setDelay_10 : decode cX9_setDelay 10 = .ok (.sipush 256, 3) := by decide +kernel
theorem dX9_setDelay_13 : decode cX9_setDelay 13 = .ok (.invokestatic 39, 3) := by decide +kernel
theorem dX9_setDelay_16 : decode cX9_setDelay 16 = .ok (.iload_n 3, 1) := by decide +kernel
theorem dX9_setDelay_17 : decode cX9_setDelay 17 = .ok (.iconst 0, 1) := by decide +kernel
theorem dX9_setDelay_18 : decode cX9_setDelay 18 = .ok (.sipush 256, 3) := by decide +kernel
theorem dX9_setDelay_21 : decode cX9_setDelay 21 = .ok (.invokestatic 39, 3) := by decide +kernel
theorem dX9_setDelay_24 : decode cX9_setDelay 24 = .ok (.aload_n 0, 1) := by decide +kernel
theorem dX9_setDelay_25 : decode cX9_setDelay 25 = .ok (.getfield 21, 3) := by decide +kernel
theorem dX9_setDelay_28 : decode cX9_setDelay 28 = .ok (.getfield 107, 3) := by decide +kernel
theorem dX9_setDelay_31 : decode cX9_setDelay 31 = .ok (.getfield 111, 3) := by decide +kernel
theorem dX9_setDelay_34 : decode cX9_setDelay 34 = .ok (.istore 4, 2) := by decide +kernel
theorem dX9_setDelay_36 : decode cX9_setDelay 36 = .ok (.aload_n 0, 1) := by decide +kernel
theorem dX9_setDelay_37 : decode cX9_setDelay 37 = .ok (.getfield 21, 3) := by decide +kernel
theorem dX9_setDelay_40 : decode cX9_setDelay 40 = .ok (.getfield 107, 3) := by decide +kernel
theorem dX9_setDelay_43 : decode cX9_setDelay 43 = .ok (.iload_n 1, 1) := by decide +kernel
theorem dX9_setDelay_44 : decode cX9_setDelay 44 = .ok (.iload_n 2, 1) := by decide +kernel
theorem dX9_setDelay_45 : decode cX9_setDelay 45 = .ok (.iload_n 3, 1) := by decide +kernel
theorem dX9_setDelay_46 : decode cX9_setDelay 46 = .ok (.invokevirtual 116, 3) := by decide +kernel
theorem dX9_setDelay_49 : decode cX9_setDelay 49 = .ok (.iload 4, 2) := by decide +kernel
theorem dX9_setDelay_51 : decode cX9_setDelay 51 = .ok (.ireturn, 1) := by decide +kernel
set_option maxRecDepth 20000 in
theorem ggX9_begin_X9_needPlace : GoodIn wsX9_begin wsX9_needPlace := goodIn_ca (goodIn_r _ [5, 6, 7] (by decide +kernel) (by decide +kernel)) (goodIn_sub (fun _ h => List.mem_cons_of_mem _ (List.mem_append_left _ (List.mem_append_right _ h))) (by decide +kernel))
set_option maxRecDepth 20000 in
theorem gX9_begin_X9_needPlace : GoodIn wsX9_begin (va_wsS RX9 35 yX9_needPlace wsX9_needPlace) := goodIn_app (goodIn_of _ (by decide +kernel)) ggX9_begin_X9_needPlace
set_option maxRecDepth 20000 in
theorem ggX9_begin_X9_needWithin : GoodIn wsX9_begin wsX9_needWithin := goodIn_ca (goodIn_r _ [10, 11, 12] (by decide +kernel) (by decide +kernel)) (goodIn_sub (fun _ h => List.mem_cons_of_mem _ (List.mem_append_right _ h)) (by decide +kernel))
set_option maxRecDepth 20000 in
theorem gX9_begin_X9_needWithin : GoodIn wsX9_begin (va_wsS RX9 39 yX9_needWithin wsX9_needWithin) := goodIn_app (goodIn_of _ (by decide +kernel)) ggX9_begin_X9_needWithin
set_option maxRecDepth 20000 in
theorem ggX9_begin_X6_startNote : GoodIn wsX9_begin wsX6_startNote := goodIn_r _ [17, 18, 19, 20, 21, 22, 23, 16, 24, 25, 26, 27, 28, 29, 30, 31, 32, 33, 34, 35, 36, 37, 38, 39, 40, 41, 42, 43, 44, 45, 46, 47, 48, 49, 50, 51, 52, 53, 54, 55, 56, 61, 62, 63, 64, 65, 66, 67, 68, 69, 70, 71, 72, 73, 74, 75, 76, 77, 78, 79, 80, 81, 82, 83] (by decide +kernel) (by decide +kernel)
set_option maxRecDepth 20000 in
theorem gX9_begin_X6_startNote : GoodIn wsX9_begin (wsV RX9 119 RX6 yX6_startNote wsX6_startNote) := goodIn_app (goodIn_of _ (by decide +kernel)) ggX9_begin_X6_startNote
theorem dX9_begin_0 : decode cX9_begin 0 = .ok (.iload_n 1, 1) := by decide +kernel
theorem dX9_begin_1 : decode cX9_begin 1 = .ok (.iconst 4, 1) := by decide +kernel
theorem dX9_begin_2 : decode cX9_begin 2 = .ok (.invokestatic 35, 3) := by decide +kernel
theorem dX9_begin_5 : decode cX9_begin 5 = .ok (.iload_n 2, 1) := by decide +kernel
theorem dX9_begin_6 : decode cX9_begin 6 = .ok (.iconst 0, 1) := by decide +kernel
theorem dX9_begin_7 : decode cX9_begin 7 = .ok (.bipush 47, 2) := by decide +kernel
theorem dX9_begin_9 : decode cX9_begin 9 = .ok (.invokestatic 39, 3) := by decide +kernel
theorem dX9_begin_12 : decode cX9_begin 12 = .ok (.iload_n 3, 1) := by decide +kernel
theorem dX9_begin_13 : decode cX9_begin 13 = .ok (.iconst 1, 1) := by decide +kernel
theorem dX9_begin_14 : decode cX9_begin 14 = .ok (.bipush 127, 2) := by decide +kernel
theorem dX9_begin_16 : decode cX9_begin 16 = .ok (.invokestatic 39, 3) := by decide +kernel
theorem dX9_begin_19 : decode cX9_begin 19 = .ok (.aload_n 0, 1) := by decide +kernel
theorem dX9_begin_20 : decode cX9_begin 20 = .ok (.getfield 21, 3) := by decide +kernel
theorem dX9_begin_23 : decode cX9_begin 23 = .ok (.iload_n 1, 1) := by decide +kernel
theorem dX9_begin_24 : decode cX9_begin 24 = .ok (.iload_n 2, 1) := by decide +kernel
theorem dX9_begin_25 : decode cX9_begin 25 = .ok (.iload_n 3, 1) := by decide +kernel
theorem dX9_begin_26 : decode cX9_begin 26 = .ok (.iconst (-1), 1) := by decide +kernel
theorem dX9_begin_27 : decode cX9_begin 27 = .ok (.invokevirtual 119, 3) := by decide +kernel
theorem dX9_begin_30 : decode cX9_begin 30 = .ok (.ireturn, 1) := by decide +kernel
set_option maxRecDepth 20000 in
theorem ggX9_end_X9_needPlace : GoodIn wsX9_end wsX9_needPlace := goodIn_ca (goodIn_r _ [6, 7, 8] (by decide +kernel) (by decide +kernel)) (goodIn_sub (fun _ h => List.mem_cons_of_mem _ (List.mem_append_right _ h)) (by decide +kernel))
set_option maxRecDepth 20000 in
theorem gX9_end_X9_needPlace : GoodIn wsX9_end (va_wsS RX9 35 yX9_needPlace wsX9_needPlace) := goodIn_app (goodIn_of _ (by decide +kernel)) ggX9_end_X9_needPlace
set_option maxRecDepth 20000 in
theorem ggX9_end_X6_voiceOf : GoodIn wsX9_end wsX6_voiceOf := goodIn_r _ [13, 14, 15, 16, 17, 39, 40, 41, 42, 43, 44, 45, 46, 47, 48, 49, 50] (by decide +kernel) (by decide +kernel)
set_option maxRecDepth 20000 in
theorem gX9_end_X6_voiceOf : GoodIn wsX9_end (wsV RX9 123 RX6 yX6_voiceOf wsX6_voiceOf) := goodIn_app (goodIn_of _ (by decide +kernel)) ggX9_end_X6_voiceOf
set_option maxRecDepth 20000 in
theorem ggX9_end_X7_release : GoodIn wsX9_end wsX7_release := goodIn_r _ [22, 23, 28, 29, 30, 31, 32, 33, 34, 35, 36, 37, 38] (by decide +kernel) (by decide +kernel)
set_option maxRecDepth 20000 in
theorem gX9_end_X7_release : GoodIn wsX9_end (wsV RX9 132 RX7 yX7_release wsX7_release) := goodIn_app (goodIn_of _ (by decide +kernel)) ggX9_end_X7_release
theorem dX9_end_0 : decode cX9_end 0 = .ok (.iload_n 1, 1) := by decide +kernel
theorem dX9_end_1 : decode cX9_end 1 = .ok (.iconst 4, 1) := by decide +kernel
theorem dX9_end_2 : decode cX9_end 2 = .ok (.invokestatic 35, 3) := by decide +kernel
theorem dX9_end_5 : decode cX9_end 5 = .ok (.aload_n 0, 1) := by decide +kernel
theorem dX9_end_6 : decode cX9_end 6 = .ok (.getfield 21, 3) := by decide +kernel
theorem dX9_end_9 : decode cX9_end 9 = .ok (.iload_n 1, 1) := by decide +kernel
theorem dX9_end_10 : decode cX9_end 10 = .ok (.invokevirtual 123, 3) := by decide +kernel
theorem dX9_end_13 : decode cX9_end 13 = .ok (.astore_n 2, 1) := by decide +kernel
theorem dX9_end_14 : decode cX9_end 14 = .ok (.aload_n 2, 1) := by decide +kernel
theorem dX9_end_15 : decode cX9_end 15 = .ok (.getfield 127, 3) := by decide +kernel
theorem dX9_end_18 : decode cX9_end 18 = .ok (.istore_n 3, 1) := by decide +kernel
theorem dX9_end_19 : decode cX9_end 19 = .ok (.aload_n 2, 1) := by decide +kernel
theorem dX9_end_20 : decode cX9_end 20 = .ok (.invokevirtual 132, 3) := by decide +kernel
theorem dX9_end_23 : decode cX9_end 23 = .ok (.iload_n 3, 1) := by decide +kernel
theorem dX9_end_24 : decode cX9_end 24 = .ok (.ireturn, 1) := by decide +kernel
set_option maxRecDepth 20000 in
theorem ggX9_hush_X6_countSounding : GoodIn wsX9_hush wsX6_countSounding := goodIn_r _ [6, 7, 8, 9, 10, 5, 11, 12, 13, 14, 15, 29, 30, 31, 32, 33, 34, 35, 36, 37, 38, 39, 40, 41, 42, 43, 44, 45, 46, 47, 48, 49, 50, 51] (by decide +kernel) (by decide +kernel)
set_option maxRecDepth 20000 in
theorem gX9_hush_X6_countSounding : GoodIn wsX9_hush (wsV RX9 134 RX6 yX6_countSounding wsX6_countSounding) := goodIn_app (goodIn_of _ (by decide +kernel)) ggX9_hush_X6_countSounding
set_option maxRecDepth 20000 in
theorem ggX9_hush_X6_voiceOf : GoodIn wsX9_hush wsX6_voiceOf := goodIn_r _ [11, 12, 13, 14, 15, 40, 41, 42, 43, 44, 45, 46, 47, 48, 49, 50, 51] (by decide +kernel) (by decide +kernel)
set_option maxRecDepth 20000 in
theorem gX9_hush_X6_voiceOf : GoodIn wsX9_hush (wsV RX9 123 RX6 yX6_voiceOf wsX6_voiceOf) := goodIn_app (goodIn_of _ (by decide +kernel)) ggX9_hush_X6_voiceOf
set_option maxRecDepth 20000 in
theorem ggX9_hush_X7_silence : GoodIn wsX9_hush wsX7_silence := goodIn_r _ [21, 22, 23, 24, 29, 30, 31, 32, 33, 34, 35, 36, 37, 38, 39] (by decide +kernel) (by decide +kernel)
set_option maxRecDepth 20000 in
theorem gX9_hush_X7_silence : GoodIn wsX9_hush (wsV RX9 138 RX7 yX7_silence wsX7_silence) := goodIn_app (goodIn_of _ (by decide +kernel)) ggX9_hush_X7_silence
theorem dX9_hush_0 : decode cX9_hush 0 = .ok (.aload_n 0, 1) := by decide +kernel
theorem dX9_hush_1 : decode cX9_hush 1 = .ok (.getfield 21, 3) := by decide +kernel
theorem dX9_hush_4 : decode cX9_hush 4 = .ok (.invokevirtual 134, 3) := by decide +kernel
theorem dX9_hush_7 : decode cX9_hush 7 = .ok (.istore_n 1, 1) := by decide +kernel
theorem dX9_hush_8 : decode cX9_hush 8 = .ok (.iconst 0, 1) := by decide +kernel
theorem dX9_hush_9 : decode cX9_hush 9 = .ok (.istore_n 2, 1) := by decide +kernel
theorem dX9_hush_10 : decode cX9_hush 10 = .ok (.iload_n 2, 1) := by decide +kernel
theorem dX9_hush_11 : decode cX9_hush 11 = .ok (.iconst 4, 1) := by decide +kernel
theorem dX9_hush_12 : decode cX9_hush 12 = .ok (.if_icmp .ge 20, 3) := by decide +kernel
theorem dX9_hush_15 : decode cX9_hush 15 = .ok (.aload_n 0, 1) := by decide +kernel
theorem dX9_hush_16 : decode cX9_hush 16 = .ok (.getfield 21, 3) := by decide +kernel
theorem dX9_hush_19 : decode cX9_hush 19 = .ok (.iload_n 2, 1) := by decide +kernel
theorem dX9_hush_20 : decode cX9_hush 20 = .ok (.invokevirtual 123, 3) := by decide +kernel
theorem dX9_hush_23 : decode cX9_hush 23 = .ok (.invokevirtual 138, 3) := by decide +kernel
theorem dX9_hush_26 : decode cX9_hush 26 = .ok (.iinc 2 1, 3) := by decide +kernel
theorem dX9_hush_29 : decode cX9_hush 29 = .ok (.goto (-19), 3) := by decide +kernel
theorem dX9_hush_32 : decode cX9_hush 32 = .ok (.iload_n 1, 1) := by decide +kernel
theorem dX9_hush_33 : decode cX9_hush 33 = .ok (.ireturn, 1) := by decide +kernel
set_option maxRecDepth 20000 in
theorem ggX9_write_X9_needPlace : GoodIn wsX9_write wsX9_needPlace := goodIn_ca (goodIn_r _ [6, 7, 8] (by decide +kernel) (by decide +kernel)) (goodIn_sub (fun _ h => List.mem_cons_of_mem _ (List.mem_append_left _ (List.mem_append_right _ h))) (by decide +kernel))
set_option maxRecDepth 20000 in
theorem gX9_write_X9_needPlace : GoodIn wsX9_write (va_wsS RX9 35 yX9_needPlace wsX9_needPlace) := goodIn_app (goodIn_of _ (by decide +kernel)) ggX9_write_X9_needPlace
set_option maxRecDepth 20000 in
theorem ggX9_write_X9_needWithin : GoodIn wsX9_write wsX9_needWithin := goodIn_ca (goodIn_r _ [11, 12, 13] (by decide +kernel) (by decide +kernel)) (goodIn_sub (fun _ h => List.mem_cons_of_mem _ (List.mem_append_right _ h)) (by decide +kernel))
set_option maxRecDepth 20000 in
theorem gX9_write_X9_needWithin : GoodIn wsX9_write (va_wsS RX9 39 yX9_needWithin wsX9_needWithin) := goodIn_app (goodIn_of _ (by decide +kernel)) ggX9_write_X9_needWithin
set_option maxRecDepth 20000 in
theorem ggX9_write_X4_pitchOf : GoodIn wsX9_write wsX4_pitchOf := goodIn_r _ [18, 19, 20, 21, 22, 23, 24, 25, 47, 48, 49, 50, 51, 52, 53] (by decide +kernel) (by decide +kernel)
set_option maxRecDepth 20000 in
theorem gX9_write_X4_pitchOf : GoodIn wsX9_write (wsV RX9 145 RX4 yX4_pitchOf wsX4_pitchOf) := goodIn_app (goodIn_of _ (by decide +kernel)) ggX9_write_X4_pitchOf
set_option maxRecDepth 20000 in
theorem ggX9_write_X4_note : GoodIn wsX9_write wsX4_note := goodIn_r _ [29, 19, 30, 31, 32, 33, 34, 23, 35, 25, 47, 48, 49, 50, 51, 52, 53] (by decide +kernel) (by decide +kernel)
set_option maxRecDepth 20000 in
theorem gX9_write_X4_note : GoodIn wsX9_write (wsV RX9 150 RX4 yX4_note wsX4_note) := goodIn_app (goodIn_of _ (by decide +kernel)) ggX9_write_X4_note
theorem dX9_write_0 : decode cX9_write 0 = .ok (.iload_n 1, 1) := by decide +kernel
theorem dX9_write_1 : decode cX9_write 1 = .ok (.iconst 3, 1) := by decide +kernel
theorem dX9_write_2 : decode cX9_write 2 = .ok (.invokestatic 35, 3) := by decide +kernel
theorem dX9_write_5 : decode cX9_write 5 = .ok (.iload_n 2, 1) := by decide +kernel
theorem dX9_write_6 : decode cX9_write 6 = .ok (.bipush 8, 2) := by decide +kernel
theorem dX9_write_8 : decode cX9_write 8 = .ok (.invokestatic 35, 3) := by decide +kernel
theorem dX9_write_11 : decode cX9_write 11 = .ok (.iload_n 3, 1) := by decide +kernel
theorem dX9_write_12 : decode cX9_write 12 = .ok (.iconst (-1), 1) := by decide +kernel
theorem dX9_write_13 : decode cX9_write 13 = .ok (.bipush 47, 2) := by decide +kernel
theorem dX9_write_15 : decode cX9_write 15 = .ok (.invokestatic 39, 3) := by decide +kernel
theorem dX9_write_18 : decode cX9_write 18 = .ok (.iload_n 3, 1) := by decide +kernel
theorem dX9_write_19 : decode cX9_write 19 = .ok (.iconst (-1), 1) := by decide +kernel
theorem dX9_write_20 : decode cX9_write 20 = .ok (.if_icmp .eq 20, 3) := by decide +kernel
theorem dX9_write_23 : decode cX9_write 23 = .ok (.iload 4, 2) := by decide +kernel
theorem dX9_write_25 : decode cX9_write 25 = .ok (.iconst 1, 1) := by decide +kernel
theorem dX9_write_26 : decode cX9_write 26 = .ok (.bipush 127, 2) := by decide +kernel
theorem dX9_write_28 : decode cX9_write 28 = .ok (.invokestatic 39, 3) := by decide +kernel
theorem dX9_write_31 : decode cX9_write 31 = .ok (.iload 5, 2) := by decide +kernel
theorem dX9_write_33 : decode cX9_write 33 = .ok (.iconst 1, 1) := by decide +kernel
theorem dX9_write_34 : decode cX9_write 34 = .ok (.sipush 200, 3) := by decide +kernel
theorem dX9_write_37 : decode cX9_write 37 = .ok (.invokestatic 39, 3) := by decide +kernel
theorem dX9_write_40 : decode cX9_write 40 = .ok (.aload_n 0, 1) := by decide +kernel
theorem dX9_write_41 : decode cX9_write 41 = .ok (.getfield 10, 3) := by decide +kernel
theorem dX9_write_44 : decode cX9_write 44 = .ok (.getfield 141, 3) := by decide +kernel
theorem dX9_write_47 : decode cX9_write 47 = .ok (.iload_n 1, 1) := by decide +kernel
theorem dX9_write_48 : decode cX9_write 48 = .ok (.iload_n 2, 1) := by decide +kernel
theorem dX9_write_49 : decode cX9_write 49 = .ok (.invokevirtual 145, 3) := by decide +kernel
theorem dX9_write_52 : decode cX9_write 52 = .ok (.istore 6, 2) := by decide +kernel
theorem dX9_write_54 : decode cX9_write 54 = .ok (.iload_n 3, 1) := by decide +kernel
theorem dX9_write_55 : decode cX9_write 55 = .ok (.iconst (-1), 1) := by decide +kernel
theorem dX9_write_56 : decode cX9_write 56 = .ok (.if_icmp .ne 21, 3) := by decide +kernel
theorem dX9_write_59 : decode cX9_write 59 = .ok (.aload_n 0, 1) := by decide +kernel
theorem dX9_write_60 : decode cX9_write 60 = .ok (.getfield 10, 3) := by decide +kernel
theorem dX9_write_63 : decode cX9_write 63 = .ok (.getfield 141, 3) := by decide +kernel
theorem dX9_write_66 : decode cX9_write 66 = .ok (.iload_n 1, 1) := by decide +kernel
theorem dX9_write_67 : decode cX9_write 67 = .ok (.iload_n 2, 1) := by decide +kernel
theorem dX9_write_68 : decode cX9_write 68 = .ok (.iconst (-1), 1) := by decide +kernel
theorem dX9_write_69 : decode cX9_write 69 = .ok (.iconst 0, 1) := by decide +kernel
theorem dX9_write_70 : decode cX9_write 70 = .ok (.iconst 0, 1) := by decide +kernel
theorem dX9_write_71 : decode cX9_write 71 = .ok (.invokevirtual 150, 3) := by decide +kernel
theorem dX9_write_74 : decode cX9_write 74 = .ok (.goto 20, 3) := by decide +kernel
theorem dX9_write_77 : decode cX9_write 77 = .ok (.aload_n 0, 1) := by decide +kernel
theorem dX9_write_78 : decode cX9_write 78 = .ok (.getfield 10, 3) := by decide +kernel
theorem dX9_write_81 : decode cX9_write 81 = .ok (.getfield 141, 3) := by decide +kernel
theorem dX9_write_84 : decode cX9_write 84 = .ok (.iload_n 1, 1) := by decide +kernel
theorem dX9_write_85 : decode cX9_write 85 = .ok (.iload_n 2, 1) := by decide +kernel
theorem dX9_write_86 : decode cX9_write 86 = .ok (.iload_n 3, 1) := by decide +kernel
theorem dX9_write_87 : decode cX9_write 87 = .ok (.iload 4, 2) := by decide +kernel
theorem dX9_write_89 : decode cX9_write 89 = .ok (.iload 5, 2) := by decide +kernel
theorem dX9_write_91 : decode cX9_write 91 = .ok (.invokevirtual 150, 3) := by decide +kernel
theorem dX9_write_94 : decode cX9_write 94 = .ok (.iload 6, 2) := by decide +kernel
theorem dX9_write_96 : decode cX9_write 96 = .ok (.ireturn, 1) := by decide +kernel
set_option maxRecDepth 20000 in
theorem ggX9_setTempo_X9_needWithin : GoodIn wsX9_setTempo wsX9_needWithin := goodIn_ca (goodIn_r _ [8, 9, 10] (by decide +kernel) (by decide +kernel)) (goodIn_sub (fun _ h => List.mem_cons_of_mem _ (List.mem_append_right _ h)) (by decide +kernel))
set_option maxRecDepth 20000 in
theorem gX9_setTempo_X9_needWithin : GoodIn wsX9_setTempo (va_wsS RX9 39 yX9_needWithin wsX9_needWithin) := goodIn_app (goodIn_of _ (by decide +kernel)) ggX9_setTempo_X9_needWithin
theorem dX9_setTempo_0 : decode cX9_setTempo 0 = .ok (.iload_n 1, 1) := by decide +kernel
theorem dX9_setTempo_1 : decode cX9_setTempo 1 = .ok (.iconst 1, 1) := by decide +kernel
theorem dX9_setTempo_2 : decode cX9_setTempo 2 = .ok (.sipush 200, 3) := by decide +kernel
theorem dX9_setTempo_5 : decode cX9_setTempo 5 = .ok (.invokestatic 39, 3) := by decide +kernel
theorem dX9_setTempo_8 : decode cX9_setTempo 8 = .ok (.iload_n 2, 1) := by decide +kernel
theorem dX9_setTempo_9 : decode cX9_setTempo 9 = .ok (.iconst 0, 1) := by decide +kernel
theorem dX9_setTempo_10 : decode cX9_setTempo 10 = .ok (.iload_n 1, 1) := by decide +kernel
theorem dX9_setTempo_11 : decode cX9_setTempo 11 = .ok (.iconst 1, 1) := by decide +kernel
theorem dX9_setTempo_12 : decode cX9_setTempo 12 = .ok (.isub, 1) := by decide +kernel
theorem dX9_setTempo_13 : decode cX9_setTempo 13 = .ok (.invokestatic 39, 3) := by decide +kernel
theorem dX9_setTempo_16 : decode cX9_setTempo 16 = .ok (.aload_n 0, 1) := by decide +kernel
theorem dX9_setTempo_17 : decode cX9_setTempo 17 = .ok (.getfield 10, 3) := by decide +kernel
theorem dX9_setTempo_20 : decode cX9_setTempo 20 = .ok (.getfield 141, 3) := by decide +kernel
theorem dX9_setTempo_23 : decode cX9_setTempo 23 = .ok (.getfield 166, 3) := by decide +kernel
theorem dX9_setTempo_26 : decode cX9_setTempo 26 = .ok (.istore_n 3, 1) := by decide +kernel
theorem dX9_setTempo_27 : decode cX9_setTempo 27 = .ok (.aload_n 0, 1) := by decide +kernel
theorem dX9_setTempo_28 : decode cX9_setTempo 28 = .ok (.getfield 10, 3) := by decide +kernel
theorem dX9_setTempo_31 : decode cX9_setTempo 31 = .ok (.getfield 141, 3) := by decide +kernel
theorem dX9_setTempo_34 : decode cX9_setTempo 34 = .ok (.iload_n 1, 1) := by decide +kernel
theorem dX9_setTempo_35 : decode cX9_setTempo 35 = .ok (.putfield 166, 3) := by decide +kernel
theorem dX9_setTempo_38 : decode cX9_setTempo 38 = .ok (.aload_n 0, 1) := by decide +kernel
theorem dX9_setTempo_39 : decode cX9_setTempo 39 = .ok (.getfield 10, 3) := by decide +kernel
theorem dX9_setTempo_42 : decode cX9_setTempo 42 = .ok (.getfield 141, 3) := by decide +kernel
theorem dX9_setTempo_45 : decode cX9_setTempo 45 = .ok (.iload_n 2, 1) := by decide +kernel
theorem dX9_setTempo_46 : decode cX9_setTempo 46 = .ok (.putfield 169, 3) := by decide +kernel
theorem dX9_setTempo_49 : decode cX9_setTempo 49 = .ok (.iload_n 3, 1) := by decide +kernel
theorem dX9_setTempo_50 : decode cX9_setTempo 50 = .ok (.ireturn, 1) := by decide +kernel
set_option maxRecDepth 20000 in
theorem ggX9_play_X9_needPlace : GoodIn wsX9_play wsX9_needPlace := goodIn_ca (goodIn_r _ [8, 9, 10] (by decide +kernel) (by decide +kernel)) (goodIn_sub (fun _ h => List.mem_cons_of_mem _ (List.mem_append_right _ h)) (by decide +kernel))
set_option maxRecDepth 20000 in
theorem gX9_play_X9_needPlace : GoodIn wsX9_play (va_wsS RX9 35 yX9_needPlace wsX9_needPlace) := goodIn_app (goodIn_of _ (by decide +kernel)) ggX9_play_X9_needPlace
theorem dX9_play_0 : decode cX9_play 0 = .ok (.iload_n 1, 1) := by decide +kernel
theorem dX9_play_1 : decode cX9_play 1 = .ok (.bipush 8, 2) := by decide +kernel
theorem dX9_play_3 : decode cX9_play 3 = .ok (.invokestatic 35, 3) := by decide +kernel
theorem dX9_play_6 : decode cX9_play 6 = .ok (.aload_n 0, 1) := by decide +kernel
theorem dX9_play_7 : decode cX9_play 7 = .ok (.getfield 21, 3) := by decide +kernel
theorem dX9_play_10 : decode cX9_play 10 = .ok (.getfield 172, 3) := by decide +kernel
theorem dX9_play_13 : decode cX9_play 13 = .ok (.istore_n 2, 1) := by decide +kernel
theorem dX9_play_14 : decode cX9_play 14 = .ok (.aload_n 0, 1) := by decide +kernel
theorem dX9_play_15 : decode cX9_play 15 = .ok (.getfield 21, 3) := by decide +kernel
theorem dX9_play_18 : decode cX9_play 18 = .ok (.iconst 1, 1) := by decide +kernel
theorem dX9_play_19 : decode cX9_play 19 = .ok (.putfield 172, 3) := by decide +kernel
theorem dX9_play_22 : decode cX9_play 22 = .ok (.aload_n 0, 1) := by decide +kernel
theorem dX9_play_23 : decode cX9_play 23 = .ok (.getfield 21, 3) := by decide +kernel
theorem dX9_play_26 : decode cX9_play 26 = .ok (.iload_n 1, 1) := by decide +kernel
theorem dX9_play_27 : decode cX9_play 27 = .ok (.putfield 176, 3) := by decide +kernel
theorem dX9_play_30 : decode cX9_play 30 = .ok (.aload_n 0, 1) := by decide +kernel
theorem dX9_play_31 : decode cX9_play 31 = .ok (.getfield 21, 3) := by decide +kernel
theorem dX9_play_34 : decode cX9_play 34 = .ok (.iconst 0, 1) := by decide +kernel
theorem dX9_play_35 : decode cX9_play 35 = .ok (.putfield 179, 3) := by decide +kernel
theorem dX9_play_38 : decode cX9_play 38 = .ok (.iload_n 2, 1) := by decide +kernel
theorem dX9_play_39 : decode cX9_play 39 = .ok (.ireturn, 1) := by decide +kernel
set_option maxRecDepth 20000 in
theorem ggX9_stop_X6_stepOrNone : GoodIn wsX9_stop wsX6_stepOrNone := goodIn_r _ [7, 8, 9, 14, 15, 16, 17, 18, 19, 20, 21, 22, 23, 24, 25] (by decide +kernel) (by decide +kernel)
set_option maxRecDepth 20000 in
theorem gX9_stop_X6_stepOrNone : GoodIn wsX9_stop (wsV RX9 182 RX6 yX6_stepOrNone wsX6_stepOrNone) := goodIn_app (goodIn_of _ (by decide +kernel)) ggX9_stop_X6_stepOrNone
theorem dX9_stop_0 : decode cX9_stop 0 = .ok (.aload_n 0, 1) := by decide +kernel
theorem dX9_stop_1 : decode cX9_stop 1 = .ok (.getfield 21, 3) := by decide +kernel
theorem dX9_stop_4 : decode cX9_stop 4 = .ok (.invokevirtual 182, 3) := by decide +kernel
theorem dX9_stop_7 : decode cX9_stop 7 = .ok (.istore_n 1, 1) := by decide +kernel
theorem dX9_stop_8 : decode cX9_stop 8 = .ok (.aload_n 0, 1) := by decide +kernel
theorem dX9_stop_9 : decode cX9_stop 9 = .ok (.getfield 21, 3) := by decide +kernel
theorem dX9_stop_12 : decode cX9_stop 12 = .ok (.iconst 0, 1) := by decide +kernel
theorem dX9_stop_13 : decode cX9_stop 13 = .ok (.putfield 172, 3) := by decide +kernel
theorem dX9_stop_16 : decode cX9_stop 16 = .ok (.iload_n 1, 1) := by decide +kernel
theorem dX9_stop_17 : decode cX9_stop 17 = .ok (.ireturn, 1) := by decide +kernel
set_option maxRecDepth 20000 in
theorem ggX9_sample_X6_advance : GoodIn wsX9_sample wsX6_advance := goodIn_r _ [7, 8, 9, 10, 11, 12, 13, 14, 15, 16, 6, 17, 18, 19, 20, 21, 22, 23, 24, 25, 26, 27, 28, 29, 30, 31, 32, 33, 34, 35, 36, 37, 38, 39, 40, 41, 42, 43, 44, 45, 46, 47, 48, 49, 50, 51, 52, 53, 54, 55, 56, 57, 58, 59, 60, 61, 62, 63, 64, 65, 66, 67, 68, 69, 70, 71, 72, 73, 74, 75, 76, 77, 78, 79, 80, 81, 82, 83, 84, 85, 86, 87, 88, 89, 90, 91, 92, 93, 94, 95, 96, 97, 98, 99, 100, 101, 102, 103, 104, 105, 106, 107, 108, 109, 110, 111, 112, 113, 114, 115, 116, 117, 118, 119, 120, 121, 122, 123, 124, 125, 126, 127, 128, 129, 130, 131, 132, 133, 134, 135, 136, 137, 138, 139, 140, 141, 142, 143, 144, 145, 146, 147, 148, 149, 150, 151, 152, 153, 154, 155, 156, 157, 158, 159, 160, 161, 162, 163, 164, 165, 166, 167, 168, 169, 170, 171, 172, 173, 174, 175, 176, 177, 178, 179, 180, 181, 182, 183, 184, 185, 186, 187, 188, 189, 190, 191, 192, 193, 194, 195, 196, 197, 198, 199, 200, 201, 202, 203, 204, 205, 206, 207, 208, 209, 210, 233, 234, 235, 236, 237, 238, 239, 240, 241, 242, 243, 244, 245, 246, 247, 248, 249, 250, 251, 252, 253, 254, 255, 256, 257, 258, 259, 260, 261, 262, 263, 264, 265, 266, 267, 268, 269, 270, 271, 272, 273, 274, 275, 276, 277, 278, 279, 280, 281, 282, 283, 284, 285, 286, 287] (by decide +kernel) (by decide +kernel)
set_option maxRecDepth 20000 in
theorem gX9_sample_X6_advance : GoodIn wsX9_sample (wsV RX9 185 RX6 yX6_advance wsX6_advance) := goodIn_app (goodIn_of _ (by decide +kernel)) ggX9_sample_X6_advance
set_option maxRecDepth 20000 in
theorem ggX9_sample_X2_count : GoodIn wsX9_sample wsX2_count := goodIn_r _ [215, 216, 217, 218, 219, 220, 221, 222, 178, 223, 224, 225, 181, 182, 226, 227, 174, 134, 175, 176, 177, 179, 180, 228, 196, 197, 59, 198, 61, 288, 289, 290, 291, 292, 293, 294, 295, 269] (by decide +kernel) (by decide +kernel)
set_option maxRecDepth 20000 in
theorem gX9_sample_X2_count : GoodIn wsX9_sample (wsV RX9 188 RX2 yX2_count wsX2_count) := goodIn_app (goodIn_of _ (by decide +kernel)) ggX9_sample_X2_count
theorem dX9_sample_0 : decode cX9_sample 0 = .ok (.aload_n 0, 1) := by decide +kernel
theorem dX9_sample_1 : decode cX9_sample 1 = .ok (.getfield 31, 3) := by decide +kernel
theorem dX9_sample_4 : decode cX9_sample 4 = .ok (.aload_n 0, 1) := by decide +kernel
theorem dX9_sample_5 : decode cX9_sample 5 = .ok (.getfield 21, 3) := by decide +kernel
theorem dX9_sample_8 : decode cX9_sample 8 = .ok (.invokevirtual 185, 3) := by decide +kernel
theorem dX9_sample_11 : decode cX9_sample 11 = .ok (.invokevirtual 188, 3) := by decide +kernel
theorem dX9_sample_14 : decode cX9_sample 14 = .ok (.ireturn, 1) := by decide +kernel
set_option maxRecDepth 20000 in
theorem ggX9_run_X9_needWithin : GoodIn wsX9_run wsX9_needWithin := goodIn_ca (goodIn_r _ [6, 7, 8] (by decide +kernel) (by decide +kernel)) (goodIn_sub (fun _ h => List.mem_cons_of_mem _ (List.mem_append_right _ h)) (by decide +kernel))
set_option maxRecDepth 20000 in
theorem gX9_run_X9_needWithin : GoodIn wsX9_run (va_wsS RX9 39 yX9_needWithin wsX9_needWithin) := goodIn_app (goodIn_of _ (by decide +kernel)) ggX9_run_X9_needWithin
set_option maxRecDepth 20000 in
theorem ggX9_run_X6_advance : GoodIn wsX9_run wsX6_advance := goodIn_r _ [13, 14, 15, 16, 17, 18, 19, 20, 21, 22, 12, 23, 24, 25, 26, 27, 28, 29, 30, 31, 32, 33, 34, 35, 36, 37, 38, 39, 40, 41, 42, 43, 44, 45, 46, 47, 48, 49, 50, 51, 52, 53, 54, 55, 56, 57, 58, 59, 60, 61, 62, 63, 64, 65, 66, 67, 68, 69, 70, 71, 72, 73, 74, 75, 76, 77, 78, 79, 80, 81, 82, 83, 84, 85, 86, 87, 88, 89, 90, 91, 92, 93, 94, 95, 96, 97, 98, 99, 100, 101, 102, 103, 104, 105, 106, 107, 108, 109, 110, 111, 112, 113, 114, 115, 116, 117, 118, 119, 120, 121, 122, 123, 124, 125, 126, 127, 128, 129, 130, 131, 132, 133, 134, 135, 136, 137, 138, 139, 5, 140, 141, 142, 143, 144, 145, 146, 147, 148, 149, 150, 151, 152, 153, 154, 155, 156, 157, 158, 159, 160, 161, 162, 163, 164, 165, 166, 167, 168, 169, 170, 171, 172, 173, 174, 175, 176, 177, 178, 179, 180, 181, 182, 183, 184, 185, 186, 187, 188, 189, 190, 191, 192, 193, 194, 195, 196, 197, 198, 199, 200, 201, 202, 203, 204, 205, 206, 207, 208, 209, 210, 211, 212, 213, 214, 215, 238, 239, 240, 241, 242, 243, 244, 245, 246, 247, 248, 249, 250, 251, 252, 253, 254, 255, 256, 257, 258, 259, 260, 261, 262, 263, 264, 265, 266, 267, 268, 269, 270, 271, 272, 273, 274, 275, 276, 277, 278, 279, 280, 281, 282, 283, 284, 285, 286, 287, 288, 289, 290, 291, 292] (by decide +kernel) (by decide +kernel)
set_option maxRecDepth 20000 in
theorem gX9_run_X6_advance : GoodIn wsX9_run (wsV RX9 185 RX6 yX6_advance wsX6_advance) := goodIn_app (goodIn_of _ (by decide +kernel)) ggX9_run_X6_advance
set_option maxRecDepth 20000 in
theorem ggX9_run_X2_count : GoodIn wsX9_run wsX2_count := goodIn_r _ [220, 221, 222, 223, 224, 225, 226, 227, 183, 228, 229, 230, 186, 187, 231, 232, 179, 5, 180, 181, 182, 184, 185, 233, 201, 202, 65, 203, 67, 293, 294, 295, 296, 297, 298, 299, 300, 274] (by decide +kernel) (by decide +kernel)
set_option maxRecDepth 20000 in
theorem gX9_run_X2_count : GoodIn wsX9_run (wsV RX9 188 RX2 yX2_count wsX2_count) := goodIn_app (goodIn_of _ (by decide +kernel)) ggX9_run_X2_count
theorem dX9_run_0 : decode cX9_run 0 = .ok (.iload_n 1, 1) := by decide +kernel
theorem dX9_run_1 : decode cX9_run 1 = .ok (.iconst 1, 1) := by decide +kernel
theorem dX9_run_2 : decode cX9_run 2 = .ok (.sipush 200, 3) := by decide +kernel
theorem dX9_run_5 : decode cX9_run 5 = .ok (.invokestatic 39, 3) := by decide +kernel
theorem dX9_run_8 : decode cX9_run 8 = .ok (.iconst 0, 1) := by decide +kernel
theorem dX9_run_9 : decode cX9_run 9 = .ok (.istore_n 2, 1) := by decide +kernel
theorem dX9_run_10 : decode cX9_run 10 = .ok (.iconst 0, 1) := by decide +kernel
theorem dX9_run_11 : decode cX9_run 11 = .ok (.istore_n 3, 1) := by decide +kernel
theorem dX9_run_12 : decode cX9_run 12 = .ok (.iload_n 3, 1) := by decide +kernel
theorem dX9_run_13 : decode cX9_run 13 = .ok (.iload_n 1, 1) := by decide +kernel
theorem dX9_run_14 : decode cX9_run 14 = .ok (.if_icmp .ge 24, 3) := by decide +kernel
theorem dX9_run_17 : decode cX9_run 17 = .ok (.aload_n 0, 1) := by decide +kernel
theorem dX9_run_18 : decode cX9_run 18 = .ok (.getfield 31, 3) := by decide +kernel
theorem dX9_run_21 : decode cX9_run 21 = .ok (.aload_n 0, 1) := by decide +kernel
theorem dX9_run_22 : decode cX9_run 22 = .ok (.getfield 21, 3) := by decide +kernel
theorem dX9_run_25 : decode cX9_run 25 = .ok (.invokevirtual 185, 3) := by decide +kernel
theorem dX9_run_28 : decode cX9_run 28 = .ok (.invokevirtual 188, 3) := by decide +kernel
theorem dX9_run_31 : decode cX9_run 31 = .ok (.istore_n 2, 1) := by decide +kernel
theorem dX9_run_32 : decode cX9_run 32 = .ok (.iinc 3 1, 3) := by decide +kernel
theorem dX9_run_35 : decode cX9_run 35 = .ok (.goto (-23), 3) := by decide +kernel
theorem dX9_run_38 : decode cX9_run 38 = .ok (.iload_n 2, 1) := by decide +kernel
theorem dX9_run_39 : decode cX9_run 39 = .ok (.ireturn, 1) := by decide +kernel
set_option maxRecDepth 20000 in
theorem ggX9_heard_X9_needWithin : GoodIn wsX9_heard wsX9_needWithin := goodIn_ca (goodIn_r _ [5, 6, 7] (by decide +kernel) (by decide +kernel)) (goodIn_sub (fun _ h => List.mem_cons_of_mem _ (List.mem_append_right _ h)) (by decide +kernel))
set_option maxRecDepth 20000 in
theorem gX9_heard_X9_needWithin : GoodIn wsX9_heard (va_wsS RX9 39 yX9_needWithin wsX9_needWithin) := goodIn_app (goodIn_of _ (by decide +kernel)) ggX9_heard_X9_needWithin
set_option maxRecDepth 20000 in
theorem ggX9_heard_X2_latest : GoodIn wsX9_heard wsX2_latest := goodIn_r _ [12, 13, 14, 15, 16, 17, 18, 19, 20, 21, 22, 23, 24, 29, 30, 31, 32, 33, 34, 35, 36, 37] (by decide +kernel) (by decide +kernel)
set_option maxRecDepth 20000 in
theorem gX9_heard_X2_latest : GoodIn wsX9_heard (wsV RX9 191 RX2 yX2_latest wsX2_latest) := goodIn_app (goodIn_of _ (by decide +kernel)) ggX9_heard_X2_latest
theorem dX9_heard_0 : decode cX9_heard 0 = .ok (.iload_n 1, 1) := by decide +kernel
theorem dX9_heard_1 : decode cX9_heard 1 = .ok (.iconst 0, 1) := by decide +kernel
theorem dX9_heard_2 : decode cX9_heard 2 = .ok (.bipush 63, 2) := by decide +kernel
theorem dX9_heard_4 : decode cX9_heard 4 = .ok (.invokestatic 39, 3) := by decide +kernel
theorem dX9_heard_7 : decode cX9_heard 7 = .ok (.aload_n 0, 1) := by decide +kernel
theorem dX9_heard_8 : decode cX9_heard 8 = .ok (.getfield 31, 3) := by decide +kernel
theorem dX9_heard_11 : decode cX9_heard 11 = .ok (.iload_n 1, 1) := by decide +kernel
theorem dX9_heard_12 : decode cX9_heard 12 = .ok (.invokevirtual 191, 3) := by decide +kernel
theorem dX9_heard_15 : decode cX9_heard 15 = .ok (.ireturn, 1) := by decide +kernel
theorem dX9_clock_0 : decode cX9_clock 0 = .ok (.aload_n 0, 1) := by decide +kernel
theorem dX9_clock_1 : decode cX9_clock 1 = .ok (.getfield 21, 3) := by decide +kernel
theorem dX9_clock_4 : decode cX9_clock 4 = .ok (.getfield 194, 3) := by decide +kernel
theorem dX9_clock_7 : decode cX9_clock 7 = .ok (.ireturn, 1) := by decide +kernel
theorem dX9_peak_0 : decode cX9_peak 0 = .ok (.aload_n 0, 1) := by decide +kernel
theorem dX9_peak_1 : decode cX9_peak 1 = .ok (.getfield 31, 3) := by decide +kernel
theorem dX9_peak_4 : decode cX9_peak 4 = .ok (.getfield 197, 3) := by decide +kernel
theorem dX9_peak_7 : decode cX9_peak 7 = .ok (.ireturn, 1) := by decide +kernel
set_option maxRecDepth 20000 in
theorem ggX9_loudness_X2_mean : GoodIn wsX9_loudness wsX2_mean := goodIn_r _ [6, 7, 8, 13, 14, 15, 16, 17, 18, 19, 20] (by decide +kernel) (by decide +kernel)
set_option maxRecDepth 20000 in
theorem gX9_loudness_X2_mean : GoodIn wsX9_loudness (wsV RX9 200 RX2 yX2_mean wsX2_mean) := goodIn_app (goodIn_of _ (by decide +kernel)) ggX9_loudness_X2_mean
theorem dX9_loudness_0 : decode cX9_loudness 0 = .ok (.aload_n 0, 1) := by decide +kernel
theorem dX9_loudness_1 : decode cX9_loudness 1 = .ok (.getfield 31, 3) := by decide +kernel
theorem dX9_loudness_4 : decode cX9_loudness 4 = .ok (.invokevirtual 200, 3) := by decide +kernel
theorem dX9_loudness_7 : decode cX9_loudness 7 = .ok (.dreturn, 1) := by decide +kernel
theorem dX9_clipped_0 : decode cX9_clipped 0 = .ok (.aload_n 0, 1) := by decide +kernel
theorem dX9_clipped_1 : decode cX9_clipped 1 = .ok (.getfield 31, 3) := by decide +kernel
theorem dX9_clipped_4 : decode cX9_clipped 4 = .ok (.getfield 204, 3) := by decide +kernel
theorem dX9_clipped_7 : decode cX9_clipped 7 = .ok (.ireturn, 1) := by decide +kernel
theorem dX9_crossings_0 : decode cX9_crossings 0 = .ok (.aload_n 0, 1) := by decide +kernel
theorem dX9_crossings_1 : decode cX9_crossings 1 = .ok (.getfield 31, 3) := by decide +kernel
theorem dX9_crossings_4 : decode cX9_crossings 4 = .ok (.getfield 207, 3) := by decide +kernel
theorem dX9_crossings_7 : decode cX9_crossings 7 = .ok (.ireturn, 1) := by decide +kernel
set_option maxRecDepth 20000 in
theorem ggX9_ofVoice_X9_needPlace : GoodIn wsX9_ofVoice wsX9_needPlace := goodIn_ca (goodIn_r _ [5, 6, 7] (by decide +kernel) (by decide +kernel)) (goodIn_sub (fun _ h => List.mem_cons_of_mem _ (List.mem_append_left _ (List.mem_append_right _ h))) (by decide +kernel))
set_option maxRecDepth 20000 in
theorem gX9_ofVoice_X9_needPlace : GoodIn wsX9_ofVoice (va_wsS RX9 35 yX9_needPlace wsX9_needPlace) := goodIn_app (goodIn_of _ (by decide +kernel)) ggX9_ofVoice_X9_needPlace
set_option maxRecDepth 20000 in
theorem ggX9_ofVoice_X9_needWithin : GoodIn wsX9_ofVoice wsX9_needWithin := goodIn_ca (goodIn_r _ [10, 11, 12] (by decide +kernel) (by decide +kernel)) (goodIn_sub (fun _ h => List.mem_cons_of_mem _ (List.mem_append_right _ h)) (by decide +kernel))
set_option maxRecDepth 20000 in
theorem gX9_ofVoice_X9_needWithin : GoodIn wsX9_ofVoice (va_wsS RX9 39 yX9_needWithin wsX9_needWithin) := goodIn_app (goodIn_of _ (by decide +kernel)) ggX9_ofVoice_X9_needWithin
set_option maxRecDepth 20000 in
theorem ggX9_ofVoice_X6_voiceOf : GoodIn wsX9_ofVoice wsX6_voiceOf := goodIn_r _ [17, 18, 19, 20, 21, 41, 42, 43, 44, 45, 46, 47, 48, 49, 50, 51, 52] (by decide +kernel) (by decide +kernel)
set_option maxRecDepth 20000 in
theorem gX9_ofVoice_X6_voiceOf : GoodIn wsX9_ofVoice (wsV RX9 123 RX6 yX6_voiceOf wsX6_voiceOf) := goodIn_app (goodIn_of _ (by decide +kernel)) ggX9_ofVoice_X6_voiceOf
set_option maxRecDepth 20000 in
theorem ggX9_ofVoice_X7_fact : GoodIn wsX9_ofVoice wsX7_fact := goodIn_r _ [26, 27, 28, 29, 30, 31, 32, 33, 34, 35, 36, 53, 54, 55, 56, 57, 58, 59, 60, 61, 62, 63] (by decide +kernel) (by decide +kernel)
set_option maxRecDepth 20000 in
theorem gX9_ofVoice_X7_fact : GoodIn wsX9_ofVoice (wsV RX9 216 RX7 yX7_fact wsX7_fact) := goodIn_app (goodIn_of _ (by decide +kernel)) ggX9_ofVoice_X7_fact
theorem dX9_ofVoice_0 : decode cX9_ofVoice 0 = .ok (.iload_n 1, 1) := by decide +kernel
theorem dX9_ofVoice_1 : decode cX9_ofVoice 1 = .ok (.iconst 4, 1) := by decide +kernel
theorem dX9_ofVoice_2 : decode cX9_ofVoice 2 = .ok (.invokestatic 35, 3) := by decide +kernel
theorem dX9_ofVoice_5 : decode cX9_ofVoice 5 = .ok (.iload_n 2, 1) := by decide +kernel
theorem dX9_ofVoice_6 : decode cX9_ofVoice 6 = .ok (.iconst 0, 1) := by decide +kernel
theorem dX9_ofVoice_7 : decode cX9_ofVoice 7 = .ok (.bipush 9, 2) := by decide +kernel
theorem dX9_ofVoice_9 : decode cX9_ofVoice 9 = .ok (.invokestatic 39, 3) := by decide +kernel
theorem dX9_ofVoice_12 : decode cX9_ofVoice 12 = .ok (.aload_n 0, 1) := by decide +kernel
theorem dX9_ofVoice_13 : decode cX9_ofVoice 13 = .ok (.getfield 21, 3) := by decide +kernel
theorem dX9_ofVoice_16 : decode cX9_ofVoice 16 = .ok (.iload_n 1, 1) := by decide +kernel
theorem dX9_ofVoice_17 : decode cX9_ofVoice 17 = .ok (.invokevirtual 123, 3) := by decide +kernel
theorem dX9_ofVoice_20 : decode cX9_ofVoice 20 = .ok (.iload_n 2, 1) := by decide +kernel
theorem dX9_ofVoice_21 : decode cX9_ofVoice 21 = .ok (.invokevirtual 216, 3) := by decide +kernel
theorem dX9_ofVoice_24 : decode cX9_ofVoice 24 = .ok (.ireturn, 1) := by decide +kernel
set_option maxRecDepth 20000 in
theorem ggX9_sounding_X6_countSounding : GoodIn wsX9_sounding wsX6_countSounding := goodIn_r _ [6, 7, 8, 9, 10, 5, 11, 12, 13, 14, 15, 20, 21, 22, 23, 24, 25, 26, 27, 28, 29, 30, 31, 32, 33, 34, 35, 36, 37, 38, 39, 40, 41, 42] (by decide +kernel) (by decide +kernel)
set_option maxRecDepth 20000 in
theorem gX9_sounding_X6_countSounding : GoodIn wsX9_sounding (wsV RX9 134 RX6 yX6_countSounding wsX6_countSounding) := goodIn_app (goodIn_of _ (by decide +kernel)) ggX9_sounding_X6_countSounding
theorem dX9_sounding_0 : decode cX9_sounding 0 = .ok (.aload_n 0, 1) := by decide +kernel
theorem dX9_sounding_1 : decode cX9_sounding 1 = .ok (.getfield 21, 3) := by decide +kernel
theorem dX9_sounding_4 : decode cX9_sounding 4 = .ok (.invokevirtual 134, 3) := by decide +kernel
theorem dX9_sounding_7 : decode cX9_sounding 7 = .ok (.ireturn, 1) := by decide +kernel
theorem dX9_taken_0 : decode cX9_taken 0 = .ok (.aload_n 0, 1) := by decide +kernel
theorem dX9_taken_1 : decode cX9_taken 1 = .ok (.getfield 21, 3) := by decide +kernel
theorem dX9_taken_4 : decode cX9_taken 4 = .ok (.getfield 219, 3) := by decide +kernel
theorem dX9_taken_7 : decode cX9_taken 7 = .ok (.ireturn, 1) := by decide +kernel
theorem dX9_isPlaying_0 : decode cX9_isPlaying 0 = .ok (.aload_n 0, 1) := by decide +kernel
theorem dX9_isPlaying_1 : decode cX9_isPlaying 1 = .ok (.getfield 21, 3) := by decide +kernel
theorem dX9_isPlaying_4 : decode cX9_isPlaying 4 = .ok (.getfield 172, 3) := by decide +kernel
theorem dX9_isPlaying_7 : decode cX9_isPlaying 7 = .ok (.ireturn, 1) := by decide +kernel
set_option maxRecDepth 20000 in
theorem ggX9_step_X6_stepOrNone : GoodIn wsX9_step wsX6_stepOrNone := goodIn_r _ [6, 7, 8, 13, 14, 15, 16, 17, 18, 19, 20, 21, 22, 23, 24] (by decide +kernel) (by decide +kernel)
set_option maxRecDepth 20000 in
theorem gX9_step_X6_stepOrNone : GoodIn wsX9_step (wsV RX9 182 RX6 yX6_stepOrNone wsX6_stepOrNone) := goodIn_app (goodIn_of _ (by decide +kernel)) ggX9_step_X6_stepOrNone
theorem dX9_step_0 : decode cX9_step 0 = .ok (.aload_n 0, 1) := by decide +kernel
theorem dX9_step_1 : decode cX9_step 1 = .ok (.getfield 21, 3) := by decide +kernel
theorem dX9_step_4 : decode cX9_step 4 = .ok (.invokevirtual 182, 3) := by decide +kernel
theorem dX9_step_7 : decode cX9_step 7 = .ok (.ireturn, 1) := by decide +kernel
set_option maxRecDepth 20000 in
theorem ggX9_ofStep_X9_needPlace : GoodIn wsX9_ofStep wsX9_needPlace := goodIn_ca (goodIn_r _ [6, 7, 8] (by decide +kernel) (by decide +kernel)) (goodIn_sub (fun _ h => List.mem_cons_of_mem _ (List.mem_append_left _ (List.mem_append_right _ h))) (by decide +kernel))
set_option maxRecDepth 20000 in
theorem gX9_ofStep_X9_needPlace : GoodIn wsX9_ofStep (va_wsS RX9 35 yX9_needPlace wsX9_needPlace) := goodIn_app (goodIn_of _ (by decide +kernel)) ggX9_ofStep_X9_needPlace
set_option maxRecDepth 20000 in
theorem ggX9_ofStep_X9_needWithin : GoodIn wsX9_ofStep wsX9_needWithin := goodIn_ca (goodIn_r _ [11, 12, 13] (by decide +kernel) (by decide +kernel)) (goodIn_sub (fun _ h => List.mem_cons_of_mem _ (List.mem_append_right _ h)) (by decide +kernel))
set_option maxRecDepth 20000 in
theorem gX9_ofStep_X9_needWithin : GoodIn wsX9_ofStep (va_wsS RX9 39 yX9_needWithin wsX9_needWithin) := goodIn_app (goodIn_of _ (by decide +kernel)) ggX9_ofStep_X9_needWithin
set_option maxRecDepth 20000 in
theorem ggX9_ofStep_X4_fact : GoodIn wsX9_ofStep wsX4_fact := goodIn_r _ [18, 19, 20, 21, 17, 22, 23, 24, 25, 26, 27, 28, 29, 30, 31, 32, 33, 34, 35, 36, 37, 38, 39, 51, 52, 53, 54, 55, 56, 57] (by decide +kernel) (by decide +kernel)
set_option maxRecDepth 20000 in
theorem gX9_ofStep_X4_fact : GoodIn wsX9_ofStep (wsV RX9 222 RX4 yX4_fact wsX4_fact) := goodIn_app (goodIn_of _ (by decide +kernel)) ggX9_ofStep_X4_fact
theorem dX9_ofStep_0 : decode cX9_ofStep 0 = .ok (.iload_n 1, 1) := by decide +kernel
theorem dX9_ofStep_1 : decode cX9_ofStep 1 = .ok (.iconst 3, 1) := by decide +kernel
theorem dX9_ofStep_2 : decode cX9_ofStep 2 = .ok (.invokestatic 35, 3) := by decide +kernel
theorem dX9_ofStep_5 : decode cX9_ofStep 5 = .ok (.iload_n 2, 1) := by decide +kernel
theorem dX9_ofStep_6 : decode cX9_ofStep 6 = .ok (.bipush 8, 2) := by decide +kernel
theorem dX9_ofStep_8 : decode cX9_ofStep 8 = .ok (.invokestatic 35, 3) := by decide +kernel
theorem dX9_ofStep_11 : decode cX9_ofStep 11 = .ok (.iload_n 3, 1) := by decide +kernel
theorem dX9_ofStep_12 : decode cX9_ofStep 12 = .ok (.iconst 0, 1) := by decide +kernel
theorem dX9_ofStep_13 : decode cX9_ofStep 13 = .ok (.iconst 2, 1) := by decide +kernel
theorem dX9_ofStep_14 : decode cX9_ofStep 14 = .ok (.invokestatic 39, 3) := by decide +kernel
theorem dX9_ofStep_17 : decode cX9_ofStep 17 = .ok (.aload_n 0, 1) := by decide +kernel
theorem dX9_ofStep_18 : decode cX9_ofStep 18 = .ok (.getfield 10, 3) := by decide +kernel
theorem dX9_ofStep_21 : decode cX9_ofStep 21 = .ok (.getfield 141, 3) := by decide +kernel
theorem dX9_ofStep_24 : decode cX9_ofStep 24 = .ok (.iload_n 1, 1) := by decide +kernel
theorem dX9_ofStep_25 : decode cX9_ofStep 25 = .ok (.iload_n 2, 1) := by decide +kernel
theorem dX9_ofStep_26 : decode cX9_ofStep 26 = .ok (.iload_n 3, 1) := by decide +kernel
theorem dX9_ofStep_27 : decode cX9_ofStep 27 = .ok (.invokevirtual 222, 3) := by decide +kernel
theorem dX9_ofStep_30 : decode cX9_ofStep 30 = .ok (.ireturn, 1) := by decide +kernel
set_option maxRecDepth 20000 in
theorem ggX9_inDelay_X9_needPlace : GoodIn wsX9_inDelay wsX9_needPlace := goodIn_ca (goodIn_r _ [7, 8, 9] (by decide +kernel) (by decide +kernel)) (goodIn_sub (fun _ h => List.mem_cons_of_mem _ (List.mem_append_right _ h)) (by decide +kernel))
set_option maxRecDepth 20000 in
theorem gX9_inDelay_X9_needPlace : GoodIn wsX9_inDelay (va_wsS RX9 35 yX9_needPlace wsX9_needPlace) := goodIn_app (goodIn_of _ (by decide +kernel)) ggX9_inDelay_X9_needPlace
set_option maxRecDepth 20000 in
theorem ggX9_inDelay_X0_at : GoodIn wsX9_inDelay wsX0_at := goodIn_r _ [14, 15, 16, 17, 18, 19, 20, 21, 22, 23, 40, 41, 42, 43, 44, 45] (by decide +kernel) (by decide +kernel)
set_option maxRecDepth 20000 in
theorem gX9_inDelay_X0_at : GoodIn wsX9_inDelay (wsV RX9 225 RX0 yX0_at wsX0_at) := goodIn_app (goodIn_of _ (by decide +kernel)) ggX9_inDelay_X0_at
theorem dX9_inDelay_0 : decode cX9_inDelay 0 = .ok (.iload_n 1, 1) := by decide +kernel
theorem dX9_inDelay_1 : decode cX9_inDelay 1 = .ok (.aload_n 0, 1) := by decide +kernel
theorem dX9_inDelay_2 : decode cX9_inDelay 2 = .ok (.getfield 21, 3) := by decide +kernel
theorem dX9_inDelay_5 : decode cX9_inDelay 5 = .ok (.getfield 107, 3) := by decide +kernel
theorem dX9_inDelay_8 : decode cX9_inDelay 8 = .ok (.getfield 111, 3) := by decide +kernel
theorem dX9_inDelay_11 : decode cX9_inDelay 11 = .ok (.invokestatic 35, 3) := by decide +kernel
theorem dX9_inDelay_14 : decode cX9_inDelay 14 = .ok (.aload_n 0, 1) := by decide +kernel
theorem dX9_inDelay_15 : decode cX9_inDelay 15 = .ok (.getfield 21, 3) := by decide +kernel
theorem dX9_inDelay_18 : decode cX9_inDelay 18 = .ok (.getfield 107, 3) := by decide +kernel
theorem dX9_inDelay_21 : decode cX9_inDelay 21 = .ok (.iload_n 1, 1) := by decide +kernel
theorem dX9_inDelay_22 : decode cX9_inDelay 22 = .ok (.invokevirtual 225, 3) := by decide +kernel
theorem dX9_inDelay_25 : decode cX9_inDelay 25 = .ok (.ireturn, 1) := by decide +kernel
set_option maxRecDepth 20000 in
theorem ggX9_wouldPeak_X9_needWithin : GoodIn wsX9_wouldPeak wsX9_needWithin := goodIn_ca (goodIn_r _ [13, 14, 15] (by decide +kernel) (by decide +kernel)) (goodIn_sub (fun _ h => List.mem_cons_of_mem _ (List.mem_append_right _ h)) (by decide +kernel))
set_option maxRecDepth 20000 in
theorem gX9_wouldPeak_X9_needWithin : GoodIn wsX9_wouldPeak (va_wsS RX9 39 yX9_needWithin wsX9_needWithin) := goodIn_app (goodIn_of _ (by decide +kernel)) ggX9_wouldPeak_X9_needWithin
set_option maxRecDepth 20000 in
theorem ggX9_wouldPeak_X6_copy : GoodIn wsX9_wouldPeak wsX6_copy := goodIn_r _ [20, 21, 22, 23, 24, 25, 26, 27, 28, 29, 30, 19, 31, 32, 33, 34, 35, 36, 37, 38, 39, 40, 41, 42, 43, 44, 45, 46, 47, 48, 49, 50, 51, 52, 53, 54, 55, 56, 57, 58, 59, 60, 61, 62, 63, 64, 65, 66, 67, 68, 69, 70, 71, 241, 242, 243, 244, 245, 246, 247, 248, 249, 250, 251, 252, 253, 254, 255, 256, 257, 258, 259, 260, 261, 262, 263, 264, 265, 266, 267, 268, 269] (by decide +kernel) (by decide +kernel)
set_option maxRecDepth 20000 in
theorem gX9_wouldPeak_X6_copy : GoodIn wsX9_wouldPeak (wsV RX9 227 RX6 yX6_copy wsX6_copy) := goodIn_app (goodIn_of _ (by decide +kernel)) ggX9_wouldPeak_X6_copy
set_option maxRecDepth 20000 in
theorem ggX9_wouldPeak_X6_advance : GoodIn wsX9_wouldPeak wsX6_advance := goodIn_r _ [75, 25, 27, 21, 76, 77, 22, 78, 79, 80, 19, 81, 28, 29, 30, 31, 32, 33, 34, 35, 82, 83, 84, 39, 85, 50, 86, 87, 88, 89, 41, 90, 91, 92, 93, 94, 26, 95, 96, 97, 98, 99, 100, 101, 102, 103, 104, 105, 106, 107, 108, 69, 70, 65, 71, 67, 109, 110, 111, 112, 113, 114, 115, 116, 117, 118, 119, 120, 121, 122, 123, 124, 24, 23, 125, 126, 127, 128, 129, 130, 131, 132, 42, 51, 133, 134, 135, 136, 137, 138, 139, 140, 43, 44, 45, 46, 47, 48, 49, 141, 142, 143, 144, 145, 146, 147, 148, 149, 150, 151, 152, 153, 154, 155, 156, 157, 158, 159, 160, 161, 162, 163, 164, 165, 166, 167, 168, 169, 12, 170, 171, 172, 173, 174, 175, 176, 177, 178, 179, 180, 181, 182, 183, 184, 185, 186, 187, 188, 189, 190, 191, 192, 193, 194, 195, 196, 197, 198, 199, 200, 201, 202, 203, 204, 205, 206, 207, 208, 209, 210, 211, 212, 5, 213, 7, 8, 9, 214, 215, 216, 55, 217, 57, 61, 60, 59, 218, 58, 219, 220, 221, 222, 223, 224, 225, 226, 227, 228, 229, 230, 231, 232, 233, 234, 235, 241, 242, 243, 244, 245, 246, 247, 248, 249, 250, 251, 252, 270, 271, 272, 273, 274, 275, 276, 253, 254, 255, 256, 257, 258, 259, 260, 261, 262, 263, 277, 278, 279, 280, 281, 282, 269, 283, 284, 285, 286, 287, 288, 289, 290, 291, 292, 293, 294, 295, 264, 265, 266, 267, 268] (by decide +kernel) (by decide +kernel)
set_option maxRecDepth 20000 in
theorem gX9_wouldPeak_X6_advance : GoodIn wsX9_wouldPeak (wsV RX9 185 RX6 yX6_advance wsX6_advance) := goodIn_app (goodIn_of _ (by decide +kernel)) ggX9_wouldPeak_X6_advance
set_option maxRecDepth 20000 in
theorem ggX9_wouldPeak_X9_kept : GoodIn wsX9_wouldPeak wsX9_kept := goodIn_r _ [210, 211, 212, 5, 213, 7, 8, 9] (by decide +kernel) (by decide +kernel)
set_option maxRecDepth 20000 in
theorem gX9_wouldPeak_X9_kept : GoodIn wsX9_wouldPeak (va_wsS RX9 231 yX9_kept wsX9_kept) := goodIn_app (goodIn_of _ (by decide +kernel)) ggX9_wouldPeak_X9_kept
theorem dX9_wouldPeak_0 : decode cX9_wouldPeak 0 = .ok (.iload_n 1, 1) := by decide +kernel
theorem dX9_wouldPeak_1 : decode cX9_wouldPeak 1 = .ok (.iconst 1, 1) := by decide +kernel
theorem dX9_wouldPeak_2 : decode cX9_wouldPeak 2 = .ok (.sipush 200, 3) := by decide +kernel
theorem dX9_wouldPeak_5 : decode cX9_wouldPeak 5 = .ok (.invokestatic 39, 3) := by decide +kernel
theorem dX9_wouldPeak_8 : decode cX9_wouldPeak 8 = .ok (.aload_n 0, 1) := by decide +kernel
theorem dX9_wouldPeak_9 : decode cX9_wouldPeak 9 = .ok (.getfield 25, 3) := by decide +kernel
theorem dX9_wouldPeak_12 : decode cX9_wouldPeak 12 = .ok (.aload_n 0, 1) := by decide +kernel
theorem dX9_wouldPeak_13 : decode cX9_wouldPeak 13 = .ok (.getfield 21, 3) := by decide +kernel
theorem dX9_wouldPeak_16 : decode cX9_wouldPeak 16 = .ok (.invokevirtual 227, 3) := by decide +kernel
theorem dX9_wouldPeak_19 : decode cX9_wouldPeak 19 = .ok (.iconst 0, 1) := by decide +kernel
theorem dX9_wouldPeak_20 : decode cX9_wouldPeak 20 = .ok (.istore_n 2, 1) := by decide +kernel
theorem dX9_wouldPeak_21 : decode cX9_wouldPeak 21 = .ok (.iconst 0, 1) := by decide +kernel
theorem dX9_wouldPeak_22 : decode cX9_wouldPeak 22 = .ok (.istore_n 3, 1) := by decide +kernel
theorem dX9_wouldPeak_23 : decode cX9_wouldPeak 23 = .ok (.iload_n 3, 1) := by decide +kernel
theorem dX9_wouldPeak_24 : decode cX9_wouldPeak 24 = .ok (.iload_n 1, 1) := by decide +kernel
theorem dX9_wouldPeak_25 : decode cX9_wouldPeak 25 = .ok (.if_icmp .ge 30, 3) := by decide +kernel
theorem dX9_wouldPeak_28 : decode cX9_wouldPeak 28 = .ok (.iload_n 2, 1) := by decide +kernel
theorem dX9_wouldPeak_29 : decode cX9_wouldPeak 29 = .ok (.aload_n 0, 1) := by decide +kernel
theorem dX9_wouldPeak_30 : decode cX9_wouldPeak 30 = .ok (.getfield 25, 3) := by decide +kernel
theorem dX9_wouldPeak_33 : decode cX9_wouldPeak 33 = .ok (.invokevirtual 185, 3) := by decide +kernel
theorem dX9_wouldPeak_36 : decode cX9_wouldPeak 36 = .ok (.sipush 32767, 3) := by decide +kernel
theorem dX9_wouldPeak_39 : decode cX9_wouldPeak 39 = .ok (.invokestatic 231, 3) := by decide +kernel
theorem dX9_wouldPeak_42 : decode cX9_wouldPeak 42 = .ok (.invokestatic 234, 3) := by decide +kernel
theorem dX9_wouldPeak_45 : decode cX9_wouldPeak 45 = .ok (.invokestatic 239, 3) := by decide +kernel
theorem dX9_wouldPeak_48 : decode cX9_wouldPeak 48 = .ok (.istore_n 2, 1) := by decide +kernel
theorem dX9_wouldPeak_49 : decode cX9_wouldPeak 49 = .ok (.iinc 3 1, 3) := by decide +kernel
theorem dX9_wouldPeak_52 : decode cX9_wouldPeak 52 = .ok (.goto (-29), 3) := by decide +kernel
theorem dX9_wouldPeak_55 : decode cX9_wouldPeak 55 = .ok (.iload_n 2, 1) := by decide +kernel
theorem dX9_wouldPeak_56 : decode cX9_wouldPeak 56 = .ok (.ireturn, 1) := by decide +kernel
set_option maxRecDepth 20000 in
theorem ggX9_silentIn_X9_needWithin : GoodIn wsX9_silentIn wsX9_needWithin := goodIn_ca (goodIn_r _ [6, 7, 8] (by decide +kernel) (by decide +kernel)) (goodIn_sub (fun _ h => List.mem_cons_of_mem _ (List.mem_append_right _ h)) (by decide +kernel))
set_option maxRecDepth 20000 in
theorem gX9_silentIn_X9_needWithin : GoodIn wsX9_silentIn (va_wsS RX9 39 yX9_needWithin wsX9_needWithin) := goodIn_app (goodIn_of _ (by decide +kernel)) ggX9_silentIn_X9_needWithin
set_option maxRecDepth 20000 in
theorem ggX9_silentIn_X6_countSounding : GoodIn wsX9_silentIn wsX6_countSounding := goodIn_r _ [13, 14, 15, 16, 17, 12, 18, 19, 20, 21, 22, 241, 242, 243, 244, 245, 246, 247, 248, 249, 250, 251, 252, 253, 254, 255, 256, 257, 258, 259, 260, 261, 262, 263] (by decide +kernel) (by decide +kernel)
set_option maxRecDepth 20000 in
theorem gX9_silentIn_X6_countSounding : GoodIn wsX9_silentIn (wsV RX9 134 RX6 yX6_countSounding wsX6_countSounding) := goodIn_app (goodIn_of _ (by decide +kernel)) ggX9_silentIn_X6_countSounding
set_option maxRecDepth 20000 in
theorem ggX9_silentIn_X6_copy : GoodIn wsX9_silentIn wsX6_copy := goodIn_r _ [26, 27, 28, 29, 30, 31, 32, 33, 15, 16, 17, 12, 18, 19, 20, 21, 22, 34, 35, 36, 37, 38, 39, 40, 41, 42, 43, 44, 45, 46, 47, 48, 49, 50, 51, 52, 53, 54, 55, 56, 57, 58, 59, 60, 61, 62, 63, 64, 65, 66, 67, 68, 69, 252, 253, 254, 255, 256, 257, 258, 259, 260, 261, 262, 263, 241, 242, 243, 244, 245, 246, 247, 248, 249, 250, 251, 264, 265, 266, 267, 268, 269] (by decide +kernel) (by decide +kernel)
set_option maxRecDepth 20000 in
theorem gX9_silentIn_X6_copy : GoodIn wsX9_silentIn (wsV RX9 227 RX6 yX6_copy wsX6_copy) := goodIn_app (goodIn_of _ (by decide +kernel)) ggX9_silentIn_X6_copy
set_option maxRecDepth 20000 in
theorem ggX9_silentIn_X6_advance : GoodIn wsX9_silentIn wsX6_advance := goodIn_r _ [73, 31, 33, 27, 74, 75, 28, 76, 77, 78, 12, 79, 15, 16, 17, 18, 19, 20, 21, 22, 80, 81, 82, 37, 83, 48, 84, 85, 86, 87, 39, 88, 89, 90, 91, 92, 32, 93, 94, 95, 96, 97, 98, 99, 100, 101, 102, 103, 104, 105, 106, 67, 68, 63, 69, 65, 107, 108, 109, 110, 111, 112, 113, 114, 115, 116, 117, 118, 119, 120, 121, 14, 30, 29, 122, 123, 124, 125, 126, 127, 128, 129, 40, 49, 130, 131, 132, 133, 134, 135, 136, 137, 41, 42, 43, 44, 45, 46, 47, 138, 139, 140, 141, 142, 143, 144, 145, 146, 147, 148, 149, 150, 151, 152, 153, 154, 155, 156, 157, 158, 159, 160, 161, 162, 163, 164, 165, 166, 5, 167, 168, 169, 170, 171, 172, 173, 174, 175, 176, 177, 178, 179, 180, 181, 182, 183, 184, 185, 186, 187, 188, 189, 190, 191, 192, 193, 194, 195, 196, 197, 198, 199, 200, 201, 202, 203, 204, 205, 206, 207, 208, 209, 210, 211, 212, 213, 214, 215, 216, 217, 53, 218, 55, 59, 58, 57, 219, 56, 220, 221, 222, 223, 224, 225, 226, 227, 228, 229, 230, 231, 232, 233, 234, 235, 236, 252, 253, 254, 255, 256, 257, 258, 259, 260, 261, 262, 263, 270, 271, 272, 273, 274, 275, 276, 241, 242, 243, 244, 245, 246, 247, 248, 249, 250, 251, 277, 278, 279, 280, 281, 282, 269, 283, 284, 285, 286, 287, 288, 289, 290, 291, 292, 293, 294, 295, 264, 265, 266, 267, 268] (by decide +kernel) (by decide +kernel)
set_option maxRecDepth 20000 in
theorem gX9_silentIn_X6_advance : GoodIn wsX9_silentIn (wsV RX9 185 RX6 yX6_advance wsX6_advance) := goodIn_app (goodIn_of _ (by decide +kernel)) ggX9_silentIn_X6_advance
theorem dX9_silentIn_0 : decode cX9_silentIn 0 = .ok (.iload_n 1, 1) := by decide +kernel
theorem dX9_silentIn_1 : decode cX9_silentIn 1 = .ok (.iconst 1, 1) := by decide +kernel
theorem dX9_silentIn_2 : decode cX9_silentIn 2 = .ok (.sipush 200, 3) := by decide +kernel
theorem dX9_silentIn_5 : decode cX9_silentIn 5 = .ok (.invokestatic 39, 3) := by decide +kernel
theorem dX9_silentIn_8 : decode cX9_silentIn 8 = .ok (.aload_n 0, 1) := by decide +kernel
theorem dX9_silentIn_9 : decode cX9_silentIn 9 = .ok (.getfield 21, 3) := by decide +kernel
theorem dX9_silentIn_12 : decode cX9_silentIn 12 = .ok (.invokevirtual 134, 3) := by decide +kernel
theorem dX9_silentIn_15 : decode cX9_silentIn 15 = .ok (.ifCond .ne 5, 3) := by decide +kernel
theorem dX9_silentIn_18 : decode cX9_silentIn 18 = .ok (.iconst 0, 1) := by decide +kernel
theorem dX9_silentIn_19 : decode cX9_silentIn 19 = .ok (.ireturn, 1) := by decide +kernel
theorem dX9_silentIn_20 : decode cX9_silentIn 20 = .ok (.aload_n 0, 1) := by decide +kernel
theorem dX9_silentIn_21 : decode cX9_silentIn 21 = .ok (.getfield 25, 3) := by decide +kernel
theorem dX9_silentIn_24 : decode cX9_silentIn 24 = .ok (.aload_n 0, 1) := by decide +kernel
theorem dX9_silentIn_25 : decode cX9_silentIn 25 = .ok (.getfield 21, 3) := by decide +kernel
theorem dX9_silentIn_28 : decode cX9_silentIn 28 = .ok (.invokevirtual 227, 3) := by decide +kernel
theorem dX9_silentIn_31 : decode cX9_silentIn 31 = .ok (.iconst 1, 1) := by decide +kernel
theorem dX9_silentIn_32 : decode cX9_silentIn 32 = .ok (.istore_n 2, 1) := by decide +kernel
theorem dX9_silentIn_33 : decode cX9_silentIn 33 = .ok (.iload_n 2, 1) := by decide +kernel
theorem dX9_silentIn_34 : decode cX9_silentIn 34 = .ok (.iload_n 1, 1) := by decide +kernel
theorem dX9_silentIn_35 : decode cX9_silentIn 35 = .ok (.if_icmp .gt 29, 3) := by decide +kernel
theorem dX9_silentIn_38 : decode cX9_silentIn 38 = .ok (.aload_n 0, 1) := by decide +kernel
theorem dX9_silentIn_39 : decode cX9_silentIn 39 = .ok (.getfield 25, 3) := by decide +kernel
theorem dX9_silentIn_42 : decode cX9_silentIn 42 = .ok (.invokevirtual 185, 3) := by decide +kernel
theorem dX9_silentIn_45 : decode cX9_silentIn 45 = .ok (.pop, 1) := by decide +kernel
theorem dX9_silentIn_46 : decode cX9_silentIn 46 = .ok (.aload_n 0, 1) := by decide +kernel
theorem dX9_silentIn_47 : decode cX9_silentIn 47 = .ok (.getfield 25, 3) := by decide +kernel
theorem dX9_silentIn_50 : decode cX9_silentIn 50 = .ok (.invokevirtual 134, 3) := by decide +kernel
theorem dX9_silentIn_53 : decode cX9_silentIn 53 = .ok (.ifCond .ne 5, 3) := by decide +kernel
theorem dX9_silentIn_56 : decode cX9_silentIn 56 = .ok (.iload_n 2, 1) := by decide +kernel
theorem dX9_silentIn_57 : decode cX9_silentIn 57 = .ok (.ireturn, 1) := by decide +kernel
theorem dX9_silentIn_58 : decode cX9_silentIn 58 = .ok (.iinc 2 1, 3) := by decide +kernel
theorem dX9_silentIn_61 : decode cX9_silentIn 61 = .ok (.goto (-28), 3) := by decide +kernel
theorem dX9_silentIn_64 : decode cX9_silentIn 64 = .ok (.iconst (-1), 1) := by decide +kernel
theorem dX9_silentIn_65 : decode cX9_silentIn 65 = .ok (.ireturn, 1) := by decide +kernel
set_option maxRecDepth 20000 in
theorem ggX9_nextVoice_X6_voiceToTake : GoodIn wsX9_nextVoice wsX6_voiceToTake := goodIn_r _ [6, 7, 8, 9, 5, 10, 11, 12, 13, 14, 15, 16, 17, 18, 19, 20, 21, 22, 23, 24, 25, 26, 31, 32, 33, 34, 35, 36, 37, 38, 39, 40, 41, 42, 43, 44, 45, 46, 47, 48, 49, 50, 51, 52, 53] (by decide +kernel) (by decide +kernel)
set_option maxRecDepth 20000 in
theorem gX9_nextVoice_X6_voiceToTake : GoodIn wsX9_nextVoice (wsV RX9 242 RX6 yX6_voiceToTake wsX6_voiceToTake) := goodIn_app (goodIn_of _ (by decide +kernel)) ggX9_nextVoice_X6_voiceToTake
theorem dX9_nextVoice_0 : decode cX9_nextVoice 0 = .ok (.aload_n 0, 1) := by decide +kernel
theorem dX9_nextVoice_1 : decode cX9_nextVoice 1 = .ok (.getfield 21, 3) := by decide +kernel
theorem dX9_nextVoice_4 : decode cX9_nextVoice 4 = .ok (.invokevirtual 242, 3) := by decide +kernel
theorem dX9_nextVoice_7 : decode cX9_nextVoice 7 = .ok (.ireturn, 1) := by decide +kernel
set_option maxRecDepth 20000 in
theorem ggX9_digest_X9_clock : GoodIn wsX9_digest wsX9_clock := goodIn_r _ [6, 7, 8, 189, 190, 191, 192, 193, 194, 195, 196, 197, 198, 199, 200, 201, 202, 203, 204] (by decide +kernel) (by decide +kernel)
set_option maxRecDepth 20000 in
theorem gX9_digest_X9_clock : GoodIn wsX9_digest (wsV RX9 247 RX9 yX9_clock wsX9_clock) := goodIn_app (goodIn_of _ (by decide +kernel)) ggX9_digest_X9_clock
set_option maxRecDepth 20000 in
theorem ggX9_digest_X9_fold : GoodIn wsX9_digest wsX9_fold := goodIn_r _ [11, 12] (by decide +kernel) (by decide +kernel)
set_option maxRecDepth 20000 in
theorem gX9_digest_X9_fold : GoodIn wsX9_digest (va_wsS RX9 249 yX9_fold wsX9_fold) := goodIn_app (goodIn_of _ (by decide +kernel)) ggX9_digest_X9_fold
set_option maxRecDepth 20000 in
theorem ggX9_digest_X9_heard : GoodIn wsX9_digest wsX9_heard := goodIn_ca (goodIn_r _ [16, 17, 18, 19, 5, 20, 21, 22, 23, 24, 25, 26, 27, 28, 29, 30, 31, 32, 33, 34, 35, 36, 37, 38, 39, 189, 190, 191, 192, 205, 206, 207, 208, 209, 210, 211, 212, 213] (by decide +kernel) (by decide +kernel)) (goodIn_sub (fun _ h => List.mem_cons_of_mem _ (List.mem_append_left _ (List.mem_append_right _ h))) (by decide +kernel))
set_option maxRecDepth 20000 in
theorem gX9_digest_X9_heard : GoodIn wsX9_digest (wsV RX9 253 RX9 yX9_heard wsX9_heard) := goodIn_app (goodIn_of _ (by decide +kernel)) ggX9_digest_X9_heard
set_option maxRecDepth 20000 in
theorem ggX9_digest_X9_peak : GoodIn wsX9_digest wsX9_peak := goodIn_r _ [43, 17, 44, 189, 190, 191, 192, 205, 206, 207, 208, 209, 210, 211, 212] (by decide +kernel) (by decide +kernel)
set_option maxRecDepth 20000 in
theorem gX9_digest_X9_peak : GoodIn wsX9_digest (wsV RX9 256 RX9 yX9_peak wsX9_peak) := goodIn_app (goodIn_of _ (by decide +kernel)) ggX9_digest_X9_peak
set_option maxRecDepth 20000 in
theorem ggX9_digest_X9_clipped : GoodIn wsX9_digest wsX9_clipped := goodIn_r _ [48, 17, 49, 189, 190, 191, 192, 205, 206, 207, 208, 209, 210, 211, 212] (by decide +kernel) (by decide +kernel)
set_option maxRecDepth 20000 in
theorem gX9_digest_X9_clipped : GoodIn wsX9_digest (wsV RX9 258 RX9 yX9_clipped wsX9_clipped) := goodIn_app (goodIn_of _ (by decide +kernel)) ggX9_digest_X9_clipped
set_option maxRecDepth 20000 in
theorem ggX9_digest_X9_crossings : GoodIn wsX9_digest wsX9_crossings := goodIn_r _ [53, 17, 54, 189, 190, 191, 192, 205, 206, 207, 208, 209, 210, 211, 212] (by decide +kernel) (by decide +kernel)
set_option maxRecDepth 20000 in
theorem gX9_digest_X9_crossings : GoodIn wsX9_digest (wsV RX9 260 RX9 yX9_crossings wsX9_crossings) := goodIn_app (goodIn_of _ (by decide +kernel)) ggX9_digest_X9_crossings
set_option maxRecDepth 20000 in
theorem ggX9_digest_X9_sounding : GoodIn wsX9_digest wsX9_sounding := goodIn_r _ [58, 7, 59, 60, 61, 62, 63, 64, 65, 66, 67, 68, 69, 70, 71, 72, 189, 190, 191, 192, 214, 215, 216, 217, 218, 219, 220, 221, 222, 223, 224, 193, 194, 195, 196, 197, 198, 199, 200, 201, 202, 203, 204] (by decide +kernel) (by decide +kernel)
set_option maxRecDepth 20000 in
theorem gX9_digest_X9_sounding : GoodIn wsX9_digest (wsV RX9 262 RX9 yX9_sounding wsX9_sounding) := goodIn_app (goodIn_of _ (by decide +kernel)) ggX9_digest_X9_sounding
set_option maxRecDepth 20000 in
theorem ggX9_digest_X9_taken : GoodIn wsX9_digest wsX9_taken := goodIn_r _ [76, 7, 77, 189, 190, 191, 192, 193, 194, 195, 196, 197, 198, 199, 200, 201, 202, 203, 204] (by decide +kernel) (by decide +kernel)
set_option maxRecDepth 20000 in
theorem gX9_digest_X9_taken : GoodIn wsX9_digest (wsV RX9 265 RX9 yX9_taken wsX9_taken) := goodIn_app (goodIn_of _ (by decide +kernel)) ggX9_digest_X9_taken
set_option maxRecDepth 20000 in
theorem ggX9_digest_X9_isPlaying : GoodIn wsX9_digest wsX9_isPlaying := goodIn_r _ [81, 7, 82, 189, 190, 191, 192, 193, 194, 195, 196, 197, 198, 199, 200, 201, 202, 203, 204] (by decide +kernel) (by decide +kernel)
set_option maxRecDepth 20000 in
theorem gX9_digest_X9_isPlaying : GoodIn wsX9_digest (wsV RX9 267 RX9 yX9_isPlaying wsX9_isPlaying) := goodIn_app (goodIn_of _ (by decide +kernel)) ggX9_digest_X9_isPlaying
set_option maxRecDepth 20000 in
theorem ggX9_digest_X9_step : GoodIn wsX9_digest wsX9_step := goodIn_r _ [86, 7, 87, 88, 89, 62, 90, 91, 92, 189, 190, 191, 192, 193, 194, 195, 196, 197, 198, 199, 200, 201, 202, 203, 204] (by decide +kernel) (by decide +kernel)
set_option maxRecDepth 20000 in
theorem gX9_digest_X9_step : GoodIn wsX9_digest (wsV RX9 271 RX9 yX9_step wsX9_step) := goodIn_app (goodIn_of _ (by decide +kernel)) ggX9_digest_X9_step
set_option maxRecDepth 20000 in
theorem ggX9_digest_X9_nextVoice : GoodIn wsX9_digest wsX9_nextVoice := goodIn_r _ [96, 7, 97, 98, 99, 62, 100, 65, 66, 67, 68, 69, 70, 71, 72, 101, 102, 103, 104, 105, 106, 107, 108, 109, 110, 111, 112, 189, 190, 191, 192, 193, 194, 195, 196, 197, 198, 199, 200, 201, 202, 203, 204, 214, 215, 216, 217, 218, 219, 220, 221, 222, 223, 224] (by decide +kernel) (by decide +kernel)
set_option maxRecDepth 20000 in
theorem gX9_digest_X9_nextVoice : GoodIn wsX9_digest (wsV RX9 273 RX9 yX9_nextVoice wsX9_nextVoice) := goodIn_app (goodIn_of _ (by decide +kernel)) ggX9_digest_X9_nextVoice
set_option maxRecDepth 20000 in
theorem ggX9_digest_X9_foldVoices : GoodIn wsX9_digest wsX9_foldVoices := goodIn_ca (goodIn_ca (goodIn_r _ [116, 117, 118, 119, 5, 120, 7, 121, 122, 123, 124, 125, 18, 19, 20, 21, 22, 126, 66, 67, 62, 68, 69, 70, 71, 72, 127, 128, 129, 104, 130, 106, 107, 131, 132, 133, 134, 135, 136, 137, 138, 9, 10, 11, 12, 189, 190, 191, 192, 193, 194, 195, 196, 197, 198, 199, 200, 201, 202, 203, 204, 214, 215, 216, 217, 218, 219, 220, 221, 222, 223, 224] (by decide +kernel) (by decide +kernel)) (goodIn_sub (fun _ h => List.mem_cons_of_mem _ (List.mem_append_right _ h)) (by decide +kernel))) (goodIn_sub (fun _ h => List.mem_cons_of_mem _ (List.mem_append_left _ (List.mem_append_right _ h))) (by decide +kernel))
set_option maxRecDepth 20000 in
theorem gX9_digest_X9_foldVoices : GoodIn wsX9_digest (wsV RX9 276 RX9 yX9_foldVoices wsX9_foldVoices) := goodIn_app (goodIn_of _ (by decide +kernel)) ggX9_digest_X9_foldVoices
set_option maxRecDepth 20000 in
theorem ggX9_digest_X9_foldSteps : GoodIn wsX9_digest wsX9_foldSteps := goodIn_ca (goodIn_ca (goodIn_r _ [142, 143, 144, 145, 5, 146, 147, 148, 121, 122, 123, 124, 125, 18, 19, 20, 21, 22, 149, 150, 151, 152, 153, 154, 155, 156, 157, 158, 159, 35, 36, 37, 38, 39, 160, 161, 162, 163, 164, 165, 166, 167, 168, 169, 9, 10, 11, 12, 189, 190, 191, 192, 225, 226, 227, 228, 229, 230, 231, 232, 233, 234, 235, 236, 237, 213] (by decide +kernel) (by decide +kernel)) (goodIn_sub (fun _ h => List.mem_cons_of_mem _ (List.mem_append_right _ h)) (by decide +kernel))) (goodIn_sub (fun _ h => List.mem_cons_of_mem _ (List.mem_append_left _ (List.mem_append_right _ h))) (by decide +kernel))
set_option maxRecDepth 20000 in
theorem gX9_digest_X9_foldSteps : GoodIn wsX9_digest (wsV RX9 280 RX9 yX9_foldSteps wsX9_foldSteps) := goodIn_app (goodIn_of _ (by decide +kernel)) ggX9_digest_X9_foldSteps
set_option maxRecDepth 20000 in
theorem ggX9_digest_X9_foldDelay : GoodIn wsX9_digest wsX9_foldDelay := goodIn_ca (goodIn_r _ [173, 7, 174, 175, 176, 177, 178, 5, 179, 121, 122, 123, 124, 125, 180, 181, 182, 183, 184, 185, 186, 187, 188, 35, 36, 37, 38, 39, 9, 10, 11, 12, 189, 190, 191, 192, 193, 194, 195, 196, 197, 198, 199, 200, 201, 202, 203, 204, 238, 239, 240, 241, 242, 213] (by decide +kernel) (by decide +kernel)) (goodIn_sub (fun _ h => List.mem_cons_of_mem _ (List.mem_append_right _ h)) (by decide +kernel))
set_option maxRecDepth 20000 in
theorem gX9_digest_X9_foldDelay : GoodIn wsX9_digest (wsV RX9 283 RX9 yX9_foldDelay wsX9_foldDelay) := goodIn_app (goodIn_of _ (by decide +kernel)) ggX9_digest_X9_foldDelay
theorem dX9_digest_0 : decode cX9_digest 0 = .ok (.ldc2_w 245, 3) := by decide +kernel
theorem dX9_digest_3 : decode cX9_digest 3 = .ok (.aload_n 0, 1) := by decide +kernel
theorem dX9_digest_4 : decode cX9_digest 4 = .ok (.invokevirtual 247, 3) := by decide +kernel
theorem dX9_digest_7 : decode cX9_digest 7 = .ok (.i2l, 1) := by decide +kernel
theorem dX9_digest_8 : decode cX9_digest 8 = .ok (.invokestatic 249, 3) := by decide +kernel
theorem dX9_digest_11 : decode cX9_digest 11 = .ok (.lstore_n 1, 1) := by decide +kernel
theorem dX9_digest_12 : decode cX9_digest 12 = .ok (.iconst 0, 1) := by decide +kernel
theorem dX9_digest_13 : decode cX9_digest 13 = .ok (.istore_n 3, 1) := by decide +kernel
theorem dX9_digest_14 : decode cX9_digest 14 = .ok (.iload_n 3, 1) := by decide +kernel
theorem dX9_digest_15 : decode cX9_digest 15 = .ok (.bipush 8, 2) := by decide +kernel
theorem dX9_digest_17 : decode cX9_digest 17 = .ok (.if_icmp .ge 20, 3) := by decide +kernel
theorem dX9_digest_20 : decode cX9_digest 20 = .ok (.lload_n 1, 1) := by decide +kernel
theorem dX9_digest_21 : decode cX9_digest 21 = .ok (.aload_n 0, 1) := by decide +kernel
theorem dX9_digest_22 : decode cX9_digest 22 = .ok (.iload_n 3, 1) := by decide +kernel
theorem dX9_digest_23 : decode cX9_digest 23 = .ok (.invokevirtual 253, 3) := by decide +kernel
theorem dX9_digest_26 : decode cX9_digest 26 = .ok (.i2l, 1) := by decide +kernel
theorem dX9_digest_27 : decode cX9_digest 27 = .ok (.invokestatic 249, 3) := by decide +kernel
theorem dX9_digest_30 : decode cX9_digest 30 = .ok (.lstore_n 1, 1) := by decide +kernel
theorem dX9_digest_31 : decode cX9_digest 31 = .ok (.iinc 3 1, 3) := by decide +kernel
theorem dX9_digest_34 : decode cX9_digest 34 = .ok (.goto (-20), 3) := by decide +kernel
theorem dX9_digest_37 : decode cX9_digest 37 = .ok (.lload_n 1, 1) := by decide +kernel
theorem dX9_digest_38 : decode cX9_digest 38 = .ok (.aload_n 0, 1) := by decide +kernel
theorem dX9_digest_39 : decode cX9_digest 39 = .ok (.invokevirtual 256, 3) := by decide +kernel
theorem dX9_digest_42 : decode cX9_digest 42 = .ok (.i2l, 1) := by decide +kernel
theorem dX9_digest_43 : decode cX9_digest 43 = .ok (.invokestatic 249, 3) := by decide +kernel
theorem dX9_digest_46 : decode cX9_digest 46 = .ok (.lstore_n 1, 1) := by decide +kernel
theorem dX9_digest_47 : decode cX9_digest 47 = .ok (.lload_n 1, 1) := by decide +kernel
theorem dX9_digest_48 : decode cX9_digest 48 = .ok (.aload_n 0, 1) := by decide +kernel
theorem dX9_digest_49 : decode cX9_digest 49 = .ok (.invokevirtual 258, 3) := by decide +kernel
theorem dX9_digest_52 : decode cX9_digest 52 = .ok (.i2l, 1) := by decide +kernel
theorem dX9_digest_53 : decode cX9_digest 53 = .ok (.invokestatic 249, 3) := by decide +kernel
theorem dX9_digest_56 : decode cX9_digest 56 = .ok (.lstore_n 1, 1) := by decide +kernel
theorem dX9_digest_57 : decode cX9_digest 57 = .ok (.lload_n 1, 1) := by decide +kernel
theorem dX9_digest_58 : decode cX9_digest 58 = .ok (.aload_n 0, 1) := by decide +kernel
theorem dX9_digest_59 : decode cX9_digest 59 = .ok (.invokevirtual 260, 3) := by decide +kernel
theorem dX9_digest_62 : decode cX9_digest 62 = .ok (.i2l, 1) := by decide +kernel
theorem dX9_digest_63 : decode cX9_digest 63 = .ok (.invokestatic 249, 3) := by decide +kernel
theorem dX9_digest_66 : decode cX9_digest 66 = .ok (.lstore_n 1, 1) := by decide +kernel
theorem dX9_digest_67 : decode cX9_digest 67 = .ok (.lload_n 1, 1) := by decide +kernel
theorem dX9_digest_68 : decode cX9_digest 68 = .ok (.aload_n 0, 1) := by decide +kernel
theorem dX9_digest_69 : decode cX9_digest 69 = .ok (.invokevirtual 262, 3) := by decide +kernel
theorem dX9_digest_72 : decode cX9_digest 72 = .ok (.i2l, 1) := by decide +kernel
theorem dX9_digest_73 : decode cX9_digest 73 = .ok (.invokestatic 249, 3) := by decide +kernel
theorem dX9_digest_76 : decode cX9_digest 76 = .ok (.lstore_n 1, 1) := by decide +kernel
theorem dX9_digest_77 : decode cX9_digest 77 = .ok (.lload_n 1, 1) := by decide +kernel
theorem dX9_digest_78 : decode cX9_digest 78 = .ok (.aload_n 0, 1) := by decide +kernel
theorem dX9_digest_79 : decode cX9_digest 79 = .ok (.invokevirtual 265, 3) := by decide +kernel
theorem dX9_digest_82 : decode cX9_digest 82 = .ok (.i2l, 1) := by decide +kernel
theorem dX9_digest_83 : decode cX9_digest 83 = .ok (.invokestatic 249, 3) := by decide +kernel
theorem dX9_digest_86 : decode cX9_digest 86 = .ok (.lstore_n 1, 1) := by decide +kernel
theorem dX9_digest_87 : decode cX9_digest 87 = .ok (.lload_n 1, 1) := by decide +kernel
theorem dX9_digest_88 : decode cX9_digest 88 = .ok (.aload_n 0, 1) := by decide +kernel
theorem dX9_digest_89 : decode cX9_digest 89 = .ok (.invokevirtual 267, 3) := by decide +kernel
theorem dX9_digest_92 : decode cX9_digest 92 = .ok (.ifCond .eq 7, 3) := by decide +kernel
theorem dX9_digest_95 : decode cX9_digest 95 = .ok (.lconst 1, 1) := by decide +kernel
theorem dX9_digest_96 : decode cX9_digest 96 = .ok (.goto 4, 3) := by decide +kernel
theorem dX9_digest_99 : decode cX9_digest 99 = .ok (.lconst 0, 1) := by decide +kernel
theorem dX9_digest_100 : decode cX9_digest 100 = .ok (.invokestatic 249, 3) := by decide +kernel
theorem dX9_digest_103 : decode cX9_digest 103 = .ok (.lstore_n 1, 1) := by decide +kernel
theorem dX9_digest_104 : decode cX9_digest 104 = .ok (.lload_n 1, 1) := by decide +kernel
theorem dX9_digest_105 : decode cX9_digest 105 = .ok (.aload_n 0, 1) := by decide +kernel
theorem dX9_digest_106 : decode cX9_digest 106 = .ok (.invokevirtual 271, 3) := by decide +kernel
theorem dX9_digest_109 : decode cX9_digest 109 = .ok (.i2l, 1) := by decide +kernel
theorem dX9_digest_110 : decode cX9_digest 110 = .ok (.invokestatic 249, 3) := by decide +kernel
theorem dX9_digest_113 : decode cX9_digest 113 = .ok (.lstore_n 1, 1) := by decide +kernel
theorem dX9_digest_114 : decode cX9_digest 114 = .ok (.lload_n 1, 1) := by decide +kernel
theorem dX9_digest_115 : decode cX9_digest 115 = .ok (.aload_n 0, 1) := by decide +kernel
theorem dX9_digest_116 : decode cX9_digest 116 = .ok (.invokevirtual 273, 3) := by decide +kernel
theorem dX9_digest_119 : decode cX9_digest 119 = .ok (.i2l, 1) := by decide +kernel
theorem dX9_digest_120 : decode cX9_digest 120 = .ok (.invokestatic 249, 3) := by decide +kernel
theorem dX9_digest_123 : decode cX9_digest 123 = .ok (.lstore_n 1, 1) := by decide +kernel
theorem dX9_digest_124 : decode cX9_digest 124 = .ok (.aload_n 0, 1) := by decide +kernel
theorem dX9_digest_125 : decode cX9_digest 125 = .ok (.lload_n 1, 1) := by decide +kernel
theorem dX9_digest_126 : decode cX9_digest 126 = .ok (.invokevirtual 276, 3) := by decide +kernel
theorem dX9_digest_129 : decode cX9_digest 129 = .ok (.lstore_n 1, 1) := by decide +kernel
theorem dX9_digest_130 : decode cX9_digest 130 = .ok (.aload_n 0, 1) := by decide +kernel
theorem dX9_digest_131 : decode cX9_digest 131 = .ok (.lload_n 1, 1) := by decide +kernel
theorem dX9_digest_132 : decode cX9_digest 132 = .ok (.invokevirtual 280, 3) := by decide +kernel
theorem dX9_digest_135 : decode cX9_digest 135 = .ok (.lstore_n 1, 1) := by decide +kernel
theorem dX9_digest_136 : decode cX9_digest 136 = .ok (.aload_n 0, 1) := by decide +kernel
theorem dX9_digest_137 : decode cX9_digest 137 = .ok (.lload_n 1, 1) := by decide +kernel
theorem dX9_digest_138 : decode cX9_digest 138 = .ok (.invokevirtual 283, 3) := by decide +kernel
theorem dX9_digest_141 : decode cX9_digest 141 = .ok (.lreturn, 1) := by decide +kernel
set_option maxRecDepth 20000 in
theorem ggX9_foldVoices_X9_ofVoice : GoodIn wsX9_foldVoices wsX9_ofVoice := goodIn_ca (goodIn_ca (goodIn_r _ [5, 6, 7, 8, 4, 9, 10, 11, 12, 13, 14, 15, 16, 17, 18, 19, 20, 21, 22, 23, 24, 25, 26, 27, 28, 29, 30, 31, 32, 33, 34, 35, 36, 37, 38, 39, 40, 45, 46, 47, 48, 49, 50, 51, 52, 53, 54, 55, 56, 57, 58, 59, 60, 61, 62, 63, 64, 65, 66, 67, 68, 69, 70, 71] (by decide +kernel) (by decide +kernel)) (goodIn_sub (fun _ h => List.mem_cons_of_mem _ (List.mem_append_left _ (List.mem_append_right _ h))) (by decide +kernel))) (goodIn_sub (fun _ h => List.mem_cons_of_mem _ (List.mem_append_right _ h)) (by decide +kernel))
set_option maxRecDepth 20000 in
theorem gX9_foldVoices_X9_ofVoice : GoodIn wsX9_foldVoices (wsV RX9 286 RX9 yX9_ofVoice wsX9_ofVoice) := goodIn_app (goodIn_of _ (by decide +kernel)) ggX9_foldVoices_X9_ofVoice
set_option maxRecDepth 20000 in
theorem ggX9_foldVoices_X9_fold : GoodIn wsX9_foldVoices wsX9_fold := goodIn_r _ [43, 44] (by decide +kernel) (by decide +kernel)
set_option maxRecDepth 20000 in
theorem gX9_foldVoices_X9_fold : GoodIn wsX9_foldVoices (va_wsS RX9 249 yX9_fold wsX9_fold) := goodIn_app (goodIn_of _ (by decide +kernel)) ggX9_foldVoices_X9_fold
theorem dX9_foldVoices_0 : decode cX9_foldVoices 0 = .ok (.lload_n 1, 1) := by decide +kernel
theorem dX9_foldVoices_1 : decode cX9_foldVoices 1 = .ok (.lstore_n 3, 1) := by decide +kernel
theorem dX9_foldVoices_2 : decode cX9_foldVoices 2 = .ok (.iconst 0, 1) := by decide +kernel
theorem dX9_foldVoices_3 : decode cX9_foldVoices 3 = .ok (.istore 5, 2) := by decide +kernel
theorem dX9_foldVoices_5 : decode cX9_foldVoices 5 = .ok (.iload 5, 2) := by decide +kernel
theorem dX9_foldVoices_7 : decode cX9_foldVoices 7 = .ok (.iconst 4, 1) := by decide +kernel
theorem dX9_foldVoices_8 : decode cX9_foldVoices 8 = .ok (.if_icmp .ge 39, 3) := by decide +kernel
theorem dX9_foldVoices_11 : decode cX9_foldVoices 11 = .ok (.iconst 0, 1) := by decide +kernel
theorem dX9_foldVoices_12 : decode cX9_foldVoices 12 = .ok (.istore 6, 2) := by decide +kernel
theorem dX9_foldVoices_14 : decode cX9_foldVoices 14 = .ok (.iload 6, 2) := by decide +kernel
theorem dX9_foldVoices_16 : decode cX9_foldVoices 16 = .ok (.bipush 10, 2) := by decide +kernel
theorem dX9_foldVoices_18 : decode cX9_foldVoices 18 = .ok (.if_icmp .ge 23, 3) := by decide +kernel
theorem dX9_foldVoices_21 : decode cX9_foldVoices 21 = .ok (.lload_n 3, 1) := by decide +kernel
theorem dX9_foldVoices_22 : decode cX9_foldVoices 22 = .ok (.aload_n 0, 1) := by decide +kernel
theorem dX9_foldVoices_23 : decode cX9_foldVoices 23 = .ok (.iload 5, 2) := by decide +kernel
theorem dX9_foldVoices_25 : decode cX9_foldVoices 25 = .ok (.iload 6, 2) := by decide +kernel
theorem dX9_foldVoices_27 : decode cX9_foldVoices 27 = .ok (.invokevirtual 286, 3) := by decide +kernel
theorem dX9_foldVoices_30 : decode cX9_foldVoices 30 = .ok (.i2l, 1) := by decide +kernel
theorem dX9_foldVoices_31 : decode cX9_foldVoices 31 = .ok (.invokestatic 249, 3) := by decide +kernel
theorem dX9_foldVoices_34 : decode cX9_foldVoices 34 = .ok (.lstore_n 3, 1) := by decide +kernel
theorem dX9_foldVoices_35 : decode cX9_foldVoices 35 = .ok (.iinc 6 1, 3) := by decide +kernel
theorem dX9_foldVoices_38 : decode cX9_foldVoices 38 = .ok (.goto (-24), 3) := by decide +kernel
theorem dX9_foldVoices_41 : decode cX9_foldVoices 41 = .ok (.iinc 5 1, 3) := by decide +kernel
theorem dX9_foldVoices_44 : decode cX9_foldVoices 44 = .ok (.goto (-39), 3) := by decide +kernel
theorem dX9_foldVoices_47 : decode cX9_foldVoices 47 = .ok (.lload_n 3, 1) := by decide +kernel
theorem dX9_foldVoices_48 : decode cX9_foldVoices 48 = .ok (.lreturn, 1) := by decide +kernel
set_option maxRecDepth 20000 in
theorem ggX9_foldSteps_X9_ofStep : GoodIn wsX9_foldSteps wsX9_ofStep := goodIn_ca (goodIn_ca (goodIn_r _ [5, 6, 7, 8, 9, 4, 10, 11, 12, 13, 14, 15, 16, 17, 18, 19, 20, 21, 22, 23, 24, 25, 26, 27, 28, 29, 30, 31, 32, 33, 34, 35, 36, 37, 38, 39, 40, 41, 42, 43, 48, 49, 50, 51, 52, 53, 54, 55, 56, 57, 58, 59, 60, 61, 62, 63, 64, 65] (by decide +kernel) (by decide +kernel)) (goodIn_sub (fun _ h => List.mem_cons_of_mem _ (List.mem_append_left _ (List.mem_append_right _ h))) (by decide +kernel))) (goodIn_sub (fun _ h => List.mem_cons_of_mem _ (List.mem_append_right _ h)) (by decide +kernel))
set_option maxRecDepth 20000 in
theorem gX9_foldSteps_X9_ofStep : GoodIn wsX9_foldSteps (wsV RX9 289 RX9 yX9_ofStep wsX9_ofStep) := goodIn_app (goodIn_of _ (by decide +kernel)) ggX9_foldSteps_X9_ofStep
set_option maxRecDepth 20000 in
theorem ggX9_foldSteps_X9_fold : GoodIn wsX9_foldSteps wsX9_fold := goodIn_r _ [46, 47] (by decide +kernel) (by decide +kernel)
set_option maxRecDepth 20000 in
theorem gX9_foldSteps_X9_fold : GoodIn wsX9_foldSteps (va_wsS RX9 249 yX9_fold wsX9_fold) := goodIn_app (goodIn_of _ (by decide +kernel)) ggX9_foldSteps_X9_fold
theorem dX9_foldSteps_0 : decode cX9_foldSteps 0 = .ok (.lload_n 1, 1) := by decide +kernel
theorem dX9_foldSteps_1 : decode cX9_foldSteps 1 = .ok (.lstore_n 3, 1) := by decide +kernel
theorem dX9_foldSteps_2 : decode cX9_foldSteps 2 = .ok (.iconst 0, 1) := by decide +kernel
theorem dX9_foldSteps_3 : decode cX9_foldSteps 3 = .ok (.istore 5, 2) := by decide +kernel
theorem dX9_foldSteps_5 : decode cX9_foldSteps 5 = .ok (.iload 5, 2) := by decide +kernel
theorem dX9_foldSteps_7 : decode cX9_foldSteps 7 = .ok (.iconst 3, 1) := by decide +kernel
theorem dX9_foldSteps_8 : decode cX9_foldSteps 8 = .ok (.if_icmp .ge 56, 3) := by decide +kernel
theorem dX9_foldSteps_11 : decode cX9_foldSteps 11 = .ok (.iconst 0, 1) := by decide +kernel
theorem dX9_foldSteps_12 : decode cX9_foldSteps 12 = .ok (.istore 6, 2) := by decide +kernel
theorem dX9_foldSteps_14 : decode cX9_foldSteps 14 = .ok (.iload 6, 2) := by decide +kernel
theorem dX9_foldSteps_16 : decode cX9_foldSteps 16 = .ok (.bipush 8, 2) := by decide +kernel
theorem dX9_foldSteps_18 : decode cX9_foldSteps 18 = .ok (.if_icmp .ge 40, 3) := by decide +kernel
theorem dX9_foldSteps_21 : decode cX9_foldSteps 21 = .ok (.iconst 0, 1) := by decide +kernel
theorem dX9_foldSteps_22 : decode cX9_foldSteps 22 = .ok (.istore 7, 2) := by decide +kernel
theorem dX9_foldSteps_24 : decode cX9_foldSteps 24 = .ok (.iload 7, 2) := by decide +kernel
theorem dX9_foldSteps_26 : decode cX9_foldSteps 26 = .ok (.iconst 3, 1) := by decide +kernel
theorem dX9_foldSteps_27 : decode cX9_foldSteps 27 = .ok (.if_icmp .ge 25, 3) := by decide +kernel
theorem dX9_foldSteps_30 : decode cX9_foldSteps 30 = .ok (.lload_n 3, 1) := by decide +kernel
theorem dX9_foldSteps_31 : decode cX9_foldSteps 31 = .ok (.aload_n 0, 1) := by decide +kernel
theorem dX9_foldSteps_32 : decode cX9_foldSteps 32 = .ok (.iload 5, 2) := by decide +kernel
theorem dX9_foldSteps_34 : decode cX9_foldSteps 34 = .ok (.iload 6, 2) := by decide +kernel
theorem dX9_foldSteps_36 : decode cX9_foldSteps 36 = .ok (.iload 7, 2) := by decide +kernel
theorem dX9_foldSteps_38 : decode cX9_foldSteps 38 = .ok (.invokevirtual 289, 3) := by decide +kernel
theorem dX9_foldSteps_41 : decode cX9_foldSteps 41 = .ok (.i2l, 1) := by decide +kernel
theorem dX9_foldSteps_42 : decode cX9_foldSteps 42 = .ok (.invokestatic 249, 3) := by decide +kernel
theorem dX9_foldSteps_45 : decode cX9_foldSteps 45 = .ok (.lstore_n 3, 1) := by decide +kernel
theorem dX9_foldSteps_46 : decode cX9_foldSteps 46 = .ok (.iinc 7 1, 3) := by decide +kernel
theorem dX9_foldSteps_49 : decode cX9_foldSteps 49 = .ok (.goto (-25), 3) := by decide +kernel
theorem dX9_foldSteps_52 : decode cX9_foldSteps 52 = .ok (.iinc 6 1, 3) := by decide +kernel
theorem dX9_foldSteps_55 : decode cX9_foldSteps 55 = .ok (.goto (-41), 3) := by decide +kernel
theorem dX9_foldSteps_58 : decode cX9_foldSteps 58 = .ok (.iinc 5 1, 3) := by decide +kernel
theorem dX9_foldSteps_61 : decode cX9_foldSteps 61 = .ok (.goto (-56), 3) := by decide +kernel
theorem dX9_foldSteps_64 : decode cX9_foldSteps 64 = .ok (.lload_n 3, 1) := by decide +kernel
theorem dX9_foldSteps_65 : decode cX9_foldSteps 65 = .ok (.lreturn, 1) := by decide +kernel
set_option maxRecDepth 20000 in
theorem ggX9_foldDelay_X9_inDelay : GoodIn wsX9_foldDelay wsX9_inDelay := goodIn_ca (goodIn_r _ [8, 1, 2, 3, 9, 10, 7, 11, 12, 13, 14, 15, 16, 17, 18, 19, 20, 21, 22, 23, 24, 25, 26, 27, 32, 33, 34, 35, 36, 37, 38, 39, 40, 41, 42, 43, 44, 45, 46, 47, 48, 49, 50, 51, 52, 53] (by decide +kernel) (by decide +kernel)) (goodIn_sub (fun _ h => List.mem_cons_of_mem _ (List.mem_append_right _ h)) (by decide +kernel))
set_option maxRecDepth 20000 in
theorem gX9_foldDelay_X9_inDelay : GoodIn wsX9_foldDelay (wsV RX9 292 RX9 yX9_inDelay wsX9_inDelay) := goodIn_app (goodIn_of _ (by decide +kernel)) ggX9_foldDelay_X9_inDelay
set_option maxRecDepth 20000 in
theorem ggX9_foldDelay_X9_fold : GoodIn wsX9_foldDelay wsX9_fold := goodIn_r _ [30, 31] (by decide +kernel) (by decide +kernel)
set_option maxRecDepth 20000 in
theorem gX9_foldDelay_X9_fold : GoodIn wsX9_foldDelay (va_wsS RX9 249 yX9_fold wsX9_fold) := goodIn_app (goodIn_of _ (by decide +kernel)) ggX9_foldDelay_X9_fold
theorem dX9_foldDelay_0 : decode cX9_foldDelay 0 = .ok (.lload_n 1, 1) := by decide +kernel
theorem dX9_foldDelay_1 : decode cX9_foldDelay 1 = .ok (.lstore_n 3, 1) := by decide +kernel
theorem dX9_foldDelay_2 : decode cX9_foldDelay 2 = .ok (.iconst 0, 1) := by decide +kernel
theorem dX9_foldDelay_3 : decode cX9_foldDelay 3 = .ok (.istore 5, 2) := by decide +kernel
theorem dX9_foldDelay_5 : decode cX9_foldDelay 5 = .ok (.iload 5, 2) := by decide +kernel
theorem dX9_foldDelay_7 : decode cX9_foldDelay 7 = .ok (.aload_n 0, 1) := by decide +kernel
theorem dX9_foldDelay_8 : decode cX9_foldDelay 8 = .ok (.getfield 21, 3) := by decide +kernel
theorem dX9_foldDelay_11 : decode cX9_foldDelay 11 = .ok (.getfield 107, 3) := by decide +kernel
theorem dX9_foldDelay_14 : decode cX9_foldDelay 14 = .ok (.getfield 111, 3) := by decide +kernel
theorem dX9_foldDelay_17 : decode cX9_foldDelay 17 = .ok (.if_icmp .ge 21, 3) := by decide +kernel
theorem dX9_foldDelay_20 : decode cX9_foldDelay 20 = .ok (.lload_n 3, 1) := by decide +kernel
theorem dX9_foldDelay_21 : decode cX9_foldDelay 21 = .ok (.aload_n 0, 1) := by decide +kernel
theorem dX9_foldDelay_22 : decode cX9_foldDelay 22 = .ok (.iload 5, 2) := by decide +kernel
theorem dX9_foldDelay_24 : decode cX9_foldDelay 24 = .ok (.invokevirtual 292, 3) := by decide +kernel
theorem dX9_foldDelay_27 : decode cX9_foldDelay 27 = .ok (.i2l, 1) := by decide +kernel
theorem dX9_foldDelay_28 : decode cX9_foldDelay 28 = .ok (.invokestatic 249, 3) := by decide +kernel
theorem dX9_foldDelay_31 : decode cX9_foldDelay 31 = .ok (.lstore_n 3, 1) := by decide +kernel
theorem dX9_foldDelay_32 : decode cX9_foldDelay 32 = .ok (.iinc 5 1, 3) := by decide +kernel
theorem dX9_foldDelay_35 : decode cX9_foldDelay 35 = .ok (.goto (-30), 3) := by decide +kernel
theorem dX9_foldDelay_38 : decode cX9_foldDelay 38 = .ok (.lload_n 3, 1) := by decide +kernel
theorem dX9_foldDelay_39 : decode cX9_foldDelay 39 = .ok (.lreturn, 1) := by decide +kernel
theorem dX9_fold_0 : decode cX9_fold 0 = .ok (.lload_n 0, 1) := by decide +kernel
theorem dX9_fold_1 : decode cX9_fold 1 = .ok (.ldc2_w 295, 3) := by decide +kernel
theorem dX9_fold_4 : decode cX9_fold 4 = .ok (.lmul, 1) := by decide +kernel
theorem dX9_fold_5 : decode cX9_fold 5 = .ok (.lload_n 2, 1) := by decide +kernel
theorem dX9_fold_6 : decode cX9_fold 6 = .ok (.ladd, 1) := by decide +kernel
theorem dX9_fold_7 : decode cX9_fold 7 = .ok (.lreturn, 1) := by decide +kernel
theorem dX9_needPlace_0 : decode cX9_needPlace 0 = .ok (.iload_n 0, 1) := by decide +kernel
theorem dX9_needPlace_1 : decode cX9_needPlace 1 = .ok (.ifCond .lt 8, 3) := by decide +kernel
theorem dX9_needPlace_4 : decode cX9_needPlace 4 = .ok (.iload_n 0, 1) := by decide +kernel
theorem dX9_needPlace_5 : decode cX9_needPlace 5 = .ok (.iload_n 1, 1) := by decide +kernel
theorem dX9_needPlace_6 : decode cX9_needPlace 6 = .ok (.if_icmp .lt 14, 3) := by decide +kernel
theorem dX9_needPlace_9 : decode cX9_needPlace 9 = .ok (.new 297, 3) := by decide +kernel
theorem dX9_needPlace_12 : decode cX9_needPlace 12 = .ok (.dup, 1) := by decide +kernel
theorem dX9_needPlace_13 : decode cX9_needPlace 13 = .ok (.ldc_w 299, 3) := by decide +kernel
theorem dX9_needPlace_16 : decode cX9_needPlace 16 = .ok (.invokespecial 301, 3) := by decide +kernel
theorem dX9_needPlace_19 : decode cX9_needPlace 19 = .ok (.athrow, 1) := by decide +kernel
theorem dX9_needPlace_20 : decode cX9_needPlace 20 = .ok (.return_, 1) := by decide +kernel
theorem dX9_needWithin_0 : decode cX9_needWithin 0 = .ok (.iload_n 0, 1) := by decide +kernel
theorem dX9_needWithin_1 : decode cX9_needWithin 1 = .ok (.iload_n 1, 1) := by decide +kernel
theorem dX9_needWithin_2 : decode cX9_needWithin 2 = .ok (.if_icmp .lt 8, 3) := by decide +kernel
theorem dX9_needWithin_5 : decode cX9_needWithin 5 = .ok (.iload_n 0, 1) := by decide +kernel
theorem dX9_needWithin_6 : decode cX9_needWithin 6 = .ok (.iload_n 2, 1) := by decide +kernel
theorem dX9_needWithin_7 : decode cX9_needWithin 7 = .ok (.if_icmp .le 14, 3) := by decide +kernel
theorem dX9_needWithin_10 : decode cX9_needWithin 10 = .ok (.new 304, 3) := by decide +kernel
theorem dX9_needWithin_13 : decode cX9_needWithin 13 = .ok (.dup, 1) := by decide +kernel
theorem dX9_needWithin_14 : decode cX9_needWithin 14 = .ok (.ldc_w 306, 3) := by decide +kernel
theorem dX9_needWithin_17 : decode cX9_needWithin 17 = .ok (.invokespecial 308, 3) := by decide +kernel
theorem dX9_needWithin_20 : decode cX9_needWithin 20 = .ok (.athrow, 1) := by decide +kernel
theorem dX9_needWithin_21 : decode cX9_needWithin 21 = .ok (.return_, 1) := by decide +kernel
theorem dX9_kept_0 : decode cX9_kept 0 = .ok (.iload_n 1, 1) := by decide +kernel
theorem dX9_kept_1 : decode cX9_kept 1 = .ok (.ineg, 1) := by decide +kernel
theorem dX9_kept_2 : decode cX9_kept 2 = .ok (.iload_n 1, 1) := by decide +kernel
theorem dX9_kept_3 : decode cX9_kept 3 = .ok (.iload_n 0, 1) := by decide +kernel
theorem dX9_kept_4 : decode cX9_kept 4 = .ok (.invokestatic 309, 3) := by decide +kernel
theorem dX9_kept_7 : decode cX9_kept 7 = .ok (.invokestatic 239, 3) := by decide +kernel
theorem dX9_kept_10 : decode cX9_kept 10 = .ok (.ireturn, 1) := by decide +kernel
theorem dX9_quotient_0 : decode cX9_quotient 0 = .ok (.iload_n 1, 1) := by decide +kernel
theorem dX9_quotient_1 : decode cX9_quotient 1 = .ok (.ifCond .ne 7, 3) := by decide +kernel
theorem dX9_quotient_4 : decode cX9_quotient 4 = .ok (.iconst 0, 1) := by decide +kernel
theorem dX9_quotient_5 : decode cX9_quotient 5 = .ok (.goto 6, 3) := by decide +kernel
theorem dX9_quotient_8 : decode cX9_quotient 8 = .ok (.iload_n 0, 1) := by decide +kernel
theorem dX9_quotient_9 : decode cX9_quotient 9 = .ok (.iload_n 1, 1) := by decide +kernel
theorem dX9_quotient_10 : decode cX9_quotient 10 = .ok (.idiv, 1) := by decide +kernel
theorem dX9_quotient_11 : decode cX9_quotient 11 = .ok (.ireturn, 1) := by decide +kernel
theorem dX9_strideOf_0 : decode cX9_strideOf 0 = .ok (.iload_n 0, 1) := by decide +kernel
theorem dX9_strideOf_1 : decode cX9_strideOf 1 = .ok (.bipush 12, 2) := by decide +kernel
theorem dX9_strideOf_3 : decode cX9_strideOf 3 = .ok (.irem, 1) := by decide +kernel
theorem dX9_strideOf_4 : decode cX9_strideOf 4 = .ok (.istore_n 1, 1) := by decide +kernel
theorem dX9_strideOf_5 : decode cX9_strideOf 5 = .ok (.iload_n 1, 1) := by decide +kernel
theorem dX9_strideOf_6 : decode cX9_strideOf 6 = .ok (.ifCond .lt 24, 3) := by decide +kernel
theorem dX9_strideOf_9 : decode cX9_strideOf 9 = .ok (.iload_n 1, 1) := by decide +kernel
theorem dX9_strideOf_10 : decode cX9_strideOf 10 = .ok (.getstatic 312, 3) := by decide +kernel
theorem dX9_strideOf_13 : decode cX9_strideOf 13 = .ok (.arraylength, 1) := by decide +kernel
theorem dX9_strideOf_14 : decode cX9_strideOf 14 = .ok (.if_icmp .ge 16, 3) := by decide +kernel
theorem dX9_strideOf_17 : decode cX9_strideOf 17 = .ok (.getstatic 312, 3) := by decide +kernel
theorem dX9_strideOf_20 : decode cX9_strideOf 20 = .ok (.iload_n 1, 1) := by decide +kernel
theorem dX9_strideOf_21 : decode cX9_strideOf 21 = .ok (.iaload, 1) := by decide +kernel
theorem dX9_strideOf_22 : decode cX9_strideOf 22 = .ok (.iload_n 0, 1) := by decide +kernel
theorem dX9_strideOf_23 : decode cX9_strideOf 23 = .ok (.bipush 12, 2) := by decide +kernel
theorem dX9_strideOf_25 : decode cX9_strideOf 25 = .ok (.idiv, 1) := by decide +kernel
theorem dX9_strideOf_26 : decode cX9_strideOf 26 = .ok (.ishl, 1) := by decide +kernel
theorem dX9_strideOf_27 : decode cX9_strideOf 27 = .ok (.goto 4, 3) := by decide +kernel
theorem dX9_strideOf_30 : decode cX9_strideOf 30 = .ok (.iconst 0, 1) := by decide +kernel
theorem dX9_strideOf_31 : decode cX9_strideOf 31 = .ok (.ireturn, 1) := by decide +kernel
