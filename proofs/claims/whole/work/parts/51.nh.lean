set_option maxRecDepth 20000 in
theorem ggL_draw_X9_draw : GoodIn wsL_draw wsX9_draw := goodIn_ca (goodIn_ca (goodIn_r _ [7, 8, 9, 10, 11, 6, 12, 13, 14, 15, 16, 17, 18, 19, 20, 21, 22, 23, 24, 25, 26, 27, 28, 29, 30, 31, 32, 33, 34, 35, 36, 37, 38, 39, 40, 41, 42, 43, 44, 45, 46, 47, 48] (by decide +kernel) (by decide +kernel)) (goodIn_sub (fun _ h => List.mem_cons_of_mem _ (List.mem_append_left _ (List.mem_append_right _ h))) (by decide +kernel))) (goodIn_sub (fun _ h => List.mem_cons_of_mem _ (List.mem_append_right _ h)) (by decide +kernel))
set_option maxRecDepth 20000 in
theorem gL_draw_X9_draw : GoodIn wsL_draw (wsV RL 7 RX9 yX9_draw wsX9_draw) := goodIn_app (goodIn_of _ (by decide +kernel)) ggL_draw_X9_draw
theorem dL_draw_0 : decode cL_draw 0 = .ok (.aload_n 3, 1) := by decide +kernel
theorem dL_draw_1 : decode cL_draw 1 = .ok (.iconst 0, 1) := by decide +kernel
theorem dL_draw_2 : decode cL_draw 2 = .ok (.aload_n 0, 1) := by decide +kernel
theorem dL_draw_3 : decode cL_draw 3 = .ok (.iload_n 1, 1) := by decide +kernel
theorem dL_draw_4 : decode cL_draw 4 = .ok (.iload_n 2, 1) := by decide +kernel
theorem dL_draw_5 : decode cL_draw 5 = .ok (.invokevirtual 7, 3) := by decide +kernel
theorem dL_draw_8 : decode cL_draw 8 = .ok (.i2l, 1) := by decide +kernel
theorem dL_draw_9 : decode cL_draw 9 = .ok (.lastore, 1) := by decide +kernel
theorem dL_draw_10 : decode cL_draw 10 = .ok (.goto 11, 3) := by decide +kernel
theorem dL_draw_13 : decode cL_draw 13 = .ok (.astore 4, 2) := by decide +kernel
theorem dL_draw_15 : decode cL_draw 15 = .ok (.iconst 1, 1) := by decide +kernel
theorem dL_draw_16 : decode cL_draw 16 = .ok (.ireturn, 1) := by decide +kernel
theorem dL_draw_17 : decode cL_draw 17 = .ok (.astore 4, 2) := by decide +kernel
theorem dL_draw_19 : decode cL_draw 19 = .ok (.iconst 2, 1) := by decide +kernel
theorem dL_draw_20 : decode cL_draw 20 = .ok (.ireturn, 1) := by decide +kernel
theorem dL_draw_21 : decode cL_draw 21 = .ok (.iconst 0, 1) := by decide +kernel
theorem dL_draw_22 : decode cL_draw 22 = .ok (.ireturn, 1) := by decide +kernel
set_option maxRecDepth 20000 in
theorem ggL_wave_X9_wave : GoodIn wsL_wave wsX9_wave := goodIn_ca (goodIn_ca (goodIn_r _ [7, 8, 9, 10, 11, 12, 6, 13, 14, 15, 16, 17, 18, 19, 20, 21, 22, 23, 24, 25, 26, 27, 28, 29, 30, 31, 32, 33, 34, 35, 36, 37, 38, 39, 40, 41, 42, 43, 44, 45] (by decide +kernel) (by decide +kernel)) (goodIn_sub (fun _ h => List.mem_cons_of_mem _ (List.mem_append_left _ (List.mem_append_right _ h))) (by decide +kernel))) (goodIn_sub (fun _ h => List.mem_cons_of_mem _ (List.mem_append_right _ h)) (by decide +kernel))
set_option maxRecDepth 20000 in
theorem gL_wave_X9_wave : GoodIn wsL_wave (wsV RL 17 RX9 yX9_wave wsX9_wave) := goodIn_app (goodIn_of _ (by decide +kernel)) ggL_wave_X9_wave
theorem dL_wave_0 : decode cL_wave 0 = .ok (.aload_n 3, 1) := by decide +kernel
theorem dL_wave_1 : decode cL_wave 1 = .ok (.iconst 0, 1) := by decide +kernel
theorem dL_wave_2 : decode cL_wave 2 = .ok (.aload_n 0, 1) := by decide +kernel
theorem dL_wave_3 : decode cL_wave 3 = .ok (.iload_n 1, 1) := by decide +kernel
theorem dL_wave_4 : decode cL_wave 4 = .ok (.iload_n 2, 1) := by decide +kernel
theorem dL_wave_5 : decode cL_wave 5 = .ok (.invokevirtual 17, 3) := by decide +kernel
theorem dL_wave_8 : decode cL_wave 8 = .ok (.i2l, 1) := by decide +kernel
theorem dL_wave_9 : decode cL_wave 9 = .ok (.lastore, 1) := by decide +kernel
theorem dL_wave_10 : decode cL_wave 10 = .ok (.goto 11, 3) := by decide +kernel
theorem dL_wave_13 : decode cL_wave 13 = .ok (.astore 4, 2) := by decide +kernel
theorem dL_wave_15 : decode cL_wave 15 = .ok (.iconst 1, 1) := by decide +kernel
theorem dL_wave_16 : decode cL_wave 16 = .ok (.ireturn, 1) := by decide +kernel
theorem dL_wave_17 : decode cL_wave 17 = .ok (.astore 4, 2) := by decide +kernel
theorem dL_wave_19 : decode cL_wave 19 = .ok (.iconst 2, 1) := by decide +kernel
theorem dL_wave_20 : decode cL_wave 20 = .ok (.ireturn, 1) := by decide +kernel
theorem dL_wave_21 : decode cL_wave 21 = .ok (.iconst 0, 1) := by decide +kernel
theorem dL_wave_22 : decode cL_wave 22 = .ok (.ireturn, 1) := by decide +kernel
set_option maxRecDepth 20000 in
theorem ggL_stride_X9_stride : GoodIn wsL_stride wsX9_stride := goodIn_ca (goodIn_r _ [6, 7, 8, 5, 9, 10, 11, 12, 13, 14, 15] (by decide +kernel) (by decide +kernel)) (goodIn_sub (fun _ h => List.mem_cons_of_mem _ (List.mem_append_right _ h)) (by decide +kernel))
set_option maxRecDepth 20000 in
theorem gL_stride_X9_stride : GoodIn wsL_stride (wsV RL 20 RX9 yX9_stride wsX9_stride) := goodIn_app (goodIn_of _ (by decide +kernel)) ggL_stride_X9_stride
theorem dL_stride_0 : decode cL_stride 0 = .ok (.aload_n 2, 1) := by decide +kernel
theorem dL_stride_1 : decode cL_stride 1 = .ok (.iconst 0, 1) := by decide +kernel
theorem dL_stride_2 : decode cL_stride 2 = .ok (.aload_n 0, 1) := by decide +kernel
theorem dL_stride_3 : decode cL_stride 3 = .ok (.iload_n 1, 1) := by decide +kernel
theorem dL_stride_4 : decode cL_stride 4 = .ok (.invokevirtual 20, 3) := by decide +kernel
theorem dL_stride_7 : decode cL_stride 7 = .ok (.i2l, 1) := by decide +kernel
theorem dL_stride_8 : decode cL_stride 8 = .ok (.lastore, 1) := by decide +kernel
theorem dL_stride_9 : decode cL_stride 9 = .ok (.goto 6, 3) := by decide +kernel
theorem dL_stride_12 : decode cL_stride 12 = .ok (.astore_n 3, 1) := by decide +kernel
theorem dL_stride_13 : decode cL_stride 13 = .ok (.iconst 1, 1) := by decide +kernel
theorem dL_stride_14 : decode cL_stride 14 = .ok (.ireturn, 1) := by decide +kernel
theorem dL_stride_15 : decode cL_stride 15 = .ok (.iconst 0, 1) := by decide +kernel
theorem dL_stride_16 : decode cL_stride 16 = .ok (.ireturn, 1) := by decide +kernel
set_option maxRecDepth 20000 in
theorem ggL_setWaves_X9_setWaves : GoodIn wsL_setWaves wsX9_setWaves := goodIn_ca (goodIn_ca (goodIn_r _ [7, 8, 9, 10, 11, 12, 13, 14, 6, 15, 16, 17, 18, 19, 20, 21, 22, 23, 24, 25, 26, 27, 28, 29, 30, 31, 32, 33, 34, 35, 36, 37, 38, 39, 40, 41, 42, 43, 44, 45, 46, 47, 48, 49, 50, 51, 52, 53, 54] (by decide +kernel) (by decide +kernel)) (goodIn_sub (fun _ h => List.mem_cons_of_mem _ (List.mem_append_left _ (List.mem_append_right _ h))) (by decide +kernel))) (goodIn_sub (fun _ h => List.mem_cons_of_mem _ (List.mem_append_right _ h)) (by decide +kernel))
set_option maxRecDepth 20000 in
theorem gL_setWaves_X9_setWaves : GoodIn wsL_setWaves (wsV RL 24 RX9 yX9_setWaves wsX9_setWaves) := goodIn_app (goodIn_of _ (by decide +kernel)) ggL_setWaves_X9_setWaves
theorem dL_setWaves_0 : decode cL_setWaves 0 = .ok (.aload 6, 2) := by decide +kernel
theorem dL_setWaves_2 : decode cL_setWaves 2 = .ok (.iconst 0, 1) := by decide +kernel
theorem dL_setWaves_3 : decode cL_setWaves 3 = .ok (.aload_n 0, 1) := by decide +kernel
theorem dL_setWaves_4 : decode cL_setWaves 4 = .ok (.iload_n 1, 1) := by decide +kernel
theorem dL_setWaves_5 : decode cL_setWaves 5 = .ok (.iload_n 2, 1) := by decide +kernel
theorem dL_setWaves_6 : decode cL_setWaves 6 = .ok (.iload_n 3, 1) := by decide +kernel
theorem dL_setWaves_7 : decode cL_setWaves 7 = .ok (.iload 4, 2) := by decide +kernel
theorem dL_setWaves_9 : decode cL_setWaves 9 = .ok (.iload 5, 2) := by decide +kernel
theorem dL_setWaves_11 : decode cL_setWaves 11 = .ok (.invokevirtual 24, 3) := by decide +kernel
theorem dL_setWaves_14 : decode cL_setWaves 14 = .ok (.i2l, 1) := by decide +kernel
theorem dL_setWaves_15 : decode cL_setWaves 15 = .ok (.lastore, 1) := by decide +kernel
theorem dL_setWaves_16 : decode cL_setWaves 16 = .ok (.goto 11, 3) := by decide +kernel
theorem dL_setWaves_19 : decode cL_setWaves 19 = .ok (.astore 7, 2) := by decide +kernel
theorem dL_setWaves_21 : decode cL_setWaves 21 = .ok (.iconst 1, 1) := by decide +kernel
theorem dL_setWaves_22 : decode cL_setWaves 22 = .ok (.ireturn, 1) := by decide +kernel
theorem dL_setWaves_23 : decode cL_setWaves 23 = .ok (.astore 7, 2) := by decide +kernel
theorem dL_setWaves_25 : decode cL_setWaves 25 = .ok (.iconst 2, 1) := by decide +kernel
theorem dL_setWaves_26 : decode cL_setWaves 26 = .ok (.ireturn, 1) := by decide +kernel
theorem dL_setWaves_27 : decode cL_setWaves 27 = .ok (.iconst 0, 1) := by decide +kernel
theorem dL_setWaves_28 : decode cL_setWaves 28 = .ok (.ireturn, 1) := by decide +kernel
set_option maxRecDepth 20000 in
theorem ggL_setEnvelope_X9_setEnvelope : GoodIn wsL_setEnvelope wsX9_setEnvelope := goodIn_ca (goodIn_ca (goodIn_r _ [7, 8, 9, 10, 11, 12, 13, 14, 6, 15, 16, 17, 18, 19, 20, 21, 22, 23, 24, 25, 26, 27, 28, 29, 30, 31, 32, 33, 34, 35, 36, 37, 38, 39, 40, 41, 42, 43, 44, 45, 46, 47, 48, 49, 50, 51, 52, 53, 54] (by decide +kernel) (by decide +kernel)) (goodIn_sub (fun _ h => List.mem_cons_of_mem _ (List.mem_append_left _ (List.mem_append_right _ h))) (by decide +kernel))) (goodIn_sub (fun _ h => List.mem_cons_of_mem _ (List.mem_append_right _ h)) (by decide +kernel))
set_option maxRecDepth 20000 in
theorem gL_setEnvelope_X9_setEnvelope : GoodIn wsL_setEnvelope (wsV RL 28 RX9 yX9_setEnvelope wsX9_setEnvelope) := goodIn_app (goodIn_of _ (by decide +kernel)) ggL_setEnvelope_X9_setEnvelope
theorem dL_setEnvelope_0 : decode cL_setEnvelope 0 = .ok (.aload 6, 2) := by decide +kernel
theorem dL_setEnvelope_2 : decode cL_setEnvelope 2 = .ok (.iconst 0, 1) := by decide +kernel
theorem dL_setEnvelope_3 : decode cL_setEnvelope 3 = .ok (.aload_n 0, 1) := by decide +kernel
theorem dL_setEnvelope_4 : decode cL_setEnvelope 4 = .ok (.iload_n 1, 1) := by decide +kernel
theorem dL_setEnvelope_5 : decode cL_setEnvelope 5 = .ok (.iload_n 2, 1) := by decide +kernel
theorem dL_setEnvelope_6 : decode cL_setEnvelope 6 = .ok (.iload_n 3, 1) := by decide +kernel
theorem dL_setEnvelope_7 : decode cL_setEnvelope 7 = .ok (.iload 4, 2) := by decide +kernel
theorem dL_setEnvelope_9 : decode cL_setEnvelope 9 = .ok (.iload 5, 2) := by decide +kernel
theorem dL_setEnvelope_11 : decode cL_setEnvelope 11 = .ok (.invokevirtual 28, 3) := by decide +kernel
theorem dL_setEnvelope_14 : decode cL_setEnvelope 14 = .ok (.i2l, 1) := by decide +kernel
theorem dL_setEnvelope_15 : decode cL_setEnvelope 15 = .ok (.lastore, 1) := by decide +kernel
theorem dL_setEnvelope_16 : decode cL_setEnvelope 16 = .ok (.goto 11, 3) := by decide +kernel
theorem dL_setEnvelope_19 : decode cL_setEnvelope 19 = .ok (.astore 7, 2) := by decide +kernel
theorem dL_setEnvelope_21 : decode cL_setEnvelope 21 = .ok (.iconst 1, 1) := by decide +kernel
theorem dL_setEnvelope_22 : decode cL_setEnvelope 22 = .ok (.ireturn, 1) := by decide +kernel
theorem dL_setEnvelope_23 : decode cL_setEnvelope 23 = .ok (.astore 7, 2) := by decide +kernel
theorem dL_setEnvelope_25 : decode cL_setEnvelope 25 = .ok (.iconst 2, 1) := by decide +kernel
theorem dL_setEnvelope_26 : decode cL_setEnvelope 26 = .ok (.ireturn, 1) := by decide +kernel
theorem dL_setEnvelope_27 : decode cL_setEnvelope 27 = .ok (.iconst 0, 1) := by decide +kernel
theorem dL_setEnvelope_28 : decode cL_setEnvelope 28 = .ok (.ireturn, 1) := by decide +kernel
set_option maxRecDepth 20000 in
theorem ggL_setFilter_X9_setFilter : GoodIn wsL_setFilter wsX9_setFilter := goodIn_ca (goodIn_ca (goodIn_r _ [7, 8, 9, 10, 11, 12, 6, 13, 14, 15, 16, 17, 18, 19, 20, 21, 22, 23, 24, 25, 26, 27, 28, 29, 30, 31, 32, 33, 34, 35, 36, 37, 38, 39, 40, 41, 42, 43, 44, 45, 46, 47, 48, 49, 50, 51, 52] (by decide +kernel) (by decide +kernel)) (goodIn_sub (fun _ h => List.mem_cons_of_mem _ (List.mem_append_left _ (List.mem_append_right _ h))) (by decide +kernel))) (goodIn_sub (fun _ h => List.mem_cons_of_mem _ (List.mem_append_right _ h)) (by decide +kernel))
set_option maxRecDepth 20000 in
theorem gL_setFilter_X9_setFilter : GoodIn wsL_setFilter (wsV RL 31 RX9 yX9_setFilter wsX9_setFilter) := goodIn_app (goodIn_of _ (by decide +kernel)) ggL_setFilter_X9_setFilter
theorem dL_setFilter_0 : decode cL_setFilter 0 = .ok (.aload 4, 2) := by decide +kernel
theorem dL_setFilter_2 : decode cL_setFilter 2 = .ok (.iconst 0, 1) := by decide +kernel
theorem dL_setFilter_3 : decode cL_setFilter 3 = .ok (.aload_n 0, 1) := by decide +kernel
theorem dL_setFilter_4 : decode cL_setFilter 4 = .ok (.iload_n 1, 1) := by decide +kernel
theorem dL_setFilter_5 : decode cL_setFilter 5 = .ok (.iload_n 2, 1) := by decide +kernel
theorem dL_setFilter_6 : decode cL_setFilter 6 = .ok (.iload_n 3, 1) := by decide +kernel
theorem dL_setFilter_7 : decode cL_setFilter 7 = .ok (.invokevirtual 31, 3) := by decide +kernel
theorem dL_setFilter_10 : decode cL_setFilter 10 = .ok (.i2l, 1) := by decide +kernel
theorem dL_setFilter_11 : decode cL_setFilter 11 = .ok (.lastore, 1) := by decide +kernel
theorem dL_setFilter_12 : decode cL_setFilter 12 = .ok (.goto 11, 3) := by decide +kernel
theorem dL_setFilter_15 : decode cL_setFilter 15 = .ok (.astore 5, 2) := by decide +kernel
theorem dL_setFilter_17 : decode cL_setFilter 17 = .ok (.iconst 1, 1) := by decide +kernel
theorem dL_setFilter_18 : decode cL_setFilter 18 = .ok (.ireturn, 1) := by decide +kernel
theorem dL_setFilter_19 : decode cL_setFilter 19 = .ok (.astore 5, 2) := by decide +kernel
theorem dL_setFilter_21 : decode cL_setFilter 21 = .ok (.iconst 2, 1) := by decide +kernel
theorem dL_setFilter_22 : decode cL_setFilter 22 = .ok (.ireturn, 1) := by decide +kernel
theorem dL_setFilter_23 : decode cL_setFilter 23 = .ok (.iconst 0, 1) := by decide +kernel
theorem dL_setFilter_24 : decode cL_setFilter 24 = .ok (.ireturn, 1) := by decide +kernel
set_option maxRecDepth 20000 in
theorem ggL_setVibrato_X9_setVibrato : GoodIn wsL_setVibrato wsX9_setVibrato := goodIn_ca (goodIn_ca (goodIn_r _ [7, 8, 9, 10, 11, 12, 6, 13, 14, 15, 16, 17, 18, 19, 20, 21, 22, 23, 24, 25, 26, 27, 28, 29, 30, 31, 32, 33, 34, 35, 36, 37, 38, 39, 40, 41, 42, 43, 44, 45, 46, 47, 48, 49, 50, 51, 52] (by decide +kernel) (by decide +kernel)) (goodIn_sub (fun _ h => List.mem_cons_of_mem _ (List.mem_append_left _ (List.mem_append_right _ h))) (by decide +kernel))) (goodIn_sub (fun _ h => List.mem_cons_of_mem _ (List.mem_append_right _ h)) (by decide +kernel))
set_option maxRecDepth 20000 in
theorem gL_setVibrato_X9_setVibrato : GoodIn wsL_setVibrato (wsV RL 35 RX9 yX9_setVibrato wsX9_setVibrato) := goodIn_app (goodIn_of _ (by decide +kernel)) ggL_setVibrato_X9_setVibrato
theorem dL_setVibrato_0 : decode cL_setVibrato 0 = .ok (.aload 4, 2) := by decide +kernel
theorem dL_setVibrato_2 : decode cL_setVibrato 2 = .ok (.iconst 0, 1) := by decide +kernel
theorem dL_setVibrato_3 : decode cL_setVibrato 3 = .ok (.aload_n 0, 1) := by decide +kernel
theorem dL_setVibrato_4 : decode cL_setVibrato 4 = .ok (.iload_n 1, 1) := by decide +kernel
theorem dL_setVibrato_5 : decode cL_setVibrato 5 = .ok (.iload_n 2, 1) := by decide +kernel
theorem dL_setVibrato_6 : decode cL_setVibrato 6 = .ok (.iload_n 3, 1) := by decide +kernel
theorem dL_setVibrato_7 : decode cL_setVibrato 7 = .ok (.invokevirtual 35, 3) := by decide +kernel
theorem dL_setVibrato_10 : decode cL_setVibrato 10 = .ok (.i2l, 1) := by decide +kernel
theorem dL_setVibrato_11 : decode cL_setVibrato 11 = .ok (.lastore, 1) := by decide +kernel
theorem dL_setVibrato_12 : decode cL_setVibrato 12 = .ok (.goto 11, 3) := by decide +kernel
theorem dL_setVibrato_15 : decode cL_setVibrato 15 = .ok (.astore 5, 2) := by decide +kernel
theorem dL_setVibrato_17 : decode cL_setVibrato 17 = .ok (.iconst 1, 1) := by decide +kernel
theorem dL_setVibrato_18 : decode cL_setVibrato 18 = .ok (.ireturn, 1) := by decide +kernel
theorem dL_setVibrato_19 : decode cL_setVibrato 19 = .ok (.astore 5, 2) := by decide +kernel
theorem dL_setVibrato_21 : decode cL_setVibrato 21 = .ok (.iconst 2, 1) := by decide +kernel
theorem dL_setVibrato_22 : decode cL_setVibrato 22 = .ok (.ireturn, 1) := by decide +kernel
theorem dL_setVibrato_23 : decode cL_setVibrato 23 = .ok (.iconst 0, 1) := by decide +kernel
theorem dL_setVibrato_24 : decode cL_setVibrato 24 = .ok (.ireturn, 1) := by decide +kernel
set_option maxRecDepth 20000 in
theorem ggL_setGain_X9_setGain : GoodIn wsL_setGain wsX9_setGain := goodIn_ca (goodIn_r _ [6, 7, 8, 9, 10, 5, 11, 12, 13, 14, 15, 16, 17, 18, 19, 20, 21, 22, 23, 24] (by decide +kernel) (by decide +kernel)) (goodIn_sub (fun _ h => List.mem_cons_of_mem _ (List.mem_append_right _ h)) (by decide +kernel))
set_option maxRecDepth 20000 in
theorem gL_setGain_X9_setGain : GoodIn wsL_setGain (wsV RL 38 RX9 yX9_setGain wsX9_setGain) := goodIn_app (goodIn_of _ (by decide +kernel)) ggL_setGain_X9_setGain
theorem dL_setGain_0 : decode cL_setGain 0 = .ok (.aload_n 2, 1) := by decide +kernel
theorem dL_setGain_1 : decode cL_setGain 1 = .ok (.iconst 0, 1) := by decide +kernel
theorem dL_setGain_2 : decode cL_setGain 2 = .ok (.aload_n 0, 1) := by decide +kernel
theorem dL_setGain_3 : decode cL_setGain 3 = .ok (.iload_n 1, 1) := by decide +kernel
theorem dL_setGain_4 : decode cL_setGain 4 = .ok (.invokevirtual 38, 3) := by decide +kernel
theorem dL_setGain_7 : decode cL_setGain 7 = .ok (.i2l, 1) := by decide +kernel
theorem dL_setGain_8 : decode cL_setGain 8 = .ok (.lastore, 1) := by decide +kernel
theorem dL_setGain_9 : decode cL_setGain 9 = .ok (.goto 6, 3) := by decide +kernel
theorem dL_setGain_12 : decode cL_setGain 12 = .ok (.astore_n 3, 1) := by decide +kernel
theorem dL_setGain_13 : decode cL_setGain 13 = .ok (.iconst 1, 1) := by decide +kernel
theorem dL_setGain_14 : decode cL_setGain 14 = .ok (.ireturn, 1) := by decide +kernel
theorem dL_setGain_15 : decode cL_setGain 15 = .ok (.iconst 0, 1) := by decide +kernel
theorem dL_setGain_16 : decode cL_setGain 16 = .ok (.ireturn, 1) := by decide +kernel
set_option maxRecDepth 20000 in
theorem ggL_setDelay_X9_setDelay : GoodIn wsL_setDelay wsX9_setDelay := goodIn_ca (goodIn_r _ [6, 7, 8, 9, 10, 11, 5, 12, 13, 14, 15, 16, 17, 18, 19, 20, 21, 22, 23, 24, 25, 26, 27, 28, 29, 30, 31, 32, 33, 34, 35, 36, 37, 38, 39, 40, 41, 42, 43, 44, 45, 46, 47, 48, 49, 50, 51, 52] (by decide +kernel) (by decide +kernel)) (goodIn_sub (fun _ h => List.mem_cons_of_mem _ (List.mem_append_right _ h)) (by decide +kernel))
set_option maxRecDepth 20000 in
theorem gL_setDelay_X9_setDelay : GoodIn wsL_setDelay (wsV RL 41 RX9 yX9_setDelay wsX9_setDelay) := goodIn_app (goodIn_of _ (by decide +kernel)) ggL_setDelay_X9_setDelay
theorem dL_setDelay_0 : decode cL_setDelay 0 = .ok (.aload 4, 2) := by decide +kernel
theorem dL_setDelay_2 : decode cL_setDelay 2 = .ok (.iconst 0, 1) := by decide +kernel
theorem dL_setDelay_3 : decode cL_setDelay 3 = .ok (.aload_n 0, 1) := by decide +kernel
theorem dL_setDelay_4 : decode cL_setDelay 4 = .ok (.iload_n 1, 1) := by decide +kernel
theorem dL_setDelay_5 : decode cL_setDelay 5 = .ok (.iload_n 2, 1) := by decide +kernel
theorem dL_setDelay_6 : decode cL_setDelay 6 = .ok (.iload_n 3, 1) := by decide +kernel
theorem dL_setDelay_7 : decode cL_setDelay 7 = .ok (.invokevirtual 41, 3) := by decide +kernel
theorem dL_setDelay_10 : decode cL_setDelay 10 = .ok (.i2l, 1) := by decide +kernel
theorem dL_setDelay_11 : decode cL_setDelay 11 = .ok (.lastore, 1) := by decide +kernel
theorem dL_setDelay_12 : decode cL_setDelay 12 = .ok (.goto 7, 3) := by decide +kernel
theorem dL_setDelay_15 : decode cL_setDelay 15 = .ok (.astore 5, 2) := by decide +kernel
theorem dL_setDelay_17 : decode cL_setDelay 17 = .ok (.iconst 1, 1) := by decide +kernel
theorem dL_setDelay_18 : decode cL_setDelay 18 = .ok (.ireturn, 1) := by decide +kernel
theorem dL_setDelay_19 : decode cL_setDelay 19 = .ok (.iconst 0, 1) := by decide +kernel
theorem dL_setDelay_20 : decode cL_setDelay 20 = .ok (.ireturn, 1) := by decide +kernel
set_option maxRecDepth 20000 in
theorem ggL_begin_X9_begin : GoodIn wsL_begin wsX9_begin := goodIn_ca (goodIn_ca (goodIn_r _ [7, 8, 9, 10, 6, 11, 12, 13, 14, 15, 16, 17, 18, 19, 20, 21, 22, 23, 24, 25, 26, 27, 28, 29, 30, 31, 32, 33, 34, 35, 36, 37, 38, 39, 40, 41, 42, 43, 44, 45, 46, 47, 48, 49, 50, 51, 52, 53, 54, 55, 56, 57, 58, 59, 60, 61, 62, 63, 64, 65, 66, 67, 68, 69, 70, 71, 72, 73, 74, 75, 76, 77, 78, 79, 80, 81, 82, 83, 84, 85, 86, 87, 88, 89] (by decide +kernel) (by decide +kernel)) (goodIn_sub (fun _ h => List.mem_cons_of_mem _ (List.mem_append_left _ (List.mem_append_right _ h))) (by decide +kernel))) (goodIn_sub (fun _ h => List.mem_cons_of_mem _ (List.mem_append_right _ h)) (by decide +kernel))
set_option maxRecDepth 20000 in
theorem gL_begin_X9_begin : GoodIn wsL_begin (wsV RL 44 RX9 yX9_begin wsX9_begin) := goodIn_app (goodIn_of _ (by decide +kernel)) ggL_begin_X9_begin
theorem dL_begin_0 : decode cL_begin 0 = .ok (.aload 4, 2) := by decide +kernel
theorem dL_begin_2 : decode cL_begin 2 = .ok (.iconst 0, 1) := by decide +kernel
theorem dL_begin_3 : decode cL_begin 3 = .ok (.aload_n 0, 1) := by decide +kernel
theorem dL_begin_4 : decode cL_begin 4 = .ok (.iload_n 1, 1) := by decide +kernel
theorem dL_begin_5 : decode cL_begin 5 = .ok (.iload_n 2, 1) := by decide +kernel
theorem dL_begin_6 : decode cL_begin 6 = .ok (.iload_n 3, 1) := by decide +kernel
theorem dL_begin_7 : decode cL_begin 7 = .ok (.invokevirtual 44, 3) := by decide +kernel
theorem dL_begin_10 : decode cL_begin 10 = .ok (.i2l, 1) := by decide +kernel
theorem dL_begin_11 : decode cL_begin 11 = .ok (.lastore, 1) := by decide +kernel
theorem dL_begin_12 : decode cL_begin 12 = .ok (.goto 11, 3) := by decide +kernel
theorem dL_begin_15 : decode cL_begin 15 = .ok (.astore 5, 2) := by decide +kernel
theorem dL_begin_17 : decode cL_begin 17 = .ok (.iconst 1, 1) := by decide +kernel
theorem dL_begin_18 : decode cL_begin 18 = .ok (.ireturn, 1) := by decide +kernel
theorem dL_begin_19 : decode cL_begin 19 = .ok (.astore 5, 2) := by decide +kernel
theorem dL_begin_21 : decode cL_begin 21 = .ok (.iconst 2, 1) := by decide +kernel
theorem dL_begin_22 : decode cL_begin 22 = .ok (.ireturn, 1) := by decide +kernel
theorem dL_begin_23 : decode cL_begin 23 = .ok (.iconst 0, 1) := by decide +kernel
theorem dL_begin_24 : decode cL_begin 24 = .ok (.ireturn, 1) := by decide +kernel
set_option maxRecDepth 20000 in
theorem ggL_end_X9_end : GoodIn wsL_end wsX9_end := goodIn_ca (goodIn_r _ [6, 7, 8, 9, 10, 5, 11, 12, 13, 14, 15, 16, 17, 18, 19, 20, 21, 22, 23, 24, 25, 26, 27, 28, 29, 30, 31, 32, 33, 34, 35, 36, 37, 38, 39, 40, 41, 42, 43, 44, 45, 46, 47, 48, 49, 50, 51, 52, 53, 54, 55] (by decide +kernel) (by decide +kernel)) (goodIn_sub (fun _ h => List.mem_cons_of_mem _ (List.mem_append_right _ h)) (by decide +kernel))
set_option maxRecDepth 20000 in
theorem gL_end_X9_end : GoodIn wsL_end (wsV RL 47 RX9 yX9_end wsX9_end) := goodIn_app (goodIn_of _ (by decide +kernel)) ggL_end_X9_end
theorem dL_end_0 : decode cL_end 0 = .ok (.aload_n 2, 1) := by decide +kernel
theorem dL_end_1 : decode cL_end 1 = .ok (.iconst 0, 1) := by decide +kernel
theorem dL_end_2 : decode cL_end 2 = .ok (.aload_n 0, 1) := by decide +kernel
theorem dL_end_3 : decode cL_end 3 = .ok (.iload_n 1, 1) := by decide +kernel
theorem dL_end_4 : decode cL_end 4 = .ok (.invokevirtual 47, 3) := by decide +kernel
theorem dL_end_7 : decode cL_end 7 = .ok (.i2l, 1) := by decide +kernel
theorem dL_end_8 : decode cL_end 8 = .ok (.lastore, 1) := by decide +kernel
theorem dL_end_9 : decode cL_end 9 = .ok (.goto 6, 3) := by decide +kernel
theorem dL_end_12 : decode cL_end 12 = .ok (.astore_n 3, 1) := by decide +kernel
theorem dL_end_13 : decode cL_end 13 = .ok (.iconst 1, 1) := by decide +kernel
theorem dL_end_14 : decode cL_end 14 = .ok (.ireturn, 1) := by decide +kernel
theorem dL_end_15 : decode cL_end 15 = .ok (.iconst 0, 1) := by decide +kernel
theorem dL_end_16 : decode cL_end 16 = .ok (.ireturn, 1) := by decide +kernel
set_option maxRecDepth 20000 in
theorem ggL_write_X9_write : GoodIn wsL_write wsX9_write := goodIn_ca (goodIn_ca (goodIn_r _ [7, 8, 9, 10, 11, 6, 12, 13, 14, 15, 16, 17, 18, 19, 20, 21, 22, 23, 24, 25, 26, 27, 28, 29, 30, 31, 32, 33, 34, 35, 36, 37, 38, 39, 40, 41, 42, 43, 44, 45, 46, 47, 48, 49, 50, 51, 52, 53, 54, 55, 56, 57, 58, 59] (by decide +kernel) (by decide +kernel)) (goodIn_sub (fun _ h => List.mem_cons_of_mem _ (List.mem_append_left _ (List.mem_append_right _ h))) (by decide +kernel))) (goodIn_sub (fun _ h => List.mem_cons_of_mem _ (List.mem_append_right _ h)) (by decide +kernel))
set_option maxRecDepth 20000 in
theorem gL_write_X9_write : GoodIn wsL_write (wsV RL 50 RX9 yX9_write wsX9_write) := goodIn_app (goodIn_of _ (by decide +kernel)) ggL_write_X9_write
theorem dL_write_0 : decode cL_write 0 = .ok (.aload 6, 2) := by decide +kernel
theorem dL_write_2 : decode cL_write 2 = .ok (.iconst 0, 1) := by decide +kernel
theorem dL_write_3 : decode cL_write 3 = .ok (.aload_n 0, 1) := by decide +kernel
theorem dL_write_4 : decode cL_write 4 = .ok (.iload_n 1, 1) := by decide +kernel
theorem dL_write_5 : decode cL_write 5 = .ok (.iload_n 2, 1) := by decide +kernel
theorem dL_write_6 : decode cL_write 6 = .ok (.iload_n 3, 1) := by decide +kernel
theorem dL_write_7 : decode cL_write 7 = .ok (.iload 4, 2) := by decide +kernel
theorem dL_write_9 : decode cL_write 9 = .ok (.iload 5, 2) := by decide +kernel
theorem dL_write_11 : decode cL_write 11 = .ok (.invokevirtual 50, 3) := by decide +kernel
theorem dL_write_14 : decode cL_write 14 = .ok (.i2l, 1) := by decide +kernel
theorem dL_write_15 : decode cL_write 15 = .ok (.lastore, 1) := by decide +kernel
theorem dL_write_16 : decode cL_write 16 = .ok (.goto 11, 3) := by decide +kernel
theorem dL_write_19 : decode cL_write 19 = .ok (.astore 7, 2) := by decide +kernel
theorem dL_write_21 : decode cL_write 21 = .ok (.iconst 1, 1) := by decide +kernel
theorem dL_write_22 : decode cL_write 22 = .ok (.ireturn, 1) := by decide +kernel
theorem dL_write_23 : decode cL_write 23 = .ok (.astore 7, 2) := by decide +kernel
theorem dL_write_25 : decode cL_write 25 = .ok (.iconst 2, 1) := by decide +kernel
theorem dL_write_26 : decode cL_write 26 = .ok (.ireturn, 1) := by decide +kernel
theorem dL_write_27 : decode cL_write 27 = .ok (.iconst 0, 1) := by decide +kernel
theorem dL_write_28 : decode cL_write 28 = .ok (.ireturn, 1) := by decide +kernel
set_option maxRecDepth 20000 in
theorem ggL_setTrack_X9_setTrack : GoodIn wsL_setTrack wsX9_setTrack := goodIn_ca (goodIn_r _ [6, 7, 8, 9, 10, 11, 5, 12, 13, 14, 15, 16, 17, 18, 19, 20, 21, 22, 23, 24, 25, 26, 27, 28, 29, 30, 31, 32, 33, 34, 35, 36, 37, 38, 39, 40, 41, 42] (by decide +kernel) (by decide +kernel)) (goodIn_sub (fun _ h => List.mem_cons_of_mem _ (List.mem_append_right _ h)) (by decide +kernel))
set_option maxRecDepth 20000 in
theorem gL_setTrack_X9_setTrack : GoodIn wsL_setTrack (wsV RL 53 RX9 yX9_setTrack wsX9_setTrack) := goodIn_app (goodIn_of _ (by decide +kernel)) ggL_setTrack_X9_setTrack
theorem dL_setTrack_0 : decode cL_setTrack 0 = .ok (.aload_n 3, 1) := by decide +kernel
theorem dL_setTrack_1 : decode cL_setTrack 1 = .ok (.iconst 0, 1) := by decide +kernel
theorem dL_setTrack_2 : decode cL_setTrack 2 = .ok (.aload_n 0, 1) := by decide +kernel
theorem dL_setTrack_3 : decode cL_setTrack 3 = .ok (.iload_n 1, 1) := by decide +kernel
theorem dL_setTrack_4 : decode cL_setTrack 4 = .ok (.iload_n 2, 1) := by decide +kernel
theorem dL_setTrack_5 : decode cL_setTrack 5 = .ok (.invokevirtual 53, 3) := by decide +kernel
theorem dL_setTrack_8 : decode cL_setTrack 8 = .ok (.i2l, 1) := by decide +kernel
theorem dL_setTrack_9 : decode cL_setTrack 9 = .ok (.lastore, 1) := by decide +kernel
theorem dL_setTrack_10 : decode cL_setTrack 10 = .ok (.goto 7, 3) := by decide +kernel
theorem dL_setTrack_13 : decode cL_setTrack 13 = .ok (.astore 4, 2) := by decide +kernel
theorem dL_setTrack_15 : decode cL_setTrack 15 = .ok (.iconst 1, 1) := by decide +kernel
theorem dL_setTrack_16 : decode cL_setTrack 16 = .ok (.ireturn, 1) := by decide +kernel
theorem dL_setTrack_17 : decode cL_setTrack 17 = .ok (.iconst 0, 1) := by decide +kernel
theorem dL_setTrack_18 : decode cL_setTrack 18 = .ok (.ireturn, 1) := by decide +kernel
set_option maxRecDepth 20000 in
theorem ggL_setTempo_X9_setTempo : GoodIn wsL_setTempo wsX9_setTempo := goodIn_ca (goodIn_r _ [6, 7, 8, 9, 10, 11, 12, 5, 13, 14, 15, 16, 17, 18, 19, 20, 21, 22, 23, 24, 25, 26, 27, 28, 29, 30, 31, 32] (by decide +kernel) (by decide +kernel)) (goodIn_sub (fun _ h => List.mem_cons_of_mem _ (List.mem_append_right _ h)) (by decide +kernel))
set_option maxRecDepth 20000 in
theorem gL_setTempo_X9_setTempo : GoodIn wsL_setTempo (wsV RL 56 RX9 yX9_setTempo wsX9_setTempo) := goodIn_app (goodIn_of _ (by decide +kernel)) ggL_setTempo_X9_setTempo
theorem dL_setTempo_0 : decode cL_setTempo 0 = .ok (.aload_n 3, 1) := by decide +kernel
theorem dL_setTempo_1 : decode cL_setTempo 1 = .ok (.iconst 0, 1) := by decide +kernel
theorem dL_setTempo_2 : decode cL_setTempo 2 = .ok (.aload_n 0, 1) := by decide +kernel
theorem dL_setTempo_3 : decode cL_setTempo 3 = .ok (.iload_n 1, 1) := by decide +kernel
theorem dL_setTempo_4 : decode cL_setTempo 4 = .ok (.iload_n 2, 1) := by decide +kernel
theorem dL_setTempo_5 : decode cL_setTempo 5 = .ok (.invokevirtual 56, 3) := by decide +kernel
theorem dL_setTempo_8 : decode cL_setTempo 8 = .ok (.i2l, 1) := by decide +kernel
theorem dL_setTempo_9 : decode cL_setTempo 9 = .ok (.lastore, 1) := by decide +kernel
theorem dL_setTempo_10 : decode cL_setTempo 10 = .ok (.goto 7, 3) := by decide +kernel
theorem dL_setTempo_13 : decode cL_setTempo 13 = .ok (.astore 4, 2) := by decide +kernel
theorem dL_setTempo_15 : decode cL_setTempo 15 = .ok (.iconst 1, 1) := by decide +kernel
theorem dL_setTempo_16 : decode cL_setTempo 16 = .ok (.ireturn, 1) := by decide +kernel
theorem dL_setTempo_17 : decode cL_setTempo 17 = .ok (.iconst 0, 1) := by decide +kernel
theorem dL_setTempo_18 : decode cL_setTempo 18 = .ok (.ireturn, 1) := by decide +kernel
set_option maxRecDepth 20000 in
theorem ggL_play_X9_play : GoodIn wsL_play wsX9_play := goodIn_ca (goodIn_r _ [6, 7, 8, 9, 10, 11, 12, 5, 13, 14, 15, 16, 17, 18, 19, 20, 21, 22, 23, 24, 25, 26, 27, 28, 29, 30, 31] (by decide +kernel) (by decide +kernel)) (goodIn_sub (fun _ h => List.mem_cons_of_mem _ (List.mem_append_right _ h)) (by decide +kernel))
set_option maxRecDepth 20000 in
theorem gL_play_X9_play : GoodIn wsL_play (wsV RL 59 RX9 yX9_play wsX9_play) := goodIn_app (goodIn_of _ (by decide +kernel)) ggL_play_X9_play
theorem dL_play_0 : decode cL_play 0 = .ok (.aload_n 2, 1) := by decide +kernel
theorem dL_play_1 : decode cL_play 1 = .ok (.iconst 0, 1) := by decide +kernel
theorem dL_play_2 : decode cL_play 2 = .ok (.aload_n 0, 1) := by decide +kernel
theorem dL_play_3 : decode cL_play 3 = .ok (.iload_n 1, 1) := by decide +kernel
theorem dL_play_4 : decode cL_play 4 = .ok (.invokevirtual 59, 3) := by decide +kernel
theorem dL_play_7 : decode cL_play 7 = .ok (.ifCond .eq 7, 3) := by decide +kernel
theorem dL_play_10 : decode cL_play 10 = .ok (.lconst 1, 1) := by decide +kernel
theorem dL_play_11 : decode cL_play 11 = .ok (.goto 4, 3) := by decide +kernel
theorem dL_play_14 : decode cL_play 14 = .ok (.lconst 0, 1) := by decide +kernel
theorem dL_play_15 : decode cL_play 15 = .ok (.lastore, 1) := by decide +kernel
theorem dL_play_16 : decode cL_play 16 = .ok (.goto 6, 3) := by decide +kernel
theorem dL_play_19 : decode cL_play 19 = .ok (.astore_n 3, 1) := by decide +kernel
theorem dL_play_20 : decode cL_play 20 = .ok (.iconst 1, 1) := by decide +kernel
theorem dL_play_21 : decode cL_play 21 = .ok (.ireturn, 1) := by decide +kernel
theorem dL_play_22 : decode cL_play 22 = .ok (.iconst 0, 1) := by decide +kernel
theorem dL_play_23 : decode cL_play 23 = .ok (.ireturn, 1) := by decide +kernel
set_option maxRecDepth 20000 in
theorem ggL_run_X9_run : GoodIn wsL_run wsX9_run := goodIn_ca (goodIn_r _ [6, 7, 8, 9, 10, 5, 11, 12, 13, 14, 15, 16, 17, 18, 19, 20, 21, 22, 23, 24, 25, 26, 27, 28, 29, 30, 31, 32, 33, 34, 35, 36, 37, 38, 39, 40, 41, 42, 43, 44, 45, 46, 47, 48, 49, 50, 51, 52, 53, 54, 55, 56, 57, 58, 59, 60, 61, 62, 63, 64, 65, 66, 67, 68, 69, 70, 71, 72, 73, 74, 75, 76, 77, 78, 79, 80, 81, 82, 83, 84, 85, 86, 87, 88, 89, 90, 91, 92, 93, 94, 95, 96, 97, 98, 99, 100, 101, 102, 103, 104, 105, 106, 107, 108, 109, 110, 111, 112, 113, 114, 115, 116, 117, 118, 119, 120, 121, 122, 123, 124, 125, 126, 127, 128, 129, 130, 131, 132, 133, 134, 135, 136, 137, 138, 139, 140, 141, 142, 143, 144, 145, 146, 147, 148, 149, 150, 151, 152, 153, 154, 155, 156, 157, 158, 159, 160, 161, 162, 163, 164, 165, 166, 167, 168, 169, 170, 171, 172, 173, 174, 175, 176, 177, 178, 179, 180, 181, 182, 183, 184, 185, 186, 187, 188, 189, 190, 191, 192, 193, 194, 195, 196, 197, 198, 199, 200, 201, 202, 203, 204, 205, 206, 207, 208, 209, 210, 211, 212, 213, 214, 215, 216, 217, 218, 219, 220, 221, 222, 223, 224, 225, 226, 227, 228, 229, 230, 231, 232, 233, 234, 235, 236, 237, 238, 239, 240, 241, 242, 243, 244, 245, 246, 247, 248, 249, 250, 251, 252, 253, 254, 255, 256, 257, 258, 259, 260, 261, 262, 263, 264, 265, 266, 267, 268, 269, 270, 271, 272, 273, 274, 275, 276, 277, 278, 279, 280, 281, 282, 283, 284, 285, 286, 287, 288, 289, 290, 291, 292, 293, 294, 295, 296, 297, 298, 299, 300, 301, 302, 303, 304, 305] (by decide +kernel) (by decide +kernel)) (goodIn_sub (fun _ h => List.mem_cons_of_mem _ (List.mem_append_right _ h)) (by decide +kernel))
set_option maxRecDepth 20000 in
theorem gL_run_X9_run : GoodIn wsL_run (wsV RL 63 RX9 yX9_run wsX9_run) := goodIn_app (goodIn_of _ (by decide +kernel)) ggL_run_X9_run
theorem dL_run_0 : decode cL_run 0 = .ok (.aload_n 2, 1) := by decide +kernel
theorem dL_run_1 : decode cL_run 1 = .ok (.iconst 0, 1) := by decide +kernel
theorem dL_run_2 : decode cL_run 2 = .ok (.aload_n 0, 1) := by decide +kernel
theorem dL_run_3 : decode cL_run 3 = .ok (.iload_n 1, 1) := by decide +kernel
theorem dL_run_4 : decode cL_run 4 = .ok (.invokevirtual 63, 3) := by decide +kernel
theorem dL_run_7 : decode cL_run 7 = .ok (.i2l, 1) := by decide +kernel
theorem dL_run_8 : decode cL_run 8 = .ok (.lastore, 1) := by decide +kernel
theorem dL_run_9 : decode cL_run 9 = .ok (.goto 6, 3) := by decide +kernel
theorem dL_run_12 : decode cL_run 12 = .ok (.astore_n 3, 1) := by decide +kernel
theorem dL_run_13 : decode cL_run 13 = .ok (.iconst 1, 1) := by decide +kernel
theorem dL_run_14 : decode cL_run 14 = .ok (.ireturn, 1) := by decide +kernel
theorem dL_run_15 : decode cL_run 15 = .ok (.iconst 0, 1) := by decide +kernel
theorem dL_run_16 : decode cL_run 16 = .ok (.ireturn, 1) := by decide +kernel
set_option maxRecDepth 20000 in
theorem ggL_heard_X9_heard : GoodIn wsL_heard wsX9_heard := goodIn_ca (goodIn_r _ [6, 7, 8, 9, 5, 10, 11, 12, 13, 14, 15, 16, 17, 18, 19, 20, 21, 22, 23, 24, 25, 26, 27, 28, 29, 30, 31, 32, 33, 34, 35, 36, 37, 38, 39, 40, 41, 42] (by decide +kernel) (by decide +kernel)) (goodIn_sub (fun _ h => List.mem_cons_of_mem _ (List.mem_append_right _ h)) (by decide +kernel))
set_option maxRecDepth 20000 in
theorem gL_heard_X9_heard : GoodIn wsL_heard (wsV RL 66 RX9 yX9_heard wsX9_heard) := goodIn_app (goodIn_of _ (by decide +kernel)) ggL_heard_X9_heard
theorem dL_heard_0 : decode cL_heard 0 = .ok (.aload_n 2, 1) := by decide +kernel
theorem dL_heard_1 : decode cL_heard 1 = .ok (.iconst 0, 1) := by decide +kernel
theorem dL_heard_2 : decode cL_heard 2 = .ok (.aload_n 0, 1) := by decide +kernel
theorem dL_heard_3 : decode cL_heard 3 = .ok (.iload_n 1, 1) := by decide +kernel
theorem dL_heard_4 : decode cL_heard 4 = .ok (.invokevirtual 66, 3) := by decide +kernel
theorem dL_heard_7 : decode cL_heard 7 = .ok (.i2l, 1) := by decide +kernel
theorem dL_heard_8 : decode cL_heard 8 = .ok (.lastore, 1) := by decide +kernel
theorem dL_heard_9 : decode cL_heard 9 = .ok (.goto 6, 3) := by decide +kernel
theorem dL_heard_12 : decode cL_heard 12 = .ok (.astore_n 3, 1) := by decide +kernel
theorem dL_heard_13 : decode cL_heard 13 = .ok (.iconst 1, 1) := by decide +kernel
theorem dL_heard_14 : decode cL_heard 14 = .ok (.ireturn, 1) := by decide +kernel
theorem dL_heard_15 : decode cL_heard 15 = .ok (.iconst 0, 1) := by decide +kernel
theorem dL_heard_16 : decode cL_heard 16 = .ok (.ireturn, 1) := by decide +kernel
set_option maxRecDepth 20000 in
theorem ggL_ofVoice_X9_ofVoice : GoodIn wsL_ofVoice wsX9_ofVoice := goodIn_ca (goodIn_ca (goodIn_r _ [7, 8, 9, 10, 6, 11, 12, 13, 14, 15, 16, 17, 18, 19, 20, 21, 22, 23, 24, 25, 26, 27, 28, 29, 30, 31, 32, 33, 34, 35, 36, 37, 38, 39, 40, 41, 42, 43, 44, 45, 46, 47, 48, 49, 50, 51, 52, 53, 54, 55, 56, 57, 58, 59, 60, 61, 62, 63, 64, 65, 66, 67, 68, 69] (by decide +kernel) (by decide +kernel)) (goodIn_sub (fun _ h => List.mem_cons_of_mem _ (List.mem_append_left _ (List.mem_append_right _ h))) (by decide +kernel))) (goodIn_sub (fun _ h => List.mem_cons_of_mem _ (List.mem_append_right _ h)) (by decide +kernel))
set_option maxRecDepth 20000 in
theorem gL_ofVoice_X9_ofVoice : GoodIn wsL_ofVoice (wsV RL 69 RX9 yX9_ofVoice wsX9_ofVoice) := goodIn_app (goodIn_of _ (by decide +kernel)) ggL_ofVoice_X9_ofVoice
theorem dL_ofVoice_0 : decode cL_ofVoice 0 = .ok (.aload_n 3, 1) := by decide +kernel
theorem dL_ofVoice_1 : decode cL_ofVoice 1 = .ok (.iconst 0, 1) := by decide +kernel
theorem dL_ofVoice_2 : decode cL_ofVoice 2 = .ok (.aload_n 0, 1) := by decide +kernel
theorem dL_ofVoice_3 : decode cL_ofVoice 3 = .ok (.iload_n 1, 1) := by decide +kernel
theorem dL_ofVoice_4 : decode cL_ofVoice 4 = .ok (.iload_n 2, 1) := by decide +kernel
theorem dL_ofVoice_5 : decode cL_ofVoice 5 = .ok (.invokevirtual 69, 3) := by decide +kernel
theorem dL_ofVoice_8 : decode cL_ofVoice 8 = .ok (.i2l, 1) := by decide +kernel
theorem dL_ofVoice_9 : decode cL_ofVoice 9 = .ok (.lastore, 1) := by decide +kernel
theorem dL_ofVoice_10 : decode cL_ofVoice 10 = .ok (.goto 11, 3) := by decide +kernel
theorem dL_ofVoice_13 : decode cL_ofVoice 13 = .ok (.astore 4, 2) := by decide +kernel
theorem dL_ofVoice_15 : decode cL_ofVoice 15 = .ok (.iconst 1, 1) := by decide +kernel
theorem dL_ofVoice_16 : decode cL_ofVoice 16 = .ok (.ireturn, 1) := by decide +kernel
theorem dL_ofVoice_17 : decode cL_ofVoice 17 = .ok (.astore 4, 2) := by decide +kernel
theorem dL_ofVoice_19 : decode cL_ofVoice 19 = .ok (.iconst 2, 1) := by decide +kernel
theorem dL_ofVoice_20 : decode cL_ofVoice 20 = .ok (.ireturn, 1) := by decide +kernel
theorem dL_ofVoice_21 : decode cL_ofVoice 21 = .ok (.iconst 0, 1) := by decide +kernel
theorem dL_ofVoice_22 : decode cL_ofVoice 22 = .ok (.ireturn, 1) := by decide +kernel
set_option maxRecDepth 20000 in
theorem ggL_ofStep_X9_ofStep : GoodIn wsL_ofStep wsX9_ofStep := goodIn_ca (goodIn_ca (goodIn_r _ [7, 8, 9, 10, 11, 6, 12, 13, 14, 15, 16, 17, 18, 19, 20, 21, 22, 23, 24, 25, 26, 27, 28, 29, 30, 31, 32, 33, 34, 35, 36, 37, 38, 39, 40, 41, 42, 43, 44, 45, 46, 47, 48, 49, 50, 51, 52, 53, 54, 55, 56, 57, 58, 59, 60, 61, 62, 63] (by decide +kernel) (by decide +kernel)) (goodIn_sub (fun _ h => List.mem_cons_of_mem _ (List.mem_append_left _ (List.mem_append_right _ h))) (by decide +kernel))) (goodIn_sub (fun _ h => List.mem_cons_of_mem _ (List.mem_append_right _ h)) (by decide +kernel))
set_option maxRecDepth 20000 in
theorem gL_ofStep_X9_ofStep : GoodIn wsL_ofStep (wsV RL 72 RX9 yX9_ofStep wsX9_ofStep) := goodIn_app (goodIn_of _ (by decide +kernel)) ggL_ofStep_X9_ofStep
theorem dL_ofStep_0 : decode cL_ofStep 0 = .ok (.aload 4, 2) := by decide +kernel
theorem dL_ofStep_2 : decode cL_ofStep 2 = .ok (.iconst 0, 1) := by decide +kernel
theorem dL_ofStep_3 : decode cL_ofStep 3 = .ok (.aload_n 0, 1) := by decide +kernel
theorem dL_ofStep_4 : decode cL_ofStep 4 = .ok (.iload_n 1, 1) := by decide +kernel
theorem dL_ofStep_5 : decode cL_ofStep 5 = .ok (.iload_n 2, 1) := by decide +kernel
theorem dL_ofStep_6 : decode cL_ofStep 6 = .ok (.iload_n 3, 1) := by decide +kernel
theorem dL_ofStep_7 : decode cL_ofStep 7 = .ok (.invokevirtual 72, 3) := by decide +kernel
theorem dL_ofStep_10 : decode cL_ofStep 10 = .ok (.i2l, 1) := by decide +kernel
theorem dL_ofStep_11 : decode cL_ofStep 11 = .ok (.lastore, 1) := by decide +kernel
theorem dL_ofStep_12 : decode cL_ofStep 12 = .ok (.goto 11, 3) := by decide +kernel
theorem dL_ofStep_15 : decode cL_ofStep 15 = .ok (.astore 5, 2) := by decide +kernel
theorem dL_ofStep_17 : decode cL_ofStep 17 = .ok (.iconst 1, 1) := by decide +kernel
theorem dL_ofStep_18 : decode cL_ofStep 18 = .ok (.ireturn, 1) := by decide +kernel
theorem dL_ofStep_19 : decode cL_ofStep 19 = .ok (.astore 5, 2) := by decide +kernel
theorem dL_ofStep_21 : decode cL_ofStep 21 = .ok (.iconst 2, 1) := by decide +kernel
theorem dL_ofStep_22 : decode cL_ofStep 22 = .ok (.ireturn, 1) := by decide +kernel
theorem dL_ofStep_23 : decode cL_ofStep 23 = .ok (.iconst 0, 1) := by decide +kernel
theorem dL_ofStep_24 : decode cL_ofStep 24 = .ok (.ireturn, 1) := by decide +kernel
set_option maxRecDepth 20000 in
theorem ggL_inDelay_X9_inDelay : GoodIn wsL_inDelay wsX9_inDelay := goodIn_ca (goodIn_r _ [6, 7, 8, 9, 10, 11, 5, 12, 13, 14, 15, 16, 17, 18, 19, 20, 21, 22, 23, 24, 25, 26, 27, 28, 29, 30, 31, 32, 33, 34, 35, 36, 37, 38, 39, 40, 41, 42, 43, 44, 45, 46, 47, 48, 49, 50] (by decide +kernel) (by decide +kernel)) (goodIn_sub (fun _ h => List.mem_cons_of_mem _ (List.mem_append_right _ h)) (by decide +kernel))
set_option maxRecDepth 20000 in
theorem gL_inDelay_X9_inDelay : GoodIn wsL_inDelay (wsV RL 75 RX9 yX9_inDelay wsX9_inDelay) := goodIn_app (goodIn_of _ (by decide +kernel)) ggL_inDelay_X9_inDelay
theorem dL_inDelay_0 : decode cL_inDelay 0 = .ok (.aload_n 2, 1) := by decide +kernel
theorem dL_inDelay_1 : decode cL_inDelay 1 = .ok (.iconst 0, 1) := by decide +kernel
theorem dL_inDelay_2 : decode cL_inDelay 2 = .ok (.aload_n 0, 1) := by decide +kernel
theorem dL_inDelay_3 : decode cL_inDelay 3 = .ok (.iload_n 1, 1) := by decide +kernel
theorem dL_inDelay_4 : decode cL_inDelay 4 = .ok (.invokevirtual 75, 3) := by decide +kernel
theorem dL_inDelay_7 : decode cL_inDelay 7 = .ok (.i2l, 1) := by decide +kernel
theorem dL_inDelay_8 : decode cL_inDelay 8 = .ok (.lastore, 1) := by decide +kernel
theorem dL_inDelay_9 : decode cL_inDelay 9 = .ok (.goto 6, 3) := by decide +kernel
theorem dL_inDelay_12 : decode cL_inDelay 12 = .ok (.astore_n 3, 1) := by decide +kernel
theorem dL_inDelay_13 : decode cL_inDelay 13 = .ok (.iconst 1, 1) := by decide +kernel
theorem dL_inDelay_14 : decode cL_inDelay 14 = .ok (.ireturn, 1) := by decide +kernel
theorem dL_inDelay_15 : decode cL_inDelay 15 = .ok (.iconst 0, 1) := by decide +kernel
theorem dL_inDelay_16 : decode cL_inDelay 16 = .ok (.ireturn, 1) := by decide +kernel
set_option maxRecDepth 20000 in
theorem ggL_wouldPeak_X9_wouldPeak : GoodIn wsL_wouldPeak wsX9_wouldPeak := goodIn_ca (goodIn_r _ [6, 7, 8, 9, 10, 11, 12, 13, 14, 15, 16, 17, 5, 18, 19, 20, 21, 22, 23, 24, 25, 26, 27, 28, 29, 30, 31, 32, 33, 34, 35, 36, 37, 38, 39, 40, 41, 42, 43, 44, 45, 46, 47, 48, 49, 50, 51, 52, 53, 54, 55, 56, 57, 58, 59, 60, 61, 62, 63, 64, 65, 66, 67, 68, 69, 70, 71, 72, 73, 74, 75, 76, 77, 78, 79, 80, 81, 82, 83, 84, 85, 86, 87, 88, 89, 90, 91, 92, 93, 94, 95, 96, 97, 98, 99, 100, 101, 102, 103, 104, 105, 106, 107, 108, 109, 110, 111, 112, 113, 114, 115, 116, 117, 118, 119, 120, 121, 122, 123, 124, 125, 126, 127, 128, 129, 130, 131, 132, 133, 134, 135, 136, 137, 138, 139, 140, 141, 142, 143, 144, 145, 146, 147, 148, 149, 150, 151, 152, 153, 154, 155, 156, 157, 158, 159, 160, 161, 162, 163, 164, 165, 166, 167, 168, 169, 170, 171, 172, 173, 174, 175, 176, 177, 178, 179, 180, 181, 182, 183, 184, 185, 186, 187, 188, 189, 190, 191, 192, 193, 194, 195, 196, 197, 198, 199, 200, 201, 202, 203, 204, 205, 206, 207, 208, 209, 210, 211, 212, 213, 214, 215, 216, 217, 218, 219, 220, 221, 222, 223, 224, 225, 226, 227, 228, 229, 230, 231, 232, 233, 234, 235, 236, 237, 238, 239, 240, 241, 242, 243, 244, 245, 246, 247, 248, 249, 250, 251, 252, 253, 254, 255, 256, 257, 258, 259, 260, 261, 262, 263, 264, 265, 266, 267, 268, 269, 270, 271, 272, 273, 274, 275, 276, 277, 278, 279, 280, 281, 282, 283, 284, 285, 286, 287, 288, 289, 290, 291, 292, 293, 294, 295, 296, 297, 298, 299, 300] (by decide +kernel) (by decide +kernel)) (goodIn_sub (fun _ h => List.mem_cons_of_mem _ (List.mem_append_right _ h)) (by decide +kernel))
set_option maxRecDepth 20000 in
theorem gL_wouldPeak_X9_wouldPeak : GoodIn wsL_wouldPeak (wsV RL 78 RX9 yX9_wouldPeak wsX9_wouldPeak) := goodIn_app (goodIn_of _ (by decide +kernel)) ggL_wouldPeak_X9_wouldPeak
theorem dL_wouldPeak_0 : decode cL_wouldPeak 0 = .ok (.aload_n 2, 1) := by decide +kernel
theorem dL_wouldPeak_1 : decode cL_wouldPeak 1 = .ok (.iconst 0, 1) := by decide +kernel
theorem dL_wouldPeak_2 : decode cL_wouldPeak 2 = .ok (.aload_n 0, 1) := by decide +kernel
theorem dL_wouldPeak_3 : decode cL_wouldPeak 3 = .ok (.iload_n 1, 1) := by decide +kernel
theorem dL_wouldPeak_4 : decode cL_wouldPeak 4 = .ok (.invokevirtual 78, 3) := by decide +kernel
theorem dL_wouldPeak_7 : decode cL_wouldPeak 7 = .ok (.i2l, 1) := by decide +kernel
theorem dL_wouldPeak_8 : decode cL_wouldPeak 8 = .ok (.lastore, 1) := by decide +kernel
theorem dL_wouldPeak_9 : decode cL_wouldPeak 9 = .ok (.goto 6, 3) := by decide +kernel
theorem dL_wouldPeak_12 : decode cL_wouldPeak 12 = .ok (.astore_n 3, 1) := by decide +kernel
theorem dL_wouldPeak_13 : decode cL_wouldPeak 13 = .ok (.iconst 1, 1) := by decide +kernel
theorem dL_wouldPeak_14 : decode cL_wouldPeak 14 = .ok (.ireturn, 1) := by decide +kernel
theorem dL_wouldPeak_15 : decode cL_wouldPeak 15 = .ok (.iconst 0, 1) := by decide +kernel
theorem dL_wouldPeak_16 : decode cL_wouldPeak 16 = .ok (.ireturn, 1) := by decide +kernel
set_option maxRecDepth 20000 in
theorem ggL_silentIn_X9_silentIn : GoodIn wsL_silentIn wsX9_silentIn := goodIn_ca (goodIn_r _ [6, 7, 8, 9, 10, 5, 11, 12, 13, 14, 15, 16, 17, 18, 19, 20, 21, 22, 23, 24, 25, 26, 27, 28, 29, 30, 31, 32, 33, 34, 35, 36, 37, 38, 39, 40, 41, 42, 43, 44, 45, 46, 47, 48, 49, 50, 51, 52, 53, 54, 55, 56, 57, 58, 59, 60, 61, 62, 63, 64, 65, 66, 67, 68, 69, 70, 71, 72, 73, 74, 75, 76, 77, 78, 79, 80, 81, 82, 83, 84, 85, 86, 87, 88, 89, 90, 91, 92, 93, 94, 95, 96, 97, 98, 99, 100, 101, 102, 103, 104, 105, 106, 107, 108, 109, 110, 111, 112, 113, 114, 115, 116, 117, 118, 119, 120, 121, 122, 123, 124, 125, 126, 127, 128, 129, 130, 131, 132, 133, 134, 135, 136, 137, 138, 139, 140, 141, 142, 143, 144, 145, 146, 147, 148, 149, 150, 151, 152, 153, 154, 155, 156, 157, 158, 159, 160, 161, 162, 163, 164, 165, 166, 167, 168, 169, 170, 171, 172, 173, 174, 175, 176, 177, 178, 179, 180, 181, 182, 183, 184, 185, 186, 187, 188, 189, 190, 191, 192, 193, 194, 195, 196, 197, 198, 199, 200, 201, 202, 203, 204, 205, 206, 207, 208, 209, 210, 211, 212, 213, 214, 215, 216, 217, 218, 219, 220, 221, 222, 223, 224, 225, 226, 227, 228, 229, 230, 231, 232, 233, 234, 235, 236, 237, 238, 239, 240, 241, 242, 243, 244, 245, 246, 247, 248, 249, 250, 251, 252, 253, 254, 255, 256, 257, 258, 259, 260, 261, 262, 263, 264, 265, 266, 267, 268, 269, 270, 271, 272, 273, 274, 275, 276, 277, 278, 279, 280, 281, 282, 283, 284, 285, 286, 287, 288, 289, 290, 291, 292, 293, 294, 295, 296, 297, 298, 299, 300] (by decide +kernel) (by decide +kernel)) (goodIn_sub (fun _ h => List.mem_cons_of_mem _ (List.mem_append_right _ h)) (by decide +kernel))
set_option maxRecDepth 20000 in
theorem gL_silentIn_X9_silentIn : GoodIn wsL_silentIn (wsV RL 81 RX9 yX9_silentIn wsX9_silentIn) := goodIn_app (goodIn_of _ (by decide +kernel)) ggL_silentIn_X9_silentIn
theorem dL_silentIn_0 : decode cL_silentIn 0 = .ok (.aload_n 2, 1) := by decide +kernel
theorem dL_silentIn_1 : decode cL_silentIn 1 = .ok (.iconst 0, 1) := by decide +kernel
theorem dL_silentIn_2 : decode cL_silentIn 2 = .ok (.aload_n 0, 1) := by decide +kernel
theorem dL_silentIn_3 : decode cL_silentIn 3 = .ok (.iload_n 1, 1) := by decide +kernel
theorem dL_silentIn_4 : decode cL_silentIn 4 = .ok (.invokevirtual 81, 3) := by decide +kernel
theorem dL_silentIn_7 : decode cL_silentIn 7 = .ok (.i2l, 1) := by decide +kernel
theorem dL_silentIn_8 : decode cL_silentIn 8 = .ok (.lastore, 1) := by decide +kernel
theorem dL_silentIn_9 : decode cL_silentIn 9 = .ok (.goto 6, 3) := by decide +kernel
theorem dL_silentIn_12 : decode cL_silentIn 12 = .ok (.astore_n 3, 1) := by decide +kernel
theorem dL_silentIn_13 : decode cL_silentIn 13 = .ok (.iconst 1, 1) := by decide +kernel
theorem dL_silentIn_14 : decode cL_silentIn 14 = .ok (.ireturn, 1) := by decide +kernel
theorem dL_silentIn_15 : decode cL_silentIn 15 = .ok (.iconst 0, 1) := by decide +kernel
theorem dL_silentIn_16 : decode cL_silentIn 16 = .ok (.ireturn, 1) := by decide +kernel
