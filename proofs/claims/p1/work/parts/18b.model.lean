theorem dX12_reset_119 : decode cX12_reset 119 = .ok (.aload_n 0, 1) := by decide +kernel
theorem dX12_reset_120 : decode cX12_reset 120 = .ok (.dup, 1) := by decide +kernel
theorem dX12_reset_121 : decode cX12_reset 121 = .ok (.getfield 207, 3) := by decide +kernel
theorem dX12_reset_124 : decode cX12_reset 124 = .ok (.iconst 1, 1) := by decide +kernel
theorem dX12_reset_125 : decode cX12_reset 125 = .ok (.iadd, 1) := by decide +kernel
theorem dX12_reset_126 : decode cX12_reset 126 = .ok (.putfield 207, 3) := by decide +kernel
theorem dX12_reset_129 : decode cX12_reset 129 = .ok (.aload_n 0, 1) := by decide +kernel
theorem dX12_reset_130 : decode cX12_reset 130 = .ok (.aload_n 0, 1) := by decide +kernel
theorem dX12_reset_131 : decode cX12_reset 131 = .ok (.getfield 178, 3) := by decide +kernel
theorem dX12_reset_134 : decode cX12_reset 134 = .ok (.putfield 210, 3) := by decide +kernel
theorem dX12_reset_137 : decode cX12_reset 137 = .ok (.return_, 1) := by decide +kernel
set_option maxRecDepth 20000 in
theorem ggX12_fed_X12_reset : GoodIn wsX12_fed wsX12_reset := goodIn_ca (goodIn_r _ [8, 9, 10, 11, 12, 13, 14, 2, 15, 16, 17, 18, 19, 20, 7, 21, 22, 23, 24, 25, 26, 27, 28, 29, 30, 31, 32, 33, 34, 35, 36, 37, 38, 39, 40, 41, 42, 43, 44, 45, 46, 47, 48, 49, 50, 51, 52, 53, 54, 55, 56, 57, 58, 59, 60, 61, 62, 63, 64, 65, 66, 67, 68, 69, 70, 71, 72, 73, 74, 75, 76, 77, 78, 79, 80, 81, 82, 83, 84, 85, 86, 87, 88, 89, 90, 91, 92, 93, 94, 95, 96, 97, 98, 99, 100, 101, 102, 103, 104, 105, 106, 107, 108, 109, 110, 111, 112, 113, 114, 115, 116, 117, 118, 119, 120, 121, 122, 123, 124, 125, 126, 127, 128, 129, 130, 131, 132, 133, 134, 135, 136, 137, 138, 139, 140, 141, 142, 143, 144, 145, 146, 147, 148, 149, 150, 151, 152, 153, 154, 155, 156, 157, 158, 159, 160, 161, 162, 163, 164, 165, 166, 167] (by decide +kernel) (by decide +kernel)) (goodIn_sub (fun _ h => List.mem_cons_of_mem _ (List.mem_append_right _ h)) (by decide +kernel))
set_option maxRecDepth 20000 in
theorem gX12_fed_X12_reset : GoodIn wsX12_fed (wsV RX12 213 RX12 yX12_reset wsX12_reset) := goodIn_app (goodIn_of _ (by decide +kernel)) ggX12_fed_X12_reset
theorem dX12_fed_0 : decode cX12_fed 0 = .ok (.aload_n 0, 1) := by decide +kernel
theorem dX12_fed_1 : decode cX12_fed 1 = .ok (.getfield 34, 3) := by decide +kernel
theorem dX12_fed_4 : decode cX12_fed 4 = .ok (.iconst (-1), 1) := by decide +kernel
theorem dX12_fed_5 : decode cX12_fed 5 = .ok (.if_icmp .ne 5, 3) := by decide +kernel
theorem dX12_fed_8 : decode cX12_fed 8 = .ok (.iconst 0, 1) := by decide +kernel
theorem dX12_fed_9 : decode cX12_fed 9 = .ok (.ireturn, 1) := by decide +kernel
theorem dX12_fed_10 : decode cX12_fed 10 = .ok (.aload_n 0, 1) := by decide +kernel
theorem dX12_fed_11 : decode cX12_fed 11 = .ok (.getfield 161, 3) := by decide +kernel
theorem dX12_fed_14 : decode cX12_fed 14 = .ok (.aload_n 0, 1) := by decide +kernel
theorem dX12_fed_15 : decode cX12_fed 15 = .ok (.getfield 155, 3) := by decide +kernel
theorem dX12_fed_18 : decode cX12_fed 18 = .ok (.if_icmp .ge 9, 3) := by decide +kernel
theorem dX12_fed_21 : decode cX12_fed 21 = .ok (.aload_n 0, 1) := by decide +kernel
theorem dX12_fed_22 : decode cX12_fed 22 = .ok (.invokevirtual 213, 3) := by decide +kernel
theorem dX12_fed_25 : decode cX12_fed 25 = .ok (.iconst 1, 1) := by decide +kernel
theorem dX12_fed_26 : decode cX12_fed 26 = .ok (.ireturn, 1) := by decide +kernel
theorem dX12_fed_27 : decode cX12_fed 27 = .ok (.aload_n 0, 1) := by decide +kernel
theorem dX12_fed_28 : decode cX12_fed 28 = .ok (.iconst 0, 1) := by decide +kernel
theorem dX12_fed_29 : decode cX12_fed 29 = .ok (.putfield 161, 3) := by decide +kernel
theorem dX12_fed_32 : decode cX12_fed 32 = .ok (.iconst 0, 1) := by decide +kernel
theorem dX12_fed_33 : decode cX12_fed 33 = .ok (.ireturn, 1) := by decide +kernel
set_option maxRecDepth 20000 in
theorem ggX12_first_Jx4a65c_get_915e3 : GoodIn wsX12_first wsJx4a65c_get_915e3 := goodIn_r _ [7, 8, 9, 10, 11, 12, 13, 14, 15, 16, 17, 18, 19, 6, 20, 21, 52, 53, 54] (by decide +kernel) (by decide +kernel)
set_option maxRecDepth 20000 in
theorem gX12_first_Jx4a65c_get_915e3_f66Jx4a65c : GoodIn wsX12_first (va_wsF RX12 66 RJx4a65c ⟨"java/util/List", "get", "(I)Ljava/lang/Object;"⟩ yJx4a65c_get_915e3 wsJx4a65c_get_915e3) := goodIn_app (goodIn_of _ (by decide +kernel)) ggX12_first_Jx4a65c_get_915e3
theorem dX12_first_0 : decode cX12_first 0 = .ok (.iconst (-1), 1) := by decide +kernel
theorem dX12_first_1 : decode cX12_first 1 = .ok (.istore_n 1, 1) := by decide +kernel
theorem dX12_first_2 : decode cX12_first 2 = .ok (.iconst 0, 1) := by decide +kernel
theorem dX12_first_3 : decode cX12_first 3 = .ok (.istore_n 2, 1) := by decide +kernel
theorem dX12_first_4 : decode cX12_first 4 = .ok (.iload_n 2, 1) := by decide +kernel
theorem dX12_first_5 : decode cX12_first 5 = .ok (.bipush 8, 2) := by decide +kernel
theorem dX12_first_7 : decode cX12_first 7 = .ok (.if_icmp .ge 83, 3) := by decide +kernel
theorem dX12_first_10 : decode cX12_first 10 = .ok (.aload_n 0, 1) := by decide +kernel
theorem dX12_first_11 : decode cX12_first 11 = .ok (.getfield 21, 3) := by decide +kernel
theorem dX12_first_14 : decode cX12_first 14 = .ok (.iload_n 2, 1) := by decide +kernel
theorem dX12_first_15 : decode cX12_first 15 = .ok (.invokeinterface 66 2, 5) := by decide +kernel
theorem dX12_first_20 : decode cX12_first 20 = .ok (.checkcast 50, 3) := by decide +kernel
theorem dX12_first_23 : decode cX12_first 23 = .ok (.astore_n 3, 1) := by decide +kernel
theorem dX12_first_24 : decode cX12_first 24 = .ok (.aload_n 3, 1) := by decide +kernel
theorem dX12_first_25 : decode cX12_first 25 = .ok (.getfield 132, 3) := by decide +kernel
theorem dX12_first_28 : decode cX12_first 28 = .ok (.ifCond .eq 14, 3) := by decide +kernel
theorem dX12_first_31 : decode cX12_first 31 = .ok (.aload_n 3, 1) := by decide +kernel
theorem dX12_first_32 : decode cX12_first 32 = .ok (.getfield 164, 3) := by decide +kernel
theorem dX12_first_35 : decode cX12_first 35 = .ok (.ifCond .eq 7, 3) := by decide +kernel
theorem dX12_first_38 : decode cX12_first 38 = .ok (.iconst 1, 1) := by decide +kernel
theorem dX12_first_39 : decode cX12_first 39 = .ok (.goto 4, 3) := by decide +kernel
theorem dX12_first_42 : decode cX12_first 42 = .ok (.iconst 0, 1) := by decide +kernel
theorem dX12_first_43 : decode cX12_first 43 = .ok (.istore 4, 2) := by decide +kernel
theorem dX12_first_45 : decode cX12_first 45 = .ok (.iload 4, 2) := by decide +kernel
theorem dX12_first_47 : decode cX12_first 47 = .ok (.ifCond .eq 35, 3) := by decide +kernel
theorem dX12_first_50 : decode cX12_first 50 = .ok (.iload_n 1, 1) := by decide +kernel
theorem dX12_first_51 : decode cX12_first 51 = .ok (.iconst (-1), 1) := by decide +kernel
theorem dX12_first_52 : decode cX12_first 52 = .ok (.if_icmp .eq 26, 3) := by decide +kernel
theorem dX12_first_55 : decode cX12_first 55 = .ok (.aload_n 3, 1) := by decide +kernel
theorem dX12_first_56 : decode cX12_first 56 = .ok (.getfield 129, 3) := by decide +kernel
theorem dX12_first_59 : decode cX12_first 59 = .ok (.aload_n 0, 1) := by decide +kernel
theorem dX12_first_60 : decode cX12_first 60 = .ok (.getfield 21, 3) := by decide +kernel
theorem dX12_first_63 : decode cX12_first 63 = .ok (.iload_n 1, 1) := by decide +kernel
theorem dX12_first_64 : decode cX12_first 64 = .ok (.invokeinterface 66 2, 5) := by decide +kernel
theorem dX12_first_69 : decode cX12_first 69 = .ok (.checkcast 50, 3) := by decide +kernel
theorem dX12_first_72 : decode cX12_first 72 = .ok (.getfield 129, 3) := by decide +kernel
theorem dX12_first_75 : decode cX12_first 75 = .ok (.if_icmp .ge 7, 3) := by decide +kernel
theorem dX12_first_78 : decode cX12_first 78 = .ok (.iload_n 2, 1) := by decide +kernel
theorem dX12_first_79 : decode cX12_first 79 = .ok (.goto 4, 3) := by decide +kernel
theorem dX12_first_82 : decode cX12_first 82 = .ok (.iload_n 1, 1) := by decide +kernel
theorem dX12_first_83 : decode cX12_first 83 = .ok (.istore_n 1, 1) := by decide +kernel
theorem dX12_first_84 : decode cX12_first 84 = .ok (.iinc 2 1, 3) := by decide +kernel
theorem dX12_first_87 : decode cX12_first 87 = .ok (.goto (-83), 3) := by decide +kernel
theorem dX12_first_90 : decode cX12_first 90 = .ok (.iload_n 1, 1) := by decide +kernel
theorem dX12_first_91 : decode cX12_first 91 = .ok (.ireturn, 1) := by decide +kernel
set_option maxRecDepth 20000 in
theorem ggX12_isMoreUrgent_Jx4a65c_get_915e3 : GoodIn wsX12_isMoreUrgent wsJx4a65c_get_915e3 := goodIn_r _ [7, 8, 9, 10, 11, 12, 13, 14, 15, 16, 17, 18, 19, 6, 20, 21, 52, 53, 54] (by decide +kernel) (by decide +kernel)
set_option maxRecDepth 20000 in
theorem gX12_isMoreUrgent_Jx4a65c_get_915e3_f66Jx4a65c : GoodIn wsX12_isMoreUrgent (va_wsF RX12 66 RJx4a65c ⟨"java/util/List", "get", "(I)Ljava/lang/Object;"⟩ yJx4a65c_get_915e3 wsJx4a65c_get_915e3) := goodIn_app (goodIn_of _ (by decide +kernel)) ggX12_isMoreUrgent_Jx4a65c_get_915e3
theorem dX12_isMoreUrgent_0 : decode cX12_isMoreUrgent 0 = .ok (.iload_n 1, 1) := by decide +kernel
theorem dX12_isMoreUrgent_1 : decode cX12_isMoreUrgent 1 = .ok (.iconst (-1), 1) := by decide +kernel
theorem dX12_isMoreUrgent_2 : decode cX12_isMoreUrgent 2 = .ok (.if_icmp .eq 42, 3) := by decide +kernel
theorem dX12_isMoreUrgent_5 : decode cX12_isMoreUrgent 5 = .ok (.aload_n 0, 1) := by decide +kernel
theorem dX12_isMoreUrgent_6 : decode cX12_isMoreUrgent 6 = .ok (.getfield 21, 3) := by decide +kernel
theorem dX12_isMoreUrgent_9 : decode cX12_isMoreUrgent 9 = .ok (.iload_n 1, 1) := by decide +kernel
theorem dX12_isMoreUrgent_10 : decode cX12_isMoreUrgent 10 = .ok (.invokeinterface 66 2, 5) := by decide +kernel
theorem dX12_isMoreUrgent_15 : decode cX12_isMoreUrgent 15 = .ok (.checkcast 50, 3) := by decide +kernel
theorem dX12_isMoreUrgent_18 : decode cX12_isMoreUrgent 18 = .ok (.getfield 129, 3) := by decide +kernel
theorem dX12_isMoreUrgent_21 : decode cX12_isMoreUrgent 21 = .ok (.aload_n 0, 1) := by decide +kernel
theorem dX12_isMoreUrgent_22 : decode cX12_isMoreUrgent 22 = .ok (.getfield 21, 3) := by decide +kernel
theorem dX12_isMoreUrgent_25 : decode cX12_isMoreUrgent 25 = .ok (.iload_n 2, 1) := by decide +kernel
theorem dX12_isMoreUrgent_26 : decode cX12_isMoreUrgent 26 = .ok (.invokeinterface 66 2, 5) := by decide +kernel
theorem dX12_isMoreUrgent_31 : decode cX12_isMoreUrgent 31 = .ok (.checkcast 50, 3) := by decide +kernel
theorem dX12_isMoreUrgent_34 : decode cX12_isMoreUrgent 34 = .ok (.getfield 129, 3) := by decide +kernel
theorem dX12_isMoreUrgent_37 : decode cX12_isMoreUrgent 37 = .ok (.if_icmp .ge 7, 3) := by decide +kernel
theorem dX12_isMoreUrgent_40 : decode cX12_isMoreUrgent 40 = .ok (.iconst 1, 1) := by decide +kernel
theorem dX12_isMoreUrgent_41 : decode cX12_isMoreUrgent 41 = .ok (.goto 4, 3) := by decide +kernel
theorem dX12_isMoreUrgent_44 : decode cX12_isMoreUrgent 44 = .ok (.iconst 0, 1) := by decide +kernel
theorem dX12_isMoreUrgent_45 : decode cX12_isMoreUrgent 45 = .ok (.ireturn, 1) := by decide +kernel
set_option maxRecDepth 20000 in
theorem ggX12_top_Jx4a65c_isEmpty_aae02 : GoodIn wsX12_top wsJx4a65c_isEmpty_aae02 := goodIn_r _ [7, 8, 53, 54, 55] (by decide +kernel) (by decide +kernel)
set_option maxRecDepth 20000 in
theorem gX12_top_Jx4a65c_isEmpty_aae02_f216Jx4a65c : GoodIn wsX12_top (va_wsF RX12 216 RJx4a65c ⟨"java/util/List", "isEmpty", "()Z"⟩ yJx4a65c_isEmpty_aae02 wsJx4a65c_isEmpty_aae02) := goodIn_app (goodIn_of _ (by decide +kernel)) ggX12_top_Jx4a65c_isEmpty_aae02
set_option maxRecDepth 20000 in
theorem ggX12_top_Jx4a65c_size_8abf5 : GoodIn wsX12_top wsJx4a65c_size_8abf5 := goodIn_r _ [12, 8, 53, 54, 55] (by decide +kernel) (by decide +kernel)
set_option maxRecDepth 20000 in
theorem gX12_top_Jx4a65c_size_8abf5_f174Jx4a65c : GoodIn wsX12_top (va_wsF RX12 174 RJx4a65c ⟨"java/util/List", "size", "()I"⟩ yJx4a65c_size_8abf5 wsJx4a65c_size_8abf5) := goodIn_app (goodIn_of _ (by decide +kernel)) ggX12_top_Jx4a65c_size_8abf5
set_option maxRecDepth 20000 in
theorem ggX12_top_Jx4a65c_get_915e3 : GoodIn wsX12_top wsJx4a65c_get_915e3 := goodIn_r _ [16, 8, 17, 18, 19, 20, 21, 22, 23, 24, 25, 26, 27, 6, 28, 29, 53, 54, 55] (by decide +kernel) (by decide +kernel)
set_option maxRecDepth 20000 in
theorem gX12_top_Jx4a65c_get_915e3_f66Jx4a65c : GoodIn wsX12_top (va_wsF RX12 66 RJx4a65c ⟨"java/util/List", "get", "(I)Ljava/lang/Object;"⟩ yJx4a65c_get_915e3 wsJx4a65c_get_915e3) := goodIn_app (goodIn_of _ (by decide +kernel)) ggX12_top_Jx4a65c_get_915e3
theorem dX12_top_0 : decode cX12_top 0 = .ok (.aload_n 0, 1) := by decide +kernel
theorem dX12_top_1 : decode cX12_top 1 = .ok (.getfield 24, 3) := by decide +kernel
theorem dX12_top_4 : decode cX12_top 4 = .ok (.invokeinterface 216 1, 5) := by decide +kernel
theorem dX12_top_9 : decode cX12_top 9 = .ok (.ifCond .eq 7, 3) := by decide +kernel
theorem dX12_top_12 : decode cX12_top 12 = .ok (.iconst (-1), 1) := by decide +kernel
theorem dX12_top_13 : decode cX12_top 13 = .ok (.goto 28, 3) := by decide +kernel
theorem dX12_top_16 : decode cX12_top 16 = .ok (.aload_n 0, 1) := by decide +kernel
theorem dX12_top_17 : decode cX12_top 17 = .ok (.getfield 24, 3) := by decide +kernel
theorem dX12_top_20 : decode cX12_top 20 = .ok (.aload_n 0, 1) := by decide +kernel
theorem dX12_top_21 : decode cX12_top 21 = .ok (.getfield 24, 3) := by decide +kernel
theorem dX12_top_24 : decode cX12_top 24 = .ok (.invokeinterface 174 1, 5) := by decide +kernel
theorem dX12_top_29 : decode cX12_top 29 = .ok (.iconst 1, 1) := by decide +kernel
theorem dX12_top_30 : decode cX12_top 30 = .ok (.isub, 1) := by decide +kernel
theorem dX12_top_31 : decode cX12_top 31 = .ok (.invokeinterface 66 2, 5) := by decide +kernel
theorem dX12_top_36 : decode cX12_top 36 = .ok (.checkcast 219, 3) := by decide +kernel
theorem dX12_top_39 : decode cX12_top 39 = .ok (.iconst 0, 1) := by decide +kernel
theorem dX12_top_40 : decode cX12_top 40 = .ok (.iaload, 1) := by decide +kernel
theorem dX12_top_41 : decode cX12_top 41 = .ok (.ireturn, 1) := by decide +kernel
theorem dX12_enter_0 : decode cX12_enter 0 = .ok (.aload_n 0, 1) := by decide +kernel
theorem dX12_enter_1 : decode cX12_enter 1 = .ok (.bipush 101, 2) := by decide +kernel
theorem dX12_enter_3 : decode cX12_enter 3 = .ok (.putfield 30, 3) := by decide +kernel
theorem dX12_enter_6 : decode cX12_enter 6 = .ok (.aload_n 0, 1) := by decide +kernel
theorem dX12_enter_7 : decode cX12_enter 7 = .ok (.iload_n 1, 1) := by decide +kernel
theorem dX12_enter_8 : decode cX12_enter 8 = .ok (.putfield 221, 3) := by decide +kernel
theorem dX12_enter_11 : decode cX12_enter 11 = .ok (.aload_n 0, 1) := by decide +kernel
theorem dX12_enter_12 : decode cX12_enter 12 = .ok (.iload_n 2, 1) := by decide +kernel
theorem dX12_enter_13 : decode cX12_enter 13 = .ok (.putfield 224, 3) := by decide +kernel
theorem dX12_enter_16 : decode cX12_enter 16 = .ok (.return_, 1) := by decide +kernel
set_option maxRecDepth 20000 in
theorem ggX12_beat_Jx4a65c_get_915e3 : GoodIn wsX12_beat wsJx4a65c_get_915e3 := goodIn_r _ [20, 21, 22, 23, 24, 25, 26, 27, 28, 29, 30, 31, 32, 19, 33, 34, 234, 235, 236] (by decide +kernel) (by decide +kernel)
set_option maxRecDepth 20000 in
theorem gX12_beat_Jx4a65c_get_915e3_f66Jx4a65c : GoodIn wsX12_beat (va_wsF RX12 66 RJx4a65c ⟨"java/util/List", "get", "(I)Ljava/lang/Object;"⟩ yJx4a65c_get_915e3 wsJx4a65c_get_915e3) := goodIn_app (goodIn_of _ (by decide +kernel)) ggX12_beat_Jx4a65c_get_915e3
set_option maxRecDepth 20000 in
theorem ggX12_beat_X12_count : GoodIn wsX12_beat wsX12_count := goodIn_ca (goodIn_r _ [39, 40, 41, 42, 43, 44, 45, 38, 46, 47, 48, 3, 49, 50, 51, 52, 19, 53, 21, 54, 55, 56, 57, 58, 59, 34, 60, 61, 62, 63, 64, 65, 66, 67, 68, 69, 70, 71, 72, 73, 74, 75, 76, 77, 78, 79, 80, 81, 82, 83, 84, 85, 86, 87, 88, 89, 90, 91, 92, 93, 94, 95, 96, 97, 98, 99, 100, 101, 102, 103, 104, 105, 106, 16, 17, 18, 20, 22, 23, 24, 25, 26, 27, 28, 29, 30, 31, 32, 33, 224, 225, 226, 227, 228, 229, 230, 231, 232, 233, 196, 197, 198, 199, 200, 201, 202, 203, 204, 205, 206, 207, 208, 209, 210, 211, 212, 213, 214, 215, 216, 217, 218, 237, 238, 239, 240, 241, 242, 243, 234, 235, 236] (by decide +kernel) (by decide +kernel)) (goodIn_sub (fun _ h => List.mem_cons_of_mem _ (List.mem_append_right _ h)) (by decide +kernel))
set_option maxRecDepth 20000 in
theorem gX12_beat_X12_count : GoodIn wsX12_beat (wsV RX12 234 RX12 yX12_count wsX12_count) := goodIn_app (goodIn_of _ (by decide +kernel)) ggX12_beat_X12_count
set_option maxRecDepth 20000 in
theorem ggX12_beat_X12_reset : GoodIn wsX12_beat wsX12_reset := goodIn_ca (goodIn_r _ [110, 7, 8, 41, 42, 111, 1, 10, 112, 3, 113, 43, 44, 45, 38, 46, 40, 47, 48, 49, 50, 51, 52, 19, 53, 21, 54, 55, 56, 57, 58, 59, 34, 60, 61, 62, 63, 64, 65, 66, 67, 68, 69, 70, 71, 72, 73, 74, 75, 76, 77, 78, 79, 80, 81, 82, 83, 84, 85, 86, 87, 88, 89, 90, 91, 92, 93, 94, 95, 96, 97, 98, 99, 100, 101, 102, 103, 104, 105, 106, 114, 115, 116, 117, 118, 119, 120, 121, 122, 123, 124, 125, 126, 127, 128, 129, 130, 131, 132, 133, 134, 135, 136, 137, 138, 139, 140, 141, 142, 143, 144, 145, 146, 147, 148, 196, 197, 198, 199, 200, 201, 202, 203, 204, 205, 206, 207, 208, 209, 210, 211, 212, 213, 214, 215, 216, 217, 218, 224, 225, 226, 227, 228, 229, 230, 231, 232, 233, 237, 238, 239, 240, 241, 242, 243, 234, 235, 236, 244, 245, 246, 247] (by decide +kernel) (by decide +kernel)) (goodIn_sub (fun _ h => List.mem_cons_of_mem _ (List.mem_append_right _ h)) (by decide +kernel))
set_option maxRecDepth 20000 in
theorem gX12_beat_X12_reset : GoodIn wsX12_beat (wsV RX12 213 RX12 yX12_reset wsX12_reset) := goodIn_app (goodIn_of _ (by decide +kernel)) ggX12_beat_X12_reset
set_option maxRecDepth 20000 in
theorem ggX12_beat_X12_process : GoodIn wsX12_beat wsX12_process := goodIn_ca (goodIn_r _ [152, 1, 2, 153, 154, 155, 41, 42, 111, 48, 156, 157, 158, 38, 159, 16, 17, 18, 19, 20, 21, 22, 23, 24, 25, 26, 27, 28, 29, 30, 31, 32, 33, 34, 160, 161, 162, 163, 164, 165, 166, 167, 54, 55, 56, 57, 58, 59, 60, 61, 62, 63, 64, 65, 66, 67, 68, 69, 70, 71, 72, 73, 74, 75, 76, 77, 78, 79, 80, 81, 82, 83, 84, 85, 86, 87, 88, 89, 90, 91, 92, 93, 94, 95, 96, 97, 98, 99, 100, 101, 102, 103, 104, 105, 106, 168, 169, 170, 171, 172, 40, 7, 8, 173, 174, 175, 176, 177, 178, 179, 180, 181, 50, 51, 52, 53, 182, 183, 184, 185, 186, 187, 188, 189, 190, 43, 44, 45, 46, 47, 3, 49, 191, 192, 193, 194, 9, 10, 195, 107, 108, 109, 110, 112, 113, 114, 115, 116, 117, 118, 119, 120, 121, 122, 123, 124, 125, 126, 127, 128, 129, 130, 131, 132, 133, 134, 135, 136, 137, 138, 139, 140, 141, 142, 143, 144, 145, 146, 147, 148, 196, 197, 198, 199, 200, 201, 202, 203, 204, 205, 206, 207, 208, 209, 210, 211, 212, 213, 214, 215, 216, 217, 218, 237, 238, 239, 240, 241, 242, 243, 234, 235, 236, 224, 225, 226, 227, 228, 229, 230, 231, 232, 233, 244, 245, 246, 247] (by decide +kernel) (by decide +kernel)) (goodIn_sub (fun _ h => List.mem_cons_of_mem _ (List.mem_append_right _ h)) (by decide +kernel))
set_option maxRecDepth 20000 in
theorem gX12_beat_X12_process : GoodIn wsX12_beat (wsV RX12 237 RX12 yX12_process wsX12_process) := goodIn_app (goodIn_of _ (by decide +kernel)) ggX12_beat_X12_process
set_option maxRecDepth 20000 in
theorem ggX12_beat_Jx4a65c_iterator_32c93 : GoodIn wsX12_beat wsJx4a65c_iterator_32c93 := goodIn_r _ [117, 118, 119, 120, 121, 122, 123, 124, 125, 126, 127, 128, 129, 59, 130, 244, 245, 246, 247, 234, 235, 236] (by decide +kernel) (by decide +kernel)
set_option maxRecDepth 20000 in
theorem gX12_beat_Jx4a65c_iterator_32c93_f188Jx4a65c : GoodIn wsX12_beat (va_wsF RX12 188 RJx4a65c ⟨"java/util/List", "iterator", "()Ljava/util/Iterator;"⟩ yJx4a65c_iterator_32c93 wsJx4a65c_iterator_32c93) := goodIn_app (goodIn_of _ (by decide +kernel)) ggX12_beat_Jx4a65c_iterator_32c93
set_option maxRecDepth 20000 in
theorem ggX12_beat_Jx35411_hasNext_aae02 : GoodIn wsX12_beat wsJx35411_hasNext_aae02 := goodIn_r _ [134, 135, 124, 244, 245, 246, 247, 234, 235, 236] (by decide +kernel) (by decide +kernel)
set_option maxRecDepth 20000 in
theorem gX12_beat_Jx35411_hasNext_aae02_f192Jx35411 : GoodIn wsX12_beat (va_wsF RX12 192 RJx35411 ⟨"java/util/Iterator", "hasNext", "()Z"⟩ yJx35411_hasNext_aae02 wsJx35411_hasNext_aae02) := goodIn_app (goodIn_of _ (by decide +kernel)) ggX12_beat_Jx35411_hasNext_aae02
set_option maxRecDepth 20000 in
theorem ggX12_beat_Jx35411_next_0502b : GoodIn wsX12_beat wsJx35411_next_0502b := goodIn_r _ [139, 135, 124, 140, 128, 141, 142, 143, 120, 144, 129, 59, 130, 244, 245, 246, 247, 234, 235, 236] (by decide +kernel) (by decide +kernel)
set_option maxRecDepth 20000 in
theorem gX12_beat_Jx35411_next_0502b_f197Jx35411 : GoodIn wsX12_beat (va_wsF RX12 197 RJx35411 ⟨"java/util/Iterator", "next", "()Ljava/lang/Object;"⟩ yJx35411_next_0502b wsJx35411_next_0502b) := goodIn_app (goodIn_of _ (by decide +kernel)) ggX12_beat_Jx35411_next_0502b
theorem dX12_beat_0 : decode cX12_beat 0 = .ok (.aload_n 0, 1) := by decide +kernel
theorem dX12_beat_1 : decode cX12_beat 1 = .ok (.getfield 30, 3) := by decide +kernel
theorem dX12_beat_4 : decode cX12_beat 4 = .ok (.bipush 122, 2) := by decide +kernel
theorem dX12_beat_6 : decode cX12_beat 6 = .ok (.if_icmp .ne 15, 3) := by decide +kernel
theorem dX12_beat_9 : decode cX12_beat 9 = .ok (.aload_n 0, 1) := by decide +kernel
theorem dX12_beat_10 : decode cX12_beat 10 = .ok (.getfield 150, 3) := by decide +kernel
theorem dX12_beat_13 : decode cX12_beat 13 = .ok (.iconst 2, 1) := by decide +kernel
theorem dX12_beat_14 : decode cX12_beat 14 = .ok (.if_icmp .ne 7, 3) := by decide +kernel
theorem dX12_beat_17 : decode cX12_beat 17 = .ok (.iconst 1, 1) := by decide +kernel
theorem dX12_beat_18 : decode cX12_beat 18 = .ok (.goto 4, 3) := by decide +kernel
theorem dX12_beat_21 : decode cX12_beat 21 = .ok (.iconst 0, 1) := by decide +kernel
theorem dX12_beat_22 : decode cX12_beat 22 = .ok (.istore_n 1, 1) := by decide +kernel
theorem dX12_beat_23 : decode cX12_beat 23 = .ok (.aload_n 0, 1) := by decide +kernel
theorem dX12_beat_24 : decode cX12_beat 24 = .ok (.dup, 1) := by decide +kernel
theorem dX12_beat_25 : decode cX12_beat 25 = .ok (.getfield 178, 3) := by decide +kernel
theorem dX12_beat_28 : decode cX12_beat 28 = .ok (.iconst 1, 1) := by decide +kernel
theorem dX12_beat_29 : decode cX12_beat 29 = .ok (.iadd, 1) := by decide +kernel
theorem dX12_beat_30 : decode cX12_beat 30 = .ok (.putfield 178, 3) := by decide +kernel
theorem dX12_beat_33 : decode cX12_beat 33 = .ok (.iconst 4, 1) := by decide +kernel
theorem dX12_beat_34 : decode cX12_beat 34 = .ok (.newarray .boolean, 2) := by decide +kernel
theorem dX12_beat_36 : decode cX12_beat 36 = .ok (.astore_n 2, 1) := by decide +kernel
theorem dX12_beat_37 : decode cX12_beat 37 = .ok (.aload_n 2, 1) := by decide +kernel
theorem dX12_beat_38 : decode cX12_beat 38 = .ok (.iconst 0, 1) := by decide +kernel
theorem dX12_beat_39 : decode cX12_beat 39 = .ok (.iconst 1, 1) := by decide +kernel
theorem dX12_beat_40 : decode cX12_beat 40 = .ok (.bastore, 1) := by decide +kernel
theorem dX12_beat_41 : decode cX12_beat 41 = .ok (.aload_n 0, 1) := by decide +kernel
theorem dX12_beat_42 : decode cX12_beat 42 = .ok (.getfield 12, 3) := by decide +kernel
theorem dX12_beat_45 : decode cX12_beat 45 = .ok (.iconst 0, 1) := by decide +kernel
theorem dX12_beat_46 : decode cX12_beat 46 = .ok (.invokeinterface 66 2, 5) := by decide +kernel
theorem dX12_beat_51 : decode cX12_beat 51 = .ok (.checkcast 38, 3) := by decide +kernel
theorem dX12_beat_54 : decode cX12_beat 54 = .ok (.dup, 1) := by decide +kernel
theorem dX12_beat_55 : decode cX12_beat 55 = .ok (.getfield 227, 3) := by decide +kernel
theorem dX12_beat_58 : decode cX12_beat 58 = .ok (.iconst 1, 1) := by decide +kernel
theorem dX12_beat_59 : decode cX12_beat 59 = .ok (.iadd, 1) := by decide +kernel
theorem dX12_beat_60 : decode cX12_beat 60 = .ok (.putfield 227, 3) := by decide +kernel
theorem dX12_beat_63 : decode cX12_beat 63 = .ok (.iconst 1, 1) := by decide +kernel
theorem dX12_beat_64 : decode cX12_beat 64 = .ok (.istore_n 3, 1) := by decide +kernel
theorem dX12_beat_65 : decode cX12_beat 65 = .ok (.iload_n 3, 1) := by decide +kernel
theorem dX12_beat_66 : decode cX12_beat 66 = .ok (.iconst 4, 1) := by decide +kernel
theorem dX12_beat_67 : decode cX12_beat 67 = .ok (.if_icmp .ge 91, 3) := by decide +kernel
theorem dX12_beat_70 : decode cX12_beat 70 = .ok (.aload_n 0, 1) := by decide +kernel
theorem dX12_beat_71 : decode cX12_beat 71 = .ok (.getfield 12, 3) := by decide +kernel
theorem dX12_beat_74 : decode cX12_beat 74 = .ok (.iload_n 3, 1) := by decide +kernel
theorem dX12_beat_75 : decode cX12_beat 75 = .ok (.invokeinterface 66 2, 5) := by decide +kernel
theorem dX12_beat_80 : decode cX12_beat 80 = .ok (.checkcast 38, 3) := by decide +kernel
theorem dX12_beat_83 : decode cX12_beat 83 = .ok (.astore 4, 2) := by decide +kernel
theorem dX12_beat_85 : decode cX12_beat 85 = .ok (.iload_n 1, 1) := by decide +kernel
theorem dX12_beat_86 : decode cX12_beat 86 = .ok (.ifCond .ne 66, 3) := by decide +kernel
theorem dX12_beat_89 : decode cX12_beat 89 = .ok (.aload 4, 2) := by decide +kernel
theorem dX12_beat_91 : decode cX12_beat 91 = .ok (.getfield 76, 3) := by decide +kernel
theorem dX12_beat_94 : decode cX12_beat 94 = .ok (.ifCond .eq 58, 3) := by decide +kernel
theorem dX12_beat_97 : decode cX12_beat 97 = .ok (.aload_n 2, 1) := by decide +kernel
theorem dX12_beat_98 : decode cX12_beat 98 = .ok (.aload 4, 2) := by decide +kernel
theorem dX12_beat_100 : decode cX12_beat 100 = .ok (.getfield 73, 3) := by decide +kernel
theorem dX12_beat_103 : decode cX12_beat 103 = .ok (.baload, 1) := by decide +kernel
theorem dX12_beat_104 : decode cX12_beat 104 = .ok (.ifCond .eq 48, 3) := by decide +kernel
theorem dX12_beat_107 : decode cX12_beat 107 = .ok (.aload 4, 2) := by decide +kernel
theorem dX12_beat_109 : decode cX12_beat 109 = .ok (.dup, 1) := by decide +kernel
theorem dX12_beat_110 : decode cX12_beat 110 = .ok (.getfield 230, 3) := by decide +kernel
theorem dX12_beat_113 : decode cX12_beat 113 = .ok (.iconst 1, 1) := by decide +kernel
theorem dX12_beat_114 : decode cX12_beat 114 = .ok (.iadd, 1) := by decide +kernel
theorem dX12_beat_115 : decode cX12_beat 115 = .ok (.putfield 230, 3) := by decide +kernel
theorem dX12_beat_118 : decode cX12_beat 118 = .ok (.aload 4, 2) := by decide +kernel
theorem dX12_beat_120 : decode cX12_beat 120 = .ok (.getfield 230, 3) := by decide +kernel
theorem dX12_beat_123 : decode cX12_beat 123 = .ok (.aload 4, 2) := by decide +kernel
theorem dX12_beat_125 : decode cX12_beat 125 = .ok (.getfield 70, 3) := by decide +kernel
theorem dX12_beat_128 : decode cX12_beat 128 = .ok (.if_icmp .lt 24, 3) := by decide +kernel
theorem dX12_beat_131 : decode cX12_beat 131 = .ok (.aload 4, 2) := by decide +kernel
theorem dX12_beat_133 : decode cX12_beat 133 = .ok (.iconst 0, 1) := by decide +kernel
theorem dX12_beat_134 : decode cX12_beat 134 = .ok (.putfield 230, 3) := by decide +kernel
theorem dX12_beat_137 : decode cX12_beat 137 = .ok (.aload 4, 2) := by decide +kernel
theorem dX12_beat_139 : decode cX12_beat 139 = .ok (.dup, 1) := by decide +kernel
theorem dX12_beat_140 : decode cX12_beat 140 = .ok (.getfield 227, 3) := by decide +kernel
theorem dX12_beat_143 : decode cX12_beat 143 = .ok (.iconst 1, 1) := by decide +kernel
theorem dX12_beat_144 : decode cX12_beat 144 = .ok (.iadd, 1) := by decide +kernel
theorem dX12_beat_145 : decode cX12_beat 145 = .ok (.putfield 227, 3) := by decide +kernel
theorem dX12_beat_148 : decode cX12_beat 148 = .ok (.aload_n 2, 1) := by decide +kernel
theorem dX12_beat_149 : decode cX12_beat 149 = .ok (.iload_n 3, 1) := by decide +kernel
theorem dX12_beat_150 : decode cX12_beat 150 = .ok (.iconst 1, 1) := by decide +kernel
theorem dX12_beat_151 : decode cX12_beat 151 = .ok (.bastore, 1) := by decide +kernel
theorem dX12_beat_152 : decode cX12_beat 152 = .ok (.iinc 3 1, 3) := by decide +kernel
theorem dX12_beat_155 : decode cX12_beat 155 = .ok (.goto (-90), 3) := by decide +kernel
theorem dX12_beat_158 : decode cX12_beat 158 = .ok (.iconst 0, 1) := by decide +kernel
theorem dX12_beat_159 : decode cX12_beat 159 = .ok (.istore_n 3, 1) := by decide +kernel
theorem dX12_beat_160 : decode cX12_beat 160 = .ok (.iload_n 3, 1) := by decide +kernel
theorem dX12_beat_161 : decode cX12_beat 161 = .ok (.iconst 4, 1) := by decide +kernel
theorem dX12_beat_162 : decode cX12_beat 162 = .ok (.if_icmp .ge 90, 3) := by decide +kernel
theorem dX12_beat_165 : decode cX12_beat 165 = .ok (.aload_n 0, 1) := by decide +kernel
theorem dX12_beat_166 : decode cX12_beat 166 = .ok (.getfield 18, 3) := by decide +kernel
theorem dX12_beat_169 : decode cX12_beat 169 = .ok (.iload_n 3, 1) := by decide +kernel
theorem dX12_beat_170 : decode cX12_beat 170 = .ok (.invokeinterface 66 2, 5) := by decide +kernel
theorem dX12_beat_175 : decode cX12_beat 175 = .ok (.checkcast 47, 3) := by decide +kernel
theorem dX12_beat_178 : decode cX12_beat 178 = .ok (.astore 4, 2) := by decide +kernel
theorem dX12_beat_180 : decode cX12_beat 180 = .ok (.aload 4, 2) := by decide +kernel
theorem dX12_beat_182 : decode cX12_beat 182 = .ok (.iconst 0, 1) := by decide +kernel
theorem dX12_beat_183 : decode cX12_beat 183 = .ok (.putfield 231, 3) := by decide +kernel
theorem dX12_beat_186 : decode cX12_beat 186 = .ok (.aload 4, 2) := by decide +kernel
theorem dX12_beat_188 : decode cX12_beat 188 = .ok (.getfield 123, 3) := by decide +kernel
theorem dX12_beat_191 : decode cX12_beat 191 = .ok (.ifCond .eq 55, 3) := by decide +kernel
theorem dX12_beat_194 : decode cX12_beat 194 = .ok (.aload 4, 2) := by decide +kernel
theorem dX12_beat_196 : decode cX12_beat 196 = .ok (.getfield 101, 3) := by decide +kernel
theorem dX12_beat_199 : decode cX12_beat 199 = .ok (.iconst (-1), 1) := by decide +kernel
theorem dX12_beat_200 : decode cX12_beat 200 = .ok (.if_icmp .ne 16, 3) := by decide +kernel
theorem dX12_beat_203 : decode cX12_beat 203 = .ok (.aload_n 2, 1) := by decide +kernel
theorem dX12_beat_204 : decode cX12_beat 204 = .ok (.aload 4, 2) := by decide +kernel
theorem dX12_beat_206 : decode cX12_beat 206 = .ok (.getfield 92, 3) := by decide +kernel
theorem dX12_beat_209 : decode cX12_beat 209 = .ok (.baload, 1) := by decide +kernel
theorem dX12_beat_210 : decode cX12_beat 210 = .ok (.ifCond .eq 36, 3) := by decide +kernel
theorem dX12_beat_213 : decode cX12_beat 213 = .ok (.goto 26, 3) := by decide +kernel
theorem dX12_beat_216 : decode cX12_beat 216 = .ok (.aload_n 0, 1) := by decide +kernel
theorem dX12_beat_217 : decode cX12_beat 217 = .ok (.getfield 18, 3) := by decide +kernel
theorem dX12_beat_220 : decode cX12_beat 220 = .ok (.aload 4, 2) := by decide +kernel
theorem dX12_beat_222 : decode cX12_beat 222 = .ok (.getfield 101, 3) := by decide +kernel
theorem dX12_beat_225 : decode cX12_beat 225 = .ok (.invokeinterface 66 2, 5) := by decide +kernel
theorem dX12_beat_230 : decode cX12_beat 230 = .ok (.checkcast 47, 3) := by decide +kernel
theorem dX12_beat_233 : decode cX12_beat 233 = .ok (.getfield 231, 3) := by decide +kernel
theorem dX12_beat_236 : decode cX12_beat 236 = .ok (.ifCond .eq 10, 3) := by decide +kernel
theorem dX12_beat_239 : decode cX12_beat 239 = .ok (.aload_n 0, 1) := by decide +kernel
theorem dX12_beat_240 : decode cX12_beat 240 = .ok (.iload_n 3, 1) := by decide +kernel
theorem dX12_beat_241 : decode cX12_beat 241 = .ok (.aload 4, 2) := by decide +kernel
theorem dX12_beat_243 : decode cX12_beat 243 = .ok (.invokevirtual 234, 3) := by decide +kernel
theorem dX12_beat_246 : decode cX12_beat 246 = .ok (.iinc 3 1, 3) := by decide +kernel
theorem dX12_beat_249 : decode cX12_beat 249 = .ok (.goto (-89), 3) := by decide +kernel
theorem dX12_beat_252 : decode cX12_beat 252 = .ok (.iconst 0, 1) := by decide +kernel
theorem dX12_beat_253 : decode cX12_beat 253 = .ok (.istore_n 3, 1) := by decide +kernel
theorem dX12_beat_254 : decode cX12_beat 254 = .ok (.aload_n 0, 1) := by decide +kernel
theorem dX12_beat_255 : decode cX12_beat 255 = .ok (.getfield 34, 3) := by decide +kernel
theorem dX12_beat_258 : decode cX12_beat 258 = .ok (.iconst (-1), 1) := by decide +kernel
theorem dX12_beat_259 : decode cX12_beat 259 = .ok (.if_icmp .eq 47, 3) := by decide +kernel
theorem dX12_beat_262 : decode cX12_beat 262 = .ok (.aload_n 2, 1) := by decide +kernel
theorem dX12_beat_263 : decode cX12_beat 263 = .ok (.aload_n 0, 1) := by decide +kernel
theorem dX12_beat_264 : decode cX12_beat 264 = .ok (.getfield 34, 3) := by decide +kernel
theorem dX12_beat_267 : decode cX12_beat 267 = .ok (.baload, 1) := by decide +kernel
theorem dX12_beat_268 : decode cX12_beat 268 = .ok (.ifCond .eq 38, 3) := by decide +kernel
theorem dX12_beat_271 : decode cX12_beat 271 = .ok (.aload_n 0, 1) := by decide +kernel
theorem dX12_beat_272 : decode cX12_beat 272 = .ok (.dup, 1) := by decide +kernel
theorem dX12_beat_273 : decode cX12_beat 273 = .ok (.getfield 161, 3) := by decide +kernel
theorem dX12_beat_276 : decode cX12_beat 276 = .ok (.iconst 1, 1) := by decide +kernel
theorem dX12_beat_277 : decode cX12_beat 277 = .ok (.iadd, 1) := by decide +kernel
theorem dX12_beat_278 : decode cX12_beat 278 = .ok (.putfield 161, 3) := by decide +kernel
theorem dX12_beat_281 : decode cX12_beat 281 = .ok (.aload_n 0, 1) := by decide +kernel
theorem dX12_beat_282 : decode cX12_beat 282 = .ok (.getfield 161, 3) := by decide +kernel
theorem dX12_beat_285 : decode cX12_beat 285 = .ok (.aload_n 0, 1) := by decide +kernel
theorem dX12_beat_286 : decode cX12_beat 286 = .ok (.getfield 158, 3) := by decide +kernel
theorem dX12_beat_289 : decode cX12_beat 289 = .ok (.if_icmp .ne 7, 3) := by decide +kernel
theorem dX12_beat_292 : decode cX12_beat 292 = .ok (.iconst 1, 1) := by decide +kernel
theorem dX12_beat_293 : decode cX12_beat 293 = .ok (.goto 4, 3) := by decide +kernel
theorem dX12_beat_296 : decode cX12_beat 296 = .ok (.iconst 0, 1) := by decide +kernel
theorem dX12_beat_297 : decode cX12_beat 297 = .ok (.istore_n 3, 1) := by decide +kernel
theorem dX12_beat_298 : decode cX12_beat 298 = .ok (.iload_n 3, 1) := by decide +kernel
theorem dX12_beat_299 : decode cX12_beat 299 = .ok (.ifCond .eq 7, 3) := by decide +kernel
theorem dX12_beat_302 : decode cX12_beat 302 = .ok (.aload_n 0, 1) := by decide +kernel
theorem dX12_beat_303 : decode cX12_beat 303 = .ok (.invokevirtual 213, 3) := by decide +kernel
theorem dX12_beat_306 : decode cX12_beat 306 = .ok (.iload_n 3, 1) := by decide +kernel
theorem dX12_beat_307 : decode cX12_beat 307 = .ok (.ifCond .ne 7, 3) := by decide +kernel
theorem dX12_beat_310 : decode cX12_beat 310 = .ok (.aload_n 0, 1) := by decide +kernel
theorem dX12_beat_311 : decode cX12_beat 311 = .ok (.invokevirtual 237, 3) := by decide +kernel
theorem dX12_beat_314 : decode cX12_beat 314 = .ok (.aload_n 0, 1) := by decide +kernel
theorem dX12_beat_315 : decode cX12_beat 315 = .ok (.dup, 1) := by decide +kernel
theorem dX12_beat_316 : decode cX12_beat 316 = .ok (.getfield 240, 3) := by decide +kernel
theorem dX12_beat_319 : decode cX12_beat 319 = .ok (.aload_n 0, 1) := by decide +kernel
theorem dX12_beat_320 : decode cX12_beat 320 = .ok (.getfield 30, 3) := by decide +kernel
theorem dX12_beat_323 : decode cX12_beat 323 = .ok (.bipush 122, 2) := by decide +kernel
theorem dX12_beat_325 : decode cX12_beat 325 = .ok (.if_icmp .eq 9, 3) := by decide +kernel
theorem dX12_beat_328 : decode cX12_beat 328 = .ok (.ldc2_w 244, 3) := by decide +kernel
theorem dX12_beat_331 : decode cX12_beat 331 = .ok (.goto 18, 3) := by decide +kernel
theorem dX12_beat_334 : decode cX12_beat 334 = .ok (.aload_n 0, 1) := by decide +kernel
theorem dX12_beat_335 : decode cX12_beat 335 = .ok (.getfield 150, 3) := by decide +kernel
theorem dX12_beat_338 : decode cX12_beat 338 = .ok (.iconst 1, 1) := by decide +kernel
theorem dX12_beat_339 : decode cX12_beat 339 = .ok (.if_icmp .ne 9, 3) := by decide +kernel
theorem dX12_beat_342 : decode cX12_beat 342 = .ok (.ldc2_w 148, 3) := by decide +kernel
theorem dX12_beat_345 : decode cX12_beat 345 = .ok (.goto 4, 3) := by decide +kernel
theorem dX12_beat_348 : decode cX12_beat 348 = .ok (.lconst 1, 1) := by decide +kernel
theorem dX12_beat_349 : decode cX12_beat 349 = .ok (.ladd, 1) := by decide +kernel
theorem dX12_beat_350 : decode cX12_beat 350 = .ok (.putfield 240, 3) := by decide +kernel
theorem dX12_beat_353 : decode cX12_beat 353 = .ok (.aload_n 0, 1) := by decide +kernel
theorem dX12_beat_354 : decode cX12_beat 354 = .ok (.getfield 18, 3) := by decide +kernel
theorem dX12_beat_357 : decode cX12_beat 357 = .ok (.invokeinterface 188 1, 5) := by decide +kernel
theorem dX12_beat_362 : decode cX12_beat 362 = .ok (.astore 4, 2) := by decide +kernel
theorem dX12_beat_364 : decode cX12_beat 364 = .ok (.aload 4, 2) := by decide +kernel
theorem dX12_beat_366 : decode cX12_beat 366 = .ok (.invokeinterface 192 1, 5) := by decide +kernel
theorem dX12_beat_371 : decode cX12_beat 371 = .ok (.ifCond .eq 40, 3) := by decide +kernel
theorem dX12_beat_374 : decode cX12_beat 374 = .ok (.aload 4, 2) := by decide +kernel
theorem dX12_beat_376 : decode cX12_beat 376 = .ok (.invokeinterface 197 1, 5) := by decide +kernel
theorem dX12_beat_381 : decode cX12_beat 381 = .ok (.checkcast 47, 3) := by decide +kernel
theorem dX12_beat_384 : decode cX12_beat 384 = .ok (.astore 5, 2) := by decide +kernel
theorem dX12_beat_386 : decode cX12_beat 386 = .ok (.aload_n 0, 1) := by decide +kernel
theorem dX12_beat_387 : decode cX12_beat 387 = .ok (.dup, 1) := by decide +kernel
theorem dX12_beat_388 : decode cX12_beat 388 = .ok (.getfield 240, 3) := by decide +kernel
theorem dX12_beat_391 : decode cX12_beat 391 = .ok (.aload 5, 2) := by decide +kernel
theorem dX12_beat_393 : decode cX12_beat 393 = .ok (.getfield 123, 3) := by decide +kernel
theorem dX12_beat_396 : decode cX12_beat 396 = .ok (.ifCond .eq 7, 3) := by decide +kernel
theorem dX12_beat_399 : decode cX12_beat 399 = .ok (.lconst 1, 1) := by decide +kernel
theorem dX12_beat_400 : decode cX12_beat 400 = .ok (.goto 4, 3) := by decide +kernel
theorem dX12_beat_403 : decode cX12_beat 403 = .ok (.lconst 0, 1) := by decide +kernel
theorem dX12_beat_404 : decode cX12_beat 404 = .ok (.ladd, 1) := by decide +kernel
theorem dX12_beat_405 : decode cX12_beat 405 = .ok (.putfield 240, 3) := by decide +kernel
theorem dX12_beat_408 : decode cX12_beat 408 = .ok (.goto (-44), 3) := by decide +kernel
theorem dX12_beat_411 : decode cX12_beat 411 = .ok (.aload_n 0, 1) := by decide +kernel
theorem dX12_beat_412 : decode cX12_beat 412 = .ok (.dup, 1) := by decide +kernel
theorem dX12_beat_413 : decode cX12_beat 413 = .ok (.getfield 246, 3) := by decide +kernel
theorem dX12_beat_416 : decode cX12_beat 416 = .ok (.aload_n 0, 1) := by decide +kernel
theorem dX12_beat_417 : decode cX12_beat 417 = .ok (.getfield 30, 3) := by decide +kernel
theorem dX12_beat_420 : decode cX12_beat 420 = .ok (.bipush 122, 2) := by decide +kernel
theorem dX12_beat_422 : decode cX12_beat 422 = .ok (.if_icmp .ne 7, 3) := by decide +kernel
theorem dX12_beat_425 : decode cX12_beat 425 = .ok (.iconst 1, 1) := by decide +kernel
theorem dX12_beat_426 : decode cX12_beat 426 = .ok (.goto 4, 3) := by decide +kernel
theorem dX12_beat_429 : decode cX12_beat 429 = .ok (.iconst 0, 1) := by decide +kernel
theorem dX12_beat_430 : decode cX12_beat 430 = .ok (.iadd, 1) := by decide +kernel
theorem dX12_beat_431 : decode cX12_beat 431 = .ok (.putfield 246, 3) := by decide +kernel
theorem dX12_beat_434 : decode cX12_beat 434 = .ok (.return_, 1) := by decide +kernel
set_option maxRecDepth 20000 in
theorem ggX12_count_X12_level : GoodIn wsX12_count wsX12_level := goodIn_ca (goodIn_r _ [8, 1, 9, 10, 11, 12, 13, 14, 15, 16, 17, 18, 19, 20, 21, 22, 23, 24, 25, 26, 27, 28, 29, 30, 31, 32, 33, 34, 35, 36, 37, 38, 39, 40, 41, 42, 43, 44, 45, 46, 47, 48, 49, 50, 51, 52, 53, 54, 55, 56, 57, 58, 59, 60, 61, 62, 63, 64, 65, 66, 67, 68, 69, 70, 71, 72, 99, 100, 101, 102, 103, 104, 105, 106, 107, 108, 109, 110, 111, 112, 113, 114, 115, 116, 117, 118, 119, 120, 121, 129, 130, 131] (by decide +kernel) (by decide +kernel)) (goodIn_sub (fun _ h => List.mem_cons_of_mem _ (List.mem_append_right _ h)) (by decide +kernel))
set_option maxRecDepth 20000 in
theorem gX12_count_X12_level : GoodIn wsX12_count (wsV RX12 184 RX12 yX12_level wsX12_level) := goodIn_app (goodIn_of _ (by decide +kernel)) ggX12_count_X12_level
set_option maxRecDepth 20000 in
theorem ggX12_count_Jx4a65c_get_915e3 : GoodIn wsX12_count wsJx4a65c_get_915e3 := goodIn_r _ [76, 18, 77, 78, 79, 80, 81, 82, 83, 84, 85, 86, 87, 16, 88, 25, 129, 130, 131] (by decide +kernel) (by decide +kernel)
set_option maxRecDepth 20000 in
theorem gX12_count_Jx4a65c_get_915e3_f66Jx4a65c : GoodIn wsX12_count (va_wsF RX12 66 RJx4a65c ⟨"java/util/List", "get", "(I)Ljava/lang/Object;"⟩ yJx4a65c_get_915e3 wsJx4a65c_get_915e3) := goodIn_app (goodIn_of _ (by decide +kernel)) ggX12_count_Jx4a65c_get_915e3
theorem dX12_count_0 : decode cX12_count 0 = .ok (.aload_n 2, 1) := by decide +kernel
theorem dX12_count_1 : decode cX12_count 1 = .ok (.dup, 1) := by decide +kernel
theorem dX12_count_2 : decode cX12_count 2 = .ok (.getfield 201, 3) := by decide +kernel
theorem dX12_count_5 : decode cX12_count 5 = .ok (.iconst 1, 1) := by decide +kernel
theorem dX12_count_6 : decode cX12_count 6 = .ok (.iadd, 1) := by decide +kernel
theorem dX12_count_7 : decode cX12_count 7 = .ok (.putfield 201, 3) := by decide +kernel
theorem dX12_count_10 : decode cX12_count 10 = .ok (.aload_n 2, 1) := by decide +kernel
theorem dX12_count_11 : decode cX12_count 11 = .ok (.getfield 201, 3) := by decide +kernel
theorem dX12_count_14 : decode cX12_count 14 = .ok (.aload_n 2, 1) := by decide +kernel
theorem dX12_count_15 : decode cX12_count 15 = .ok (.getfield 95, 3) := by decide +kernel
theorem dX12_count_18 : decode cX12_count 18 = .ok (.if_icmp .ne 74, 3) := by decide +kernel
theorem dX12_count_21 : decode cX12_count 21 = .ok (.aload_n 2, 1) := by decide +kernel
theorem dX12_count_22 : decode cX12_count 22 = .ok (.getfield 117, 3) := by decide +kernel
theorem dX12_count_25 : decode cX12_count 25 = .ok (.bipush 110, 2) := by decide +kernel
theorem dX12_count_27 : decode cX12_count 27 = .ok (.if_icmp .eq 48, 3) := by decide +kernel
theorem dX12_count_30 : decode cX12_count 30 = .ok (.aload_n 0, 1) := by decide +kernel
theorem dX12_count_31 : decode cX12_count 31 = .ok (.aload_n 2, 1) := by decide +kernel
theorem dX12_count_32 : decode cX12_count 32 = .ok (.getfield 120, 3) := by decide +kernel
theorem dX12_count_35 : decode cX12_count 35 = .ok (.aload_n 2, 1) := by decide +kernel
theorem dX12_count_36 : decode cX12_count 36 = .ok (.getfield 117, 3) := by decide +kernel
theorem dX12_count_39 : decode cX12_count 39 = .ok (.bipush 115, 2) := by decide +kernel
theorem dX12_count_41 : decode cX12_count 41 = .ok (.if_icmp .eq 26, 3) := by decide +kernel
theorem dX12_count_44 : decode cX12_count 44 = .ok (.aload_n 2, 1) := by decide +kernel
theorem dX12_count_45 : decode cX12_count 45 = .ok (.getfield 117, 3) := by decide +kernel
theorem dX12_count_48 : decode cX12_count 48 = .ok (.bipush 116, 2) := by decide +kernel
theorem dX12_count_50 : decode cX12_count 50 = .ok (.if_icmp .ne 21, 3) := by decide +kernel
theorem dX12_count_53 : decode cX12_count 53 = .ok (.aload_n 0, 1) := by decide +kernel
theorem dX12_count_54 : decode cX12_count 54 = .ok (.getfield 171, 3) := by decide +kernel
theorem dX12_count_57 : decode cX12_count 57 = .ok (.aload_n 2, 1) := by decide +kernel
theorem dX12_count_58 : decode cX12_count 58 = .ok (.getfield 120, 3) := by decide +kernel
theorem dX12_count_61 : decode cX12_count 61 = .ok (.ishr, 1) := by decide +kernel
theorem dX12_count_62 : decode cX12_count 62 = .ok (.iconst 1, 1) := by decide +kernel
theorem dX12_count_63 : decode cX12_count 63 = .ok (.iand, 1) := by decide +kernel
theorem dX12_count_64 : decode cX12_count 64 = .ok (.ifCond .ne 7, 3) := by decide +kernel
theorem dX12_count_67 : decode cX12_count 67 = .ok (.iconst 1, 1) := by decide +kernel
theorem dX12_count_68 : decode cX12_count 68 = .ok (.goto 4, 3) := by decide +kernel
theorem dX12_count_71 : decode cX12_count 71 = .ok (.iconst 0, 1) := by decide +kernel
theorem dX12_count_72 : decode cX12_count 72 = .ok (.invokevirtual 184, 3) := by decide +kernel
theorem dX12_count_75 : decode cX12_count 75 = .ok (.aload_n 0, 1) := by decide +kernel
theorem dX12_count_76 : decode cX12_count 76 = .ok (.getfield 21, 3) := by decide +kernel
theorem dX12_count_79 : decode cX12_count 79 = .ok (.iload_n 1, 1) := by decide +kernel
theorem dX12_count_80 : decode cX12_count 80 = .ok (.invokeinterface 66 2, 5) := by decide +kernel
theorem dX12_count_85 : decode cX12_count 85 = .ok (.checkcast 50, 3) := by decide +kernel
theorem dX12_count_88 : decode cX12_count 88 = .ok (.iconst 1, 1) := by decide +kernel
theorem dX12_count_89 : decode cX12_count 89 = .ok (.putfield 164, 3) := by decide +kernel
theorem dX12_count_92 : decode cX12_count 92 = .ok (.aload_n 2, 1) := by decide +kernel
theorem dX12_count_93 : decode cX12_count 93 = .ok (.getfield 201, 3) := by decide +kernel
theorem dX12_count_96 : decode cX12_count 96 = .ok (.aload_n 2, 1) := by decide +kernel
theorem dX12_count_97 : decode cX12_count 97 = .ok (.getfield 89, 3) := by decide +kernel
theorem dX12_count_100 : decode cX12_count 100 = .ok (.if_icmp .lt 50, 3) := by decide +kernel
theorem dX12_count_103 : decode cX12_count 103 = .ok (.aload_n 2, 1) := by decide +kernel
theorem dX12_count_104 : decode cX12_count 104 = .ok (.iconst 0, 1) := by decide +kernel
theorem dX12_count_105 : decode cX12_count 105 = .ok (.putfield 201, 3) := by decide +kernel
theorem dX12_count_108 : decode cX12_count 108 = .ok (.aload_n 2, 1) := by decide +kernel
theorem dX12_count_109 : decode cX12_count 109 = .ok (.iconst 1, 1) := by decide +kernel
theorem dX12_count_110 : decode cX12_count 110 = .ok (.putfield 231, 3) := by decide +kernel
theorem dX12_count_113 : decode cX12_count 113 = .ok (.aload_n 2, 1) := by decide +kernel
theorem dX12_count_114 : decode cX12_count 114 = .ok (.aload_n 2, 1) := by decide +kernel
theorem dX12_count_115 : decode cX12_count 115 = .ok (.getfield 98, 3) := by decide +kernel
theorem dX12_count_118 : decode cX12_count 118 = .ok (.bipush 114, 2) := by decide +kernel
theorem dX12_count_120 : decode cX12_count 120 = .ok (.if_icmp .ne 7, 3) := by decide +kernel
theorem dX12_count_123 : decode cX12_count 123 = .ok (.iconst 1, 1) := by decide +kernel
theorem dX12_count_124 : decode cX12_count 124 = .ok (.goto 4, 3) := by decide +kernel
theorem dX12_count_127 : decode cX12_count 127 = .ok (.iconst 0, 1) := by decide +kernel
theorem dX12_count_128 : decode cX12_count 128 = .ok (.putfield 123, 3) := by decide +kernel
theorem dX12_count_131 : decode cX12_count 131 = .ok (.aload_n 0, 1) := by decide +kernel
theorem dX12_count_132 : decode cX12_count 132 = .ok (.getfield 21, 3) := by decide +kernel
theorem dX12_count_135 : decode cX12_count 135 = .ok (.iconst 4, 1) := by decide +kernel
theorem dX12_count_136 : decode cX12_count 136 = .ok (.iload_n 1, 1) := by decide +kernel
theorem dX12_count_137 : decode cX12_count 137 = .ok (.iadd, 1) := by decide +kernel
theorem dX12_count_138 : decode cX12_count 138 = .ok (.invokeinterface 66 2, 5) := by decide +kernel
theorem dX12_count_143 : decode cX12_count 143 = .ok (.checkcast 50, 3) := by decide +kernel
theorem dX12_count_146 : decode cX12_count 146 = .ok (.iconst 1, 1) := by decide +kernel
theorem dX12_count_147 : decode cX12_count 147 = .ok (.putfield 164, 3) := by decide +kernel
theorem dX12_count_150 : decode cX12_count 150 = .ok (.return_, 1) := by decide +kernel
set_option maxRecDepth 20000 in
theorem ggX12_process_X12_first : GoodIn wsX12_process wsX12_first := goodIn_r _ [14, 6, 7, 15, 16, 17, 18, 19, 20, 21, 22, 23, 24, 25, 26, 27, 28, 29, 30, 31, 32, 33, 180, 181, 182, 183, 184, 185, 186, 187, 188, 189, 190, 191, 192, 193, 194, 195, 196, 197, 198, 199, 200, 201, 202, 203, 204, 205, 206, 207, 208, 209, 210, 211, 212] (by decide +kernel) (by decide +kernel)
set_option maxRecDepth 20000 in
theorem gX12_process_X12_first : GoodIn wsX12_process (wsV RX12 249 RX12 yX12_first wsX12_first) := goodIn_app (goodIn_of _ (by decide +kernel)) ggX12_process_X12_first
set_option maxRecDepth 20000 in
theorem ggX12_process_X12_enter : GoodIn wsX12_process wsX12_enter := goodIn_r _ [37, 1, 4, 3, 180, 181, 182, 183, 184, 185, 186, 187, 188, 189, 190, 191, 192, 193, 194, 195, 196, 197, 198, 199, 200, 201, 202] (by decide +kernel) (by decide +kernel)
set_option maxRecDepth 20000 in
theorem gX12_process_X12_enter : GoodIn wsX12_process (wsV RX12 252 RX12 yX12_enter wsX12_enter) := goodIn_app (goodIn_of _ (by decide +kernel)) ggX12_process_X12_enter
set_option maxRecDepth 20000 in
theorem ggX12_process_X12_isMoreUrgent : GoodIn wsX12_process wsX12_isMoreUrgent := goodIn_r _ [41, 6, 7, 15, 16, 17, 18, 19, 20, 21, 22, 23, 24, 25, 26, 27, 28, 29, 30, 31, 32, 33, 180, 181, 182, 183, 184, 185, 186, 187, 188, 189, 190, 191, 192, 193, 194, 195, 196, 197, 198, 199, 200, 201, 202, 203, 204, 205, 206, 207, 208, 209, 210, 211, 212] (by decide +kernel) (by decide +kernel)
set_option maxRecDepth 20000 in
theorem gX12_process_X12_isMoreUrgent : GoodIn wsX12_process (wsV RX12 256 RX12 yX12_isMoreUrgent wsX12_isMoreUrgent) := goodIn_app (goodIn_of _ (by decide +kernel)) ggX12_process_X12_isMoreUrgent
set_option maxRecDepth 20000 in
theorem ggX12_process_Jx4a65c_get_915e3 : GoodIn wsX12_process wsJx4a65c_get_915e3 := goodIn_r _ [19, 20, 21, 22, 23, 24, 25, 26, 27, 28, 29, 30, 31, 18, 32, 33, 210, 211, 212] (by decide +kernel) (by decide +kernel)
set_option maxRecDepth 20000 in
theorem gX12_process_Jx4a65c_get_915e3_f66Jx4a65c : GoodIn wsX12_process (va_wsF RX12 66 RJx4a65c ⟨"java/util/List", "get", "(I)Ljava/lang/Object;"⟩ yJx4a65c_get_915e3 wsJx4a65c_get_915e3) := goodIn_app (goodIn_of _ (by decide +kernel)) ggX12_process_Jx4a65c_get_915e3
set_option maxRecDepth 20000 in
theorem ggX12_process_Jx4a65c_add_9ea2d : GoodIn wsX12_process wsJx4a65c_add_9ea2d := goodIn_r _ [45, 46, 47, 33, 20, 48, 49, 50, 18, 51, 52, 53, 54, 55, 56, 57, 58, 59, 60, 61, 62, 63, 64, 65, 66, 67, 68, 69, 70, 71, 72, 73, 74, 75, 76, 77, 78, 79, 80, 81, 82, 83, 84, 85, 86, 87, 88, 89, 90, 91, 92, 93, 94, 210, 211, 212] (by decide +kernel) (by decide +kernel)
set_option maxRecDepth 20000 in
theorem gX12_process_Jx4a65c_add_9ea2d_f41Jx4a65c : GoodIn wsX12_process (va_wsF RX12 41 RJx4a65c ⟨"java/util/List", "add", "(Ljava/lang/Object;)Z"⟩ yJx4a65c_add_9ea2d wsJx4a65c_add_9ea2d) := goodIn_app (goodIn_of _ (by decide +kernel)) ggX12_process_Jx4a65c_add_9ea2d
set_option maxRecDepth 20000 in
theorem ggX12_process_X12_handle : GoodIn wsX12_process wsX12_handle := goodIn_ca (goodIn_r _ [98, 8, 99, 6, 7, 100, 101, 102, 103, 1, 3, 104, 105, 106, 13, 107, 108, 109, 110, 18, 111, 20, 112, 113, 114, 115, 15, 16, 17, 19, 21, 22, 23, 24, 25, 26, 27, 28, 29, 30, 31, 32, 33, 38, 39, 40, 41, 34, 35, 36, 37, 4, 116, 117, 118, 119, 120, 121, 122, 123, 46, 47, 124, 92, 93, 94, 125, 126, 127, 128, 129, 9, 130, 131, 42, 43, 44, 45, 48, 49, 50, 51, 52, 53, 54, 55, 56, 57, 58, 59, 60, 61, 62, 63, 64, 65, 66, 67, 68, 69, 70, 71, 72, 73, 74, 75, 76, 77, 78, 79, 80, 81, 82, 83, 84, 85, 86, 87, 88, 89, 90, 91, 132, 133, 134, 135, 136, 137, 138, 139, 140, 141, 142, 143, 144, 145, 146, 147, 148, 149, 150, 151, 152, 153, 154, 155, 156, 157, 158, 159, 160, 161, 162, 163, 164, 165, 166, 167, 168, 169, 170, 171, 172, 173, 174, 175, 176, 177, 178, 179, 10, 11, 12, 14, 180, 181, 182, 183, 184, 185, 186, 187, 188, 189, 190, 191, 192, 193, 194, 195, 196, 197, 198, 199, 200, 201, 202, 203, 204, 205, 206, 207, 208, 209, 213, 214, 215, 216, 217, 218, 219, 220, 221, 222, 210, 211, 212, 223, 224, 225, 226] (by decide +kernel) (by decide +kernel)) (goodIn_sub (fun _ h => List.mem_cons_of_mem _ (List.mem_append_right _ h)) (by decide +kernel))
set_option maxRecDepth 20000 in
theorem gX12_process_X12_handle : GoodIn wsX12_process (wsV RX12 263 RX12 yX12_handle wsX12_handle) := goodIn_app (goodIn_of _ (by decide +kernel)) ggX12_process_X12_handle
set_option maxRecDepth 20000 in
theorem ggX12_process_Jx4a65c_isEmpty_aae02 : GoodIn wsX12_process wsJx4a65c_isEmpty_aae02 := goodIn_r _ [111, 20, 210, 211, 212] (by decide +kernel) (by decide +kernel)
set_option maxRecDepth 20000 in
theorem gX12_process_Jx4a65c_isEmpty_aae02_f216Jx4a65c : GoodIn wsX12_process (va_wsF RX12 216 RJx4a65c ⟨"java/util/List", "isEmpty", "()Z"⟩ yJx4a65c_isEmpty_aae02 wsJx4a65c_isEmpty_aae02) := goodIn_app (goodIn_of _ (by decide +kernel)) ggX12_process_Jx4a65c_isEmpty_aae02
theorem dX12_process_0 : decode cX12_process 0 = .ok (.aload_n 0, 1) := by decide +kernel
theorem dX12_process_1 : decode cX12_process 1 = .ok (.invokevirtual 249, 3) := by decide +kernel
theorem dX12_process_4 : decode cX12_process 4 = .ok (.istore_n 1, 1) := by decide +kernel
theorem dX12_process_5 : decode cX12_process 5 = .ok (.aload_n 0, 1) := by decide +kernel
theorem dX12_process_6 : decode cX12_process 6 = .ok (.getfield 30, 3) := by decide +kernel
theorem dX12_process_9 : decode cX12_process 9 = .ok (.lookupswitch 267 #[(101, 144), (104, 259), (105, 51), (117, 113), (122, 81)], 51) := by decide +kernel
theorem dX12_process_60 : decode cX12_process 60 = .ok (.iload_n 1, 1) := by decide +kernel
theorem dX12_process_61 : decode cX12_process 61 = .ok (.iconst (-1), 1) := by decide +kernel
theorem dX12_process_62 : decode cX12_process 62 = .ok (.if_icmp .eq 12, 3) := by decide +kernel
theorem dX12_process_65 : decode cX12_process 65 = .ok (.aload_n 0, 1) := by decide +kernel
theorem dX12_process_66 : decode cX12_process 66 = .ok (.iload_n 1, 1) := by decide +kernel
theorem dX12_process_67 : decode cX12_process 67 = .ok (.iconst 4, 1) := by decide +kernel
theorem dX12_process_68 : decode cX12_process 68 = .ok (.invokevirtual 252, 3) := by decide +kernel
theorem dX12_process_71 : decode cX12_process 71 = .ok (.goto 250, 3) := by decide +kernel
theorem dX12_process_74 : decode cX12_process 74 = .ok (.aload_n 0, 1) := by decide +kernel
theorem dX12_process_75 : decode cX12_process 75 = .ok (.getfield 150, 3) := by decide +kernel
theorem dX12_process_78 : decode cX12_process 78 = .ok (.ifCond .eq 243, 3) := by decide +kernel
theorem dX12_process_81 : decode cX12_process 81 = .ok (.aload_n 0, 1) := by decide +kernel
theorem dX12_process_82 : decode cX12_process 82 = .ok (.bipush 122, 2) := by decide +kernel
theorem dX12_process_84 : decode cX12_process 84 = .ok (.putfield 30, 3) := by decide +kernel
theorem dX12_process_87 : decode cX12_process 87 = .ok (.goto 234, 3) := by decide +kernel
theorem dX12_process_90 : decode cX12_process 90 = .ok (.iload_n 1, 1) := by decide +kernel
theorem dX12_process_91 : decode cX12_process 91 = .ok (.iconst (-1), 1) := by decide +kernel
theorem dX12_process_92 : decode cX12_process 92 = .ok (.if_icmp .eq 229, 3) := by decide +kernel
theorem dX12_process_95 : decode cX12_process 95 = .ok (.aload_n 0, 1) := by decide +kernel
theorem dX12_process_96 : decode cX12_process 96 = .ok (.bipush 117, 2) := by decide +kernel
theorem dX12_process_98 : decode cX12_process 98 = .ok (.putfield 30, 3) := by decide +kernel
theorem dX12_process_101 : decode cX12_process 101 = .ok (.aload_n 0, 1) := by decide +kernel
theorem dX12_process_102 : decode cX12_process 102 = .ok (.aload_n 0, 1) := by decide +kernel
theorem dX12_process_103 : decode cX12_process 103 = .ok (.getfield 150, 3) := by decide +kernel
theorem dX12_process_106 : decode cX12_process 106 = .ok (.iconst 2, 1) := by decide +kernel
theorem dX12_process_107 : decode cX12_process 107 = .ok (.if_icmp .ne 8, 3) := by decide +kernel
theorem dX12_process_110 : decode cX12_process 110 = .ok (.bipush 6, 2) := by decide +kernel
theorem dX12_process_112 : decode cX12_process 112 = .ok (.goto 4, 3) := by decide +kernel
theorem dX12_process_115 : decode cX12_process 115 = .ok (.iconst 1, 1) := by decide +kernel
theorem dX12_process_116 : decode cX12_process 116 = .ok (.putfield 224, 3) := by decide +kernel
theorem dX12_process_119 : decode cX12_process 119 = .ok (.goto 202, 3) := by decide +kernel
theorem dX12_process_122 : decode cX12_process 122 = .ok (.aload_n 0, 1) := by decide +kernel
theorem dX12_process_123 : decode cX12_process 123 = .ok (.dup, 1) := by decide +kernel
theorem dX12_process_124 : decode cX12_process 124 = .ok (.getfield 224, 3) := by decide +kernel
theorem dX12_process_127 : decode cX12_process 127 = .ok (.iconst 1, 1) := by decide +kernel
theorem dX12_process_128 : decode cX12_process 128 = .ok (.isub, 1) := by decide +kernel
theorem dX12_process_129 : decode cX12_process 129 = .ok (.putfield 224, 3) := by decide +kernel
theorem dX12_process_132 : decode cX12_process 132 = .ok (.aload_n 0, 1) := by decide +kernel
theorem dX12_process_133 : decode cX12_process 133 = .ok (.aload_n 0, 1) := by decide +kernel
theorem dX12_process_134 : decode cX12_process 134 = .ok (.getfield 224, 3) := by decide +kernel
theorem dX12_process_137 : decode cX12_process 137 = .ok (.ifCond .ne 8, 3) := by decide +kernel
theorem dX12_process_140 : decode cX12_process 140 = .ok (.bipush 105, 2) := by decide +kernel
theorem dX12_process_142 : decode cX12_process 142 = .ok (.goto 5, 3) := by decide +kernel
theorem dX12_process_145 : decode cX12_process 145 = .ok (.bipush 117, 2) := by decide +kernel
theorem dX12_process_147 : decode cX12_process 147 = .ok (.putfield 30, 3) := by decide +kernel
theorem dX12_process_150 : decode cX12_process 150 = .ok (.goto 171, 3) := by decide +kernel
theorem dX12_process_153 : decode cX12_process 153 = .ok (.aload_n 0, 1) := by decide +kernel
theorem dX12_process_154 : decode cX12_process 154 = .ok (.iload_n 1, 1) := by decide +kernel
theorem dX12_process_155 : decode cX12_process 155 = .ok (.aload_n 0, 1) := by decide +kernel
theorem dX12_process_156 : decode cX12_process 156 = .ok (.getfield 221, 3) := by decide +kernel
theorem dX12_process_159 : decode cX12_process 159 = .ok (.invokevirtual 256, 3) := by decide +kernel
theorem dX12_process_162 : decode cX12_process 162 = .ok (.ifCond .eq 18, 3) := by decide +kernel
theorem dX12_process_165 : decode cX12_process 165 = .ok (.aload_n 0, 1) := by decide +kernel
theorem dX12_process_166 : decode cX12_process 166 = .ok (.iload_n 1, 1) := by decide +kernel
theorem dX12_process_167 : decode cX12_process 167 = .ok (.putfield 221, 3) := by decide +kernel
theorem dX12_process_170 : decode cX12_process 170 = .ok (.aload_n 0, 1) := by decide +kernel
theorem dX12_process_171 : decode cX12_process 171 = .ok (.dup, 1) := by decide +kernel
theorem dX12_process_172 : decode cX12_process 172 = .ok (.getfield 260, 3) := by decide +kernel
theorem dX12_process_175 : decode cX12_process 175 = .ok (.iconst 1, 1) := by decide +kernel
theorem dX12_process_176 : decode cX12_process 176 = .ok (.iadd, 1) := by decide +kernel
theorem dX12_process_177 : decode cX12_process 177 = .ok (.putfield 260, 3) := by decide +kernel
theorem dX12_process_180 : decode cX12_process 180 = .ok (.aload_n 0, 1) := by decide +kernel
theorem dX12_process_181 : decode cX12_process 181 = .ok (.dup, 1) := by decide +kernel
theorem dX12_process_182 : decode cX12_process 182 = .ok (.getfield 224, 3) := by decide +kernel
theorem dX12_process_185 : decode cX12_process 185 = .ok (.iconst 1, 1) := by decide +kernel
theorem dX12_process_186 : decode cX12_process 186 = .ok (.isub, 1) := by decide +kernel
theorem dX12_process_187 : decode cX12_process 187 = .ok (.putfield 224, 3) := by decide +kernel
theorem dX12_process_190 : decode cX12_process 190 = .ok (.aload_n 0, 1) := by decide +kernel
theorem dX12_process_191 : decode cX12_process 191 = .ok (.getfield 224, 3) := by decide +kernel
theorem dX12_process_194 : decode cX12_process 194 = .ok (.ifCond .ne 127, 3) := by decide +kernel
theorem dX12_process_197 : decode cX12_process 197 = .ok (.aload_n 0, 1) := by decide +kernel
theorem dX12_process_198 : decode cX12_process 198 = .ok (.getfield 21, 3) := by decide +kernel
theorem dX12_process_201 : decode cX12_process 201 = .ok (.aload_n 0, 1) := by decide +kernel
theorem dX12_process_202 : decode cX12_process 202 = .ok (.getfield 221, 3) := by decide +kernel
theorem dX12_process_205 : decode cX12_process 205 = .ok (.invokeinterface 66 2, 5) := by decide +kernel
theorem dX12_process_210 : decode cX12_process 210 = .ok (.checkcast 50, 3) := by decide +kernel
theorem dX12_process_213 : decode cX12_process 213 = .ok (.iconst 0, 1) := by decide +kernel
theorem dX12_process_214 : decode cX12_process 214 = .ok (.putfield 164, 3) := by decide +kernel
theorem dX12_process_217 : decode cX12_process 217 = .ok (.aload_n 0, 1) := by decide +kernel
theorem dX12_process_218 : decode cX12_process 218 = .ok (.getfield 24, 3) := by decide +kernel
theorem dX12_process_221 : decode cX12_process 221 = .ok (.iconst 2, 1) := by decide +kernel
theorem dX12_process_222 : decode cX12_process 222 = .ok (.newarray .int, 2) := by decide +kernel
theorem dX12_process_224 : decode cX12_process 224 = .ok (.dup, 1) := by decide +kernel
theorem dX12_process_225 : decode cX12_process 225 = .ok (.iconst 0, 1) := by decide +kernel
theorem dX12_process_226 : decode cX12_process 226 = .ok (.aload_n 0, 1) := by decide +kernel
theorem dX12_process_227 : decode cX12_process 227 = .ok (.getfield 221, 3) := by decide +kernel
theorem dX12_process_230 : decode cX12_process 230 = .ok (.iastore, 1) := by decide +kernel
theorem dX12_process_231 : decode cX12_process 231 = .ok (.dup, 1) := by decide +kernel
theorem dX12_process_232 : decode cX12_process 232 = .ok (.iconst 1, 1) := by decide +kernel
theorem dX12_process_233 : decode cX12_process 233 = .ok (.aload_n 0, 1) := by decide +kernel
theorem dX12_process_234 : decode cX12_process 234 = .ok (.getfield 21, 3) := by decide +kernel
theorem dX12_process_237 : decode cX12_process 237 = .ok (.aload_n 0, 1) := by decide +kernel
theorem dX12_process_238 : decode cX12_process 238 = .ok (.getfield 221, 3) := by decide +kernel
theorem dX12_process_241 : decode cX12_process 241 = .ok (.invokeinterface 66 2, 5) := by decide +kernel
theorem dX12_process_246 : decode cX12_process 246 = .ok (.checkcast 50, 3) := by decide +kernel
theorem dX12_process_249 : decode cX12_process 249 = .ok (.getfield 141, 3) := by decide +kernel
theorem dX12_process_252 : decode cX12_process 252 = .ok (.iastore, 1) := by decide +kernel
theorem dX12_process_253 : decode cX12_process 253 = .ok (.invokeinterface 41 2, 5) := by decide +kernel
theorem dX12_process_258 : decode cX12_process 258 = .ok (.pop, 1) := by decide +kernel
theorem dX12_process_259 : decode cX12_process 259 = .ok (.aload_n 0, 1) := by decide +kernel
theorem dX12_process_260 : decode cX12_process 260 = .ok (.bipush 104, 2) := by decide +kernel
theorem dX12_process_262 : decode cX12_process 262 = .ok (.putfield 30, 3) := by decide +kernel
theorem dX12_process_265 : decode cX12_process 265 = .ok (.goto 56, 3) := by decide +kernel
theorem dX12_process_268 : decode cX12_process 268 = .ok (.aload_n 0, 1) := by decide +kernel
theorem dX12_process_269 : decode cX12_process 269 = .ok (.iload_n 1, 1) := by decide +kernel
theorem dX12_process_270 : decode cX12_process 270 = .ok (.invokevirtual 263, 3) := by decide +kernel
theorem dX12_process_273 : decode cX12_process 273 = .ok (.goto 48, 3) := by decide +kernel
theorem dX12_process_276 : decode cX12_process 276 = .ok (.aload_n 0, 1) := by decide +kernel
theorem dX12_process_277 : decode cX12_process 277 = .ok (.dup, 1) := by decide +kernel
theorem dX12_process_278 : decode cX12_process 278 = .ok (.getfield 224, 3) := by decide +kernel
theorem dX12_process_281 : decode cX12_process 281 = .ok (.iconst 1, 1) := by decide +kernel
theorem dX12_process_282 : decode cX12_process 282 = .ok (.isub, 1) := by decide +kernel
theorem dX12_process_283 : decode cX12_process 283 = .ok (.putfield 224, 3) := by decide +kernel
theorem dX12_process_286 : decode cX12_process 286 = .ok (.aload_n 0, 1) := by decide +kernel
theorem dX12_process_287 : decode cX12_process 287 = .ok (.aload_n 0, 1) := by decide +kernel
theorem dX12_process_288 : decode cX12_process 288 = .ok (.getfield 224, 3) := by decide +kernel
theorem dX12_process_291 : decode cX12_process 291 = .ok (.ifCond .le 8, 3) := by decide +kernel
theorem dX12_process_294 : decode cX12_process 294 = .ok (.bipush 120, 2) := by decide +kernel
theorem dX12_process_296 : decode cX12_process 296 = .ok (.goto 22, 3) := by decide +kernel
theorem dX12_process_299 : decode cX12_process 299 = .ok (.aload_n 0, 1) := by decide +kernel
theorem dX12_process_300 : decode cX12_process 300 = .ok (.getfield 24, 3) := by decide +kernel
theorem dX12_process_303 : decode cX12_process 303 = .ok (.invokeinterface 216 1, 5) := by decide +kernel
theorem dX12_process_308 : decode cX12_process 308 = .ok (.ifCond .eq 8, 3) := by decide +kernel
theorem dX12_process_311 : decode cX12_process 311 = .ok (.bipush 105, 2) := by decide +kernel
theorem dX12_process_313 : decode cX12_process 313 = .ok (.goto 5, 3) := by decide +kernel
theorem dX12_process_316 : decode cX12_process 316 = .ok (.bipush 104, 2) := by decide +kernel
theorem dX12_process_318 : decode cX12_process 318 = .ok (.putfield 30, 3) := by decide +kernel
theorem dX12_process_321 : decode cX12_process 321 = .ok (.return_, 1) := by decide +kernel
set_option maxRecDepth 20000 in
theorem ggX12_handle_X12_top : GoodIn wsX12_handle wsX12_top := goodIn_ca (goodIn_r _ [15, 1, 2, 16, 17, 18, 19, 20, 21, 22, 23, 24, 25, 26, 27, 28, 29, 30, 31, 32, 33, 34, 35, 36, 37, 38, 39, 40, 41, 42, 174, 175, 176, 177, 178, 179, 180, 181, 182, 183, 184, 185, 186, 187, 188, 189, 190, 191, 192, 193, 194, 195, 196, 214, 215, 216] (by decide +kernel) (by decide +kernel)) (goodIn_sub (fun _ h => List.mem_cons_of_mem _ (List.mem_append_right _ h)) (by decide +kernel))
set_option maxRecDepth 20000 in
theorem gX12_handle_X12_top : GoodIn wsX12_handle (wsV RX12 267 RX12 yX12_top wsX12_top) := goodIn_app (goodIn_of _ (by decide +kernel)) ggX12_handle_X12_top
set_option maxRecDepth 20000 in
theorem ggX12_handle_X12_isMoreUrgent : GoodIn wsX12_handle wsX12_isMoreUrgent := goodIn_r _ [46, 3, 4, 26, 27, 28, 19, 29, 21, 30, 31, 32, 33, 34, 35, 36, 37, 38, 39, 40, 41, 42, 174, 175, 176, 177, 178, 179, 180, 181, 182, 183, 184, 185, 186, 187, 188, 189, 190, 191, 192, 193, 194, 195, 196, 197, 198, 199, 200, 201, 202, 203, 214, 215, 216] (by decide +kernel) (by decide +kernel)
set_option maxRecDepth 20000 in
theorem gX12_handle_X12_isMoreUrgent : GoodIn wsX12_handle (wsV RX12 256 RX12 yX12_isMoreUrgent wsX12_isMoreUrgent) := goodIn_app (goodIn_of _ (by decide +kernel)) ggX12_handle_X12_isMoreUrgent
set_option maxRecDepth 20000 in
theorem ggX12_handle_X12_enter : GoodIn wsX12_handle wsX12_enter := goodIn_r _ [50, 9, 51, 10, 174, 175, 176, 177, 178, 179, 180, 181, 182, 183, 184, 185, 186, 187, 188, 189, 190, 191, 192, 193, 194, 195, 196] (by decide +kernel) (by decide +kernel)
set_option maxRecDepth 20000 in
theorem gX12_handle_X12_enter : GoodIn wsX12_handle (wsV RX12 252 RX12 yX12_enter wsX12_enter) := goodIn_app (goodIn_of _ (by decide +kernel)) ggX12_handle_X12_enter
set_option maxRecDepth 20000 in
theorem ggX12_handle_Jx4a65c_size_8abf5 : GoodIn wsX12_handle wsJx4a65c_size_8abf5 := goodIn_r _ [25, 21, 214, 215, 216] (by decide +kernel) (by decide +kernel)
set_option maxRecDepth 20000 in
theorem gX12_handle_Jx4a65c_size_8abf5_f174Jx4a65c : GoodIn wsX12_handle (va_wsF RX12 174 RJx4a65c ⟨"java/util/List", "size", "()I"⟩ yJx4a65c_size_8abf5 wsJx4a65c_size_8abf5) := goodIn_app (goodIn_of _ (by decide +kernel)) ggX12_handle_Jx4a65c_size_8abf5
set_option maxRecDepth 20000 in
theorem ggX12_handle_Jx4a65c_get_915e3 : GoodIn wsX12_handle wsJx4a65c_get_915e3 := goodIn_r _ [29, 21, 30, 31, 32, 33, 34, 35, 36, 37, 38, 39, 40, 19, 41, 42, 214, 215, 216] (by decide +kernel) (by decide +kernel)
set_option maxRecDepth 20000 in
theorem gX12_handle_Jx4a65c_get_915e3_f66Jx4a65c : GoodIn wsX12_handle (va_wsF RX12 66 RJx4a65c ⟨"java/util/List", "get", "(I)Ljava/lang/Object;"⟩ yJx4a65c_get_915e3 wsJx4a65c_get_915e3) := goodIn_app (goodIn_of _ (by decide +kernel)) ggX12_handle_Jx4a65c_get_915e3
set_option maxRecDepth 20000 in
theorem ggX12_handle_Jx4a65c_remove_915e3 : GoodIn wsX12_handle wsJx4a65c_remove_915e3 := goodIn_r _ [55, 21, 42, 30, 31, 32, 33, 34, 35, 36, 37, 56, 57, 58, 19, 59, 60, 61, 62, 63, 64, 65, 214, 215, 216] (by decide +kernel) (by decide +kernel)
set_option maxRecDepth 20000 in
theorem gX12_handle_Jx4a65c_remove_915e3_f270Jx4a65c : GoodIn wsX12_handle (va_wsF RX12 270 RJx4a65c ⟨"java/util/List", "remove", "(I)Ljava/lang/Object;"⟩ yJx4a65c_remove_915e3 wsJx4a65c_remove_915e3) := goodIn_app (goodIn_of _ (by decide +kernel)) ggX12_handle_Jx4a65c_remove_915e3
set_option maxRecDepth 20000 in
theorem ggX12_handle_X12_level : GoodIn wsX12_handle wsX12_level := goodIn_ca (goodIn_r _ [69, 5, 70, 71, 72, 73, 22, 23, 24, 19, 25, 21, 74, 75, 76, 77, 60, 61, 42, 78, 79, 80, 81, 82, 83, 84, 85, 86, 87, 88, 89, 90, 91, 92, 93, 94, 95, 96, 97, 98, 99, 100, 101, 102, 103, 104, 105, 106, 107, 108, 109, 110, 111, 112, 113, 114, 115, 116, 117, 118, 119, 120, 121, 63, 64, 65, 174, 175, 176, 177, 178, 179, 180, 181, 182, 183, 184, 185, 186, 187, 188, 189, 190, 191, 192, 193, 194, 195, 196, 214, 215, 216] (by decide +kernel) (by decide +kernel)) (goodIn_sub (fun _ h => List.mem_cons_of_mem _ (List.mem_append_right _ h)) (by decide +kernel))
set_option maxRecDepth 20000 in
theorem gX12_handle_X12_level : GoodIn wsX12_handle (wsV RX12 184 RX12 yX12_level wsX12_level) := goodIn_app (goodIn_of _ (by decide +kernel)) ggX12_handle_X12_level
set_option maxRecDepth 20000 in
theorem ggX12_handle_X12_fed : GoodIn wsX12_handle wsX12_fed := goodIn_ca (goodIn_r _ [125, 126, 127, 128, 129, 130, 131, 14, 132, 6, 7, 3, 4, 1, 9, 133, 72, 134, 66, 67, 68, 69, 5, 70, 71, 73, 22, 23, 24, 19, 25, 21, 74, 75, 76, 77, 60, 61, 42, 78, 79, 80, 81, 82, 83, 84, 85, 86, 87, 88, 89, 90, 91, 92, 93, 94, 95, 96, 97, 98, 99, 100, 101, 102, 103, 104, 105, 106, 107, 108, 109, 110, 111, 112, 113, 114, 115, 116, 117, 118, 119, 120, 121, 63, 64, 65, 135, 136, 137, 138, 139, 140, 141, 142, 143, 144, 145, 146, 147, 148, 149, 150, 151, 152, 153, 154, 155, 156, 157, 158, 159, 160, 161, 162, 163, 164, 165, 166, 167, 168, 169, 174, 175, 176, 177, 178, 179, 180, 181, 182, 183, 184, 185, 186, 187, 188, 189, 190, 191, 192, 193, 194, 195, 196, 204, 205, 206, 207, 208, 209, 210, 211, 212, 213, 197, 198, 199, 200, 201, 202, 203, 214, 215, 216, 217, 218, 219, 220] (by decide +kernel) (by decide +kernel)) (goodIn_sub (fun _ h => List.mem_cons_of_mem _ (List.mem_append_right _ h)) (by decide +kernel))
set_option maxRecDepth 20000 in
theorem gX12_handle_X12_fed : GoodIn wsX12_handle (wsV RX12 167 RX12 yX12_fed wsX12_fed) := goodIn_app (goodIn_of _ (by decide +kernel)) ggX12_handle_X12_fed
set_option maxRecDepth 20000 in
theorem ggX12_handle_X12_first : GoodIn wsX12_handle wsX12_first := goodIn_r _ [173, 3, 4, 26, 27, 28, 19, 29, 21, 30, 31, 32, 33, 34, 35, 36, 37, 38, 39, 40, 41, 42, 174, 175, 176, 177, 178, 179, 180, 181, 182, 183, 184, 185, 186, 187, 188, 189, 190, 191, 192, 193, 194, 195, 196, 197, 198, 199, 200, 201, 202, 203, 214, 215, 216] (by decide +kernel) (by decide +kernel)
set_option maxRecDepth 20000 in
theorem gX12_handle_X12_first : GoodIn wsX12_handle (wsV RX12 249 RX12 yX12_first wsX12_first) := goodIn_app (goodIn_of _ (by decide +kernel)) ggX12_handle_X12_first
set_option maxRecDepth 20000 in
theorem ggX12_handle_Jx4a65c_isEmpty_aae02 : GoodIn wsX12_handle wsJx4a65c_isEmpty_aae02 := goodIn_r _ [20, 21, 214, 215, 216] (by decide +kernel) (by decide +kernel)
set_option maxRecDepth 20000 in
theorem gX12_handle_Jx4a65c_isEmpty_aae02_f216Jx4a65c : GoodIn wsX12_handle (va_wsF RX12 216 RJx4a65c ⟨"java/util/List", "isEmpty", "()Z"⟩ yJx4a65c_isEmpty_aae02 wsJx4a65c_isEmpty_aae02) := goodIn_app (goodIn_of _ (by decide +kernel)) ggX12_handle_Jx4a65c_isEmpty_aae02
theorem dX12_handle_0 : decode cX12_handle 0 = .ok (.aload_n 0, 1) := by decide +kernel
theorem dX12_handle_1 : decode cX12_handle 1 = .ok (.iload_n 1, 1) := by decide +kernel
theorem dX12_handle_2 : decode cX12_handle 2 = .ok (.aload_n 0, 1) := by decide +kernel
theorem dX12_handle_3 : decode cX12_handle 3 = .ok (.invokevirtual 267, 3) := by decide +kernel
theorem dX12_handle_6 : decode cX12_handle 6 = .ok (.invokevirtual 256, 3) := by decide +kernel
theorem dX12_handle_9 : decode cX12_handle 9 = .ok (.ifCond .eq 10, 3) := by decide +kernel
theorem dX12_handle_12 : decode cX12_handle 12 = .ok (.aload_n 0, 1) := by decide +kernel
theorem dX12_handle_13 : decode cX12_handle 13 = .ok (.iload_n 1, 1) := by decide +kernel
theorem dX12_handle_14 : decode cX12_handle 14 = .ok (.iconst 4, 1) := by decide +kernel
theorem dX12_handle_15 : decode cX12_handle 15 = .ok (.invokevirtual 252, 3) := by decide +kernel
theorem dX12_handle_18 : decode cX12_handle 18 = .ok (.return_, 1) := by decide +kernel
theorem dX12_handle_19 : decode cX12_handle 19 = .ok (.aload_n 0, 1) := by decide +kernel
theorem dX12_handle_20 : decode cX12_handle 20 = .ok (.getfield 24, 3) := by decide +kernel
theorem dX12_handle_23 : decode cX12_handle 23 = .ok (.aload_n 0, 1) := by decide +kernel
theorem dX12_handle_24 : decode cX12_handle 24 = .ok (.getfield 24, 3) := by decide +kernel
theorem dX12_handle_27 : decode cX12_handle 27 = .ok (.invokeinterface 174 1, 5) := by decide +kernel
theorem dX12_handle_32 : decode cX12_handle 32 = .ok (.iconst 1, 1) := by decide +kernel
theorem dX12_handle_33 : decode cX12_handle 33 = .ok (.isub, 1) := by decide +kernel
theorem dX12_handle_34 : decode cX12_handle 34 = .ok (.invokeinterface 66 2, 5) := by decide +kernel
theorem dX12_handle_39 : decode cX12_handle 39 = .ok (.checkcast 219, 3) := by decide +kernel
theorem dX12_handle_42 : decode cX12_handle 42 = .ok (.astore_n 2, 1) := by decide +kernel
theorem dX12_handle_43 : decode cX12_handle 43 = .ok (.aload_n 2, 1) := by decide +kernel
theorem dX12_handle_44 : decode cX12_handle 44 = .ok (.iconst 1, 1) := by decide +kernel
theorem dX12_handle_45 : decode cX12_handle 45 = .ok (.dup2, 1) := by decide +kernel
theorem dX12_handle_46 : decode cX12_handle 46 = .ok (.iaload, 1) := by decide +kernel
theorem dX12_handle_47 : decode cX12_handle 47 = .ok (.iconst 1, 1) := by decide +kernel
theorem dX12_handle_48 : decode cX12_handle 48 = .ok (.isub, 1) := by decide +kernel
theorem dX12_handle_49 : decode cX12_handle 49 = .ok (.iastore, 1) := by decide +kernel
theorem dX12_handle_50 : decode cX12_handle 50 = .ok (.aload_n 2, 1) := by decide +kernel
theorem dX12_handle_51 : decode cX12_handle 51 = .ok (.iconst 1, 1) := by decide +kernel
theorem dX12_handle_52 : decode cX12_handle 52 = .ok (.iaload, 1) := by decide +kernel
theorem dX12_handle_53 : decode cX12_handle 53 = .ok (.ifCond .le 4, 3) := by decide +kernel
theorem dX12_handle_56 : decode cX12_handle 56 = .ok (.return_, 1) := by decide +kernel
theorem dX12_handle_57 : decode cX12_handle 57 = .ok (.aload_n 0, 1) := by decide +kernel
theorem dX12_handle_58 : decode cX12_handle 58 = .ok (.getfield 24, 3) := by decide +kernel
theorem dX12_handle_61 : decode cX12_handle 61 = .ok (.aload_n 0, 1) := by decide +kernel
theorem dX12_handle_62 : decode cX12_handle 62 = .ok (.getfield 24, 3) := by decide +kernel
theorem dX12_handle_65 : decode cX12_handle 65 = .ok (.invokeinterface 174 1, 5) := by decide +kernel
theorem dX12_handle_70 : decode cX12_handle 70 = .ok (.iconst 1, 1) := by decide +kernel
theorem dX12_handle_71 : decode cX12_handle 71 = .ok (.isub, 1) := by decide +kernel
theorem dX12_handle_72 : decode cX12_handle 72 = .ok (.invokeinterface 270 2, 5) := by decide +kernel
theorem dX12_handle_77 : decode cX12_handle 77 = .ok (.pop, 1) := by decide +kernel
theorem dX12_handle_78 : decode cX12_handle 78 = .ok (.aload_n 0, 1) := by decide +kernel
theorem dX12_handle_79 : decode cX12_handle 79 = .ok (.getfield 21, 3) := by decide +kernel
theorem dX12_handle_82 : decode cX12_handle 82 = .ok (.aload_n 2, 1) := by decide +kernel
theorem dX12_handle_83 : decode cX12_handle 83 = .ok (.iconst 0, 1) := by decide +kernel
theorem dX12_handle_84 : decode cX12_handle 84 = .ok (.iaload, 1) := by decide +kernel
theorem dX12_handle_85 : decode cX12_handle 85 = .ok (.invokeinterface 66 2, 5) := by decide +kernel
theorem dX12_handle_90 : decode cX12_handle 90 = .ok (.checkcast 50, 3) := by decide +kernel
theorem dX12_handle_93 : decode cX12_handle 93 = .ok (.astore_n 3, 1) := by decide +kernel
theorem dX12_handle_94 : decode cX12_handle 94 = .ok (.aload_n 3, 1) := by decide +kernel
theorem dX12_handle_95 : decode cX12_handle 95 = .ok (.dup, 1) := by decide +kernel
theorem dX12_handle_96 : decode cX12_handle 96 = .ok (.getfield 273, 3) := by decide +kernel
theorem dX12_handle_99 : decode cX12_handle 99 = .ok (.iconst 1, 1) := by decide +kernel
theorem dX12_handle_100 : decode cX12_handle 100 = .ok (.iadd, 1) := by decide +kernel
theorem dX12_handle_101 : decode cX12_handle 101 = .ok (.putfield 273, 3) := by decide +kernel
theorem dX12_handle_104 : decode cX12_handle 104 = .ok (.aload_n 3, 1) := by decide +kernel
theorem dX12_handle_105 : decode cX12_handle 105 = .ok (.getfield 145, 3) := by decide +kernel
theorem dX12_handle_108 : decode cX12_handle 108 = .ok (.istore 4, 2) := by decide +kernel
theorem dX12_handle_110 : decode cX12_handle 110 = .ok (.aload_n 3, 1) := by decide +kernel
theorem dX12_handle_111 : decode cX12_handle 111 = .ok (.getfield 144, 3) := by decide +kernel
theorem dX12_handle_114 : decode cX12_handle 114 = .ok (.lookupswitch 139 #[(102, 131), (112, 50), (113, 110), (115, 76), (120, 76)], 50) := by decide +kernel
theorem dX12_handle_164 : decode cX12_handle 164 = .ok (.aload_n 0, 1) := by decide +kernel
theorem dX12_handle_165 : decode cX12_handle 165 = .ok (.iload 4, 2) := by decide +kernel
theorem dX12_handle_167 : decode cX12_handle 167 = .ok (.aload_n 0, 1) := by decide +kernel
theorem dX12_handle_168 : decode cX12_handle 168 = .ok (.getfield 171, 3) := by decide +kernel
theorem dX12_handle_171 : decode cX12_handle 171 = .ok (.iload 4, 2) := by decide +kernel
theorem dX12_handle_173 : decode cX12_handle 173 = .ok (.ishr, 1) := by decide +kernel
theorem dX12_handle_174 : decode cX12_handle 174 = .ok (.iconst 1, 1) := by decide +kernel
theorem dX12_handle_175 : decode cX12_handle 175 = .ok (.iand, 1) := by decide +kernel
theorem dX12_handle_176 : decode cX12_handle 176 = .ok (.ifCond .ne 7, 3) := by decide +kernel
theorem dX12_handle_179 : decode cX12_handle 179 = .ok (.iconst 1, 1) := by decide +kernel
theorem dX12_handle_180 : decode cX12_handle 180 = .ok (.goto 4, 3) := by decide +kernel
theorem dX12_handle_183 : decode cX12_handle 183 = .ok (.iconst 0, 1) := by decide +kernel
theorem dX12_handle_184 : decode cX12_handle 184 = .ok (.invokevirtual 184, 3) := by decide +kernel
theorem dX12_handle_187 : decode cX12_handle 187 = .ok (.goto 66, 3) := by decide +kernel
theorem dX12_handle_190 : decode cX12_handle 190 = .ok (.aload_n 0, 1) := by decide +kernel
theorem dX12_handle_191 : decode cX12_handle 191 = .ok (.getfield 18, 3) := by decide +kernel
theorem dX12_handle_194 : decode cX12_handle 194 = .ok (.iload 4, 2) := by decide +kernel
theorem dX12_handle_196 : decode cX12_handle 196 = .ok (.invokeinterface 66 2, 5) := by decide +kernel
theorem dX12_handle_201 : decode cX12_handle 201 = .ok (.checkcast 47, 3) := by decide +kernel
theorem dX12_handle_204 : decode cX12_handle 204 = .ok (.aload_n 3, 1) := by decide +kernel
theorem dX12_handle_205 : decode cX12_handle 205 = .ok (.getfield 144, 3) := by decide +kernel
theorem dX12_handle_208 : decode cX12_handle 208 = .ok (.bipush 115, 2) := by decide +kernel
theorem dX12_handle_210 : decode cX12_handle 210 = .ok (.if_icmp .ne 7, 3) := by decide +kernel
theorem dX12_handle_213 : decode cX12_handle 213 = .ok (.iconst 1, 1) := by decide +kernel
theorem dX12_handle_214 : decode cX12_handle 214 = .ok (.goto 4, 3) := by decide +kernel
theorem dX12_handle_217 : decode cX12_handle 217 = .ok (.iconst 0, 1) := by decide +kernel
theorem dX12_handle_218 : decode cX12_handle 218 = .ok (.putfield 123, 3) := by decide +kernel
theorem dX12_handle_221 : decode cX12_handle 221 = .ok (.goto 32, 3) := by decide +kernel
theorem dX12_handle_224 : decode cX12_handle 224 = .ok (.aload_n 0, 1) := by decide +kernel
theorem dX12_handle_225 : decode cX12_handle 225 = .ok (.getfield 21, 3) := by decide +kernel
theorem dX12_handle_228 : decode cX12_handle 228 = .ok (.iload 4, 2) := by decide +kernel
theorem dX12_handle_230 : decode cX12_handle 230 = .ok (.invokeinterface 66 2, 5) := by decide +kernel
theorem dX12_handle_235 : decode cX12_handle 235 = .ok (.checkcast 50, 3) := by decide +kernel
theorem dX12_handle_238 : decode cX12_handle 238 = .ok (.iconst 1, 1) := by decide +kernel
theorem dX12_handle_239 : decode cX12_handle 239 = .ok (.putfield 164, 3) := by decide +kernel
theorem dX12_handle_242 : decode cX12_handle 242 = .ok (.goto 11, 3) := by decide +kernel
theorem dX12_handle_245 : decode cX12_handle 245 = .ok (.aload_n 0, 1) := by decide +kernel
theorem dX12_handle_246 : decode cX12_handle 246 = .ok (.invokevirtual 167, 3) := by decide +kernel
theorem dX12_handle_249 : decode cX12_handle 249 = .ok (.ifCond .eq 4, 3) := by decide +kernel
theorem dX12_handle_252 : decode cX12_handle 252 = .ok (.return_, 1) := by decide +kernel
theorem dX12_handle_253 : decode cX12_handle 253 = .ok (.aload_n 0, 1) := by decide +kernel
theorem dX12_handle_254 : decode cX12_handle 254 = .ok (.invokevirtual 249, 3) := by decide +kernel
theorem dX12_handle_257 : decode cX12_handle 257 = .ok (.istore 5, 2) := by decide +kernel
theorem dX12_handle_259 : decode cX12_handle 259 = .ok (.iload 5, 2) := by decide +kernel
theorem dX12_handle_261 : decode cX12_handle 261 = .ok (.iconst (-1), 1) := by decide +kernel
theorem dX12_handle_262 : decode cX12_handle 262 = .ok (.if_icmp .eq 48, 3) := by decide +kernel
theorem dX12_handle_265 : decode cX12_handle 265 = .ok (.aload_n 0, 1) := by decide +kernel
theorem dX12_handle_266 : decode cX12_handle 266 = .ok (.getfield 24, 3) := by decide +kernel
theorem dX12_handle_269 : decode cX12_handle 269 = .ok (.invokeinterface 216 1, 5) := by decide +kernel
theorem dX12_handle_274 : decode cX12_handle 274 = .ok (.ifCond .ne 16, 3) := by decide +kernel
theorem dX12_handle_277 : decode cX12_handle 277 = .ok (.aload_n 0, 1) := by decide +kernel
theorem dX12_handle_278 : decode cX12_handle 278 = .ok (.iload 5, 2) := by decide +kernel
theorem dX12_handle_280 : decode cX12_handle 280 = .ok (.aload_n 0, 1) := by decide +kernel
theorem dX12_handle_281 : decode cX12_handle 281 = .ok (.invokevirtual 267, 3) := by decide +kernel
theorem dX12_handle_284 : decode cX12_handle 284 = .ok (.invokevirtual 256, 3) := by decide +kernel
theorem dX12_handle_287 : decode cX12_handle 287 = .ok (.ifCond .eq 23, 3) := by decide +kernel
