theorem dX12_runByBeats_37 : decode cX12_runByBeats 37 = .ok (.ireturn, 1) := by decide +kernel
set_option maxRecDepth 20000 in
theorem ggX12_beatsTo_Jx4a65c_get_915e3 : GoodIn wsX12_beatsTo wsJx4a65c_get_915e3 := goodIn_r _ [14, 15, 16, 17, 18, 19, 20, 21, 22, 23, 24, 25, 26, 13, 27, 28, 61, 62, 63] (by decide +kernel) (by decide +kernel)
set_option maxRecDepth 20000 in
theorem gX12_beatsTo_Jx4a65c_get_915e3_f66Jx4a65c : GoodIn wsX12_beatsTo (va_wsF RX12 66 RJx4a65c ⟨"java/util/List", "get", "(I)Ljava/lang/Object;"⟩ yJx4a65c_get_915e3 wsJx4a65c_get_915e3) := goodIn_app (goodIn_of _ (by decide +kernel)) ggX12_beatsTo_Jx4a65c_get_915e3
set_option maxRecDepth 20000 in
theorem ggX12_beatsTo_X12_beatsTo : GoodIn wsX12_beatsTo wsX12_beatsTo := goodIn_r _ [0, 1, 2, 3, 4, 5, 6, 7, 8, 9, 10, 11, 12, 13, 14, 15, 16, 17, 18, 19, 20, 21, 22, 23, 24, 25, 26, 27, 28, 29, 30, 31, 32, 33, 34, 35, 36, 37, 38, 39, 40, 41, 42, 43, 44, 45, 46, 47, 48, 49, 50, 51, 52, 53, 54, 55, 56, 57, 58, 59, 60, 61, 62, 63] (by decide +kernel) (by decide +kernel)
set_option maxRecDepth 20000 in
theorem gX12_beatsTo_X12_beatsTo : GoodIn wsX12_beatsTo (wsV RX12 297 RX12 yX12_beatsTo wsX12_beatsTo) := goodIn_app (goodIn_of _ (by decide +kernel)) ggX12_beatsTo_X12_beatsTo
theorem dX12_beatsTo_0 : decode cX12_beatsTo 0 = .ok (.aload_n 0, 1) := by decide +kernel
theorem dX12_beatsTo_1 : decode cX12_beatsTo 1 = .ok (.getfield 12, 3) := by decide +kernel
theorem dX12_beatsTo_4 : decode cX12_beatsTo 4 = .ok (.iload_n 1, 1) := by decide +kernel
theorem dX12_beatsTo_5 : decode cX12_beatsTo 5 = .ok (.invokeinterface 66 2, 5) := by decide +kernel
theorem dX12_beatsTo_10 : decode cX12_beatsTo 10 = .ok (.checkcast 38, 3) := by decide +kernel
theorem dX12_beatsTo_13 : decode cX12_beatsTo 13 = .ok (.astore 4, 2) := by decide +kernel
theorem dX12_beatsTo_15 : decode cX12_beatsTo 15 = .ok (.iload_n 1, 1) := by decide +kernel
theorem dX12_beatsTo_16 : decode cX12_beatsTo 16 = .ok (.ifCond .ne 5, 3) := by decide +kernel
theorem dX12_beatsTo_19 : decode cX12_beatsTo 19 = .ok (.lload_n 2, 1) := by decide +kernel
theorem dX12_beatsTo_20 : decode cX12_beatsTo 20 = .ok (.lreturn, 1) := by decide +kernel
theorem dX12_beatsTo_21 : decode cX12_beatsTo 21 = .ok (.aload 4, 2) := by decide +kernel
theorem dX12_beatsTo_23 : decode cX12_beatsTo 23 = .ok (.getfield 76, 3) := by decide +kernel
theorem dX12_beatsTo_26 : decode cX12_beatsTo 26 = .ok (.ifCond .eq 20, 3) := by decide +kernel
theorem dX12_beatsTo_29 : decode cX12_beatsTo 29 = .ok (.aload_n 0, 1) := by decide +kernel
theorem dX12_beatsTo_30 : decode cX12_beatsTo 30 = .ok (.getfield 30, 3) := by decide +kernel
theorem dX12_beatsTo_33 : decode cX12_beatsTo 33 = .ok (.bipush 122, 2) := by decide +kernel
theorem dX12_beatsTo_35 : decode cX12_beatsTo 35 = .ok (.if_icmp .ne 15, 3) := by decide +kernel
theorem dX12_beatsTo_38 : decode cX12_beatsTo 38 = .ok (.aload_n 0, 1) := by decide +kernel
theorem dX12_beatsTo_39 : decode cX12_beatsTo 39 = .ok (.getfield 150, 3) := by decide +kernel
theorem dX12_beatsTo_42 : decode cX12_beatsTo 42 = .ok (.iconst 2, 1) := by decide +kernel
theorem dX12_beatsTo_43 : decode cX12_beatsTo 43 = .ok (.if_icmp .ne 7, 3) := by decide +kernel
theorem dX12_beatsTo_46 : decode cX12_beatsTo 46 = .ok (.ldc2_w 289, 3) := by decide +kernel
theorem dX12_beatsTo_49 : decode cX12_beatsTo 49 = .ok (.lreturn, 1) := by decide +kernel
theorem dX12_beatsTo_50 : decode cX12_beatsTo 50 = .ok (.iconst 1, 1) := by decide +kernel
theorem dX12_beatsTo_51 : decode cX12_beatsTo 51 = .ok (.aload 4, 2) := by decide +kernel
theorem dX12_beatsTo_53 : decode cX12_beatsTo 53 = .ok (.getfield 70, 3) := by decide +kernel
theorem dX12_beatsTo_56 : decode cX12_beatsTo 56 = .ok (.aload 4, 2) := by decide +kernel
theorem dX12_beatsTo_58 : decode cX12_beatsTo 58 = .ok (.getfield 230, 3) := by decide +kernel
theorem dX12_beatsTo_61 : decode cX12_beatsTo 61 = .ok (.isub, 1) := by decide +kernel
theorem dX12_beatsTo_62 : decode cX12_beatsTo 62 = .ok (.invokestatic 291, 3) := by decide +kernel
theorem dX12_beatsTo_65 : decode cX12_beatsTo 65 = .ok (.i2l, 1) := by decide +kernel
theorem dX12_beatsTo_66 : decode cX12_beatsTo 66 = .ok (.lload_n 2, 1) := by decide +kernel
theorem dX12_beatsTo_67 : decode cX12_beatsTo 67 = .ok (.lconst 1, 1) := by decide +kernel
theorem dX12_beatsTo_68 : decode cX12_beatsTo 68 = .ok (.lsub, 1) := by decide +kernel
theorem dX12_beatsTo_69 : decode cX12_beatsTo 69 = .ok (.aload 4, 2) := by decide +kernel
theorem dX12_beatsTo_71 : decode cX12_beatsTo 71 = .ok (.getfield 70, 3) := by decide +kernel
theorem dX12_beatsTo_74 : decode cX12_beatsTo 74 = .ok (.i2l, 1) := by decide +kernel
theorem dX12_beatsTo_75 : decode cX12_beatsTo 75 = .ok (.lmul, 1) := by decide +kernel
theorem dX12_beatsTo_76 : decode cX12_beatsTo 76 = .ok (.ladd, 1) := by decide +kernel
theorem dX12_beatsTo_77 : decode cX12_beatsTo 77 = .ok (.lstore 5, 2) := by decide +kernel
theorem dX12_beatsTo_79 : decode cX12_beatsTo 79 = .ok (.aload_n 0, 1) := by decide +kernel
theorem dX12_beatsTo_80 : decode cX12_beatsTo 80 = .ok (.aload 4, 2) := by decide +kernel
theorem dX12_beatsTo_82 : decode cX12_beatsTo 82 = .ok (.getfield 73, 3) := by decide +kernel
theorem dX12_beatsTo_85 : decode cX12_beatsTo 85 = .ok (.lload 5, 2) := by decide +kernel
theorem dX12_beatsTo_87 : decode cX12_beatsTo 87 = .ok (.invokevirtual 297, 3) := by decide +kernel
theorem dX12_beatsTo_90 : decode cX12_beatsTo 90 = .ok (.lreturn, 1) := by decide +kernel
set_option maxRecDepth 20000 in
theorem ggX12_beatsOf_X12_beatsTo : GoodIn wsX12_beatsOf wsX12_beatsTo := goodIn_r _ [13, 14, 15, 16, 17, 1, 2, 3, 4, 5, 18, 19, 20, 21, 22, 23, 24, 25, 26, 27, 28, 29, 30, 31, 32, 33, 34, 35, 36, 9, 10, 11, 12, 47, 48, 49, 50, 51, 52, 53, 54, 55, 56, 57, 58, 59, 60, 61, 62, 63, 64, 65, 66, 67, 68, 69, 70, 71, 72, 73, 74, 75, 76, 77] (by decide +kernel) (by decide +kernel)
set_option maxRecDepth 20000 in
theorem gX12_beatsOf_X12_beatsTo : GoodIn wsX12_beatsOf (wsV RX12 297 RX12 yX12_beatsTo wsX12_beatsTo) := goodIn_app (goodIn_of _ (by decide +kernel)) ggX12_beatsOf_X12_beatsTo
theorem dX12_beatsOf_0 : decode cX12_beatsOf 0 = .ok (.aload_n 1, 1) := by decide +kernel
theorem dX12_beatsOf_1 : decode cX12_beatsOf 1 = .ok (.getfield 123, 3) := by decide +kernel
theorem dX12_beatsOf_4 : decode cX12_beatsOf 4 = .ok (.ifCond .eq 11, 3) := by decide +kernel
theorem dX12_beatsOf_7 : decode cX12_beatsOf 7 = .ok (.aload_n 1, 1) := by decide +kernel
theorem dX12_beatsOf_8 : decode cX12_beatsOf 8 = .ok (.getfield 101, 3) := by decide +kernel
theorem dX12_beatsOf_11 : decode cX12_beatsOf 11 = .ok (.iconst (-1), 1) := by decide +kernel
theorem dX12_beatsOf_12 : decode cX12_beatsOf 12 = .ok (.if_icmp .eq 7, 3) := by decide +kernel
theorem dX12_beatsOf_15 : decode cX12_beatsOf 15 = .ok (.ldc2_w 289, 3) := by decide +kernel
theorem dX12_beatsOf_18 : decode cX12_beatsOf 18 = .ok (.lreturn, 1) := by decide +kernel
theorem dX12_beatsOf_19 : decode cX12_beatsOf 19 = .ok (.iconst 1, 1) := by decide +kernel
theorem dX12_beatsOf_20 : decode cX12_beatsOf 20 = .ok (.aload_n 1, 1) := by decide +kernel
theorem dX12_beatsOf_21 : decode cX12_beatsOf 21 = .ok (.getfield 89, 3) := by decide +kernel
theorem dX12_beatsOf_24 : decode cX12_beatsOf 24 = .ok (.aload_n 1, 1) := by decide +kernel
theorem dX12_beatsOf_25 : decode cX12_beatsOf 25 = .ok (.getfield 201, 3) := by decide +kernel
theorem dX12_beatsOf_28 : decode cX12_beatsOf 28 = .ok (.isub, 1) := by decide +kernel
theorem dX12_beatsOf_29 : decode cX12_beatsOf 29 = .ok (.invokestatic 291, 3) := by decide +kernel
theorem dX12_beatsOf_32 : decode cX12_beatsOf 32 = .ok (.istore_n 2, 1) := by decide +kernel
theorem dX12_beatsOf_33 : decode cX12_beatsOf 33 = .ok (.aload_n 1, 1) := by decide +kernel
theorem dX12_beatsOf_34 : decode cX12_beatsOf 34 = .ok (.getfield 95, 3) := by decide +kernel
theorem dX12_beatsOf_37 : decode cX12_beatsOf 37 = .ok (.aload_n 1, 1) := by decide +kernel
theorem dX12_beatsOf_38 : decode cX12_beatsOf 38 = .ok (.getfield 201, 3) := by decide +kernel
theorem dX12_beatsOf_41 : decode cX12_beatsOf 41 = .ok (.if_icmp .le 17, 3) := by decide +kernel
theorem dX12_beatsOf_44 : decode cX12_beatsOf 44 = .ok (.iload_n 2, 1) := by decide +kernel
theorem dX12_beatsOf_45 : decode cX12_beatsOf 45 = .ok (.aload_n 1, 1) := by decide +kernel
theorem dX12_beatsOf_46 : decode cX12_beatsOf 46 = .ok (.getfield 95, 3) := by decide +kernel
theorem dX12_beatsOf_49 : decode cX12_beatsOf 49 = .ok (.aload_n 1, 1) := by decide +kernel
theorem dX12_beatsOf_50 : decode cX12_beatsOf 50 = .ok (.getfield 201, 3) := by decide +kernel
theorem dX12_beatsOf_53 : decode cX12_beatsOf 53 = .ok (.isub, 1) := by decide +kernel
theorem dX12_beatsOf_54 : decode cX12_beatsOf 54 = .ok (.invokestatic 301, 3) := by decide +kernel
theorem dX12_beatsOf_57 : decode cX12_beatsOf 57 = .ok (.istore_n 2, 1) := by decide +kernel
theorem dX12_beatsOf_58 : decode cX12_beatsOf 58 = .ok (.aload_n 0, 1) := by decide +kernel
theorem dX12_beatsOf_59 : decode cX12_beatsOf 59 = .ok (.aload_n 1, 1) := by decide +kernel
theorem dX12_beatsOf_60 : decode cX12_beatsOf 60 = .ok (.getfield 92, 3) := by decide +kernel
theorem dX12_beatsOf_63 : decode cX12_beatsOf 63 = .ok (.iload_n 2, 1) := by decide +kernel
theorem dX12_beatsOf_64 : decode cX12_beatsOf 64 = .ok (.i2l, 1) := by decide +kernel
theorem dX12_beatsOf_65 : decode cX12_beatsOf 65 = .ok (.invokevirtual 297, 3) := by decide +kernel
theorem dX12_beatsOf_68 : decode cX12_beatsOf 68 = .ok (.lreturn, 1) := by decide +kernel
set_option maxRecDepth 20000 in
theorem ggX12_beatsOfProcessor_X12_first : GoodIn wsX12_beatsOfProcessor wsX12_first := goodIn_r _ [12, 13, 14, 15, 16, 17, 18, 19, 20, 21, 22, 23, 24, 25, 26, 27, 28, 29, 30, 31, 32, 33, 50, 51, 52, 53, 54, 55, 56, 57, 58, 59, 60, 61, 62, 63, 64, 65, 66, 67, 68, 69, 70, 71, 72, 73, 74, 75, 76, 77, 78, 79, 80, 81, 82] (by decide +kernel) (by decide +kernel)
set_option maxRecDepth 20000 in
theorem gX12_beatsOfProcessor_X12_first : GoodIn wsX12_beatsOfProcessor (wsV RX12 249 RX12 yX12_first wsX12_first) := goodIn_app (goodIn_of _ (by decide +kernel)) ggX12_beatsOfProcessor_X12_first
set_option maxRecDepth 20000 in
theorem ggX12_beatsOfProcessor_X12_isMoreUrgent : GoodIn wsX12_beatsOfProcessor wsX12_isMoreUrgent := goodIn_r _ [37, 13, 14, 15, 16, 17, 18, 19, 20, 21, 22, 23, 24, 25, 26, 27, 28, 29, 30, 31, 32, 33, 50, 51, 52, 53, 54, 55, 56, 57, 58, 59, 60, 61, 62, 63, 64, 65, 66, 67, 68, 69, 70, 71, 72, 73, 74, 75, 76, 77, 78, 79, 80, 81, 82] (by decide +kernel) (by decide +kernel)
set_option maxRecDepth 20000 in
theorem gX12_beatsOfProcessor_X12_isMoreUrgent : GoodIn wsX12_beatsOfProcessor (wsV RX12 256 RX12 yX12_isMoreUrgent wsX12_isMoreUrgent) := goodIn_app (goodIn_of _ (by decide +kernel)) ggX12_beatsOfProcessor_X12_isMoreUrgent
set_option maxRecDepth 20000 in
theorem ggX12_beatsOfProcessor_X12_top : GoodIn wsX12_beatsOfProcessor wsX12_top := goodIn_ca (goodIn_r _ [41, 6, 7, 42, 43, 44, 18, 45, 20, 46, 47, 48, 49, 15, 16, 17, 19, 21, 22, 23, 24, 25, 26, 27, 28, 29, 30, 31, 32, 33, 50, 51, 52, 53, 54, 55, 56, 57, 58, 59, 60, 61, 62, 63, 64, 65, 66, 67, 68, 69, 70, 71, 72, 80, 81, 82] (by decide +kernel) (by decide +kernel)) (goodIn_sub (fun _ h => List.mem_cons_of_mem _ (List.mem_append_right _ h)) (by decide +kernel))
set_option maxRecDepth 20000 in
theorem gX12_beatsOfProcessor_X12_top : GoodIn wsX12_beatsOfProcessor (wsV RX12 267 RX12 yX12_top wsX12_top) := goodIn_app (goodIn_of _ (by decide +kernel)) ggX12_beatsOfProcessor_X12_top
set_option maxRecDepth 20000 in
theorem ggX12_beatsOfProcessor_Jx4a65c_size_8abf5 : GoodIn wsX12_beatsOfProcessor wsJx4a65c_size_8abf5 := goodIn_r _ [49, 20, 80, 81, 82] (by decide +kernel) (by decide +kernel)
set_option maxRecDepth 20000 in
theorem gX12_beatsOfProcessor_Jx4a65c_size_8abf5_f174Jx4a65c : GoodIn wsX12_beatsOfProcessor (va_wsF RX12 174 RJx4a65c ⟨"java/util/List", "size", "()I"⟩ yJx4a65c_size_8abf5 wsJx4a65c_size_8abf5) := goodIn_app (goodIn_of _ (by decide +kernel)) ggX12_beatsOfProcessor_Jx4a65c_size_8abf5
set_option maxRecDepth 20000 in
theorem ggX12_beatsOfProcessor_Jx4a65c_get_915e3 : GoodIn wsX12_beatsOfProcessor wsJx4a65c_get_915e3 := goodIn_r _ [19, 20, 21, 22, 23, 24, 25, 26, 27, 28, 29, 30, 31, 18, 32, 33, 80, 81, 82] (by decide +kernel) (by decide +kernel)
set_option maxRecDepth 20000 in
theorem gX12_beatsOfProcessor_Jx4a65c_get_915e3_f66Jx4a65c : GoodIn wsX12_beatsOfProcessor (va_wsF RX12 66 RJx4a65c ⟨"java/util/List", "get", "(I)Ljava/lang/Object;"⟩ yJx4a65c_get_915e3 wsJx4a65c_get_915e3) := goodIn_app (goodIn_of _ (by decide +kernel)) ggX12_beatsOfProcessor_Jx4a65c_get_915e3
theorem dX12_beatsOfProcessor_0 : decode cX12_beatsOfProcessor 0 = .ok (.aload_n 0, 1) := by decide +kernel
theorem dX12_beatsOfProcessor_1 : decode cX12_beatsOfProcessor 1 = .ok (.invokevirtual 249, 3) := by decide +kernel
theorem dX12_beatsOfProcessor_4 : decode cX12_beatsOfProcessor 4 = .ok (.istore_n 1, 1) := by decide +kernel
theorem dX12_beatsOfProcessor_5 : decode cX12_beatsOfProcessor 5 = .ok (.aload_n 0, 1) := by decide +kernel
theorem dX12_beatsOfProcessor_6 : decode cX12_beatsOfProcessor 6 = .ok (.getfield 30, 3) := by decide +kernel
theorem dX12_beatsOfProcessor_9 : decode cX12_beatsOfProcessor 9 = .ok (.lookupswitch 141 #[(101, 76), (104, 98), (105, 43), (122, 63)], 43) := by decide +kernel
theorem dX12_beatsOfProcessor_52 : decode cX12_beatsOfProcessor 52 = .ok (.iload_n 1, 1) := by decide +kernel
theorem dX12_beatsOfProcessor_53 : decode cX12_beatsOfProcessor 53 = .ok (.iconst (-1), 1) := by decide +kernel
theorem dX12_beatsOfProcessor_54 : decode cX12_beatsOfProcessor 54 = .ok (.if_icmp .ne 10, 3) := by decide +kernel
theorem dX12_beatsOfProcessor_57 : decode cX12_beatsOfProcessor 57 = .ok (.aload_n 0, 1) := by decide +kernel
theorem dX12_beatsOfProcessor_58 : decode cX12_beatsOfProcessor 58 = .ok (.getfield 150, 3) := by decide +kernel
theorem dX12_beatsOfProcessor_61 : decode cX12_beatsOfProcessor 61 = .ok (.ifCond .eq 7, 3) := by decide +kernel
theorem dX12_beatsOfProcessor_64 : decode cX12_beatsOfProcessor 64 = .ok (.lconst 1, 1) := by decide +kernel
theorem dX12_beatsOfProcessor_65 : decode cX12_beatsOfProcessor 65 = .ok (.goto 6, 3) := by decide +kernel
theorem dX12_beatsOfProcessor_68 : decode cX12_beatsOfProcessor 68 = .ok (.ldc2_w 289, 3) := by decide +kernel
theorem dX12_beatsOfProcessor_71 : decode cX12_beatsOfProcessor 71 = .ok (.lreturn, 1) := by decide +kernel
theorem dX12_beatsOfProcessor_72 : decode cX12_beatsOfProcessor 72 = .ok (.iload_n 1, 1) := by decide +kernel
theorem dX12_beatsOfProcessor_73 : decode cX12_beatsOfProcessor 73 = .ok (.iconst (-1), 1) := by decide +kernel
theorem dX12_beatsOfProcessor_74 : decode cX12_beatsOfProcessor 74 = .ok (.if_icmp .eq 7, 3) := by decide +kernel
theorem dX12_beatsOfProcessor_77 : decode cX12_beatsOfProcessor 77 = .ok (.lconst 1, 1) := by decide +kernel
theorem dX12_beatsOfProcessor_78 : decode cX12_beatsOfProcessor 78 = .ok (.goto 6, 3) := by decide +kernel
theorem dX12_beatsOfProcessor_81 : decode cX12_beatsOfProcessor 81 = .ok (.ldc2_w 289, 3) := by decide +kernel
theorem dX12_beatsOfProcessor_84 : decode cX12_beatsOfProcessor 84 = .ok (.lreturn, 1) := by decide +kernel
theorem dX12_beatsOfProcessor_85 : decode cX12_beatsOfProcessor 85 = .ok (.aload_n 0, 1) := by decide +kernel
theorem dX12_beatsOfProcessor_86 : decode cX12_beatsOfProcessor 86 = .ok (.iload_n 1, 1) := by decide +kernel
theorem dX12_beatsOfProcessor_87 : decode cX12_beatsOfProcessor 87 = .ok (.aload_n 0, 1) := by decide +kernel
theorem dX12_beatsOfProcessor_88 : decode cX12_beatsOfProcessor 88 = .ok (.getfield 221, 3) := by decide +kernel
theorem dX12_beatsOfProcessor_91 : decode cX12_beatsOfProcessor 91 = .ok (.invokevirtual 256, 3) := by decide +kernel
theorem dX12_beatsOfProcessor_94 : decode cX12_beatsOfProcessor 94 = .ok (.ifCond .eq 7, 3) := by decide +kernel
theorem dX12_beatsOfProcessor_97 : decode cX12_beatsOfProcessor 97 = .ok (.lconst 1, 1) := by decide +kernel
theorem dX12_beatsOfProcessor_98 : decode cX12_beatsOfProcessor 98 = .ok (.goto 8, 3) := by decide +kernel
theorem dX12_beatsOfProcessor_101 : decode cX12_beatsOfProcessor 101 = .ok (.aload_n 0, 1) := by decide +kernel
theorem dX12_beatsOfProcessor_102 : decode cX12_beatsOfProcessor 102 = .ok (.getfield 224, 3) := by decide +kernel
theorem dX12_beatsOfProcessor_105 : decode cX12_beatsOfProcessor 105 = .ok (.i2l, 1) := by decide +kernel
theorem dX12_beatsOfProcessor_106 : decode cX12_beatsOfProcessor 106 = .ok (.lreturn, 1) := by decide +kernel
theorem dX12_beatsOfProcessor_107 : decode cX12_beatsOfProcessor 107 = .ok (.aload_n 0, 1) := by decide +kernel
theorem dX12_beatsOfProcessor_108 : decode cX12_beatsOfProcessor 108 = .ok (.iload_n 1, 1) := by decide +kernel
theorem dX12_beatsOfProcessor_109 : decode cX12_beatsOfProcessor 109 = .ok (.aload_n 0, 1) := by decide +kernel
theorem dX12_beatsOfProcessor_110 : decode cX12_beatsOfProcessor 110 = .ok (.invokevirtual 267, 3) := by decide +kernel
theorem dX12_beatsOfProcessor_113 : decode cX12_beatsOfProcessor 113 = .ok (.invokevirtual 256, 3) := by decide +kernel
theorem dX12_beatsOfProcessor_116 : decode cX12_beatsOfProcessor 116 = .ok (.ifCond .eq 7, 3) := by decide +kernel
theorem dX12_beatsOfProcessor_119 : decode cX12_beatsOfProcessor 119 = .ok (.lconst 1, 1) := by decide +kernel
theorem dX12_beatsOfProcessor_120 : decode cX12_beatsOfProcessor 120 = .ok (.goto 29, 3) := by decide +kernel
theorem dX12_beatsOfProcessor_123 : decode cX12_beatsOfProcessor 123 = .ok (.aload_n 0, 1) := by decide +kernel
theorem dX12_beatsOfProcessor_124 : decode cX12_beatsOfProcessor 124 = .ok (.getfield 24, 3) := by decide +kernel
theorem dX12_beatsOfProcessor_127 : decode cX12_beatsOfProcessor 127 = .ok (.aload_n 0, 1) := by decide +kernel
theorem dX12_beatsOfProcessor_128 : decode cX12_beatsOfProcessor 128 = .ok (.getfield 24, 3) := by decide +kernel
theorem dX12_beatsOfProcessor_131 : decode cX12_beatsOfProcessor 131 = .ok (.invokeinterface 174 1, 5) := by decide +kernel
theorem dX12_beatsOfProcessor_136 : decode cX12_beatsOfProcessor 136 = .ok (.iconst 1, 1) := by decide +kernel
theorem dX12_beatsOfProcessor_137 : decode cX12_beatsOfProcessor 137 = .ok (.isub, 1) := by decide +kernel
theorem dX12_beatsOfProcessor_138 : decode cX12_beatsOfProcessor 138 = .ok (.invokeinterface 66 2, 5) := by decide +kernel
theorem dX12_beatsOfProcessor_143 : decode cX12_beatsOfProcessor 143 = .ok (.checkcast 219, 3) := by decide +kernel
theorem dX12_beatsOfProcessor_146 : decode cX12_beatsOfProcessor 146 = .ok (.iconst 1, 1) := by decide +kernel
theorem dX12_beatsOfProcessor_147 : decode cX12_beatsOfProcessor 147 = .ok (.iaload, 1) := by decide +kernel
theorem dX12_beatsOfProcessor_148 : decode cX12_beatsOfProcessor 148 = .ok (.i2l, 1) := by decide +kernel
theorem dX12_beatsOfProcessor_149 : decode cX12_beatsOfProcessor 149 = .ok (.lreturn, 1) := by decide +kernel
theorem dX12_beatsOfProcessor_150 : decode cX12_beatsOfProcessor 150 = .ok (.aload_n 0, 1) := by decide +kernel
theorem dX12_beatsOfProcessor_151 : decode cX12_beatsOfProcessor 151 = .ok (.getfield 224, 3) := by decide +kernel
theorem dX12_beatsOfProcessor_154 : decode cX12_beatsOfProcessor 154 = .ok (.i2l, 1) := by decide +kernel
theorem dX12_beatsOfProcessor_155 : decode cX12_beatsOfProcessor 155 = .ok (.lreturn, 1) := by decide +kernel
set_option maxRecDepth 20000 in
theorem ggX12_toEvent_X12_beatsOfProcessor : GoodIn wsX12_toEvent wsX12_beatsOfProcessor := goodIn_ca (goodIn_r _ [16, 17, 18, 10, 19, 20, 21, 22, 23, 24, 25, 15, 26, 27, 28, 29, 30, 31, 32, 33, 34, 35, 36, 37, 38, 39, 40, 41, 42, 43, 44, 45, 46, 47, 48, 49, 50, 51, 52, 53, 54, 55, 56, 57, 58, 59, 60, 61, 62, 63, 112, 113, 114, 115, 116, 117, 118, 119, 120, 121, 122, 123, 124, 125, 126, 127, 128, 129, 130, 131, 132, 133, 134, 135, 136, 137, 138, 139, 140, 141, 142, 143, 144] (by decide +kernel) (by decide +kernel)) (goodIn_sub (fun _ h => List.mem_cons_of_mem _ (List.mem_append_right _ h)) (by decide +kernel))
set_option maxRecDepth 20000 in
theorem gX12_toEvent_X12_beatsOfProcessor : GoodIn wsX12_toEvent (wsV RX12 304 RX12 yX12_beatsOfProcessor wsX12_beatsOfProcessor) := goodIn_app (goodIn_of _ (by decide +kernel)) ggX12_toEvent_X12_beatsOfProcessor
set_option maxRecDepth 20000 in
theorem ggX12_toEvent_Jx4a65c_iterator_32c93 : GoodIn wsX12_toEvent wsJx4a65c_iterator_32c93 := goodIn_r _ [67, 68, 69, 70, 71, 72, 73, 74, 75, 76, 77, 78, 79, 80, 81, 145, 146, 147, 148, 142, 143, 144] (by decide +kernel) (by decide +kernel)
set_option maxRecDepth 20000 in
theorem gX12_toEvent_Jx4a65c_iterator_32c93_f188Jx4a65c : GoodIn wsX12_toEvent (va_wsF RX12 188 RJx4a65c ⟨"java/util/List", "iterator", "()Ljava/util/Iterator;"⟩ yJx4a65c_iterator_32c93 wsJx4a65c_iterator_32c93) := goodIn_app (goodIn_of _ (by decide +kernel)) ggX12_toEvent_Jx4a65c_iterator_32c93
set_option maxRecDepth 20000 in
theorem ggX12_toEvent_Jx35411_hasNext_aae02 : GoodIn wsX12_toEvent wsJx35411_hasNext_aae02 := goodIn_r _ [85, 86, 74, 145, 146, 147, 148, 142, 143, 144] (by decide +kernel) (by decide +kernel)
set_option maxRecDepth 20000 in
theorem gX12_toEvent_Jx35411_hasNext_aae02_f192Jx35411 : GoodIn wsX12_toEvent (va_wsF RX12 192 RJx35411 ⟨"java/util/Iterator", "hasNext", "()Z"⟩ yJx35411_hasNext_aae02 wsJx35411_hasNext_aae02) := goodIn_app (goodIn_of _ (by decide +kernel)) ggX12_toEvent_Jx35411_hasNext_aae02
set_option maxRecDepth 20000 in
theorem ggX12_toEvent_Jx35411_next_0502b : GoodIn wsX12_toEvent wsJx35411_next_0502b := goodIn_r _ [90, 86, 74, 91, 78, 92, 93, 94, 70, 95, 79, 80, 81, 145, 146, 147, 148, 142, 143, 144] (by decide +kernel) (by decide +kernel)
set_option maxRecDepth 20000 in
theorem gX12_toEvent_Jx35411_next_0502b_f197Jx35411 : GoodIn wsX12_toEvent (va_wsF RX12 197 RJx35411 ⟨"java/util/Iterator", "next", "()Ljava/lang/Object;"⟩ yJx35411_next_0502b wsJx35411_next_0502b) := goodIn_app (goodIn_of _ (by decide +kernel)) ggX12_toEvent_Jx35411_next_0502b
set_option maxRecDepth 20000 in
theorem ggX12_toEvent_X12_beatsOf : GoodIn wsX12_toEvent wsX12_beatsOf := goodIn_r _ [99, 10, 100, 101, 5, 102, 103, 104, 105, 106, 107, 108, 15, 109, 110, 111, 17, 18, 29, 30, 31, 32, 33, 34, 35, 36, 37, 38, 39, 40, 41, 42, 43, 44, 45, 46, 47, 149, 150, 151, 152, 153, 154, 155, 156, 157, 158, 112, 113, 114, 115, 116, 117, 118, 119, 120, 121, 122, 123, 124, 125, 126, 127, 128, 129, 130, 131, 132, 133, 134, 159, 160, 161, 162, 163, 142, 143, 144] (by decide +kernel) (by decide +kernel)
set_option maxRecDepth 20000 in
theorem gX12_toEvent_X12_beatsOf : GoodIn wsX12_toEvent (wsV RX12 308 RX12 yX12_beatsOf wsX12_beatsOf) := goodIn_app (goodIn_of _ (by decide +kernel)) ggX12_toEvent_X12_beatsOf
set_option maxRecDepth 20000 in
theorem ggX12_toEvent_X12_beatsTo : GoodIn wsX12_toEvent wsX12_beatsTo := goodIn_r _ [109, 110, 111, 17, 18, 10, 100, 101, 5, 102, 29, 30, 31, 32, 33, 34, 35, 36, 37, 38, 39, 40, 41, 42, 43, 44, 45, 46, 47, 106, 107, 108, 15, 112, 113, 114, 115, 116, 117, 118, 119, 120, 121, 122, 123, 124, 125, 126, 127, 128, 129, 130, 131, 132, 133, 134, 159, 160, 161, 162, 163, 142, 143, 144] (by decide +kernel) (by decide +kernel)
set_option maxRecDepth 20000 in
theorem gX12_toEvent_X12_beatsTo : GoodIn wsX12_toEvent (wsV RX12 297 RX12 yX12_beatsTo wsX12_beatsTo) := goodIn_app (goodIn_of _ (by decide +kernel)) ggX12_toEvent_X12_beatsTo
theorem dX12_toEvent_0 : decode cX12_toEvent 0 = .ok (.aload_n 0, 1) := by decide +kernel
theorem dX12_toEvent_1 : decode cX12_toEvent 1 = .ok (.invokevirtual 304, 3) := by decide +kernel
theorem dX12_toEvent_4 : decode cX12_toEvent 4 = .ok (.lstore_n 1, 1) := by decide +kernel
theorem dX12_toEvent_5 : decode cX12_toEvent 5 = .ok (.aload_n 0, 1) := by decide +kernel
theorem dX12_toEvent_6 : decode cX12_toEvent 6 = .ok (.getfield 18, 3) := by decide +kernel
theorem dX12_toEvent_9 : decode cX12_toEvent 9 = .ok (.invokeinterface 188 1, 5) := by decide +kernel
theorem dX12_toEvent_14 : decode cX12_toEvent 14 = .ok (.astore_n 3, 1) := by decide +kernel
theorem dX12_toEvent_15 : decode cX12_toEvent 15 = .ok (.aload_n 3, 1) := by decide +kernel
theorem dX12_toEvent_16 : decode cX12_toEvent 16 = .ok (.invokeinterface 192 1, 5) := by decide +kernel
theorem dX12_toEvent_21 : decode cX12_toEvent 21 = .ok (.ifCond .eq 28, 3) := by decide +kernel
theorem dX12_toEvent_24 : decode cX12_toEvent 24 = .ok (.aload_n 3, 1) := by decide +kernel
theorem dX12_toEvent_25 : decode cX12_toEvent 25 = .ok (.invokeinterface 197 1, 5) := by decide +kernel
theorem dX12_toEvent_30 : decode cX12_toEvent 30 = .ok (.checkcast 47, 3) := by decide +kernel
theorem dX12_toEvent_33 : decode cX12_toEvent 33 = .ok (.astore 4, 2) := by decide +kernel
theorem dX12_toEvent_35 : decode cX12_toEvent 35 = .ok (.lload_n 1, 1) := by decide +kernel
theorem dX12_toEvent_36 : decode cX12_toEvent 36 = .ok (.aload_n 0, 1) := by decide +kernel
theorem dX12_toEvent_37 : decode cX12_toEvent 37 = .ok (.aload 4, 2) := by decide +kernel
theorem dX12_toEvent_39 : decode cX12_toEvent 39 = .ok (.invokevirtual 308, 3) := by decide +kernel
theorem dX12_toEvent_42 : decode cX12_toEvent 42 = .ok (.invokestatic 312, 3) := by decide +kernel
theorem dX12_toEvent_45 : decode cX12_toEvent 45 = .ok (.lstore_n 1, 1) := by decide +kernel
theorem dX12_toEvent_46 : decode cX12_toEvent 46 = .ok (.goto (-31), 3) := by decide +kernel
theorem dX12_toEvent_49 : decode cX12_toEvent 49 = .ok (.aload_n 0, 1) := by decide +kernel
theorem dX12_toEvent_50 : decode cX12_toEvent 50 = .ok (.getfield 34, 3) := by decide +kernel
theorem dX12_toEvent_53 : decode cX12_toEvent 53 = .ok (.iconst (-1), 1) := by decide +kernel
theorem dX12_toEvent_54 : decode cX12_toEvent 54 = .ok (.if_icmp .eq 26, 3) := by decide +kernel
theorem dX12_toEvent_57 : decode cX12_toEvent 57 = .ok (.lload_n 1, 1) := by decide +kernel
theorem dX12_toEvent_58 : decode cX12_toEvent 58 = .ok (.aload_n 0, 1) := by decide +kernel
theorem dX12_toEvent_59 : decode cX12_toEvent 59 = .ok (.aload_n 0, 1) := by decide +kernel
theorem dX12_toEvent_60 : decode cX12_toEvent 60 = .ok (.getfield 34, 3) := by decide +kernel
theorem dX12_toEvent_63 : decode cX12_toEvent 63 = .ok (.aload_n 0, 1) := by decide +kernel
theorem dX12_toEvent_64 : decode cX12_toEvent 64 = .ok (.getfield 158, 3) := by decide +kernel
theorem dX12_toEvent_67 : decode cX12_toEvent 67 = .ok (.aload_n 0, 1) := by decide +kernel
theorem dX12_toEvent_68 : decode cX12_toEvent 68 = .ok (.getfield 161, 3) := by decide +kernel
theorem dX12_toEvent_71 : decode cX12_toEvent 71 = .ok (.isub, 1) := by decide +kernel
theorem dX12_toEvent_72 : decode cX12_toEvent 72 = .ok (.i2l, 1) := by decide +kernel
theorem dX12_toEvent_73 : decode cX12_toEvent 73 = .ok (.invokevirtual 297, 3) := by decide +kernel
theorem dX12_toEvent_76 : decode cX12_toEvent 76 = .ok (.invokestatic 312, 3) := by decide +kernel
theorem dX12_toEvent_79 : decode cX12_toEvent 79 = .ok (.lstore_n 1, 1) := by decide +kernel
theorem dX12_toEvent_80 : decode cX12_toEvent 80 = .ok (.aload_n 0, 1) := by decide +kernel
theorem dX12_toEvent_81 : decode cX12_toEvent 81 = .ok (.lload_n 1, 1) := by decide +kernel
theorem dX12_toEvent_82 : decode cX12_toEvent 82 = .ok (.ldc2_w 289, 3) := by decide +kernel
theorem dX12_toEvent_85 : decode cX12_toEvent 85 = .ok (.lcmp, 1) := by decide +kernel
theorem dX12_toEvent_86 : decode cX12_toEvent 86 = .ok (.ifCond .lt 7, 3) := by decide +kernel
theorem dX12_toEvent_89 : decode cX12_toEvent 89 = .ok (.iconst 1, 1) := by decide +kernel
theorem dX12_toEvent_90 : decode cX12_toEvent 90 = .ok (.goto 4, 3) := by decide +kernel
theorem dX12_toEvent_93 : decode cX12_toEvent 93 = .ok (.iconst 0, 1) := by decide +kernel
theorem dX12_toEvent_94 : decode cX12_toEvent 94 = .ok (.putfield 53, 3) := by decide +kernel
theorem dX12_toEvent_97 : decode cX12_toEvent 97 = .ok (.aload_n 0, 1) := by decide +kernel
theorem dX12_toEvent_98 : decode cX12_toEvent 98 = .ok (.getfield 53, 3) := by decide +kernel
theorem dX12_toEvent_101 : decode cX12_toEvent 101 = .ok (.ifCond .ne 8, 3) := by decide +kernel
theorem dX12_toEvent_104 : decode cX12_toEvent 104 = .ok (.lload_n 1, 1) := by decide +kernel
theorem dX12_toEvent_105 : decode cX12_toEvent 105 = .ok (.l2i, 1) := by decide +kernel
theorem dX12_toEvent_106 : decode cX12_toEvent 106 = .ok (.goto 4, 3) := by decide +kernel
theorem dX12_toEvent_109 : decode cX12_toEvent 109 = .ok (.iconst (-1), 1) := by decide +kernel
theorem dX12_toEvent_110 : decode cX12_toEvent 110 = .ok (.ireturn, 1) := by decide +kernel
theorem dX12_time_0 : decode cX12_time 0 = .ok (.aload_n 0, 1) := by decide +kernel
theorem dX12_time_1 : decode cX12_time 1 = .ok (.iconst 0, 1) := by decide +kernel
theorem dX12_time_2 : decode cX12_time 2 = .ok (.putfield 53, 3) := by decide +kernel
theorem dX12_time_5 : decode cX12_time 5 = .ok (.aload_n 0, 1) := by decide +kernel
theorem dX12_time_6 : decode cX12_time 6 = .ok (.getfield 178, 3) := by decide +kernel
theorem dX12_time_9 : decode cX12_time 9 = .ok (.ireturn, 1) := by decide +kernel
set_option maxRecDepth 20000 in
theorem ggX12_ticks_X12_isClock : GoodIn wsX12_ticks wsX12_isClock := goodIn_r _ [7, 8, 9, 10, 6, 11] (by decide +kernel) (by decide +kernel)
set_option maxRecDepth 20000 in
theorem gX12_ticks_X12_isClock : GoodIn wsX12_ticks (va_wsS RX12 86 yX12_isClock wsX12_isClock) := goodIn_app (goodIn_of _ (by decide +kernel)) ggX12_ticks_X12_isClock
set_option maxRecDepth 20000 in
theorem ggX12_ticks_Jx4a65c_get_915e3 : GoodIn wsX12_ticks wsJx4a65c_get_915e3 := goodIn_r _ [16, 17, 18, 19, 20, 21, 22, 23, 24, 25, 26, 27, 28, 15, 29, 30, 59, 60, 61] (by decide +kernel) (by decide +kernel)
set_option maxRecDepth 20000 in
theorem gX12_ticks_Jx4a65c_get_915e3_f66Jx4a65c : GoodIn wsX12_ticks (va_wsF RX12 66 RJx4a65c ⟨"java/util/List", "get", "(I)Ljava/lang/Object;"⟩ yJx4a65c_get_915e3 wsJx4a65c_get_915e3) := goodIn_app (goodIn_of _ (by decide +kernel)) ggX12_ticks_Jx4a65c_get_915e3
theorem dX12_ticks_0 : decode cX12_ticks 0 = .ok (.aload_n 0, 1) := by decide +kernel
theorem dX12_ticks_1 : decode cX12_ticks 1 = .ok (.iload_n 1, 1) := by decide +kernel
theorem dX12_ticks_2 : decode cX12_ticks 2 = .ok (.invokestatic 86, 3) := by decide +kernel
theorem dX12_ticks_5 : decode cX12_ticks 5 = .ok (.ifCond .eq 7, 3) := by decide +kernel
theorem dX12_ticks_8 : decode cX12_ticks 8 = .ok (.iconst 0, 1) := by decide +kernel
theorem dX12_ticks_9 : decode cX12_ticks 9 = .ok (.goto 4, 3) := by decide +kernel
theorem dX12_ticks_12 : decode cX12_ticks 12 = .ok (.iconst 1, 1) := by decide +kernel
theorem dX12_ticks_13 : decode cX12_ticks 13 = .ok (.putfield 53, 3) := by decide +kernel
theorem dX12_ticks_16 : decode cX12_ticks 16 = .ok (.aload_n 0, 1) := by decide +kernel
theorem dX12_ticks_17 : decode cX12_ticks 17 = .ok (.getfield 53, 3) := by decide +kernel
theorem dX12_ticks_20 : decode cX12_ticks 20 = .ok (.ifCond .ne 22, 3) := by decide +kernel
theorem dX12_ticks_23 : decode cX12_ticks 23 = .ok (.aload_n 0, 1) := by decide +kernel
theorem dX12_ticks_24 : decode cX12_ticks 24 = .ok (.getfield 12, 3) := by decide +kernel
theorem dX12_ticks_27 : decode cX12_ticks 27 = .ok (.iload_n 1, 1) := by decide +kernel
theorem dX12_ticks_28 : decode cX12_ticks 28 = .ok (.invokeinterface 66 2, 5) := by decide +kernel
theorem dX12_ticks_33 : decode cX12_ticks 33 = .ok (.checkcast 38, 3) := by decide +kernel
theorem dX12_ticks_36 : decode cX12_ticks 36 = .ok (.getfield 227, 3) := by decide +kernel
theorem dX12_ticks_39 : decode cX12_ticks 39 = .ok (.goto 4, 3) := by decide +kernel
theorem dX12_ticks_42 : decode cX12_ticks 42 = .ok (.iconst (-1), 1) := by decide +kernel
theorem dX12_ticks_43 : decode cX12_ticks 43 = .ok (.ireturn, 1) := by decide +kernel
set_option maxRecDepth 20000 in
theorem ggX12_count__X12_isTimer : GoodIn wsX12_count_ wsX12_isTimer := goodIn_r _ [7, 8, 9, 10, 6, 11] (by decide +kernel) (by decide +kernel)
set_option maxRecDepth 20000 in
theorem gX12_count__X12_isTimer : GoodIn wsX12_count_ (va_wsS RX12 82 yX12_isTimer wsX12_isTimer) := goodIn_app (goodIn_of _ (by decide +kernel)) ggX12_count__X12_isTimer
set_option maxRecDepth 20000 in
theorem ggX12_count__Jx4a65c_get_915e3 : GoodIn wsX12_count_ wsJx4a65c_get_915e3 := goodIn_r _ [16, 17, 18, 19, 20, 21, 22, 23, 24, 25, 26, 27, 28, 15, 29, 30, 64, 65, 66] (by decide +kernel) (by decide +kernel)
set_option maxRecDepth 20000 in
theorem gX12_count__Jx4a65c_get_915e3_f66Jx4a65c : GoodIn wsX12_count_ (va_wsF RX12 66 RJx4a65c ⟨"java/util/List", "get", "(I)Ljava/lang/Object;"⟩ yJx4a65c_get_915e3 wsJx4a65c_get_915e3) := goodIn_app (goodIn_of _ (by decide +kernel)) ggX12_count__Jx4a65c_get_915e3
theorem dX12_count__0 : decode cX12_count_ 0 = .ok (.aload_n 0, 1) := by decide +kernel
theorem dX12_count__1 : decode cX12_count_ 1 = .ok (.iload_n 1, 1) := by decide +kernel
theorem dX12_count__2 : decode cX12_count_ 2 = .ok (.invokestatic 82, 3) := by decide +kernel
theorem dX12_count__5 : decode cX12_count_ 5 = .ok (.ifCond .eq 7, 3) := by decide +kernel
theorem dX12_count__8 : decode cX12_count_ 8 = .ok (.iconst 0, 1) := by decide +kernel
theorem dX12_count__9 : decode cX12_count_ 9 = .ok (.goto 4, 3) := by decide +kernel
theorem dX12_count__12 : decode cX12_count_ 12 = .ok (.iconst 1, 1) := by decide +kernel
theorem dX12_count__13 : decode cX12_count_ 13 = .ok (.putfield 53, 3) := by decide +kernel
theorem dX12_count__16 : decode cX12_count_ 16 = .ok (.aload_n 0, 1) := by decide +kernel
theorem dX12_count__17 : decode cX12_count_ 17 = .ok (.getfield 53, 3) := by decide +kernel
theorem dX12_count__20 : decode cX12_count_ 20 = .ok (.ifCond .ne 22, 3) := by decide +kernel
theorem dX12_count__23 : decode cX12_count_ 23 = .ok (.aload_n 0, 1) := by decide +kernel
theorem dX12_count__24 : decode cX12_count_ 24 = .ok (.getfield 18, 3) := by decide +kernel
theorem dX12_count__27 : decode cX12_count_ 27 = .ok (.iload_n 1, 1) := by decide +kernel
theorem dX12_count__28 : decode cX12_count_ 28 = .ok (.invokeinterface 66 2, 5) := by decide +kernel
theorem dX12_count__33 : decode cX12_count_ 33 = .ok (.checkcast 47, 3) := by decide +kernel
theorem dX12_count__36 : decode cX12_count_ 36 = .ok (.getfield 201, 3) := by decide +kernel
theorem dX12_count__39 : decode cX12_count_ 39 = .ok (.goto 4, 3) := by decide +kernel
theorem dX12_count__42 : decode cX12_count_ 42 = .ok (.iconst (-1), 1) := by decide +kernel
theorem dX12_count__43 : decode cX12_count_ 43 = .ok (.ireturn, 1) := by decide +kernel
set_option maxRecDepth 20000 in
theorem ggX12_isRunning_X12_isTimer : GoodIn wsX12_isRunning wsX12_isTimer := goodIn_r _ [7, 8, 9, 10, 6, 11] (by decide +kernel) (by decide +kernel)
set_option maxRecDepth 20000 in
theorem gX12_isRunning_X12_isTimer : GoodIn wsX12_isRunning (va_wsS RX12 82 yX12_isTimer wsX12_isTimer) := goodIn_app (goodIn_of _ (by decide +kernel)) ggX12_isRunning_X12_isTimer
set_option maxRecDepth 20000 in
theorem ggX12_isRunning_Jx4a65c_get_915e3 : GoodIn wsX12_isRunning wsJx4a65c_get_915e3 := goodIn_r _ [16, 17, 18, 19, 20, 21, 22, 23, 24, 25, 26, 27, 28, 15, 29, 30, 64, 65, 66] (by decide +kernel) (by decide +kernel)
set_option maxRecDepth 20000 in
theorem gX12_isRunning_Jx4a65c_get_915e3_f66Jx4a65c : GoodIn wsX12_isRunning (va_wsF RX12 66 RJx4a65c ⟨"java/util/List", "get", "(I)Ljava/lang/Object;"⟩ yJx4a65c_get_915e3 wsJx4a65c_get_915e3) := goodIn_app (goodIn_of _ (by decide +kernel)) ggX12_isRunning_Jx4a65c_get_915e3
theorem dX12_isRunning_0 : decode cX12_isRunning 0 = .ok (.aload_n 0, 1) := by decide +kernel
theorem dX12_isRunning_1 : decode cX12_isRunning 1 = .ok (.iload_n 1, 1) := by decide +kernel
theorem dX12_isRunning_2 : decode cX12_isRunning 2 = .ok (.invokestatic 82, 3) := by decide +kernel
theorem dX12_isRunning_5 : decode cX12_isRunning 5 = .ok (.ifCond .eq 7, 3) := by decide +kernel
theorem dX12_isRunning_8 : decode cX12_isRunning 8 = .ok (.iconst 0, 1) := by decide +kernel
theorem dX12_isRunning_9 : decode cX12_isRunning 9 = .ok (.goto 4, 3) := by decide +kernel
theorem dX12_isRunning_12 : decode cX12_isRunning 12 = .ok (.iconst 1, 1) := by decide +kernel
theorem dX12_isRunning_13 : decode cX12_isRunning 13 = .ok (.putfield 53, 3) := by decide +kernel
theorem dX12_isRunning_16 : decode cX12_isRunning 16 = .ok (.aload_n 0, 1) := by decide +kernel
theorem dX12_isRunning_17 : decode cX12_isRunning 17 = .ok (.getfield 53, 3) := by decide +kernel
theorem dX12_isRunning_20 : decode cX12_isRunning 20 = .ok (.ifCond .ne 26, 3) := by decide +kernel
theorem dX12_isRunning_23 : decode cX12_isRunning 23 = .ok (.aload_n 0, 1) := by decide +kernel
theorem dX12_isRunning_24 : decode cX12_isRunning 24 = .ok (.getfield 18, 3) := by decide +kernel
theorem dX12_isRunning_27 : decode cX12_isRunning 27 = .ok (.iload_n 1, 1) := by decide +kernel
theorem dX12_isRunning_28 : decode cX12_isRunning 28 = .ok (.invokeinterface 66 2, 5) := by decide +kernel
theorem dX12_isRunning_33 : decode cX12_isRunning 33 = .ok (.checkcast 47, 3) := by decide +kernel
theorem dX12_isRunning_36 : decode cX12_isRunning 36 = .ok (.getfield 123, 3) := by decide +kernel
theorem dX12_isRunning_39 : decode cX12_isRunning 39 = .ok (.ifCond .eq 7, 3) := by decide +kernel
theorem dX12_isRunning_42 : decode cX12_isRunning 42 = .ok (.iconst 1, 1) := by decide +kernel
theorem dX12_isRunning_43 : decode cX12_isRunning 43 = .ok (.goto 4, 3) := by decide +kernel
theorem dX12_isRunning_46 : decode cX12_isRunning 46 = .ok (.iconst 0, 1) := by decide +kernel
theorem dX12_isRunning_47 : decode cX12_isRunning 47 = .ok (.ireturn, 1) := by decide +kernel
theorem dX12_pins_0 : decode cX12_pins 0 = .ok (.aload_n 0, 1) := by decide +kernel
theorem dX12_pins_1 : decode cX12_pins 1 = .ok (.iconst 0, 1) := by decide +kernel
theorem dX12_pins_2 : decode cX12_pins 2 = .ok (.putfield 53, 3) := by decide +kernel
theorem dX12_pins_5 : decode cX12_pins 5 = .ok (.aload_n 0, 1) := by decide +kernel
theorem dX12_pins_6 : decode cX12_pins 6 = .ok (.getfield 171, 3) := by decide +kernel
theorem dX12_pins_9 : decode cX12_pins 9 = .ok (.ireturn, 1) := by decide +kernel
theorem dX12_edges_0 : decode cX12_edges 0 = .ok (.aload_n 0, 1) := by decide +kernel
theorem dX12_edges_1 : decode cX12_edges 1 = .ok (.iconst 0, 1) := by decide +kernel
theorem dX12_edges_2 : decode cX12_edges 2 = .ok (.putfield 53, 3) := by decide +kernel
theorem dX12_edges_5 : decode cX12_edges 5 = .ok (.aload_n 0, 1) := by decide +kernel
theorem dX12_edges_6 : decode cX12_edges 6 = .ok (.getfield 181, 3) := by decide +kernel
theorem dX12_edges_9 : decode cX12_edges 9 = .ok (.ireturn, 1) := by decide +kernel
set_option maxRecDepth 20000 in
theorem ggX12_edgeTime_Jx4a65c_size_8abf5 : GoodIn wsX12_edgeTime wsJx4a65c_size_8abf5 := goodIn_r _ [8, 9, 54, 55, 56] (by decide +kernel) (by decide +kernel)
set_option maxRecDepth 20000 in
theorem gX12_edgeTime_Jx4a65c_size_8abf5_f174Jx4a65c : GoodIn wsX12_edgeTime (va_wsF RX12 174 RJx4a65c ⟨"java/util/List", "size", "()I"⟩ yJx4a65c_size_8abf5 wsJx4a65c_size_8abf5) := goodIn_app (goodIn_of _ (by decide +kernel)) ggX12_edgeTime_Jx4a65c_size_8abf5
set_option maxRecDepth 20000 in
theorem ggX12_edgeTime_X12_in : GoodIn wsX12_edgeTime wsX12_in := goodIn_r _ [13] (by decide +kernel) (by decide +kernel)
set_option maxRecDepth 20000 in
theorem gX12_edgeTime_X12_in : GoodIn wsX12_edgeTime (va_wsS RX12 58 yX12_in wsX12_in) := goodIn_app (goodIn_of _ (by decide +kernel)) ggX12_edgeTime_X12_in
set_option maxRecDepth 20000 in
theorem ggX12_edgeTime_Jx4a65c_get_915e3 : GoodIn wsX12_edgeTime wsJx4a65c_get_915e3 := goodIn_r _ [17, 9, 18, 19, 20, 21, 22, 23, 24, 25, 26, 27, 28, 7, 29, 30, 54, 55, 56] (by decide +kernel) (by decide +kernel)
set_option maxRecDepth 20000 in
theorem gX12_edgeTime_Jx4a65c_get_915e3_f66Jx4a65c : GoodIn wsX12_edgeTime (va_wsF RX12 66 RJx4a65c ⟨"java/util/List", "get", "(I)Ljava/lang/Object;"⟩ yJx4a65c_get_915e3 wsJx4a65c_get_915e3) := goodIn_app (goodIn_of _ (by decide +kernel)) ggX12_edgeTime_Jx4a65c_get_915e3
theorem dX12_edgeTime_0 : decode cX12_edgeTime 0 = .ok (.aload_n 0, 1) := by decide +kernel
theorem dX12_edgeTime_1 : decode cX12_edgeTime 1 = .ok (.iload_n 1, 1) := by decide +kernel
theorem dX12_edgeTime_2 : decode cX12_edgeTime 2 = .ok (.i2l, 1) := by decide +kernel
theorem dX12_edgeTime_3 : decode cX12_edgeTime 3 = .ok (.lconst 0, 1) := by decide +kernel
theorem dX12_edgeTime_4 : decode cX12_edgeTime 4 = .ok (.aload_n 0, 1) := by decide +kernel
theorem dX12_edgeTime_5 : decode cX12_edgeTime 5 = .ok (.getfield 27, 3) := by decide +kernel
theorem dX12_edgeTime_8 : decode cX12_edgeTime 8 = .ok (.invokeinterface 174 1, 5) := by decide +kernel
theorem dX12_edgeTime_13 : decode cX12_edgeTime 13 = .ok (.iconst 1, 1) := by decide +kernel
theorem dX12_edgeTime_14 : decode cX12_edgeTime 14 = .ok (.isub, 1) := by decide +kernel
theorem dX12_edgeTime_15 : decode cX12_edgeTime 15 = .ok (.i2l, 1) := by decide +kernel
theorem dX12_edgeTime_16 : decode cX12_edgeTime 16 = .ok (.invokestatic 58, 3) := by decide +kernel
theorem dX12_edgeTime_19 : decode cX12_edgeTime 19 = .ok (.ifCond .eq 7, 3) := by decide +kernel
theorem dX12_edgeTime_22 : decode cX12_edgeTime 22 = .ok (.iconst 0, 1) := by decide +kernel
theorem dX12_edgeTime_23 : decode cX12_edgeTime 23 = .ok (.goto 4, 3) := by decide +kernel
theorem dX12_edgeTime_26 : decode cX12_edgeTime 26 = .ok (.iconst 1, 1) := by decide +kernel
theorem dX12_edgeTime_27 : decode cX12_edgeTime 27 = .ok (.putfield 53, 3) := by decide +kernel
theorem dX12_edgeTime_30 : decode cX12_edgeTime 30 = .ok (.aload_n 0, 1) := by decide +kernel
theorem dX12_edgeTime_31 : decode cX12_edgeTime 31 = .ok (.getfield 53, 3) := by decide +kernel
theorem dX12_edgeTime_34 : decode cX12_edgeTime 34 = .ok (.ifCond .ne 21, 3) := by decide +kernel
theorem dX12_edgeTime_37 : decode cX12_edgeTime 37 = .ok (.aload_n 0, 1) := by decide +kernel
theorem dX12_edgeTime_38 : decode cX12_edgeTime 38 = .ok (.getfield 27, 3) := by decide +kernel
theorem dX12_edgeTime_41 : decode cX12_edgeTime 41 = .ok (.iload_n 1, 1) := by decide +kernel
theorem dX12_edgeTime_42 : decode cX12_edgeTime 42 = .ok (.invokeinterface 66 2, 5) := by decide +kernel
theorem dX12_edgeTime_47 : decode cX12_edgeTime 47 = .ok (.checkcast 219, 3) := by decide +kernel
theorem dX12_edgeTime_50 : decode cX12_edgeTime 50 = .ok (.iconst 0, 1) := by decide +kernel
theorem dX12_edgeTime_51 : decode cX12_edgeTime 51 = .ok (.iaload, 1) := by decide +kernel
theorem dX12_edgeTime_52 : decode cX12_edgeTime 52 = .ok (.goto 4, 3) := by decide +kernel
theorem dX12_edgeTime_55 : decode cX12_edgeTime 55 = .ok (.iconst (-1), 1) := by decide +kernel
theorem dX12_edgeTime_56 : decode cX12_edgeTime 56 = .ok (.ireturn, 1) := by decide +kernel
set_option maxRecDepth 20000 in
theorem ggX12_edgePin_Jx4a65c_size_8abf5 : GoodIn wsX12_edgePin wsJx4a65c_size_8abf5 := goodIn_r _ [8, 9, 54, 55, 56] (by decide +kernel) (by decide +kernel)
set_option maxRecDepth 20000 in
theorem gX12_edgePin_Jx4a65c_size_8abf5_f174Jx4a65c : GoodIn wsX12_edgePin (va_wsF RX12 174 RJx4a65c ⟨"java/util/List", "size", "()I"⟩ yJx4a65c_size_8abf5 wsJx4a65c_size_8abf5) := goodIn_app (goodIn_of _ (by decide +kernel)) ggX12_edgePin_Jx4a65c_size_8abf5
set_option maxRecDepth 20000 in
theorem ggX12_edgePin_X12_in : GoodIn wsX12_edgePin wsX12_in := goodIn_r _ [13] (by decide +kernel) (by decide +kernel)
set_option maxRecDepth 20000 in
theorem gX12_edgePin_X12_in : GoodIn wsX12_edgePin (va_wsS RX12 58 yX12_in wsX12_in) := goodIn_app (goodIn_of _ (by decide +kernel)) ggX12_edgePin_X12_in
set_option maxRecDepth 20000 in
theorem ggX12_edgePin_Jx4a65c_get_915e3 : GoodIn wsX12_edgePin wsJx4a65c_get_915e3 := goodIn_r _ [17, 9, 18, 19, 20, 21, 22, 23, 24, 25, 26, 27, 28, 7, 29, 30, 54, 55, 56] (by decide +kernel) (by decide +kernel)
set_option maxRecDepth 20000 in
theorem gX12_edgePin_Jx4a65c_get_915e3_f66Jx4a65c : GoodIn wsX12_edgePin (va_wsF RX12 66 RJx4a65c ⟨"java/util/List", "get", "(I)Ljava/lang/Object;"⟩ yJx4a65c_get_915e3 wsJx4a65c_get_915e3) := goodIn_app (goodIn_of _ (by decide +kernel)) ggX12_edgePin_Jx4a65c_get_915e3
theorem dX12_edgePin_0 : decode cX12_edgePin 0 = .ok (.aload_n 0, 1) := by decide +kernel
theorem dX12_edgePin_1 : decode cX12_edgePin 1 = .ok (.iload_n 1, 1) := by decide +kernel
theorem dX12_edgePin_2 : decode cX12_edgePin 2 = .ok (.i2l, 1) := by decide +kernel
theorem dX12_edgePin_3 : decode cX12_edgePin 3 = .ok (.lconst 0, 1) := by decide +kernel
theorem dX12_edgePin_4 : decode cX12_edgePin 4 = .ok (.aload_n 0, 1) := by decide +kernel
theorem dX12_edgePin_5 : decode cX12_edgePin 5 = .ok (.getfield 27, 3) := by decide +kernel
theorem dX12_edgePin_8 : decode cX12_edgePin 8 = .ok (.invokeinterface 174 1, 5) := by decide +kernel
theorem dX12_edgePin_13 : decode cX12_edgePin 13 = .ok (.iconst 1, 1) := by decide +kernel
theorem dX12_edgePin_14 : decode cX12_edgePin 14 = .ok (.isub, 1) := by decide +kernel
theorem dX12_edgePin_15 : decode cX12_edgePin 15 = .ok (.i2l, 1) := by decide +kernel
theorem dX12_edgePin_16 : decode cX12_edgePin 16 = .ok (.invokestatic 58, 3) := by decide +kernel
theorem dX12_edgePin_19 : decode cX12_edgePin 19 = .ok (.ifCond .eq 7, 3) := by decide +kernel
theorem dX12_edgePin_22 : decode cX12_edgePin 22 = .ok (.iconst 0, 1) := by decide +kernel
theorem dX12_edgePin_23 : decode cX12_edgePin 23 = .ok (.goto 4, 3) := by decide +kernel
theorem dX12_edgePin_26 : decode cX12_edgePin 26 = .ok (.iconst 1, 1) := by decide +kernel
theorem dX12_edgePin_27 : decode cX12_edgePin 27 = .ok (.putfield 53, 3) := by decide +kernel
theorem dX12_edgePin_30 : decode cX12_edgePin 30 = .ok (.aload_n 0, 1) := by decide +kernel
theorem dX12_edgePin_31 : decode cX12_edgePin 31 = .ok (.getfield 53, 3) := by decide +kernel
theorem dX12_edgePin_34 : decode cX12_edgePin 34 = .ok (.ifCond .ne 21, 3) := by decide +kernel
theorem dX12_edgePin_37 : decode cX12_edgePin 37 = .ok (.aload_n 0, 1) := by decide +kernel
theorem dX12_edgePin_38 : decode cX12_edgePin 38 = .ok (.getfield 27, 3) := by decide +kernel
theorem dX12_edgePin_41 : decode cX12_edgePin 41 = .ok (.iload_n 1, 1) := by decide +kernel
theorem dX12_edgePin_42 : decode cX12_edgePin 42 = .ok (.invokeinterface 66 2, 5) := by decide +kernel
theorem dX12_edgePin_47 : decode cX12_edgePin 47 = .ok (.checkcast 219, 3) := by decide +kernel
theorem dX12_edgePin_50 : decode cX12_edgePin 50 = .ok (.iconst 1, 1) := by decide +kernel
theorem dX12_edgePin_51 : decode cX12_edgePin 51 = .ok (.iaload, 1) := by decide +kernel
theorem dX12_edgePin_52 : decode cX12_edgePin 52 = .ok (.goto 4, 3) := by decide +kernel
theorem dX12_edgePin_55 : decode cX12_edgePin 55 = .ok (.iconst (-1), 1) := by decide +kernel
theorem dX12_edgePin_56 : decode cX12_edgePin 56 = .ok (.ireturn, 1) := by decide +kernel
set_option maxRecDepth 20000 in
theorem ggX12_isRequested_X12_isLine : GoodIn wsX12_isRequested wsX12_isLine := goodIn_r _ [7, 8, 9, 10, 6, 11] (by decide +kernel) (by decide +kernel)
set_option maxRecDepth 20000 in
theorem gX12_isRequested_X12_isLine : GoodIn wsX12_isRequested (va_wsS RX12 126 yX12_isLine wsX12_isLine) := goodIn_app (goodIn_of _ (by decide +kernel)) ggX12_isRequested_X12_isLine
set_option maxRecDepth 20000 in
theorem ggX12_isRequested_Jx4a65c_get_915e3 : GoodIn wsX12_isRequested wsJx4a65c_get_915e3 := goodIn_r _ [16, 17, 18, 19, 20, 21, 22, 23, 24, 25, 26, 27, 28, 15, 29, 30, 61, 62, 63] (by decide +kernel) (by decide +kernel)
set_option maxRecDepth 20000 in
theorem gX12_isRequested_Jx4a65c_get_915e3_f66Jx4a65c : GoodIn wsX12_isRequested (va_wsF RX12 66 RJx4a65c ⟨"java/util/List", "get", "(I)Ljava/lang/Object;"⟩ yJx4a65c_get_915e3 wsJx4a65c_get_915e3) := goodIn_app (goodIn_of _ (by decide +kernel)) ggX12_isRequested_Jx4a65c_get_915e3
theorem dX12_isRequested_0 : decode cX12_isRequested 0 = .ok (.aload_n 0, 1) := by decide +kernel
theorem dX12_isRequested_1 : decode cX12_isRequested 1 = .ok (.iload_n 1, 1) := by decide +kernel
theorem dX12_isRequested_2 : decode cX12_isRequested 2 = .ok (.invokestatic 126, 3) := by decide +kernel
theorem dX12_isRequested_5 : decode cX12_isRequested 5 = .ok (.ifCond .eq 7, 3) := by decide +kernel
theorem dX12_isRequested_8 : decode cX12_isRequested 8 = .ok (.iconst 0, 1) := by decide +kernel
theorem dX12_isRequested_9 : decode cX12_isRequested 9 = .ok (.goto 4, 3) := by decide +kernel
theorem dX12_isRequested_12 : decode cX12_isRequested 12 = .ok (.iconst 1, 1) := by decide +kernel
theorem dX12_isRequested_13 : decode cX12_isRequested 13 = .ok (.putfield 53, 3) := by decide +kernel
theorem dX12_isRequested_16 : decode cX12_isRequested 16 = .ok (.aload_n 0, 1) := by decide +kernel
theorem dX12_isRequested_17 : decode cX12_isRequested 17 = .ok (.getfield 53, 3) := by decide +kernel
theorem dX12_isRequested_20 : decode cX12_isRequested 20 = .ok (.ifCond .ne 26, 3) := by decide +kernel
theorem dX12_isRequested_23 : decode cX12_isRequested 23 = .ok (.aload_n 0, 1) := by decide +kernel
theorem dX12_isRequested_24 : decode cX12_isRequested 24 = .ok (.getfield 21, 3) := by decide +kernel
theorem dX12_isRequested_27 : decode cX12_isRequested 27 = .ok (.iload_n 1, 1) := by decide +kernel
theorem dX12_isRequested_28 : decode cX12_isRequested 28 = .ok (.invokeinterface 66 2, 5) := by decide +kernel
theorem dX12_isRequested_33 : decode cX12_isRequested 33 = .ok (.checkcast 50, 3) := by decide +kernel
theorem dX12_isRequested_36 : decode cX12_isRequested 36 = .ok (.getfield 164, 3) := by decide +kernel
theorem dX12_isRequested_39 : decode cX12_isRequested 39 = .ok (.ifCond .eq 7, 3) := by decide +kernel
theorem dX12_isRequested_42 : decode cX12_isRequested 42 = .ok (.iconst 1, 1) := by decide +kernel
theorem dX12_isRequested_43 : decode cX12_isRequested 43 = .ok (.goto 4, 3) := by decide +kernel
theorem dX12_isRequested_46 : decode cX12_isRequested 46 = .ok (.iconst 0, 1) := by decide +kernel
theorem dX12_isRequested_47 : decode cX12_isRequested 47 = .ok (.ireturn, 1) := by decide +kernel
theorem dX12_processor_0 : decode cX12_processor 0 = .ok (.aload_n 0, 1) := by decide +kernel
theorem dX12_processor_1 : decode cX12_processor 1 = .ok (.iconst 0, 1) := by decide +kernel
theorem dX12_processor_2 : decode cX12_processor 2 = .ok (.putfield 53, 3) := by decide +kernel
theorem dX12_processor_5 : decode cX12_processor 5 = .ok (.aload_n 0, 1) := by decide +kernel
theorem dX12_processor_6 : decode cX12_processor 6 = .ok (.getfield 30, 3) := by decide +kernel
theorem dX12_processor_9 : decode cX12_processor 9 = .ok (.ireturn, 1) := by decide +kernel
set_option maxRecDepth 20000 in
theorem ggX12_depth_Jx4a65c_size_8abf5 : GoodIn wsX12_depth wsJx4a65c_size_8abf5 := goodIn_r _ [7, 8, 32, 33, 34] (by decide +kernel) (by decide +kernel)
set_option maxRecDepth 20000 in
theorem gX12_depth_Jx4a65c_size_8abf5_f174Jx4a65c : GoodIn wsX12_depth (va_wsF RX12 174 RJx4a65c ⟨"java/util/List", "size", "()I"⟩ yJx4a65c_size_8abf5 wsJx4a65c_size_8abf5) := goodIn_app (goodIn_of _ (by decide +kernel)) ggX12_depth_Jx4a65c_size_8abf5
theorem dX12_depth_0 : decode cX12_depth 0 = .ok (.aload_n 0, 1) := by decide +kernel
theorem dX12_depth_1 : decode cX12_depth 1 = .ok (.iconst 0, 1) := by decide +kernel
theorem dX12_depth_2 : decode cX12_depth 2 = .ok (.putfield 53, 3) := by decide +kernel
theorem dX12_depth_5 : decode cX12_depth 5 = .ok (.aload_n 0, 1) := by decide +kernel
theorem dX12_depth_6 : decode cX12_depth 6 = .ok (.getfield 24, 3) := by decide +kernel
theorem dX12_depth_9 : decode cX12_depth 9 = .ok (.invokeinterface 174 1, 5) := by decide +kernel
theorem dX12_depth_14 : decode cX12_depth 14 = .ok (.ireturn, 1) := by decide +kernel
set_option maxRecDepth 20000 in
theorem ggX12_onTop_Jx4a65c_isEmpty_aae02 : GoodIn wsX12_onTop wsJx4a65c_isEmpty_aae02 := goodIn_r _ [7, 8, 59, 60, 61] (by decide +kernel) (by decide +kernel)
set_option maxRecDepth 20000 in
theorem gX12_onTop_Jx4a65c_isEmpty_aae02_f216Jx4a65c : GoodIn wsX12_onTop (va_wsF RX12 216 RJx4a65c ⟨"java/util/List", "isEmpty", "()Z"⟩ yJx4a65c_isEmpty_aae02 wsJx4a65c_isEmpty_aae02) := goodIn_app (goodIn_of _ (by decide +kernel)) ggX12_onTop_Jx4a65c_isEmpty_aae02
set_option maxRecDepth 20000 in
theorem ggX12_onTop_X12_top : GoodIn wsX12_onTop wsX12_top := goodIn_ca (goodIn_r _ [13, 1, 14, 3, 4, 5, 6, 7, 8, 15, 16, 17, 18, 19, 20, 21, 22, 23, 24, 25, 26, 27, 28, 29, 30, 31, 32, 33, 34, 35, 36, 37, 38, 39, 40, 41, 42, 43, 44, 45, 46, 47, 48, 49, 50, 51, 52, 53, 54, 55, 56, 57, 58, 59, 60, 61] (by decide +kernel) (by decide +kernel)) (goodIn_sub (fun _ h => List.mem_cons_of_mem _ (List.mem_append_right _ h)) (by decide +kernel))
set_option maxRecDepth 20000 in
theorem gX12_onTop_X12_top : GoodIn wsX12_onTop (wsV RX12 267 RX12 yX12_top wsX12_top) := goodIn_app (goodIn_of _ (by decide +kernel)) ggX12_onTop_X12_top
theorem dX12_onTop_0 : decode cX12_onTop 0 = .ok (.aload_n 0, 1) := by decide +kernel
theorem dX12_onTop_1 : decode cX12_onTop 1 = .ok (.aload_n 0, 1) := by decide +kernel
theorem dX12_onTop_2 : decode cX12_onTop 2 = .ok (.getfield 24, 3) := by decide +kernel
theorem dX12_onTop_5 : decode cX12_onTop 5 = .ok (.invokeinterface 216 1, 5) := by decide +kernel
theorem dX12_onTop_10 : decode cX12_onTop 10 = .ok (.ifCond .eq 7, 3) := by decide +kernel
theorem dX12_onTop_13 : decode cX12_onTop 13 = .ok (.iconst 1, 1) := by decide +kernel
theorem dX12_onTop_14 : decode cX12_onTop 14 = .ok (.goto 4, 3) := by decide +kernel
theorem dX12_onTop_17 : decode cX12_onTop 17 = .ok (.iconst 0, 1) := by decide +kernel
theorem dX12_onTop_18 : decode cX12_onTop 18 = .ok (.putfield 53, 3) := by decide +kernel
theorem dX12_onTop_21 : decode cX12_onTop 21 = .ok (.aload_n 0, 1) := by decide +kernel
theorem dX12_onTop_22 : decode cX12_onTop 22 = .ok (.invokevirtual 267, 3) := by decide +kernel
theorem dX12_onTop_25 : decode cX12_onTop 25 = .ok (.ireturn, 1) := by decide +kernel
set_option maxRecDepth 20000 in
theorem ggX12_handled_X12_isLine : GoodIn wsX12_handled wsX12_isLine := goodIn_r _ [7, 8, 9, 10, 6, 11] (by decide +kernel) (by decide +kernel)
set_option maxRecDepth 20000 in
theorem gX12_handled_X12_isLine : GoodIn wsX12_handled (va_wsS RX12 126 yX12_isLine wsX12_isLine) := goodIn_app (goodIn_of _ (by decide +kernel)) ggX12_handled_X12_isLine
set_option maxRecDepth 20000 in
theorem ggX12_handled_Jx4a65c_get_915e3 : GoodIn wsX12_handled wsJx4a65c_get_915e3 := goodIn_r _ [16, 17, 18, 19, 20, 21, 22, 23, 24, 25, 26, 27, 28, 15, 29, 30, 61, 62, 63] (by decide +kernel) (by decide +kernel)
set_option maxRecDepth 20000 in
theorem gX12_handled_Jx4a65c_get_915e3_f66Jx4a65c : GoodIn wsX12_handled (va_wsF RX12 66 RJx4a65c ⟨"java/util/List", "get", "(I)Ljava/lang/Object;"⟩ yJx4a65c_get_915e3 wsJx4a65c_get_915e3) := goodIn_app (goodIn_of _ (by decide +kernel)) ggX12_handled_Jx4a65c_get_915e3
theorem dX12_handled_0 : decode cX12_handled 0 = .ok (.aload_n 0, 1) := by decide +kernel
theorem dX12_handled_1 : decode cX12_handled 1 = .ok (.iload_n 1, 1) := by decide +kernel
theorem dX12_handled_2 : decode cX12_handled 2 = .ok (.invokestatic 126, 3) := by decide +kernel
theorem dX12_handled_5 : decode cX12_handled 5 = .ok (.ifCond .eq 7, 3) := by decide +kernel
theorem dX12_handled_8 : decode cX12_handled 8 = .ok (.iconst 0, 1) := by decide +kernel
theorem dX12_handled_9 : decode cX12_handled 9 = .ok (.goto 4, 3) := by decide +kernel
theorem dX12_handled_12 : decode cX12_handled 12 = .ok (.iconst 1, 1) := by decide +kernel
theorem dX12_handled_13 : decode cX12_handled 13 = .ok (.putfield 53, 3) := by decide +kernel
theorem dX12_handled_16 : decode cX12_handled 16 = .ok (.aload_n 0, 1) := by decide +kernel
theorem dX12_handled_17 : decode cX12_handled 17 = .ok (.getfield 53, 3) := by decide +kernel
theorem dX12_handled_20 : decode cX12_handled 20 = .ok (.ifCond .ne 22, 3) := by decide +kernel
theorem dX12_handled_23 : decode cX12_handled 23 = .ok (.aload_n 0, 1) := by decide +kernel
theorem dX12_handled_24 : decode cX12_handled 24 = .ok (.getfield 21, 3) := by decide +kernel
theorem dX12_handled_27 : decode cX12_handled 27 = .ok (.iload_n 1, 1) := by decide +kernel
theorem dX12_handled_28 : decode cX12_handled 28 = .ok (.invokeinterface 66 2, 5) := by decide +kernel
theorem dX12_handled_33 : decode cX12_handled 33 = .ok (.checkcast 50, 3) := by decide +kernel
theorem dX12_handled_36 : decode cX12_handled 36 = .ok (.getfield 273, 3) := by decide +kernel
theorem dX12_handled_39 : decode cX12_handled 39 = .ok (.goto 4, 3) := by decide +kernel
theorem dX12_handled_42 : decode cX12_handled 42 = .ok (.iconst (-1), 1) := by decide +kernel
theorem dX12_handled_43 : decode cX12_handled 43 = .ok (.ireturn, 1) := by decide +kernel
theorem dX12_late_0 : decode cX12_late 0 = .ok (.aload_n 0, 1) := by decide +kernel
theorem dX12_late_1 : decode cX12_late 1 = .ok (.iconst 0, 1) := by decide +kernel
theorem dX12_late_2 : decode cX12_late 2 = .ok (.putfield 53, 3) := by decide +kernel
theorem dX12_late_5 : decode cX12_late 5 = .ok (.aload_n 0, 1) := by decide +kernel
theorem dX12_late_6 : decode cX12_late 6 = .ok (.getfield 260, 3) := by decide +kernel
theorem dX12_late_9 : decode cX12_late 9 = .ok (.ireturn, 1) := by decide +kernel
theorem dX12_chained_0 : decode cX12_chained 0 = .ok (.aload_n 0, 1) := by decide +kernel
theorem dX12_chained_1 : decode cX12_chained 1 = .ok (.iconst 0, 1) := by decide +kernel
theorem dX12_chained_2 : decode cX12_chained 2 = .ok (.putfield 53, 3) := by decide +kernel
theorem dX12_chained_5 : decode cX12_chained 5 = .ok (.aload_n 0, 1) := by decide +kernel
theorem dX12_chained_6 : decode cX12_chained 6 = .ok (.getfield 276, 3) := by decide +kernel
theorem dX12_chained_9 : decode cX12_chained 9 = .ok (.ireturn, 1) := by decide +kernel
theorem dX12_resets_0 : decode cX12_resets 0 = .ok (.aload_n 0, 1) := by decide +kernel
theorem dX12_resets_1 : decode cX12_resets 1 = .ok (.iconst 0, 1) := by decide +kernel
theorem dX12_resets_2 : decode cX12_resets 2 = .ok (.putfield 53, 3) := by decide +kernel
theorem dX12_resets_5 : decode cX12_resets 5 = .ok (.aload_n 0, 1) := by decide +kernel
theorem dX12_resets_6 : decode cX12_resets 6 = .ok (.getfield 207, 3) := by decide +kernel
theorem dX12_resets_9 : decode cX12_resets 9 = .ok (.ireturn, 1) := by decide +kernel
theorem dX12_lastReset_0 : decode cX12_lastReset 0 = .ok (.aload_n 0, 1) := by decide +kernel
theorem dX12_lastReset_1 : decode cX12_lastReset 1 = .ok (.aload_n 0, 1) := by decide +kernel
theorem dX12_lastReset_2 : decode cX12_lastReset 2 = .ok (.getfield 207, 3) := by decide +kernel
theorem dX12_lastReset_5 : decode cX12_lastReset 5 = .ok (.ifCond .ne 7, 3) := by decide +kernel
theorem dX12_lastReset_8 : decode cX12_lastReset 8 = .ok (.iconst 1, 1) := by decide +kernel
theorem dX12_lastReset_9 : decode cX12_lastReset 9 = .ok (.goto 4, 3) := by decide +kernel
theorem dX12_lastReset_12 : decode cX12_lastReset 12 = .ok (.iconst 0, 1) := by decide +kernel
theorem dX12_lastReset_13 : decode cX12_lastReset 13 = .ok (.putfield 53, 3) := by decide +kernel
theorem dX12_lastReset_16 : decode cX12_lastReset 16 = .ok (.aload_n 0, 1) := by decide +kernel
theorem dX12_lastReset_17 : decode cX12_lastReset 17 = .ok (.getfield 53, 3) := by decide +kernel
theorem dX12_lastReset_20 : decode cX12_lastReset 20 = .ok (.ifCond .ne 10, 3) := by decide +kernel
theorem dX12_lastReset_23 : decode cX12_lastReset 23 = .ok (.aload_n 0, 1) := by decide +kernel
theorem dX12_lastReset_24 : decode cX12_lastReset 24 = .ok (.getfield 210, 3) := by decide +kernel
theorem dX12_lastReset_27 : decode cX12_lastReset 27 = .ok (.goto 4, 3) := by decide +kernel
theorem dX12_lastReset_30 : decode cX12_lastReset 30 = .ok (.iconst (-1), 1) := by decide +kernel
theorem dX12_lastReset_31 : decode cX12_lastReset 31 = .ok (.ireturn, 1) := by decide +kernel
theorem dX12_energy_0 : decode cX12_energy 0 = .ok (.aload_n 0, 1) := by decide +kernel
theorem dX12_energy_1 : decode cX12_energy 1 = .ok (.iconst 0, 1) := by decide +kernel
theorem dX12_energy_2 : decode cX12_energy 2 = .ok (.putfield 53, 3) := by decide +kernel
theorem dX12_energy_5 : decode cX12_energy 5 = .ok (.aload_n 0, 1) := by decide +kernel
theorem dX12_energy_6 : decode cX12_energy 6 = .ok (.getfield 240, 3) := by decide +kernel
theorem dX12_energy_9 : decode cX12_energy 9 = .ok (.lreturn, 1) := by decide +kernel
theorem dX12_asleepShare_0 : decode cX12_asleepShare 0 = .ok (.aload_n 0, 1) := by decide +kernel
theorem dX12_asleepShare_1 : decode cX12_asleepShare 1 = .ok (.aload_n 0, 1) := by decide +kernel
theorem dX12_asleepShare_2 : decode cX12_asleepShare 2 = .ok (.getfield 178, 3) := by decide +kernel
theorem dX12_asleepShare_5 : decode cX12_asleepShare 5 = .ok (.ifCond .ne 7, 3) := by decide +kernel
theorem dX12_asleepShare_8 : decode cX12_asleepShare 8 = .ok (.iconst 1, 1) := by decide +kernel
theorem dX12_asleepShare_9 : decode cX12_asleepShare 9 = .ok (.goto 4, 3) := by decide +kernel
theorem dX12_asleepShare_12 : decode cX12_asleepShare 12 = .ok (.iconst 0, 1) := by decide +kernel
theorem dX12_asleepShare_13 : decode cX12_asleepShare 13 = .ok (.putfield 53, 3) := by decide +kernel
theorem dX12_asleepShare_16 : decode cX12_asleepShare 16 = .ok (.aload_n 0, 1) := by decide +kernel
theorem dX12_asleepShare_17 : decode cX12_asleepShare 17 = .ok (.getfield 53, 3) := by decide +kernel
theorem dX12_asleepShare_20 : decode cX12_asleepShare 20 = .ok (.ifCond .ne 17, 3) := by decide +kernel
theorem dX12_asleepShare_23 : decode cX12_asleepShare 23 = .ok (.aload_n 0, 1) := by decide +kernel
theorem dX12_asleepShare_24 : decode cX12_asleepShare 24 = .ok (.getfield 246, 3) := by decide +kernel
theorem dX12_asleepShare_27 : decode cX12_asleepShare 27 = .ok (.i2f, 1) := by decide +kernel
theorem dX12_asleepShare_28 : decode cX12_asleepShare 28 = .ok (.aload_n 0, 1) := by decide +kernel
theorem dX12_asleepShare_29 : decode cX12_asleepShare 29 = .ok (.getfield 178, 3) := by decide +kernel
theorem dX12_asleepShare_32 : decode cX12_asleepShare 32 = .ok (.i2f, 1) := by decide +kernel
theorem dX12_asleepShare_33 : decode cX12_asleepShare 33 = .ok (.fdiv, 1) := by decide +kernel
theorem dX12_asleepShare_34 : decode cX12_asleepShare 34 = .ok (.goto 4, 3) := by decide +kernel
theorem dX12_asleepShare_37 : decode cX12_asleepShare 37 = .ok (.fconst 0, 1) := by decide +kernel
theorem dX12_asleepShare_38 : decode cX12_asleepShare 38 = .ok (.freturn, 1) := by decide +kernel
theorem dX12_meanEnergy_0 : decode cX12_meanEnergy 0 = .ok (.aload_n 0, 1) := by decide +kernel
theorem dX12_meanEnergy_1 : decode cX12_meanEnergy 1 = .ok (.aload_n 0, 1) := by decide +kernel
theorem dX12_meanEnergy_2 : decode cX12_meanEnergy 2 = .ok (.getfield 178, 3) := by decide +kernel
theorem dX12_meanEnergy_5 : decode cX12_meanEnergy 5 = .ok (.ifCond .ne 7, 3) := by decide +kernel
theorem dX12_meanEnergy_8 : decode cX12_meanEnergy 8 = .ok (.iconst 1, 1) := by decide +kernel
theorem dX12_meanEnergy_9 : decode cX12_meanEnergy 9 = .ok (.goto 4, 3) := by decide +kernel
theorem dX12_meanEnergy_12 : decode cX12_meanEnergy 12 = .ok (.iconst 0, 1) := by decide +kernel
theorem dX12_meanEnergy_13 : decode cX12_meanEnergy 13 = .ok (.putfield 53, 3) := by decide +kernel
theorem dX12_meanEnergy_16 : decode cX12_meanEnergy 16 = .ok (.aload_n 0, 1) := by decide +kernel
theorem dX12_meanEnergy_17 : decode cX12_meanEnergy 17 = .ok (.getfield 53, 3) := by decide +kernel
theorem dX12_meanEnergy_20 : decode cX12_meanEnergy 20 = .ok (.ifCond .ne 17, 3) := by decide +kernel
theorem dX12_meanEnergy_23 : decode cX12_meanEnergy 23 = .ok (.aload_n 0, 1) := by decide +kernel
theorem dX12_meanEnergy_24 : decode cX12_meanEnergy 24 = .ok (.getfield 240, 3) := by decide +kernel
theorem dX12_meanEnergy_27 : decode cX12_meanEnergy 27 = .ok (.l2d, 1) := by decide +kernel
theorem dX12_meanEnergy_28 : decode cX12_meanEnergy 28 = .ok (.aload_n 0, 1) := by decide +kernel
theorem dX12_meanEnergy_29 : decode cX12_meanEnergy 29 = .ok (.getfield 178, 3) := by decide +kernel
theorem dX12_meanEnergy_32 : decode cX12_meanEnergy 32 = .ok (.i2d, 1) := by decide +kernel
theorem dX12_meanEnergy_33 : decode cX12_meanEnergy 33 = .ok (.ddiv, 1) := by decide +kernel
theorem dX12_meanEnergy_34 : decode cX12_meanEnergy 34 = .ok (.goto 4, 3) := by decide +kernel
theorem dX12_meanEnergy_37 : decode cX12_meanEnergy 37 = .ok (.dconst 0, 1) := by decide +kernel
theorem dX12_meanEnergy_38 : decode cX12_meanEnergy 38 = .ok (.dreturn, 1) := by decide +kernel
theorem dX12_isConsistent_0 : decode cX12_isConsistent 0 = .ok (.aload_n 0, 1) := by decide +kernel
theorem dX12_isConsistent_1 : decode cX12_isConsistent 1 = .ok (.iconst 0, 1) := by decide +kernel
theorem dX12_isConsistent_2 : decode cX12_isConsistent 2 = .ok (.putfield 53, 3) := by decide +kernel
theorem dX12_isConsistent_5 : decode cX12_isConsistent 5 = .ok (.iconst 1, 1) := by decide +kernel
theorem dX12_isConsistent_6 : decode cX12_isConsistent 6 = .ok (.ireturn, 1) := by decide +kernel
