set_option maxRecDepth 20000 in
theorem ggX12_init_Jx4a65c_init_da8c8 : GoodIn wsX12_init wsJx4a65c_init_da8c8 := goodIn_r _ [25, 26, 27, 28, 29, 30, 31, 32, 33, 34, 35, 36, 37, 2, 3, 110, 111, 112] (by decide +kernel) (by decide +kernel)
set_option maxRecDepth 20000 in
theorem gX12_init_Jx4a65c_init_da8c8 : GoodIn wsX12_init (wsJx4a65c_init_da8c8) := ggX12_init_Jx4a65c_init_da8c8
set_option maxRecDepth 20000 in
theorem ggX12_init_X9_init : GoodIn wsX12_init wsX9_init := goodIn_r _ [39, 40, 2, 3, 41, 42, 136, 137, 138, 139, 140] (by decide +kernel) (by decide +kernel)
set_option maxRecDepth 20000 in
theorem gX12_init_X9_init_n40 : GoodIn wsX12_init (wsX9_init) := ggX12_init_X9_init
set_option maxRecDepth 20000 in
theorem ggX12_init_Jx4a65c_add_9ea2d : GoodIn wsX12_init wsJx4a65c_add_9ea2d := goodIn_r _ [46, 47, 48, 27, 49, 50, 51, 52, 6, 53, 54, 55, 56, 57, 58, 59, 60, 61, 26, 62, 63, 64, 65, 66, 67, 68, 69, 70, 71, 72, 73, 74, 75, 76, 77, 78, 79, 80, 81, 82, 83, 84, 85, 86, 87, 88, 89, 90, 91, 92, 93, 94, 95, 110, 111, 112] (by decide +kernel) (by decide +kernel)
set_option maxRecDepth 20000 in
theorem gX12_init_Jx4a65c_add_9ea2d_f41Jx4a65c : GoodIn wsX12_init (va_wsF RX12 41 RJx4a65c ⟨"java/util/List", "add", "(Ljava/lang/Object;)Z"⟩ yJx4a65c_add_9ea2d wsJx4a65c_add_9ea2d) := goodIn_app (goodIn_of _ (by decide +kernel)) ggX12_init_Jx4a65c_add_9ea2d
set_option maxRecDepth 20000 in
theorem ggX12_init_X11_init : GoodIn wsX12_init wsX11_init := goodIn_r _ [97, 98, 2, 3, 99, 100, 101, 102, 103, 141, 142, 143, 144, 145, 146, 147, 148, 149, 150] (by decide +kernel) (by decide +kernel)
set_option maxRecDepth 20000 in
theorem gX12_init_X11_init_n49 : GoodIn wsX12_init (wsX11_init) := ggX12_init_X11_init
set_option maxRecDepth 20000 in
theorem ggX12_init_X10_init : GoodIn wsX12_init wsX10_init := goodIn_r _ [105, 106, 2, 3, 107, 108, 109, 151, 152, 153, 154, 155, 156, 157] (by decide +kernel) (by decide +kernel)
set_option maxRecDepth 20000 in
theorem gX12_init_X10_init_n52 : GoodIn wsX12_init (wsX10_init) := ggX12_init_X10_init
theorem dX12_init_0 : decode cX12_init 0 = .ok (.aload_n 0, 1) := by decide +kernel
theorem dX12_init_1 : decode cX12_init 1 = .ok (.invokespecial 3, 3) := by decide +kernel
theorem dX12_init_4 : decode cX12_init 4 = .ok (.aload_n 0, 1) := by decide +kernel
theorem dX12_init_5 : decode cX12_init 5 = .ok (.new 9, 3) := by decide +kernel
theorem dX12_init_8 : decode cX12_init 8 = .ok (.dup, 1) := by decide +kernel
theorem dX12_init_9 : decode cX12_init 9 = .ok (.invokespecial 11, 3) := by decide +kernel
theorem dX12_init_12 : decode cX12_init 12 = .ok (.putfield 12, 3) := by decide +kernel
theorem dX12_init_15 : decode cX12_init 15 = .ok (.aload_n 0, 1) := by decide +kernel
theorem dX12_init_16 : decode cX12_init 16 = .ok (.new 9, 3) := by decide +kernel
theorem dX12_init_19 : decode cX12_init 19 = .ok (.dup, 1) := by decide +kernel
theorem dX12_init_20 : decode cX12_init 20 = .ok (.invokespecial 11, 3) := by decide +kernel
theorem dX12_init_23 : decode cX12_init 23 = .ok (.putfield 18, 3) := by decide +kernel
theorem dX12_init_26 : decode cX12_init 26 = .ok (.aload_n 0, 1) := by decide +kernel
theorem dX12_init_27 : decode cX12_init 27 = .ok (.new 9, 3) := by decide +kernel
theorem dX12_init_30 : decode cX12_init 30 = .ok (.dup, 1) := by decide +kernel
theorem dX12_init_31 : decode cX12_init 31 = .ok (.invokespecial 11, 3) := by decide +kernel
theorem dX12_init_34 : decode cX12_init 34 = .ok (.putfield 21, 3) := by decide +kernel
theorem dX12_init_37 : decode cX12_init 37 = .ok (.aload_n 0, 1) := by decide +kernel
theorem dX12_init_38 : decode cX12_init 38 = .ok (.new 9, 3) := by decide +kernel
theorem dX12_init_41 : decode cX12_init 41 = .ok (.dup, 1) := by decide +kernel
theorem dX12_init_42 : decode cX12_init 42 = .ok (.invokespecial 11, 3) := by decide +kernel
theorem dX12_init_45 : decode cX12_init 45 = .ok (.putfield 24, 3) := by decide +kernel
theorem dX12_init_48 : decode cX12_init 48 = .ok (.aload_n 0, 1) := by decide +kernel
theorem dX12_init_49 : decode cX12_init 49 = .ok (.new 9, 3) := by decide +kernel
theorem dX12_init_52 : decode cX12_init 52 = .ok (.dup, 1) := by decide +kernel
theorem dX12_init_53 : decode cX12_init 53 = .ok (.invokespecial 11, 3) := by decide +kernel
theorem dX12_init_56 : decode cX12_init 56 = .ok (.putfield 27, 3) := by decide +kernel
theorem dX12_init_59 : decode cX12_init 59 = .ok (.aload_n 0, 1) := by decide +kernel
theorem dX12_init_60 : decode cX12_init 60 = .ok (.bipush 105, 2) := by decide +kernel
theorem dX12_init_62 : decode cX12_init 62 = .ok (.putfield 30, 3) := by decide +kernel
theorem dX12_init_65 : decode cX12_init 65 = .ok (.aload_n 0, 1) := by decide +kernel
theorem dX12_init_66 : decode cX12_init 66 = .ok (.iconst (-1), 1) := by decide +kernel
theorem dX12_init_67 : decode cX12_init 67 = .ok (.putfield 34, 3) := by decide +kernel
theorem dX12_init_70 : decode cX12_init 70 = .ok (.iconst 0, 1) := by decide +kernel
theorem dX12_init_71 : decode cX12_init 71 = .ok (.istore_n 1, 1) := by decide +kernel
theorem dX12_init_72 : decode cX12_init 72 = .ok (.iload_n 1, 1) := by decide +kernel
theorem dX12_init_73 : decode cX12_init 73 = .ok (.iconst 4, 1) := by decide +kernel
theorem dX12_init_74 : decode cX12_init 74 = .ok (.if_icmp .ge 26, 3) := by decide +kernel
theorem dX12_init_77 : decode cX12_init 77 = .ok (.aload_n 0, 1) := by decide +kernel
theorem dX12_init_78 : decode cX12_init 78 = .ok (.getfield 12, 3) := by decide +kernel
theorem dX12_init_81 : decode cX12_init 81 = .ok (.new 38, 3) := by decide +kernel
theorem dX12_init_84 : decode cX12_init 84 = .ok (.dup, 1) := by decide +kernel
theorem dX12_init_85 : decode cX12_init 85 = .ok (.invokespecial 40, 3) := by decide +kernel
theorem dX12_init_88 : decode cX12_init 88 = .ok (.invokeinterface 41 2, 5) := by decide +kernel
theorem dX12_init_93 : decode cX12_init 93 = .ok (.pop, 1) := by decide +kernel
theorem dX12_init_94 : decode cX12_init 94 = .ok (.iinc 1 1, 3) := by decide +kernel
theorem dX12_init_97 : decode cX12_init 97 = .ok (.goto (-25), 3) := by decide +kernel
theorem dX12_init_100 : decode cX12_init 100 = .ok (.iconst 0, 1) := by decide +kernel
theorem dX12_init_101 : decode cX12_init 101 = .ok (.istore_n 1, 1) := by decide +kernel
theorem dX12_init_102 : decode cX12_init 102 = .ok (.iload_n 1, 1) := by decide +kernel
theorem dX12_init_103 : decode cX12_init 103 = .ok (.iconst 4, 1) := by decide +kernel
theorem dX12_init_104 : decode cX12_init 104 = .ok (.if_icmp .ge 26, 3) := by decide +kernel
theorem dX12_init_107 : decode cX12_init 107 = .ok (.aload_n 0, 1) := by decide +kernel
theorem dX12_init_108 : decode cX12_init 108 = .ok (.getfield 18, 3) := by decide +kernel
theorem dX12_init_111 : decode cX12_init 111 = .ok (.new 47, 3) := by decide +kernel
theorem dX12_init_114 : decode cX12_init 114 = .ok (.dup, 1) := by decide +kernel
theorem dX12_init_115 : decode cX12_init 115 = .ok (.invokespecial 49, 3) := by decide +kernel
theorem dX12_init_118 : decode cX12_init 118 = .ok (.invokeinterface 41 2, 5) := by decide +kernel
theorem dX12_init_123 : decode cX12_init 123 = .ok (.pop, 1) := by decide +kernel
theorem dX12_init_124 : decode cX12_init 124 = .ok (.iinc 1 1, 3) := by decide +kernel
theorem dX12_init_127 : decode cX12_init 127 = .ok (.goto (-25), 3) := by decide +kernel
theorem dX12_init_130 : decode cX12_init 130 = .ok (.iconst 0, 1) := by decide +kernel
theorem dX12_init_131 : decode cX12_init 131 = .ok (.istore_n 1, 1) := by decide +kernel
theorem dX12_init_132 : decode cX12_init 132 = .ok (.iload_n 1, 1) := by decide +kernel
theorem dX12_init_133 : decode cX12_init 133 = .ok (.bipush 8, 2) := by decide +kernel
theorem dX12_init_135 : decode cX12_init 135 = .ok (.if_icmp .ge 26, 3) := by decide +kernel
theorem dX12_init_138 : decode cX12_init 138 = .ok (.aload_n 0, 1) := by decide +kernel
theorem dX12_init_139 : decode cX12_init 139 = .ok (.getfield 21, 3) := by decide +kernel
theorem dX12_init_142 : decode cX12_init 142 = .ok (.new 50, 3) := by decide +kernel
theorem dX12_init_145 : decode cX12_init 145 = .ok (.dup, 1) := by decide +kernel
theorem dX12_init_146 : decode cX12_init 146 = .ok (.invokespecial 52, 3) := by decide +kernel
theorem dX12_init_149 : decode cX12_init 149 = .ok (.invokeinterface 41 2, 5) := by decide +kernel
theorem dX12_init_154 : decode cX12_init 154 = .ok (.pop, 1) := by decide +kernel
theorem dX12_init_155 : decode cX12_init 155 = .ok (.iinc 1 1, 3) := by decide +kernel
theorem dX12_init_158 : decode cX12_init 158 = .ok (.goto (-26), 3) := by decide +kernel
theorem dX12_init_161 : decode cX12_init 161 = .ok (.return_, 1) := by decide +kernel
theorem dX12_thrown_0 : decode cX12_thrown 0 = .ok (.aload_n 0, 1) := by decide +kernel
theorem dX12_thrown_1 : decode cX12_thrown 1 = .ok (.getfield 53, 3) := by decide +kernel
theorem dX12_thrown_4 : decode cX12_thrown 4 = .ok (.ireturn, 1) := by decide +kernel
theorem dX12_in_0 : decode cX12_in 0 = .ok (.lload_n 0, 1) := by decide +kernel
theorem dX12_in_1 : decode cX12_in 1 = .ok (.lload_n 2, 1) := by decide +kernel
theorem dX12_in_2 : decode cX12_in 2 = .ok (.lcmp, 1) := by decide +kernel
theorem dX12_in_3 : decode cX12_in 3 = .ok (.ifCond .lt 14, 3) := by decide +kernel
theorem dX12_in_6 : decode cX12_in 6 = .ok (.lload_n 0, 1) := by decide +kernel
theorem dX12_in_7 : decode cX12_in 7 = .ok (.lload 4, 2) := by decide +kernel
theorem dX12_in_9 : decode cX12_in 9 = .ok (.lcmp, 1) := by decide +kernel
theorem dX12_in_10 : decode cX12_in 10 = .ok (.ifCond .gt 7, 3) := by decide +kernel
theorem dX12_in_13 : decode cX12_in 13 = .ok (.iconst 1, 1) := by decide +kernel
theorem dX12_in_14 : decode cX12_in 14 = .ok (.goto 4, 3) := by decide +kernel
theorem dX12_in_17 : decode cX12_in 17 = .ok (.iconst 0, 1) := by decide +kernel
theorem dX12_in_18 : decode cX12_in 18 = .ok (.ireturn, 1) := by decide +kernel
set_option maxRecDepth 20000 in
theorem ggX12_isTimer_X12_in : GoodIn wsX12_isTimer wsX12_in := goodIn_r _ [5] (by decide +kernel) (by decide +kernel)
set_option maxRecDepth 20000 in
theorem gX12_isTimer_X12_in : GoodIn wsX12_isTimer (va_wsS RX12 58 yX12_in wsX12_in) := goodIn_app (goodIn_of _ (by decide +kernel)) ggX12_isTimer_X12_in
theorem dX12_isTimer_0 : decode cX12_isTimer 0 = .ok (.iload_n 0, 1) := by decide +kernel
theorem dX12_isTimer_1 : decode cX12_isTimer 1 = .ok (.i2l, 1) := by decide +kernel
theorem dX12_isTimer_2 : decode cX12_isTimer 2 = .ok (.lconst 0, 1) := by decide +kernel
theorem dX12_isTimer_3 : decode cX12_isTimer 3 = .ok (.ldc2_w 56, 3) := by decide +kernel
theorem dX12_isTimer_6 : decode cX12_isTimer 6 = .ok (.invokestatic 58, 3) := by decide +kernel
theorem dX12_isTimer_9 : decode cX12_isTimer 9 = .ok (.ireturn, 1) := by decide +kernel
set_option maxRecDepth 20000 in
theorem ggX12_isClock_X12_in : GoodIn wsX12_isClock wsX12_in := goodIn_r _ [5] (by decide +kernel) (by decide +kernel)
set_option maxRecDepth 20000 in
theorem gX12_isClock_X12_in : GoodIn wsX12_isClock (va_wsS RX12 58 yX12_in wsX12_in) := goodIn_app (goodIn_of _ (by decide +kernel)) ggX12_isClock_X12_in
theorem dX12_isClock_0 : decode cX12_isClock 0 = .ok (.iload_n 0, 1) := by decide +kernel
theorem dX12_isClock_1 : decode cX12_isClock 1 = .ok (.i2l, 1) := by decide +kernel
theorem dX12_isClock_2 : decode cX12_isClock 2 = .ok (.lconst 0, 1) := by decide +kernel
theorem dX12_isClock_3 : decode cX12_isClock 3 = .ok (.ldc2_w 56, 3) := by decide +kernel
theorem dX12_isClock_6 : decode cX12_isClock 6 = .ok (.invokestatic 58, 3) := by decide +kernel
theorem dX12_isClock_9 : decode cX12_isClock 9 = .ok (.ireturn, 1) := by decide +kernel
set_option maxRecDepth 20000 in
theorem ggX12_isLine_X12_in : GoodIn wsX12_isLine wsX12_in := goodIn_r _ [5] (by decide +kernel) (by decide +kernel)
set_option maxRecDepth 20000 in
theorem gX12_isLine_X12_in : GoodIn wsX12_isLine (va_wsS RX12 58 yX12_in wsX12_in) := goodIn_app (goodIn_of _ (by decide +kernel)) ggX12_isLine_X12_in
theorem dX12_isLine_0 : decode cX12_isLine 0 = .ok (.iload_n 0, 1) := by decide +kernel
theorem dX12_isLine_1 : decode cX12_isLine 1 = .ok (.i2l, 1) := by decide +kernel
theorem dX12_isLine_2 : decode cX12_isLine 2 = .ok (.lconst 0, 1) := by decide +kernel
theorem dX12_isLine_3 : decode cX12_isLine 3 = .ok (.ldc2_w 62, 3) := by decide +kernel
theorem dX12_isLine_6 : decode cX12_isLine 6 = .ok (.invokestatic 58, 3) := by decide +kernel
theorem dX12_isLine_9 : decode cX12_isLine 9 = .ok (.ireturn, 1) := by decide +kernel
set_option maxRecDepth 20000 in
theorem ggX12_isPin_X12_in : GoodIn wsX12_isPin wsX12_in := goodIn_r _ [5] (by decide +kernel) (by decide +kernel)
set_option maxRecDepth 20000 in
theorem gX12_isPin_X12_in : GoodIn wsX12_isPin (va_wsS RX12 58 yX12_in wsX12_in) := goodIn_app (goodIn_of _ (by decide +kernel)) ggX12_isPin_X12_in
theorem dX12_isPin_0 : decode cX12_isPin 0 = .ok (.iload_n 0, 1) := by decide +kernel
theorem dX12_isPin_1 : decode cX12_isPin 1 = .ok (.i2l, 1) := by decide +kernel
theorem dX12_isPin_2 : decode cX12_isPin 2 = .ok (.lconst 0, 1) := by decide +kernel
theorem dX12_isPin_3 : decode cX12_isPin 3 = .ok (.ldc2_w 62, 3) := by decide +kernel
theorem dX12_isPin_6 : decode cX12_isPin 6 = .ok (.invokestatic 58, 3) := by decide +kernel
theorem dX12_isPin_9 : decode cX12_isPin 9 = .ok (.ireturn, 1) := by decide +kernel
set_option maxRecDepth 20000 in
theorem ggX12_setClock_X12_in : GoodIn wsX12_setClock wsX12_in := goodIn_r _ [9] (by decide +kernel) (by decide +kernel)
set_option maxRecDepth 20000 in
theorem gX12_setClock_X12_in : GoodIn wsX12_setClock (va_wsS RX12 58 yX12_in wsX12_in) := goodIn_app (goodIn_of _ (by decide +kernel)) ggX12_setClock_X12_in
set_option maxRecDepth 20000 in
theorem ggX12_setClock_Jx4a65c_get_915e3 : GoodIn wsX12_setClock wsJx4a65c_get_915e3 := goodIn_r _ [14, 15, 16, 17, 18, 19, 20, 21, 22, 23, 24, 25, 26, 13, 27, 28, 57, 58, 59] (by decide +kernel) (by decide +kernel)
set_option maxRecDepth 20000 in
theorem gX12_setClock_Jx4a65c_get_915e3_f66Jx4a65c : GoodIn wsX12_setClock (va_wsF RX12 66 RJx4a65c ⟨"java/util/List", "get", "(I)Ljava/lang/Object;"⟩ yJx4a65c_get_915e3 wsJx4a65c_get_915e3) := goodIn_app (goodIn_of _ (by decide +kernel)) ggX12_setClock_Jx4a65c_get_915e3
theorem dX12_setClock_0 : decode cX12_setClock 0 = .ok (.iload_n 1, 1) := by decide +kernel
theorem dX12_setClock_1 : decode cX12_setClock 1 = .ok (.i2l, 1) := by decide +kernel
theorem dX12_setClock_2 : decode cX12_setClock 2 = .ok (.lconst 1, 1) := by decide +kernel
theorem dX12_setClock_3 : decode cX12_setClock 3 = .ok (.ldc2_w 56, 3) := by decide +kernel
theorem dX12_setClock_6 : decode cX12_setClock 6 = .ok (.invokestatic 58, 3) := by decide +kernel
theorem dX12_setClock_9 : decode cX12_setClock 9 = .ok (.ifCond .eq 20, 3) := by decide +kernel
theorem dX12_setClock_12 : decode cX12_setClock 12 = .ok (.iload_n 2, 1) := by decide +kernel
theorem dX12_setClock_13 : decode cX12_setClock 13 = .ok (.i2l, 1) := by decide +kernel
theorem dX12_setClock_14 : decode cX12_setClock 14 = .ok (.lconst 0, 1) := by decide +kernel
theorem dX12_setClock_15 : decode cX12_setClock 15 = .ok (.iload_n 1, 1) := by decide +kernel
theorem dX12_setClock_16 : decode cX12_setClock 16 = .ok (.iconst 1, 1) := by decide +kernel
theorem dX12_setClock_17 : decode cX12_setClock 17 = .ok (.isub, 1) := by decide +kernel
theorem dX12_setClock_18 : decode cX12_setClock 18 = .ok (.i2l, 1) := by decide +kernel
theorem dX12_setClock_19 : decode cX12_setClock 19 = .ok (.invokestatic 58, 3) := by decide +kernel
theorem dX12_setClock_22 : decode cX12_setClock 22 = .ok (.ifCond .eq 7, 3) := by decide +kernel
theorem dX12_setClock_25 : decode cX12_setClock 25 = .ok (.iconst 1, 1) := by decide +kernel
theorem dX12_setClock_26 : decode cX12_setClock 26 = .ok (.goto 4, 3) := by decide +kernel
theorem dX12_setClock_29 : decode cX12_setClock 29 = .ok (.iconst 0, 1) := by decide +kernel
theorem dX12_setClock_30 : decode cX12_setClock 30 = .ok (.istore 5, 2) := by decide +kernel
theorem dX12_setClock_32 : decode cX12_setClock 32 = .ok (.aload_n 0, 1) := by decide +kernel
theorem dX12_setClock_33 : decode cX12_setClock 33 = .ok (.iload 5, 2) := by decide +kernel
theorem dX12_setClock_35 : decode cX12_setClock 35 = .ok (.ifCond .ne 7, 3) := by decide +kernel
theorem dX12_setClock_38 : decode cX12_setClock 38 = .ok (.iconst 1, 1) := by decide +kernel
theorem dX12_setClock_39 : decode cX12_setClock 39 = .ok (.goto 20, 3) := by decide +kernel
theorem dX12_setClock_42 : decode cX12_setClock 42 = .ok (.iload_n 3, 1) := by decide +kernel
theorem dX12_setClock_43 : decode cX12_setClock 43 = .ok (.i2l, 1) := by decide +kernel
theorem dX12_setClock_44 : decode cX12_setClock 44 = .ok (.lconst 1, 1) := by decide +kernel
theorem dX12_setClock_45 : decode cX12_setClock 45 = .ok (.ldc2_w 64, 3) := by decide +kernel
theorem dX12_setClock_48 : decode cX12_setClock 48 = .ok (.invokestatic 58, 3) := by decide +kernel
theorem dX12_setClock_51 : decode cX12_setClock 51 = .ok (.ifCond .ne 7, 3) := by decide +kernel
theorem dX12_setClock_54 : decode cX12_setClock 54 = .ok (.iconst 2, 1) := by decide +kernel
theorem dX12_setClock_55 : decode cX12_setClock 55 = .ok (.goto 4, 3) := by decide +kernel
theorem dX12_setClock_58 : decode cX12_setClock 58 = .ok (.iconst 0, 1) := by decide +kernel
theorem dX12_setClock_59 : decode cX12_setClock 59 = .ok (.putfield 53, 3) := by decide +kernel
theorem dX12_setClock_62 : decode cX12_setClock 62 = .ok (.aload_n 0, 1) := by decide +kernel
theorem dX12_setClock_63 : decode cX12_setClock 63 = .ok (.getfield 53, 3) := by decide +kernel
theorem dX12_setClock_66 : decode cX12_setClock 66 = .ok (.ifCond .le 5, 3) := by decide +kernel
theorem dX12_setClock_69 : decode cX12_setClock 69 = .ok (.iconst (-1), 1) := by decide +kernel
theorem dX12_setClock_70 : decode cX12_setClock 70 = .ok (.ireturn, 1) := by decide +kernel
theorem dX12_setClock_71 : decode cX12_setClock 71 = .ok (.aload_n 0, 1) := by decide +kernel
theorem dX12_setClock_72 : decode cX12_setClock 72 = .ok (.getfield 12, 3) := by decide +kernel
theorem dX12_setClock_75 : decode cX12_setClock 75 = .ok (.iload_n 1, 1) := by decide +kernel
theorem dX12_setClock_76 : decode cX12_setClock 76 = .ok (.invokeinterface 66 2, 5) := by decide +kernel
theorem dX12_setClock_81 : decode cX12_setClock 81 = .ok (.checkcast 38, 3) := by decide +kernel
theorem dX12_setClock_84 : decode cX12_setClock 84 = .ok (.astore 6, 2) := by decide +kernel
theorem dX12_setClock_86 : decode cX12_setClock 86 = .ok (.aload 6, 2) := by decide +kernel
theorem dX12_setClock_88 : decode cX12_setClock 88 = .ok (.getfield 70, 3) := by decide +kernel
theorem dX12_setClock_91 : decode cX12_setClock 91 = .ok (.istore 7, 2) := by decide +kernel
theorem dX12_setClock_93 : decode cX12_setClock 93 = .ok (.aload 6, 2) := by decide +kernel
theorem dX12_setClock_95 : decode cX12_setClock 95 = .ok (.iload_n 2, 1) := by decide +kernel
theorem dX12_setClock_96 : decode cX12_setClock 96 = .ok (.putfield 73, 3) := by decide +kernel
theorem dX12_setClock_99 : decode cX12_setClock 99 = .ok (.aload 6, 2) := by decide +kernel
theorem dX12_setClock_101 : decode cX12_setClock 101 = .ok (.iload_n 3, 1) := by decide +kernel
theorem dX12_setClock_102 : decode cX12_setClock 102 = .ok (.putfield 70, 3) := by decide +kernel
theorem dX12_setClock_105 : decode cX12_setClock 105 = .ok (.aload 6, 2) := by decide +kernel
theorem dX12_setClock_107 : decode cX12_setClock 107 = .ok (.iload 4, 2) := by decide +kernel
theorem dX12_setClock_109 : decode cX12_setClock 109 = .ok (.putfield 76, 3) := by decide +kernel
theorem dX12_setClock_112 : decode cX12_setClock 112 = .ok (.iload 7, 2) := by decide +kernel
theorem dX12_setClock_114 : decode cX12_setClock 114 = .ok (.ireturn, 1) := by decide +kernel
set_option maxRecDepth 20000 in
theorem ggX12_setTimer_X12_in : GoodIn wsX12_setTimer wsX12_in := goodIn_r _ [8] (by decide +kernel) (by decide +kernel)
set_option maxRecDepth 20000 in
theorem gX12_setTimer_X12_in : GoodIn wsX12_setTimer (va_wsS RX12 58 yX12_in wsX12_in) := goodIn_app (goodIn_of _ (by decide +kernel)) ggX12_setTimer_X12_in
set_option maxRecDepth 20000 in
theorem ggX12_setTimer_X12_isTimer : GoodIn wsX12_setTimer wsX12_isTimer := goodIn_r _ [11, 12, 5, 6, 7, 8] (by decide +kernel) (by decide +kernel)
set_option maxRecDepth 20000 in
theorem gX12_setTimer_X12_isTimer : GoodIn wsX12_setTimer (va_wsS RX12 82 yX12_isTimer wsX12_isTimer) := goodIn_app (goodIn_of _ (by decide +kernel)) ggX12_setTimer_X12_isTimer
set_option maxRecDepth 20000 in
theorem ggX12_setTimer_X12_isClock : GoodIn wsX12_setTimer wsX12_isClock := goodIn_r _ [15, 12, 5, 6, 7, 8] (by decide +kernel) (by decide +kernel)
set_option maxRecDepth 20000 in
theorem gX12_setTimer_X12_isClock : GoodIn wsX12_setTimer (va_wsS RX12 86 yX12_isClock wsX12_isClock) := goodIn_app (goodIn_of _ (by decide +kernel)) ggX12_setTimer_X12_isClock
set_option maxRecDepth 20000 in
theorem ggX12_setTimer_Jx4a65c_get_915e3 : GoodIn wsX12_setTimer wsJx4a65c_get_915e3 := goodIn_r _ [20, 21, 22, 23, 24, 25, 26, 27, 28, 29, 30, 31, 32, 19, 33, 34, 68, 69, 70] (by decide +kernel) (by decide +kernel)
set_option maxRecDepth 20000 in
theorem gX12_setTimer_Jx4a65c_get_915e3_f66Jx4a65c : GoodIn wsX12_setTimer (va_wsF RX12 66 RJx4a65c ⟨"java/util/List", "get", "(I)Ljava/lang/Object;"⟩ yJx4a65c_get_915e3 wsJx4a65c_get_915e3) := goodIn_app (goodIn_of _ (by decide +kernel)) ggX12_setTimer_Jx4a65c_get_915e3
theorem dX12_setTimer_0 : decode cX12_setTimer 0 = .ok (.iload_n 3, 1) := by decide +kernel
theorem dX12_setTimer_1 : decode cX12_setTimer 1 = .ok (.i2l, 1) := by decide +kernel
theorem dX12_setTimer_2 : decode cX12_setTimer 2 = .ok (.lconst 1, 1) := by decide +kernel
theorem dX12_setTimer_3 : decode cX12_setTimer 3 = .ok (.ldc2_w 80, 3) := by decide +kernel
theorem dX12_setTimer_6 : decode cX12_setTimer 6 = .ok (.invokestatic 58, 3) := by decide +kernel
theorem dX12_setTimer_9 : decode cX12_setTimer 9 = .ok (.ifCond .eq 34, 3) := by decide +kernel
theorem dX12_setTimer_12 : decode cX12_setTimer 12 = .ok (.iload 4, 2) := by decide +kernel
theorem dX12_setTimer_14 : decode cX12_setTimer 14 = .ok (.i2l, 1) := by decide +kernel
theorem dX12_setTimer_15 : decode cX12_setTimer 15 = .ok (.lconst 1, 1) := by decide +kernel
theorem dX12_setTimer_16 : decode cX12_setTimer 16 = .ok (.ldc2_w 80, 3) := by decide +kernel
theorem dX12_setTimer_19 : decode cX12_setTimer 19 = .ok (.invokestatic 58, 3) := by decide +kernel
theorem dX12_setTimer_22 : decode cX12_setTimer 22 = .ok (.ifCond .eq 21, 3) := by decide +kernel
theorem dX12_setTimer_25 : decode cX12_setTimer 25 = .ok (.iload 5, 2) := by decide +kernel
theorem dX12_setTimer_27 : decode cX12_setTimer 27 = .ok (.bipush 114, 2) := by decide +kernel
theorem dX12_setTimer_29 : decode cX12_setTimer 29 = .ok (.if_icmp .eq 10, 3) := by decide +kernel
theorem dX12_setTimer_32 : decode cX12_setTimer 32 = .ok (.iload 5, 2) := by decide +kernel
theorem dX12_setTimer_34 : decode cX12_setTimer 34 = .ok (.bipush 111, 2) := by decide +kernel
theorem dX12_setTimer_36 : decode cX12_setTimer 36 = .ok (.if_icmp .ne 7, 3) := by decide +kernel
theorem dX12_setTimer_39 : decode cX12_setTimer 39 = .ok (.iconst 1, 1) := by decide +kernel
theorem dX12_setTimer_40 : decode cX12_setTimer 40 = .ok (.goto 4, 3) := by decide +kernel
theorem dX12_setTimer_43 : decode cX12_setTimer 43 = .ok (.iconst 0, 1) := by decide +kernel
theorem dX12_setTimer_44 : decode cX12_setTimer 44 = .ok (.istore 6, 2) := by decide +kernel
theorem dX12_setTimer_46 : decode cX12_setTimer 46 = .ok (.aload_n 0, 1) := by decide +kernel
theorem dX12_setTimer_47 : decode cX12_setTimer 47 = .ok (.iload_n 1, 1) := by decide +kernel
theorem dX12_setTimer_48 : decode cX12_setTimer 48 = .ok (.invokestatic 82, 3) := by decide +kernel
theorem dX12_setTimer_51 : decode cX12_setTimer 51 = .ok (.ifCond .eq 10, 3) := by decide +kernel
theorem dX12_setTimer_54 : decode cX12_setTimer 54 = .ok (.iload_n 2, 1) := by decide +kernel
theorem dX12_setTimer_55 : decode cX12_setTimer 55 = .ok (.invokestatic 86, 3) := by decide +kernel
theorem dX12_setTimer_58 : decode cX12_setTimer 58 = .ok (.ifCond .ne 7, 3) := by decide +kernel
theorem dX12_setTimer_61 : decode cX12_setTimer 61 = .ok (.iconst 1, 1) := by decide +kernel
theorem dX12_setTimer_62 : decode cX12_setTimer 62 = .ok (.goto 13, 3) := by decide +kernel
theorem dX12_setTimer_65 : decode cX12_setTimer 65 = .ok (.iload 6, 2) := by decide +kernel
theorem dX12_setTimer_67 : decode cX12_setTimer 67 = .ok (.ifCond .ne 7, 3) := by decide +kernel
theorem dX12_setTimer_70 : decode cX12_setTimer 70 = .ok (.iconst 2, 1) := by decide +kernel
theorem dX12_setTimer_71 : decode cX12_setTimer 71 = .ok (.goto 4, 3) := by decide +kernel
theorem dX12_setTimer_74 : decode cX12_setTimer 74 = .ok (.iconst 0, 1) := by decide +kernel
theorem dX12_setTimer_75 : decode cX12_setTimer 75 = .ok (.putfield 53, 3) := by decide +kernel
theorem dX12_setTimer_78 : decode cX12_setTimer 78 = .ok (.aload_n 0, 1) := by decide +kernel
theorem dX12_setTimer_79 : decode cX12_setTimer 79 = .ok (.getfield 53, 3) := by decide +kernel
theorem dX12_setTimer_82 : decode cX12_setTimer 82 = .ok (.ifCond .le 5, 3) := by decide +kernel
theorem dX12_setTimer_85 : decode cX12_setTimer 85 = .ok (.iconst (-1), 1) := by decide +kernel
theorem dX12_setTimer_86 : decode cX12_setTimer 86 = .ok (.ireturn, 1) := by decide +kernel
theorem dX12_setTimer_87 : decode cX12_setTimer 87 = .ok (.aload_n 0, 1) := by decide +kernel
theorem dX12_setTimer_88 : decode cX12_setTimer 88 = .ok (.getfield 18, 3) := by decide +kernel
theorem dX12_setTimer_91 : decode cX12_setTimer 91 = .ok (.iload_n 1, 1) := by decide +kernel
theorem dX12_setTimer_92 : decode cX12_setTimer 92 = .ok (.invokeinterface 66 2, 5) := by decide +kernel
theorem dX12_setTimer_97 : decode cX12_setTimer 97 = .ok (.checkcast 47, 3) := by decide +kernel
theorem dX12_setTimer_100 : decode cX12_setTimer 100 = .ok (.astore 7, 2) := by decide +kernel
theorem dX12_setTimer_102 : decode cX12_setTimer 102 = .ok (.aload 7, 2) := by decide +kernel
theorem dX12_setTimer_104 : decode cX12_setTimer 104 = .ok (.getfield 89, 3) := by decide +kernel
theorem dX12_setTimer_107 : decode cX12_setTimer 107 = .ok (.istore 8, 2) := by decide +kernel
theorem dX12_setTimer_109 : decode cX12_setTimer 109 = .ok (.aload 7, 2) := by decide +kernel
theorem dX12_setTimer_111 : decode cX12_setTimer 111 = .ok (.iload_n 2, 1) := by decide +kernel
theorem dX12_setTimer_112 : decode cX12_setTimer 112 = .ok (.putfield 92, 3) := by decide +kernel
theorem dX12_setTimer_115 : decode cX12_setTimer 115 = .ok (.aload 7, 2) := by decide +kernel
theorem dX12_setTimer_117 : decode cX12_setTimer 117 = .ok (.iload_n 3, 1) := by decide +kernel
theorem dX12_setTimer_118 : decode cX12_setTimer 118 = .ok (.putfield 89, 3) := by decide +kernel
theorem dX12_setTimer_121 : decode cX12_setTimer 121 = .ok (.aload 7, 2) := by decide +kernel
theorem dX12_setTimer_123 : decode cX12_setTimer 123 = .ok (.iload 4, 2) := by decide +kernel
theorem dX12_setTimer_125 : decode cX12_setTimer 125 = .ok (.putfield 95, 3) := by decide +kernel
theorem dX12_setTimer_128 : decode cX12_setTimer 128 = .ok (.aload 7, 2) := by decide +kernel
theorem dX12_setTimer_130 : decode cX12_setTimer 130 = .ok (.iload 5, 2) := by decide +kernel
theorem dX12_setTimer_132 : decode cX12_setTimer 132 = .ok (.putfield 98, 3) := by decide +kernel
theorem dX12_setTimer_135 : decode cX12_setTimer 135 = .ok (.aload 7, 2) := by decide +kernel
theorem dX12_setTimer_137 : decode cX12_setTimer 137 = .ok (.iconst (-1), 1) := by decide +kernel
theorem dX12_setTimer_138 : decode cX12_setTimer 138 = .ok (.putfield 101, 3) := by decide +kernel
theorem dX12_setTimer_141 : decode cX12_setTimer 141 = .ok (.iload 8, 2) := by decide +kernel
theorem dX12_setTimer_143 : decode cX12_setTimer 143 = .ok (.ireturn, 1) := by decide +kernel
set_option maxRecDepth 20000 in
theorem ggX12_link_X12_isTimer : GoodIn wsX12_link wsX12_isTimer := goodIn_r _ [8, 9, 10, 11, 7, 12] (by decide +kernel) (by decide +kernel)
set_option maxRecDepth 20000 in
theorem gX12_link_X12_isTimer : GoodIn wsX12_link (va_wsS RX12 82 yX12_isTimer wsX12_isTimer) := goodIn_app (goodIn_of _ (by decide +kernel)) ggX12_link_X12_isTimer
set_option maxRecDepth 20000 in
theorem ggX12_link_X12_in : GoodIn wsX12_link wsX12_in := goodIn_r _ [12] (by decide +kernel) (by decide +kernel)
set_option maxRecDepth 20000 in
theorem gX12_link_X12_in : GoodIn wsX12_link (va_wsS RX12 58 yX12_in wsX12_in) := goodIn_app (goodIn_of _ (by decide +kernel)) ggX12_link_X12_in
set_option maxRecDepth 20000 in
theorem ggX12_link_Jx4a65c_get_915e3 : GoodIn wsX12_link wsJx4a65c_get_915e3 := goodIn_r _ [17, 18, 19, 20, 21, 22, 23, 24, 25, 26, 27, 28, 29, 16, 30, 31, 65, 66, 67] (by decide +kernel) (by decide +kernel)
set_option maxRecDepth 20000 in
theorem gX12_link_Jx4a65c_get_915e3_f66Jx4a65c : GoodIn wsX12_link (va_wsF RX12 66 RJx4a65c ⟨"java/util/List", "get", "(I)Ljava/lang/Object;"⟩ yJx4a65c_get_915e3 wsJx4a65c_get_915e3) := goodIn_app (goodIn_of _ (by decide +kernel)) ggX12_link_Jx4a65c_get_915e3
theorem dX12_link_0 : decode cX12_link 0 = .ok (.aload_n 0, 1) := by decide +kernel
theorem dX12_link_1 : decode cX12_link 1 = .ok (.iload_n 1, 1) := by decide +kernel
theorem dX12_link_2 : decode cX12_link 2 = .ok (.invokestatic 82, 3) := by decide +kernel
theorem dX12_link_5 : decode cX12_link 5 = .ok (.ifCond .ne 7, 3) := by decide +kernel
theorem dX12_link_8 : decode cX12_link 8 = .ok (.iconst 1, 1) := by decide +kernel
theorem dX12_link_9 : decode cX12_link 9 = .ok (.goto 23, 3) := by decide +kernel
theorem dX12_link_12 : decode cX12_link 12 = .ok (.iload_n 2, 1) := by decide +kernel
theorem dX12_link_13 : decode cX12_link 13 = .ok (.i2l, 1) := by decide +kernel
theorem dX12_link_14 : decode cX12_link 14 = .ok (.ldc2_w 104, 3) := by decide +kernel
theorem dX12_link_17 : decode cX12_link 17 = .ok (.iload_n 1, 1) := by decide +kernel
theorem dX12_link_18 : decode cX12_link 18 = .ok (.iconst 1, 1) := by decide +kernel
theorem dX12_link_19 : decode cX12_link 19 = .ok (.isub, 1) := by decide +kernel
theorem dX12_link_20 : decode cX12_link 20 = .ok (.i2l, 1) := by decide +kernel
theorem dX12_link_21 : decode cX12_link 21 = .ok (.invokestatic 58, 3) := by decide +kernel
theorem dX12_link_24 : decode cX12_link 24 = .ok (.ifCond .ne 7, 3) := by decide +kernel
theorem dX12_link_27 : decode cX12_link 27 = .ok (.iconst 2, 1) := by decide +kernel
theorem dX12_link_28 : decode cX12_link 28 = .ok (.goto 4, 3) := by decide +kernel
theorem dX12_link_31 : decode cX12_link 31 = .ok (.iconst 0, 1) := by decide +kernel
theorem dX12_link_32 : decode cX12_link 32 = .ok (.putfield 53, 3) := by decide +kernel
theorem dX12_link_35 : decode cX12_link 35 = .ok (.aload_n 0, 1) := by decide +kernel
theorem dX12_link_36 : decode cX12_link 36 = .ok (.getfield 53, 3) := by decide +kernel
theorem dX12_link_39 : decode cX12_link 39 = .ok (.ifCond .le 5, 3) := by decide +kernel
theorem dX12_link_42 : decode cX12_link 42 = .ok (.iconst (-1), 1) := by decide +kernel
theorem dX12_link_43 : decode cX12_link 43 = .ok (.ireturn, 1) := by decide +kernel
theorem dX12_link_44 : decode cX12_link 44 = .ok (.aload_n 0, 1) := by decide +kernel
theorem dX12_link_45 : decode cX12_link 45 = .ok (.getfield 18, 3) := by decide +kernel
theorem dX12_link_48 : decode cX12_link 48 = .ok (.iload_n 1, 1) := by decide +kernel
theorem dX12_link_49 : decode cX12_link 49 = .ok (.invokeinterface 66 2, 5) := by decide +kernel
theorem dX12_link_54 : decode cX12_link 54 = .ok (.checkcast 47, 3) := by decide +kernel
theorem dX12_link_57 : decode cX12_link 57 = .ok (.getfield 101, 3) := by decide +kernel
theorem dX12_link_60 : decode cX12_link 60 = .ok (.istore_n 3, 1) := by decide +kernel
theorem dX12_link_61 : decode cX12_link 61 = .ok (.aload_n 0, 1) := by decide +kernel
theorem dX12_link_62 : decode cX12_link 62 = .ok (.getfield 18, 3) := by decide +kernel
theorem dX12_link_65 : decode cX12_link 65 = .ok (.iload_n 1, 1) := by decide +kernel
theorem dX12_link_66 : decode cX12_link 66 = .ok (.invokeinterface 66 2, 5) := by decide +kernel
theorem dX12_link_71 : decode cX12_link 71 = .ok (.checkcast 47, 3) := by decide +kernel
theorem dX12_link_74 : decode cX12_link 74 = .ok (.iload_n 2, 1) := by decide +kernel
theorem dX12_link_75 : decode cX12_link 75 = .ok (.putfield 101, 3) := by decide +kernel
theorem dX12_link_78 : decode cX12_link 78 = .ok (.iload_n 3, 1) := by decide +kernel
theorem dX12_link_79 : decode cX12_link 79 = .ok (.ireturn, 1) := by decide +kernel
set_option maxRecDepth 20000 in
theorem ggX12_setPin_X12_isTimer : GoodIn wsX12_setPin wsX12_isTimer := goodIn_r _ [7, 8, 9, 10, 6, 11] (by decide +kernel) (by decide +kernel)
set_option maxRecDepth 20000 in
theorem gX12_setPin_X12_isTimer : GoodIn wsX12_setPin (va_wsS RX12 82 yX12_isTimer wsX12_isTimer) := goodIn_app (goodIn_of _ (by decide +kernel)) ggX12_setPin_X12_isTimer
set_option maxRecDepth 20000 in
theorem ggX12_setPin_X12_isPin : GoodIn wsX12_setPin wsX12_isPin := goodIn_r _ [14, 15, 9, 10, 6, 11] (by decide +kernel) (by decide +kernel)
set_option maxRecDepth 20000 in
theorem gX12_setPin_X12_isPin : GoodIn wsX12_setPin (va_wsS RX12 106 yX12_isPin wsX12_isPin) := goodIn_app (goodIn_of _ (by decide +kernel)) ggX12_setPin_X12_isPin
set_option maxRecDepth 20000 in
theorem ggX12_setPin_J0_indexOf_0f7a4 : GoodIn wsX12_setPin wsJ0_indexOf_0f7a4 := goodIn_r _ [20, 21, 22, 23, 19, 24, 25, 26, 27, 28, 29, 30, 31, 32, 33, 34, 35, 36, 37, 38, 39, 40, 41, 42, 43, 44, 45, 46, 47, 48, 49, 50, 51, 52, 53, 54, 55, 56, 57, 58, 59, 60, 61, 62, 63, 64, 65, 66, 67, 68, 69, 70, 71, 72, 73, 74, 75, 76, 77, 78, 79, 80, 81, 82, 83, 84, 85, 86, 87, 88, 89, 90, 91, 92, 93, 94, 95, 96, 97, 98, 99, 100, 101, 102, 103, 104, 156, 157] (by decide +kernel) (by decide +kernel)
set_option maxRecDepth 20000 in
theorem gX12_setPin_J0_indexOf_0f7a4 : GoodIn wsX12_setPin (wsV RX12 111 RJ0 yJ0_indexOf_0f7a4 wsJ0_indexOf_0f7a4) := goodIn_app (goodIn_of _ (by decide +kernel)) ggX12_setPin_J0_indexOf_0f7a4
set_option maxRecDepth 20000 in
theorem ggX12_setPin_Jx4a65c_get_915e3 : GoodIn wsX12_setPin wsJx4a65c_get_915e3 := goodIn_r _ [109, 110, 111, 112, 113, 114, 115, 116, 79, 117, 118, 119, 120, 108, 121, 122, 158, 159, 160] (by decide +kernel) (by decide +kernel)
set_option maxRecDepth 20000 in
theorem gX12_setPin_Jx4a65c_get_915e3_f66Jx4a65c : GoodIn wsX12_setPin (va_wsF RX12 66 RJx4a65c ⟨"java/util/List", "get", "(I)Ljava/lang/Object;"⟩ yJx4a65c_get_915e3 wsJx4a65c_get_915e3) := goodIn_app (goodIn_of _ (by decide +kernel)) ggX12_setPin_Jx4a65c_get_915e3
theorem dX12_setPin_0 : decode cX12_setPin 0 = .ok (.aload_n 0, 1) := by decide +kernel
theorem dX12_setPin_1 : decode cX12_setPin 1 = .ok (.iload_n 1, 1) := by decide +kernel
theorem dX12_setPin_2 : decode cX12_setPin 2 = .ok (.invokestatic 82, 3) := by decide +kernel
theorem dX12_setPin_5 : decode cX12_setPin 5 = .ok (.ifCond .eq 10, 3) := by decide +kernel
theorem dX12_setPin_8 : decode cX12_setPin 8 = .ok (.iload_n 2, 1) := by decide +kernel
theorem dX12_setPin_9 : decode cX12_setPin 9 = .ok (.invokestatic 106, 3) := by decide +kernel
theorem dX12_setPin_12 : decode cX12_setPin 12 = .ok (.ifCond .ne 7, 3) := by decide +kernel
theorem dX12_setPin_15 : decode cX12_setPin 15 = .ok (.iconst 1, 1) := by decide +kernel
theorem dX12_setPin_16 : decode cX12_setPin 16 = .ok (.goto 17, 3) := by decide +kernel
theorem dX12_setPin_19 : decode cX12_setPin 19 = .ok (.ldc 109, 2) := by decide +kernel
theorem dX12_setPin_21 : decode cX12_setPin 21 = .ok (.iload_n 3, 1) := by decide +kernel
theorem dX12_setPin_22 : decode cX12_setPin 22 = .ok (.invokevirtual 111, 3) := by decide +kernel
theorem dX12_setPin_25 : decode cX12_setPin 25 = .ok (.ifCond .ge 7, 3) := by decide +kernel
theorem dX12_setPin_28 : decode cX12_setPin 28 = .ok (.iconst 2, 1) := by decide +kernel
theorem dX12_setPin_29 : decode cX12_setPin 29 = .ok (.goto 4, 3) := by decide +kernel
theorem dX12_setPin_32 : decode cX12_setPin 32 = .ok (.iconst 0, 1) := by decide +kernel
theorem dX12_setPin_33 : decode cX12_setPin 33 = .ok (.putfield 53, 3) := by decide +kernel
theorem dX12_setPin_36 : decode cX12_setPin 36 = .ok (.aload_n 0, 1) := by decide +kernel
theorem dX12_setPin_37 : decode cX12_setPin 37 = .ok (.getfield 53, 3) := by decide +kernel
theorem dX12_setPin_40 : decode cX12_setPin 40 = .ok (.ifCond .le 6, 3) := by decide +kernel
theorem dX12_setPin_43 : decode cX12_setPin 43 = .ok (.bipush 32, 2) := by decide +kernel
theorem dX12_setPin_45 : decode cX12_setPin 45 = .ok (.ireturn, 1) := by decide +kernel
theorem dX12_setPin_46 : decode cX12_setPin 46 = .ok (.aload_n 0, 1) := by decide +kernel
theorem dX12_setPin_47 : decode cX12_setPin 47 = .ok (.getfield 18, 3) := by decide +kernel
theorem dX12_setPin_50 : decode cX12_setPin 50 = .ok (.iload_n 1, 1) := by decide +kernel
theorem dX12_setPin_51 : decode cX12_setPin 51 = .ok (.invokeinterface 66 2, 5) := by decide +kernel
theorem dX12_setPin_56 : decode cX12_setPin 56 = .ok (.checkcast 47, 3) := by decide +kernel
theorem dX12_setPin_59 : decode cX12_setPin 59 = .ok (.getfield 117, 3) := by decide +kernel
theorem dX12_setPin_62 : decode cX12_setPin 62 = .ok (.istore 4, 2) := by decide +kernel
theorem dX12_setPin_64 : decode cX12_setPin 64 = .ok (.aload_n 0, 1) := by decide +kernel
theorem dX12_setPin_65 : decode cX12_setPin 65 = .ok (.getfield 18, 3) := by decide +kernel
theorem dX12_setPin_68 : decode cX12_setPin 68 = .ok (.iload_n 1, 1) := by decide +kernel
theorem dX12_setPin_69 : decode cX12_setPin 69 = .ok (.invokeinterface 66 2, 5) := by decide +kernel
theorem dX12_setPin_74 : decode cX12_setPin 74 = .ok (.checkcast 47, 3) := by decide +kernel
theorem dX12_setPin_77 : decode cX12_setPin 77 = .ok (.iload_n 2, 1) := by decide +kernel
theorem dX12_setPin_78 : decode cX12_setPin 78 = .ok (.putfield 120, 3) := by decide +kernel
theorem dX12_setPin_81 : decode cX12_setPin 81 = .ok (.aload_n 0, 1) := by decide +kernel
theorem dX12_setPin_82 : decode cX12_setPin 82 = .ok (.getfield 18, 3) := by decide +kernel
theorem dX12_setPin_85 : decode cX12_setPin 85 = .ok (.iload_n 1, 1) := by decide +kernel
theorem dX12_setPin_86 : decode cX12_setPin 86 = .ok (.invokeinterface 66 2, 5) := by decide +kernel
theorem dX12_setPin_91 : decode cX12_setPin 91 = .ok (.checkcast 47, 3) := by decide +kernel
theorem dX12_setPin_94 : decode cX12_setPin 94 = .ok (.iload_n 3, 1) := by decide +kernel
theorem dX12_setPin_95 : decode cX12_setPin 95 = .ok (.putfield 117, 3) := by decide +kernel
theorem dX12_setPin_98 : decode cX12_setPin 98 = .ok (.iload 4, 2) := by decide +kernel
theorem dX12_setPin_100 : decode cX12_setPin 100 = .ok (.ireturn, 1) := by decide +kernel
set_option maxRecDepth 20000 in
theorem ggX12_start_X12_isTimer : GoodIn wsX12_start wsX12_isTimer := goodIn_r _ [7, 8, 9, 10, 6, 11] (by decide +kernel) (by decide +kernel)
set_option maxRecDepth 20000 in
theorem gX12_start_X12_isTimer : GoodIn wsX12_start (va_wsS RX12 82 yX12_isTimer wsX12_isTimer) := goodIn_app (goodIn_of _ (by decide +kernel)) ggX12_start_X12_isTimer
set_option maxRecDepth 20000 in
theorem ggX12_start_Jx4a65c_get_915e3 : GoodIn wsX12_start wsJx4a65c_get_915e3 := goodIn_r _ [16, 17, 18, 19, 20, 21, 22, 23, 24, 25, 26, 27, 28, 15, 29, 30, 64, 65, 66] (by decide +kernel) (by decide +kernel)
set_option maxRecDepth 20000 in
theorem gX12_start_Jx4a65c_get_915e3_f66Jx4a65c : GoodIn wsX12_start (va_wsF RX12 66 RJx4a65c ⟨"java/util/List", "get", "(I)Ljava/lang/Object;"⟩ yJx4a65c_get_915e3 wsJx4a65c_get_915e3) := goodIn_app (goodIn_of _ (by decide +kernel)) ggX12_start_Jx4a65c_get_915e3
theorem dX12_start_0 : decode cX12_start 0 = .ok (.aload_n 0, 1) := by decide +kernel
theorem dX12_start_1 : decode cX12_start 1 = .ok (.iload_n 1, 1) := by decide +kernel
theorem dX12_start_2 : decode cX12_start 2 = .ok (.invokestatic 82, 3) := by decide +kernel
theorem dX12_start_5 : decode cX12_start 5 = .ok (.ifCond .eq 7, 3) := by decide +kernel
theorem dX12_start_8 : decode cX12_start 8 = .ok (.iconst 0, 1) := by decide +kernel
theorem dX12_start_9 : decode cX12_start 9 = .ok (.goto 4, 3) := by decide +kernel
theorem dX12_start_12 : decode cX12_start 12 = .ok (.iconst 1, 1) := by decide +kernel
theorem dX12_start_13 : decode cX12_start 13 = .ok (.putfield 53, 3) := by decide +kernel
theorem dX12_start_16 : decode cX12_start 16 = .ok (.aload_n 0, 1) := by decide +kernel
theorem dX12_start_17 : decode cX12_start 17 = .ok (.getfield 53, 3) := by decide +kernel
theorem dX12_start_20 : decode cX12_start 20 = .ok (.ifCond .le 5, 3) := by decide +kernel
theorem dX12_start_23 : decode cX12_start 23 = .ok (.iconst 0, 1) := by decide +kernel
theorem dX12_start_24 : decode cX12_start 24 = .ok (.ireturn, 1) := by decide +kernel
theorem dX12_start_25 : decode cX12_start 25 = .ok (.aload_n 0, 1) := by decide +kernel
theorem dX12_start_26 : decode cX12_start 26 = .ok (.getfield 18, 3) := by decide +kernel
theorem dX12_start_29 : decode cX12_start 29 = .ok (.iload_n 1, 1) := by decide +kernel
theorem dX12_start_30 : decode cX12_start 30 = .ok (.invokeinterface 66 2, 5) := by decide +kernel
theorem dX12_start_35 : decode cX12_start 35 = .ok (.checkcast 47, 3) := by decide +kernel
theorem dX12_start_38 : decode cX12_start 38 = .ok (.getfield 123, 3) := by decide +kernel
theorem dX12_start_41 : decode cX12_start 41 = .ok (.istore_n 3, 1) := by decide +kernel
theorem dX12_start_42 : decode cX12_start 42 = .ok (.aload_n 0, 1) := by decide +kernel
theorem dX12_start_43 : decode cX12_start 43 = .ok (.getfield 18, 3) := by decide +kernel
theorem dX12_start_46 : decode cX12_start 46 = .ok (.iload_n 1, 1) := by decide +kernel
theorem dX12_start_47 : decode cX12_start 47 = .ok (.invokeinterface 66 2, 5) := by decide +kernel
theorem dX12_start_52 : decode cX12_start 52 = .ok (.checkcast 47, 3) := by decide +kernel
theorem dX12_start_55 : decode cX12_start 55 = .ok (.iload_n 2, 1) := by decide +kernel
theorem dX12_start_56 : decode cX12_start 56 = .ok (.putfield 123, 3) := by decide +kernel
theorem dX12_start_59 : decode cX12_start 59 = .ok (.iload_n 3, 1) := by decide +kernel
theorem dX12_start_60 : decode cX12_start 60 = .ok (.ireturn, 1) := by decide +kernel
set_option maxRecDepth 20000 in
theorem ggX12_setLine_X12_isLine : GoodIn wsX12_setLine wsX12_isLine := goodIn_r _ [8, 1, 9, 10, 7, 11] (by decide +kernel) (by decide +kernel)
set_option maxRecDepth 20000 in
theorem gX12_setLine_X12_isLine : GoodIn wsX12_setLine (va_wsS RX12 126 yX12_isLine wsX12_isLine) := goodIn_app (goodIn_of _ (by decide +kernel)) ggX12_setLine_X12_isLine
set_option maxRecDepth 20000 in
theorem ggX12_setLine_X12_in : GoodIn wsX12_setLine wsX12_in := goodIn_r _ [11] (by decide +kernel) (by decide +kernel)
set_option maxRecDepth 20000 in
theorem gX12_setLine_X12_in : GoodIn wsX12_setLine (va_wsS RX12 58 yX12_in wsX12_in) := goodIn_app (goodIn_of _ (by decide +kernel)) ggX12_setLine_X12_in
set_option maxRecDepth 20000 in
theorem ggX12_setLine_Jx4a65c_get_915e3 : GoodIn wsX12_setLine wsJx4a65c_get_915e3 := goodIn_r _ [16, 17, 18, 19, 20, 21, 22, 23, 24, 25, 26, 27, 28, 15, 29, 30, 61, 62, 63] (by decide +kernel) (by decide +kernel)
set_option maxRecDepth 20000 in
theorem gX12_setLine_Jx4a65c_get_915e3_f66Jx4a65c : GoodIn wsX12_setLine (va_wsF RX12 66 RJx4a65c ⟨"java/util/List", "get", "(I)Ljava/lang/Object;"⟩ yJx4a65c_get_915e3 wsJx4a65c_get_915e3) := goodIn_app (goodIn_of _ (by decide +kernel)) ggX12_setLine_Jx4a65c_get_915e3
theorem dX12_setLine_0 : decode cX12_setLine 0 = .ok (.aload_n 0, 1) := by decide +kernel
theorem dX12_setLine_1 : decode cX12_setLine 1 = .ok (.iload_n 1, 1) := by decide +kernel
theorem dX12_setLine_2 : decode cX12_setLine 2 = .ok (.invokestatic 126, 3) := by decide +kernel
theorem dX12_setLine_5 : decode cX12_setLine 5 = .ok (.ifCond .ne 7, 3) := by decide +kernel
theorem dX12_setLine_8 : decode cX12_setLine 8 = .ok (.iconst 1, 1) := by decide +kernel
theorem dX12_setLine_9 : decode cX12_setLine 9 = .ok (.goto 20, 3) := by decide +kernel
theorem dX12_setLine_12 : decode cX12_setLine 12 = .ok (.iload_n 2, 1) := by decide +kernel
theorem dX12_setLine_13 : decode cX12_setLine 13 = .ok (.i2l, 1) := by decide +kernel
theorem dX12_setLine_14 : decode cX12_setLine 14 = .ok (.lconst 0, 1) := by decide +kernel
theorem dX12_setLine_15 : decode cX12_setLine 15 = .ok (.ldc2_w 62, 3) := by decide +kernel
theorem dX12_setLine_18 : decode cX12_setLine 18 = .ok (.invokestatic 58, 3) := by decide +kernel
theorem dX12_setLine_21 : decode cX12_setLine 21 = .ok (.ifCond .ne 7, 3) := by decide +kernel
theorem dX12_setLine_24 : decode cX12_setLine 24 = .ok (.iconst 2, 1) := by decide +kernel
theorem dX12_setLine_25 : decode cX12_setLine 25 = .ok (.goto 4, 3) := by decide +kernel
theorem dX12_setLine_28 : decode cX12_setLine 28 = .ok (.iconst 0, 1) := by decide +kernel
theorem dX12_setLine_29 : decode cX12_setLine 29 = .ok (.putfield 53, 3) := by decide +kernel
theorem dX12_setLine_32 : decode cX12_setLine 32 = .ok (.aload_n 0, 1) := by decide +kernel
theorem dX12_setLine_33 : decode cX12_setLine 33 = .ok (.getfield 53, 3) := by decide +kernel
theorem dX12_setLine_36 : decode cX12_setLine 36 = .ok (.ifCond .le 5, 3) := by decide +kernel
theorem dX12_setLine_39 : decode cX12_setLine 39 = .ok (.iconst (-1), 1) := by decide +kernel
theorem dX12_setLine_40 : decode cX12_setLine 40 = .ok (.ireturn, 1) := by decide +kernel
theorem dX12_setLine_41 : decode cX12_setLine 41 = .ok (.aload_n 0, 1) := by decide +kernel
theorem dX12_setLine_42 : decode cX12_setLine 42 = .ok (.getfield 21, 3) := by decide +kernel
theorem dX12_setLine_45 : decode cX12_setLine 45 = .ok (.iload_n 1, 1) := by decide +kernel
theorem dX12_setLine_46 : decode cX12_setLine 46 = .ok (.invokeinterface 66 2, 5) := by decide +kernel
theorem dX12_setLine_51 : decode cX12_setLine 51 = .ok (.checkcast 50, 3) := by decide +kernel
theorem dX12_setLine_54 : decode cX12_setLine 54 = .ok (.getfield 129, 3) := by decide +kernel
theorem dX12_setLine_57 : decode cX12_setLine 57 = .ok (.istore 4, 2) := by decide +kernel
theorem dX12_setLine_59 : decode cX12_setLine 59 = .ok (.aload_n 0, 1) := by decide +kernel
theorem dX12_setLine_60 : decode cX12_setLine 60 = .ok (.getfield 21, 3) := by decide +kernel
theorem dX12_setLine_63 : decode cX12_setLine 63 = .ok (.iload_n 1, 1) := by decide +kernel
theorem dX12_setLine_64 : decode cX12_setLine 64 = .ok (.invokeinterface 66 2, 5) := by decide +kernel
theorem dX12_setLine_69 : decode cX12_setLine 69 = .ok (.checkcast 50, 3) := by decide +kernel
theorem dX12_setLine_72 : decode cX12_setLine 72 = .ok (.iload_n 2, 1) := by decide +kernel
theorem dX12_setLine_73 : decode cX12_setLine 73 = .ok (.putfield 129, 3) := by decide +kernel
theorem dX12_setLine_76 : decode cX12_setLine 76 = .ok (.aload_n 0, 1) := by decide +kernel
theorem dX12_setLine_77 : decode cX12_setLine 77 = .ok (.getfield 21, 3) := by decide +kernel
theorem dX12_setLine_80 : decode cX12_setLine 80 = .ok (.iload_n 1, 1) := by decide +kernel
theorem dX12_setLine_81 : decode cX12_setLine 81 = .ok (.invokeinterface 66 2, 5) := by decide +kernel
theorem dX12_setLine_86 : decode cX12_setLine 86 = .ok (.checkcast 50, 3) := by decide +kernel
theorem dX12_setLine_89 : decode cX12_setLine 89 = .ok (.iload_n 3, 1) := by decide +kernel
theorem dX12_setLine_90 : decode cX12_setLine 90 = .ok (.putfield 132, 3) := by decide +kernel
theorem dX12_setLine_93 : decode cX12_setLine 93 = .ok (.iload 4, 2) := by decide +kernel
theorem dX12_setLine_95 : decode cX12_setLine 95 = .ok (.ireturn, 1) := by decide +kernel
set_option maxRecDepth 20000 in
theorem ggX12_isAim_X12_isPin : GoodIn wsX12_isAim wsX12_isPin := goodIn_r _ [4, 5, 6, 7, 3, 8] (by decide +kernel) (by decide +kernel)
set_option maxRecDepth 20000 in
theorem gX12_isAim_X12_isPin : GoodIn wsX12_isAim (va_wsS RX12 106 yX12_isPin wsX12_isPin) := goodIn_app (goodIn_of _ (by decide +kernel)) ggX12_isAim_X12_isPin
set_option maxRecDepth 20000 in
theorem ggX12_isAim_X12_isTimer : GoodIn wsX12_isAim wsX12_isTimer := goodIn_r _ [11, 12, 6, 7, 3, 8] (by decide +kernel) (by decide +kernel)
set_option maxRecDepth 20000 in
theorem gX12_isAim_X12_isTimer : GoodIn wsX12_isAim (va_wsS RX12 82 yX12_isTimer wsX12_isTimer) := goodIn_app (goodIn_of _ (by decide +kernel)) ggX12_isAim_X12_isTimer
set_option maxRecDepth 20000 in
theorem ggX12_isAim_X12_isLine : GoodIn wsX12_isAim wsX12_isLine := goodIn_r _ [15, 5, 6, 7, 3, 8] (by decide +kernel) (by decide +kernel)
set_option maxRecDepth 20000 in
theorem gX12_isAim_X12_isLine : GoodIn wsX12_isAim (va_wsS RX12 126 yX12_isLine wsX12_isLine) := goodIn_app (goodIn_of _ (by decide +kernel)) ggX12_isAim_X12_isLine
theorem dX12_isAim_0 : decode cX12_isAim 0 = .ok (.iload_n 0, 1) := by decide +kernel
theorem dX12_isAim_1 : decode cX12_isAim 1 = .ok (.lookupswitch 71 #[(102, 51), (110, 51), (112, 61), (115, 66), (120, 66)], 51) := by decide +kernel
theorem dX12_isAim_52 : decode cX12_isAim 52 = .ok (.iload_n 1, 1) := by decide +kernel
theorem dX12_isAim_53 : decode cX12_isAim 53 = .ok (.ifCond .ne 7, 3) := by decide +kernel
theorem dX12_isAim_56 : decode cX12_isAim 56 = .ok (.iconst 1, 1) := by decide +kernel
theorem dX12_isAim_57 : decode cX12_isAim 57 = .ok (.goto 4, 3) := by decide +kernel
theorem dX12_isAim_60 : decode cX12_isAim 60 = .ok (.iconst 0, 1) := by decide +kernel
theorem dX12_isAim_61 : decode cX12_isAim 61 = .ok (.ireturn, 1) := by decide +kernel
theorem dX12_isAim_62 : decode cX12_isAim 62 = .ok (.iload_n 1, 1) := by decide +kernel
theorem dX12_isAim_63 : decode cX12_isAim 63 = .ok (.invokestatic 106, 3) := by decide +kernel
theorem dX12_isAim_66 : decode cX12_isAim 66 = .ok (.ireturn, 1) := by decide +kernel
theorem dX12_isAim_67 : decode cX12_isAim 67 = .ok (.iload_n 1, 1) := by decide +kernel
theorem dX12_isAim_68 : decode cX12_isAim 68 = .ok (.invokestatic 82, 3) := by decide +kernel
theorem dX12_isAim_71 : decode cX12_isAim 71 = .ok (.ireturn, 1) := by decide +kernel
theorem dX12_isAim_72 : decode cX12_isAim 72 = .ok (.iload_n 0, 1) := by decide +kernel
theorem dX12_isAim_73 : decode cX12_isAim 73 = .ok (.bipush 113, 2) := by decide +kernel
theorem dX12_isAim_75 : decode cX12_isAim 75 = .ok (.if_icmp .ne 14, 3) := by decide +kernel
theorem dX12_isAim_78 : decode cX12_isAim 78 = .ok (.iload_n 1, 1) := by decide +kernel
theorem dX12_isAim_79 : decode cX12_isAim 79 = .ok (.invokestatic 126, 3) := by decide +kernel
theorem dX12_isAim_82 : decode cX12_isAim 82 = .ok (.ifCond .eq 7, 3) := by decide +kernel
theorem dX12_isAim_85 : decode cX12_isAim 85 = .ok (.iconst 1, 1) := by decide +kernel
theorem dX12_isAim_86 : decode cX12_isAim 86 = .ok (.goto 4, 3) := by decide +kernel
theorem dX12_isAim_89 : decode cX12_isAim 89 = .ok (.iconst 0, 1) := by decide +kernel
theorem dX12_isAim_90 : decode cX12_isAim 90 = .ok (.ireturn, 1) := by decide +kernel
set_option maxRecDepth 20000 in
theorem ggX12_setHandler_X12_isLine : GoodIn wsX12_setHandler wsX12_isLine := goodIn_r _ [8, 9, 10, 11, 7, 12] (by decide +kernel) (by decide +kernel)
set_option maxRecDepth 20000 in
theorem gX12_setHandler_X12_isLine : GoodIn wsX12_setHandler (va_wsS RX12 126 yX12_isLine wsX12_isLine) := goodIn_app (goodIn_of _ (by decide +kernel)) ggX12_setHandler_X12_isLine
set_option maxRecDepth 20000 in
theorem ggX12_setHandler_X12_in : GoodIn wsX12_setHandler wsX12_in := goodIn_r _ [12] (by decide +kernel) (by decide +kernel)
set_option maxRecDepth 20000 in
theorem gX12_setHandler_X12_in : GoodIn wsX12_setHandler (va_wsS RX12 58 yX12_in wsX12_in) := goodIn_app (goodIn_of _ (by decide +kernel)) ggX12_setHandler_X12_in
set_option maxRecDepth 20000 in
theorem ggX12_setHandler_X12_isAim : GoodIn wsX12_setHandler wsX12_isAim := goodIn_r _ [15, 16, 17, 7, 18, 9, 10, 11, 12, 19, 20, 21, 22, 5, 6, 8] (by decide +kernel) (by decide +kernel)
set_option maxRecDepth 20000 in
theorem gX12_setHandler_X12_isAim : GoodIn wsX12_setHandler (va_wsS RX12 137 yX12_isAim wsX12_isAim) := goodIn_app (goodIn_of _ (by decide +kernel)) ggX12_setHandler_X12_isAim
set_option maxRecDepth 20000 in
theorem ggX12_setHandler_Jx4a65c_get_915e3 : GoodIn wsX12_setHandler wsJx4a65c_get_915e3 := goodIn_r _ [27, 28, 29, 30, 31, 32, 33, 34, 35, 36, 37, 38, 39, 26, 40, 41, 72, 73, 74] (by decide +kernel) (by decide +kernel)
set_option maxRecDepth 20000 in
theorem gX12_setHandler_Jx4a65c_get_915e3_f66Jx4a65c : GoodIn wsX12_setHandler (va_wsF RX12 66 RJx4a65c ⟨"java/util/List", "get", "(I)Ljava/lang/Object;"⟩ yJx4a65c_get_915e3 wsJx4a65c_get_915e3) := goodIn_app (goodIn_of _ (by decide +kernel)) ggX12_setHandler_Jx4a65c_get_915e3
theorem dX12_setHandler_0 : decode cX12_setHandler 0 = .ok (.aload_n 0, 1) := by decide +kernel
theorem dX12_setHandler_1 : decode cX12_setHandler 1 = .ok (.iload_n 1, 1) := by decide +kernel
theorem dX12_setHandler_2 : decode cX12_setHandler 2 = .ok (.invokestatic 126, 3) := by decide +kernel
theorem dX12_setHandler_5 : decode cX12_setHandler 5 = .ok (.ifCond .ne 7, 3) := by decide +kernel
theorem dX12_setHandler_8 : decode cX12_setHandler 8 = .ok (.iconst 1, 1) := by decide +kernel
theorem dX12_setHandler_9 : decode cX12_setHandler 9 = .ok (.goto 29, 3) := by decide +kernel
theorem dX12_setHandler_12 : decode cX12_setHandler 12 = .ok (.iload_n 2, 1) := by decide +kernel
theorem dX12_setHandler_13 : decode cX12_setHandler 13 = .ok (.i2l, 1) := by decide +kernel
theorem dX12_setHandler_14 : decode cX12_setHandler 14 = .ok (.lconst 1, 1) := by decide +kernel
theorem dX12_setHandler_15 : decode cX12_setHandler 15 = .ok (.ldc2_w 135, 3) := by decide +kernel
theorem dX12_setHandler_18 : decode cX12_setHandler 18 = .ok (.invokestatic 58, 3) := by decide +kernel
theorem dX12_setHandler_21 : decode cX12_setHandler 21 = .ok (.ifCond .eq 12, 3) := by decide +kernel
theorem dX12_setHandler_24 : decode cX12_setHandler 24 = .ok (.iload_n 3, 1) := by decide +kernel
theorem dX12_setHandler_25 : decode cX12_setHandler 25 = .ok (.iload 4, 2) := by decide +kernel
theorem dX12_setHandler_27 : decode cX12_setHandler 27 = .ok (.invokestatic 137, 3) := by decide +kernel
theorem dX12_setHandler_30 : decode cX12_setHandler 30 = .ok (.ifCond .ne 7, 3) := by decide +kernel
theorem dX12_setHandler_33 : decode cX12_setHandler 33 = .ok (.iconst 2, 1) := by decide +kernel
theorem dX12_setHandler_34 : decode cX12_setHandler 34 = .ok (.goto 4, 3) := by decide +kernel
theorem dX12_setHandler_37 : decode cX12_setHandler 37 = .ok (.iconst 0, 1) := by decide +kernel
theorem dX12_setHandler_38 : decode cX12_setHandler 38 = .ok (.putfield 53, 3) := by decide +kernel
theorem dX12_setHandler_41 : decode cX12_setHandler 41 = .ok (.aload_n 0, 1) := by decide +kernel
theorem dX12_setHandler_42 : decode cX12_setHandler 42 = .ok (.getfield 53, 3) := by decide +kernel
theorem dX12_setHandler_45 : decode cX12_setHandler 45 = .ok (.ifCond .le 5, 3) := by decide +kernel
theorem dX12_setHandler_48 : decode cX12_setHandler 48 = .ok (.iconst (-1), 1) := by decide +kernel
theorem dX12_setHandler_49 : decode cX12_setHandler 49 = .ok (.ireturn, 1) := by decide +kernel
theorem dX12_setHandler_50 : decode cX12_setHandler 50 = .ok (.aload_n 0, 1) := by decide +kernel
theorem dX12_setHandler_51 : decode cX12_setHandler 51 = .ok (.getfield 21, 3) := by decide +kernel
theorem dX12_setHandler_54 : decode cX12_setHandler 54 = .ok (.iload_n 1, 1) := by decide +kernel
theorem dX12_setHandler_55 : decode cX12_setHandler 55 = .ok (.invokeinterface 66 2, 5) := by decide +kernel
theorem dX12_setHandler_60 : decode cX12_setHandler 60 = .ok (.checkcast 50, 3) := by decide +kernel
theorem dX12_setHandler_63 : decode cX12_setHandler 63 = .ok (.astore 5, 2) := by decide +kernel
theorem dX12_setHandler_65 : decode cX12_setHandler 65 = .ok (.aload 5, 2) := by decide +kernel
theorem dX12_setHandler_67 : decode cX12_setHandler 67 = .ok (.getfield 141, 3) := by decide +kernel
theorem dX12_setHandler_70 : decode cX12_setHandler 70 = .ok (.istore 6, 2) := by decide +kernel
theorem dX12_setHandler_72 : decode cX12_setHandler 72 = .ok (.aload 5, 2) := by decide +kernel
theorem dX12_setHandler_74 : decode cX12_setHandler 74 = .ok (.iload_n 2, 1) := by decide +kernel
theorem dX12_setHandler_75 : decode cX12_setHandler 75 = .ok (.putfield 141, 3) := by decide +kernel
theorem dX12_setHandler_78 : decode cX12_setHandler 78 = .ok (.aload 5, 2) := by decide +kernel
theorem dX12_setHandler_80 : decode cX12_setHandler 80 = .ok (.iload_n 3, 1) := by decide +kernel
theorem dX12_setHandler_81 : decode cX12_setHandler 81 = .ok (.putfield 144, 3) := by decide +kernel
theorem dX12_setHandler_84 : decode cX12_setHandler 84 = .ok (.aload 5, 2) := by decide +kernel
theorem dX12_setHandler_86 : decode cX12_setHandler 86 = .ok (.iload 4, 2) := by decide +kernel
theorem dX12_setHandler_88 : decode cX12_setHandler 88 = .ok (.putfield 145, 3) := by decide +kernel
theorem dX12_setHandler_91 : decode cX12_setHandler 91 = .ok (.iload 6, 2) := by decide +kernel
theorem dX12_setHandler_93 : decode cX12_setHandler 93 = .ok (.ireturn, 1) := by decide +kernel
set_option maxRecDepth 20000 in
theorem ggX12_setSleep_X12_in : GoodIn wsX12_setSleep wsX12_in := goodIn_r _ [8] (by decide +kernel) (by decide +kernel)
set_option maxRecDepth 20000 in
theorem gX12_setSleep_X12_in : GoodIn wsX12_setSleep (va_wsS RX12 58 yX12_in wsX12_in) := goodIn_app (goodIn_of _ (by decide +kernel)) ggX12_setSleep_X12_in
theorem dX12_setSleep_0 : decode cX12_setSleep 0 = .ok (.aload_n 0, 1) := by decide +kernel
theorem dX12_setSleep_1 : decode cX12_setSleep 1 = .ok (.iload_n 1, 1) := by decide +kernel
theorem dX12_setSleep_2 : decode cX12_setSleep 2 = .ok (.i2l, 1) := by decide +kernel
theorem dX12_setSleep_3 : decode cX12_setSleep 3 = .ok (.lconst 0, 1) := by decide +kernel
theorem dX12_setSleep_4 : decode cX12_setSleep 4 = .ok (.ldc2_w 148, 3) := by decide +kernel
theorem dX12_setSleep_7 : decode cX12_setSleep 7 = .ok (.invokestatic 58, 3) := by decide +kernel
theorem dX12_setSleep_10 : decode cX12_setSleep 10 = .ok (.ifCond .eq 7, 3) := by decide +kernel
theorem dX12_setSleep_13 : decode cX12_setSleep 13 = .ok (.iconst 0, 1) := by decide +kernel
theorem dX12_setSleep_14 : decode cX12_setSleep 14 = .ok (.goto 4, 3) := by decide +kernel
theorem dX12_setSleep_17 : decode cX12_setSleep 17 = .ok (.iconst 1, 1) := by decide +kernel
theorem dX12_setSleep_18 : decode cX12_setSleep 18 = .ok (.putfield 53, 3) := by decide +kernel
theorem dX12_setSleep_21 : decode cX12_setSleep 21 = .ok (.aload_n 0, 1) := by decide +kernel
theorem dX12_setSleep_22 : decode cX12_setSleep 22 = .ok (.getfield 53, 3) := by decide +kernel
theorem dX12_setSleep_25 : decode cX12_setSleep 25 = .ok (.ifCond .le 5, 3) := by decide +kernel
theorem dX12_setSleep_28 : decode cX12_setSleep 28 = .ok (.iconst (-1), 1) := by decide +kernel
theorem dX12_setSleep_29 : decode cX12_setSleep 29 = .ok (.ireturn, 1) := by decide +kernel
theorem dX12_setSleep_30 : decode cX12_setSleep 30 = .ok (.aload_n 0, 1) := by decide +kernel
theorem dX12_setSleep_31 : decode cX12_setSleep 31 = .ok (.getfield 150, 3) := by decide +kernel
theorem dX12_setSleep_34 : decode cX12_setSleep 34 = .ok (.istore_n 2, 1) := by decide +kernel
theorem dX12_setSleep_35 : decode cX12_setSleep 35 = .ok (.aload_n 0, 1) := by decide +kernel
theorem dX12_setSleep_36 : decode cX12_setSleep 36 = .ok (.iload_n 1, 1) := by decide +kernel
theorem dX12_setSleep_37 : decode cX12_setSleep 37 = .ok (.putfield 150, 3) := by decide +kernel
theorem dX12_setSleep_40 : decode cX12_setSleep 40 = .ok (.aload_n 0, 1) := by decide +kernel
theorem dX12_setSleep_41 : decode cX12_setSleep 41 = .ok (.aload_n 0, 1) := by decide +kernel
theorem dX12_setSleep_42 : decode cX12_setSleep 42 = .ok (.getfield 30, 3) := by decide +kernel
theorem dX12_setSleep_45 : decode cX12_setSleep 45 = .ok (.bipush 122, 2) := by decide +kernel
theorem dX12_setSleep_47 : decode cX12_setSleep 47 = .ok (.if_icmp .ne 12, 3) := by decide +kernel
theorem dX12_setSleep_50 : decode cX12_setSleep 50 = .ok (.iload_n 1, 1) := by decide +kernel
theorem dX12_setSleep_51 : decode cX12_setSleep 51 = .ok (.ifCond .ne 8, 3) := by decide +kernel
theorem dX12_setSleep_54 : decode cX12_setSleep 54 = .ok (.bipush 105, 2) := by decide +kernel
theorem dX12_setSleep_56 : decode cX12_setSleep 56 = .ok (.goto 7, 3) := by decide +kernel
theorem dX12_setSleep_59 : decode cX12_setSleep 59 = .ok (.aload_n 0, 1) := by decide +kernel
theorem dX12_setSleep_60 : decode cX12_setSleep 60 = .ok (.getfield 30, 3) := by decide +kernel
theorem dX12_setSleep_63 : decode cX12_setSleep 63 = .ok (.putfield 30, 3) := by decide +kernel
theorem dX12_setSleep_66 : decode cX12_setSleep 66 = .ok (.iload_n 2, 1) := by decide +kernel
theorem dX12_setSleep_67 : decode cX12_setSleep 67 = .ok (.ireturn, 1) := by decide +kernel
set_option maxRecDepth 20000 in
theorem ggX12_setWatchdog_X12_in : GoodIn wsX12_setWatchdog wsX12_in := goodIn_r _ [11] (by decide +kernel) (by decide +kernel)
set_option maxRecDepth 20000 in
theorem gX12_setWatchdog_X12_in : GoodIn wsX12_setWatchdog (va_wsS RX12 58 yX12_in wsX12_in) := goodIn_app (goodIn_of _ (by decide +kernel)) ggX12_setWatchdog_X12_in
set_option maxRecDepth 20000 in
theorem ggX12_setWatchdog_X12_isClock : GoodIn wsX12_setWatchdog wsX12_isClock := goodIn_r _ [14, 15, 8, 9, 10, 11] (by decide +kernel) (by decide +kernel)
set_option maxRecDepth 20000 in
theorem gX12_setWatchdog_X12_isClock : GoodIn wsX12_setWatchdog (va_wsS RX12 86 yX12_isClock wsX12_isClock) := goodIn_app (goodIn_of _ (by decide +kernel)) ggX12_setWatchdog_X12_isClock
theorem dX12_setWatchdog_0 : decode cX12_setWatchdog 0 = .ok (.iload_n 2, 1) := by decide +kernel
theorem dX12_setWatchdog_1 : decode cX12_setWatchdog 1 = .ok (.i2l, 1) := by decide +kernel
theorem dX12_setWatchdog_2 : decode cX12_setWatchdog 2 = .ok (.lconst 0, 1) := by decide +kernel
theorem dX12_setWatchdog_3 : decode cX12_setWatchdog 3 = .ok (.ldc2_w 153, 3) := by decide +kernel
theorem dX12_setWatchdog_6 : decode cX12_setWatchdog 6 = .ok (.invokestatic 58, 3) := by decide +kernel
theorem dX12_setWatchdog_9 : decode cX12_setWatchdog 9 = .ok (.ifCond .eq 22, 3) := by decide +kernel
theorem dX12_setWatchdog_12 : decode cX12_setWatchdog 12 = .ok (.iload_n 3, 1) := by decide +kernel
theorem dX12_setWatchdog_13 : decode cX12_setWatchdog 13 = .ok (.i2l, 1) := by decide +kernel
theorem dX12_setWatchdog_14 : decode cX12_setWatchdog 14 = .ok (.iload_n 2, 1) := by decide +kernel
theorem dX12_setWatchdog_15 : decode cX12_setWatchdog 15 = .ok (.i2l, 1) := by decide +kernel
theorem dX12_setWatchdog_16 : decode cX12_setWatchdog 16 = .ok (.lconst 1, 1) := by decide +kernel
theorem dX12_setWatchdog_17 : decode cX12_setWatchdog 17 = .ok (.ladd, 1) := by decide +kernel
theorem dX12_setWatchdog_18 : decode cX12_setWatchdog 18 = .ok (.ldc2_w 80, 3) := by decide +kernel
theorem dX12_setWatchdog_21 : decode cX12_setWatchdog 21 = .ok (.invokestatic 58, 3) := by decide +kernel
theorem dX12_setWatchdog_24 : decode cX12_setWatchdog 24 = .ok (.ifCond .eq 7, 3) := by decide +kernel
theorem dX12_setWatchdog_27 : decode cX12_setWatchdog 27 = .ok (.iconst 1, 1) := by decide +kernel
theorem dX12_setWatchdog_28 : decode cX12_setWatchdog 28 = .ok (.goto 4, 3) := by decide +kernel
theorem dX12_setWatchdog_31 : decode cX12_setWatchdog 31 = .ok (.iconst 0, 1) := by decide +kernel
theorem dX12_setWatchdog_32 : decode cX12_setWatchdog 32 = .ok (.istore 4, 2) := by decide +kernel
theorem dX12_setWatchdog_34 : decode cX12_setWatchdog 34 = .ok (.aload_n 0, 1) := by decide +kernel
theorem dX12_setWatchdog_35 : decode cX12_setWatchdog 35 = .ok (.iload_n 1, 1) := by decide +kernel
theorem dX12_setWatchdog_36 : decode cX12_setWatchdog 36 = .ok (.iconst (-1), 1) := by decide +kernel
theorem dX12_setWatchdog_37 : decode cX12_setWatchdog 37 = .ok (.if_icmp .eq 14, 3) := by decide +kernel
theorem dX12_setWatchdog_40 : decode cX12_setWatchdog 40 = .ok (.iload_n 1, 1) := by decide +kernel
theorem dX12_setWatchdog_41 : decode cX12_setWatchdog 41 = .ok (.invokestatic 86, 3) := by decide +kernel
theorem dX12_setWatchdog_44 : decode cX12_setWatchdog 44 = .ok (.ifCond .ne 7, 3) := by decide +kernel
theorem dX12_setWatchdog_47 : decode cX12_setWatchdog 47 = .ok (.iconst 1, 1) := by decide +kernel
theorem dX12_setWatchdog_48 : decode cX12_setWatchdog 48 = .ok (.goto 13, 3) := by decide +kernel
theorem dX12_setWatchdog_51 : decode cX12_setWatchdog 51 = .ok (.iload 4, 2) := by decide +kernel
theorem dX12_setWatchdog_53 : decode cX12_setWatchdog 53 = .ok (.ifCond .ne 7, 3) := by decide +kernel
theorem dX12_setWatchdog_56 : decode cX12_setWatchdog 56 = .ok (.iconst 2, 1) := by decide +kernel
theorem dX12_setWatchdog_57 : decode cX12_setWatchdog 57 = .ok (.goto 4, 3) := by decide +kernel
theorem dX12_setWatchdog_60 : decode cX12_setWatchdog 60 = .ok (.iconst 0, 1) := by decide +kernel
theorem dX12_setWatchdog_61 : decode cX12_setWatchdog 61 = .ok (.putfield 53, 3) := by decide +kernel
theorem dX12_setWatchdog_64 : decode cX12_setWatchdog 64 = .ok (.aload_n 0, 1) := by decide +kernel
theorem dX12_setWatchdog_65 : decode cX12_setWatchdog 65 = .ok (.getfield 53, 3) := by decide +kernel
theorem dX12_setWatchdog_68 : decode cX12_setWatchdog 68 = .ok (.ifCond .le 5, 3) := by decide +kernel
theorem dX12_setWatchdog_71 : decode cX12_setWatchdog 71 = .ok (.iconst 0, 1) := by decide +kernel
theorem dX12_setWatchdog_72 : decode cX12_setWatchdog 72 = .ok (.ireturn, 1) := by decide +kernel
theorem dX12_setWatchdog_73 : decode cX12_setWatchdog 73 = .ok (.aload_n 0, 1) := by decide +kernel
theorem dX12_setWatchdog_74 : decode cX12_setWatchdog 74 = .ok (.getfield 34, 3) := by decide +kernel
theorem dX12_setWatchdog_77 : decode cX12_setWatchdog 77 = .ok (.iconst (-1), 1) := by decide +kernel
theorem dX12_setWatchdog_78 : decode cX12_setWatchdog 78 = .ok (.if_icmp .eq 7, 3) := by decide +kernel
theorem dX12_setWatchdog_81 : decode cX12_setWatchdog 81 = .ok (.iconst 1, 1) := by decide +kernel
theorem dX12_setWatchdog_82 : decode cX12_setWatchdog 82 = .ok (.goto 4, 3) := by decide +kernel
theorem dX12_setWatchdog_85 : decode cX12_setWatchdog 85 = .ok (.iconst 0, 1) := by decide +kernel
theorem dX12_setWatchdog_86 : decode cX12_setWatchdog 86 = .ok (.istore 5, 2) := by decide +kernel
theorem dX12_setWatchdog_88 : decode cX12_setWatchdog 88 = .ok (.aload_n 0, 1) := by decide +kernel
theorem dX12_setWatchdog_89 : decode cX12_setWatchdog 89 = .ok (.iload_n 1, 1) := by decide +kernel
theorem dX12_setWatchdog_90 : decode cX12_setWatchdog 90 = .ok (.putfield 34, 3) := by decide +kernel
theorem dX12_setWatchdog_93 : decode cX12_setWatchdog 93 = .ok (.aload_n 0, 1) := by decide +kernel
theorem dX12_setWatchdog_94 : decode cX12_setWatchdog 94 = .ok (.iload_n 2, 1) := by decide +kernel
theorem dX12_setWatchdog_95 : decode cX12_setWatchdog 95 = .ok (.putfield 155, 3) := by decide +kernel
theorem dX12_setWatchdog_98 : decode cX12_setWatchdog 98 = .ok (.aload_n 0, 1) := by decide +kernel
theorem dX12_setWatchdog_99 : decode cX12_setWatchdog 99 = .ok (.iload_n 3, 1) := by decide +kernel
theorem dX12_setWatchdog_100 : decode cX12_setWatchdog 100 = .ok (.putfield 158, 3) := by decide +kernel
theorem dX12_setWatchdog_103 : decode cX12_setWatchdog 103 = .ok (.aload_n 0, 1) := by decide +kernel
theorem dX12_setWatchdog_104 : decode cX12_setWatchdog 104 = .ok (.iconst 0, 1) := by decide +kernel
theorem dX12_setWatchdog_105 : decode cX12_setWatchdog 105 = .ok (.putfield 161, 3) := by decide +kernel
theorem dX12_setWatchdog_108 : decode cX12_setWatchdog 108 = .ok (.iload 5, 2) := by decide +kernel
theorem dX12_setWatchdog_110 : decode cX12_setWatchdog 110 = .ok (.ireturn, 1) := by decide +kernel
set_option maxRecDepth 20000 in
theorem ggX12_request_X12_isLine : GoodIn wsX12_request wsX12_isLine := goodIn_r _ [7, 8, 9, 10, 6, 11] (by decide +kernel) (by decide +kernel)
set_option maxRecDepth 20000 in
theorem gX12_request_X12_isLine : GoodIn wsX12_request (va_wsS RX12 126 yX12_isLine wsX12_isLine) := goodIn_app (goodIn_of _ (by decide +kernel)) ggX12_request_X12_isLine
set_option maxRecDepth 20000 in
theorem ggX12_request_Jx4a65c_get_915e3 : GoodIn wsX12_request wsJx4a65c_get_915e3 := goodIn_r _ [16, 17, 18, 19, 20, 21, 22, 23, 24, 25, 26, 27, 28, 15, 29, 30, 61, 62, 63] (by decide +kernel) (by decide +kernel)
set_option maxRecDepth 20000 in
theorem gX12_request_Jx4a65c_get_915e3_f66Jx4a65c : GoodIn wsX12_request (va_wsF RX12 66 RJx4a65c ⟨"java/util/List", "get", "(I)Ljava/lang/Object;"⟩ yJx4a65c_get_915e3 wsJx4a65c_get_915e3) := goodIn_app (goodIn_of _ (by decide +kernel)) ggX12_request_Jx4a65c_get_915e3
theorem dX12_request_0 : decode cX12_request 0 = .ok (.aload_n 0, 1) := by decide +kernel
theorem dX12_request_1 : decode cX12_request 1 = .ok (.iload_n 1, 1) := by decide +kernel
theorem dX12_request_2 : decode cX12_request 2 = .ok (.invokestatic 126, 3) := by decide +kernel
theorem dX12_request_5 : decode cX12_request 5 = .ok (.ifCond .eq 7, 3) := by decide +kernel
theorem dX12_request_8 : decode cX12_request 8 = .ok (.iconst 0, 1) := by decide +kernel
theorem dX12_request_9 : decode cX12_request 9 = .ok (.goto 4, 3) := by decide +kernel
theorem dX12_request_12 : decode cX12_request 12 = .ok (.iconst 1, 1) := by decide +kernel
theorem dX12_request_13 : decode cX12_request 13 = .ok (.putfield 53, 3) := by decide +kernel
theorem dX12_request_16 : decode cX12_request 16 = .ok (.aload_n 0, 1) := by decide +kernel
theorem dX12_request_17 : decode cX12_request 17 = .ok (.getfield 53, 3) := by decide +kernel
theorem dX12_request_20 : decode cX12_request 20 = .ok (.ifCond .le 5, 3) := by decide +kernel
theorem dX12_request_23 : decode cX12_request 23 = .ok (.iconst 0, 1) := by decide +kernel
theorem dX12_request_24 : decode cX12_request 24 = .ok (.ireturn, 1) := by decide +kernel
theorem dX12_request_25 : decode cX12_request 25 = .ok (.aload_n 0, 1) := by decide +kernel
theorem dX12_request_26 : decode cX12_request 26 = .ok (.getfield 21, 3) := by decide +kernel
theorem dX12_request_29 : decode cX12_request 29 = .ok (.iload_n 1, 1) := by decide +kernel
theorem dX12_request_30 : decode cX12_request 30 = .ok (.invokeinterface 66 2, 5) := by decide +kernel
theorem dX12_request_35 : decode cX12_request 35 = .ok (.checkcast 50, 3) := by decide +kernel
theorem dX12_request_38 : decode cX12_request 38 = .ok (.getfield 164, 3) := by decide +kernel
theorem dX12_request_41 : decode cX12_request 41 = .ok (.istore_n 2, 1) := by decide +kernel
theorem dX12_request_42 : decode cX12_request 42 = .ok (.aload_n 0, 1) := by decide +kernel
theorem dX12_request_43 : decode cX12_request 43 = .ok (.getfield 21, 3) := by decide +kernel
theorem dX12_request_46 : decode cX12_request 46 = .ok (.iload_n 1, 1) := by decide +kernel
theorem dX12_request_47 : decode cX12_request 47 = .ok (.invokeinterface 66 2, 5) := by decide +kernel
theorem dX12_request_52 : decode cX12_request 52 = .ok (.checkcast 50, 3) := by decide +kernel
theorem dX12_request_55 : decode cX12_request 55 = .ok (.iconst 1, 1) := by decide +kernel
theorem dX12_request_56 : decode cX12_request 56 = .ok (.putfield 164, 3) := by decide +kernel
theorem dX12_request_59 : decode cX12_request 59 = .ok (.iload_n 2, 1) := by decide +kernel
theorem dX12_request_60 : decode cX12_request 60 = .ok (.ifCond .ne 7, 3) := by decide +kernel
theorem dX12_request_63 : decode cX12_request 63 = .ok (.iconst 1, 1) := by decide +kernel
theorem dX12_request_64 : decode cX12_request 64 = .ok (.goto 4, 3) := by decide +kernel
theorem dX12_request_67 : decode cX12_request 67 = .ok (.iconst 0, 1) := by decide +kernel
theorem dX12_request_68 : decode cX12_request 68 = .ok (.ireturn, 1) := by decide +kernel
set_option maxRecDepth 20000 in
theorem ggX12_feed_X12_fed : GoodIn wsX12_feed wsX12_fed := goodIn_ca (goodIn_r _ [6, 7, 8, 9, 10, 11, 12, 5, 13, 14, 15, 16, 17, 18, 19, 20, 21, 22, 23, 24, 25, 26, 27, 28, 29, 30, 31, 32, 33, 34, 35, 36, 37, 38, 39, 40, 41, 42, 43, 44, 45, 46, 47, 48, 49, 50, 51, 52, 53, 54, 55, 56, 57, 58, 59, 60, 61, 62, 63, 64, 65, 66, 67, 68, 69, 70, 71, 72, 73, 74, 75, 76, 77, 78, 79, 80, 81, 82, 83, 84, 85, 86, 87, 88, 89, 90, 91, 92, 93, 94, 95, 96, 97, 98, 99, 100, 101, 102, 103, 104, 105, 106, 107, 108, 109, 110, 111, 112, 113, 114, 115, 116, 117, 118, 119, 120, 121, 122, 123, 124, 125, 126, 127, 128, 129, 130, 131, 132, 133, 134, 135, 136, 137, 138, 139, 140, 141, 142, 143, 144, 145, 146, 147, 148, 149, 150, 151, 152, 153, 154, 155, 156, 157, 158, 159, 160, 161, 162, 163, 164, 165, 166, 167, 168, 169, 170, 171, 172] (by decide +kernel) (by decide +kernel)) (goodIn_sub (fun _ h => List.mem_cons_of_mem _ (List.mem_append_right _ h)) (by decide +kernel))
set_option maxRecDepth 20000 in
theorem gX12_feed_X12_fed : GoodIn wsX12_feed (wsV RX12 167 RX12 yX12_fed wsX12_fed) := goodIn_app (goodIn_of _ (by decide +kernel)) ggX12_feed_X12_fed
theorem dX12_feed_0 : decode cX12_feed 0 = .ok (.aload_n 0, 1) := by decide +kernel
theorem dX12_feed_1 : decode cX12_feed 1 = .ok (.iconst 0, 1) := by decide +kernel
theorem dX12_feed_2 : decode cX12_feed 2 = .ok (.putfield 53, 3) := by decide +kernel
theorem dX12_feed_5 : decode cX12_feed 5 = .ok (.aload_n 0, 1) := by decide +kernel
theorem dX12_feed_6 : decode cX12_feed 6 = .ok (.invokevirtual 167, 3) := by decide +kernel
theorem dX12_feed_9 : decode cX12_feed 9 = .ok (.ireturn, 1) := by decide +kernel
set_option maxRecDepth 20000 in
theorem ggX12_level_Jx4a65c_size_8abf5 : GoodIn wsX12_level wsJx4a65c_size_8abf5 := goodIn_r _ [10, 11, 89, 90, 91] (by decide +kernel) (by decide +kernel)
set_option maxRecDepth 20000 in
theorem gX12_level_Jx4a65c_size_8abf5_f174Jx4a65c : GoodIn wsX12_level (va_wsF RX12 174 RJx4a65c ⟨"java/util/List", "size", "()I"⟩ yJx4a65c_size_8abf5 wsJx4a65c_size_8abf5) := goodIn_app (goodIn_of _ (by decide +kernel)) ggX12_level_Jx4a65c_size_8abf5
set_option maxRecDepth 20000 in
theorem ggX12_level_Jx4a65c_add_9ea2d : GoodIn wsX12_level wsJx4a65c_add_9ea2d := goodIn_r _ [15, 16, 17, 18, 11, 19, 20, 21, 9, 22, 23, 24, 25, 26, 27, 28, 29, 30, 31, 32, 33, 34, 35, 36, 37, 38, 39, 40, 41, 42, 43, 44, 45, 46, 47, 48, 49, 50, 51, 52, 53, 54, 55, 56, 57, 58, 59, 60, 61, 62, 63, 64, 65, 89, 90, 91] (by decide +kernel) (by decide +kernel)
set_option maxRecDepth 20000 in
theorem gX12_level_Jx4a65c_add_9ea2d_f41Jx4a65c : GoodIn wsX12_level (va_wsF RX12 41 RJx4a65c ⟨"java/util/List", "add", "(Ljava/lang/Object;)Z"⟩ yJx4a65c_add_9ea2d wsJx4a65c_add_9ea2d) := goodIn_app (goodIn_of _ (by decide +kernel)) ggX12_level_Jx4a65c_add_9ea2d
theorem dX12_level_0 : decode cX12_level 0 = .ok (.aload_n 0, 1) := by decide +kernel
theorem dX12_level_1 : decode cX12_level 1 = .ok (.getfield 171, 3) := by decide +kernel
theorem dX12_level_4 : decode cX12_level 4 = .ok (.iload_n 1, 1) := by decide +kernel
theorem dX12_level_5 : decode cX12_level 5 = .ok (.ishr, 1) := by decide +kernel
theorem dX12_level_6 : decode cX12_level 6 = .ok (.iconst 1, 1) := by decide +kernel
theorem dX12_level_7 : decode cX12_level 7 = .ok (.iand, 1) := by decide +kernel
theorem dX12_level_8 : decode cX12_level 8 = .ok (.iconst 1, 1) := by decide +kernel
theorem dX12_level_9 : decode cX12_level 9 = .ok (.if_icmp .ne 7, 3) := by decide +kernel
theorem dX12_level_12 : decode cX12_level 12 = .ok (.iconst 1, 1) := by decide +kernel
theorem dX12_level_13 : decode cX12_level 13 = .ok (.goto 4, 3) := by decide +kernel
theorem dX12_level_16 : decode cX12_level 16 = .ok (.iconst 0, 1) := by decide +kernel
theorem dX12_level_17 : decode cX12_level 17 = .ok (.iload_n 2, 1) := by decide +kernel
theorem dX12_level_18 : decode cX12_level 18 = .ok (.if_icmp .eq 75, 3) := by decide +kernel
theorem dX12_level_21 : decode cX12_level 21 = .ok (.aload_n 0, 1) := by decide +kernel
theorem dX12_level_22 : decode cX12_level 22 = .ok (.dup, 1) := by decide +kernel
theorem dX12_level_23 : decode cX12_level 23 = .ok (.getfield 171, 3) := by decide +kernel
theorem dX12_level_26 : decode cX12_level 26 = .ok (.iconst 1, 1) := by decide +kernel
theorem dX12_level_27 : decode cX12_level 27 = .ok (.iload_n 1, 1) := by decide +kernel
theorem dX12_level_28 : decode cX12_level 28 = .ok (.ishl, 1) := by decide +kernel
theorem dX12_level_29 : decode cX12_level 29 = .ok (.ixor, 1) := by decide +kernel
theorem dX12_level_30 : decode cX12_level 30 = .ok (.putfield 171, 3) := by decide +kernel
theorem dX12_level_33 : decode cX12_level 33 = .ok (.aload_n 0, 1) := by decide +kernel
theorem dX12_level_34 : decode cX12_level 34 = .ok (.getfield 27, 3) := by decide +kernel
theorem dX12_level_37 : decode cX12_level 37 = .ok (.invokeinterface 174 1, 5) := by decide +kernel
theorem dX12_level_42 : decode cX12_level 42 = .ok (.sipush 200, 3) := by decide +kernel
theorem dX12_level_45 : decode cX12_level 45 = .ok (.if_icmp .ge 38, 3) := by decide +kernel
theorem dX12_level_48 : decode cX12_level 48 = .ok (.aload_n 0, 1) := by decide +kernel
theorem dX12_level_49 : decode cX12_level 49 = .ok (.getfield 27, 3) := by decide +kernel
theorem dX12_level_52 : decode cX12_level 52 = .ok (.iconst 2, 1) := by decide +kernel
theorem dX12_level_53 : decode cX12_level 53 = .ok (.newarray .int, 2) := by decide +kernel
theorem dX12_level_55 : decode cX12_level 55 = .ok (.dup, 1) := by decide +kernel
theorem dX12_level_56 : decode cX12_level 56 = .ok (.iconst 0, 1) := by decide +kernel
theorem dX12_level_57 : decode cX12_level 57 = .ok (.aload_n 0, 1) := by decide +kernel
theorem dX12_level_58 : decode cX12_level 58 = .ok (.getfield 178, 3) := by decide +kernel
theorem dX12_level_61 : decode cX12_level 61 = .ok (.iastore, 1) := by decide +kernel
theorem dX12_level_62 : decode cX12_level 62 = .ok (.dup, 1) := by decide +kernel
theorem dX12_level_63 : decode cX12_level 63 = .ok (.iconst 1, 1) := by decide +kernel
theorem dX12_level_64 : decode cX12_level 64 = .ok (.iload_n 1, 1) := by decide +kernel
theorem dX12_level_65 : decode cX12_level 65 = .ok (.iload_n 2, 1) := by decide +kernel
theorem dX12_level_66 : decode cX12_level 66 = .ok (.ifCond .eq 8, 3) := by decide +kernel
theorem dX12_level_69 : decode cX12_level 69 = .ok (.bipush 8, 2) := by decide +kernel
theorem dX12_level_71 : decode cX12_level 71 = .ok (.goto 4, 3) := by decide +kernel
theorem dX12_level_74 : decode cX12_level 74 = .ok (.iconst 0, 1) := by decide +kernel
theorem dX12_level_75 : decode cX12_level 75 = .ok (.iadd, 1) := by decide +kernel
theorem dX12_level_76 : decode cX12_level 76 = .ok (.iastore, 1) := by decide +kernel
theorem dX12_level_77 : decode cX12_level 77 = .ok (.invokeinterface 41 2, 5) := by decide +kernel
theorem dX12_level_82 : decode cX12_level 82 = .ok (.pop, 1) := by decide +kernel
theorem dX12_level_83 : decode cX12_level 83 = .ok (.aload_n 0, 1) := by decide +kernel
theorem dX12_level_84 : decode cX12_level 84 = .ok (.dup, 1) := by decide +kernel
theorem dX12_level_85 : decode cX12_level 85 = .ok (.getfield 181, 3) := by decide +kernel
theorem dX12_level_88 : decode cX12_level 88 = .ok (.iconst 1, 1) := by decide +kernel
theorem dX12_level_89 : decode cX12_level 89 = .ok (.iadd, 1) := by decide +kernel
theorem dX12_level_90 : decode cX12_level 90 = .ok (.putfield 181, 3) := by decide +kernel
theorem dX12_level_93 : decode cX12_level 93 = .ok (.return_, 1) := by decide +kernel
set_option maxRecDepth 20000 in
theorem ggX12_reset_X12_level : GoodIn wsX12_reset wsX12_level := goodIn_ca (goodIn_r _ [15, 16, 17, 18, 9, 19, 20, 21, 22, 23, 24, 25, 26, 27, 28, 29, 30, 31, 32, 33, 34, 35, 36, 37, 38, 39, 40, 41, 42, 43, 44, 45, 46, 47, 48, 49, 50, 51, 52, 53, 54, 55, 56, 57, 58, 59, 60, 61, 62, 63, 64, 65, 66, 67, 68, 69, 70, 71, 72, 73, 74, 75, 76, 77, 78, 79, 115, 116, 117, 118, 119, 120, 121, 122, 123, 124, 125, 126, 127, 128, 129, 130, 131, 132, 133, 134, 135, 136, 137, 155, 156, 157] (by decide +kernel) (by decide +kernel)) (goodIn_sub (fun _ h => List.mem_cons_of_mem _ (List.mem_append_right _ h)) (by decide +kernel))
set_option maxRecDepth 20000 in
theorem gX12_reset_X12_level : GoodIn wsX12_reset (wsV RX12 184 RX12 yX12_level wsX12_level) := goodIn_app (goodIn_of _ (by decide +kernel)) ggX12_reset_X12_level
set_option maxRecDepth 20000 in
theorem ggX12_reset_Jx4a65c_iterator_32c93 : GoodIn wsX12_reset wsJx4a65c_iterator_32c93 := goodIn_r _ [83, 84, 85, 86, 87, 88, 89, 90, 91, 92, 93, 94, 95, 31, 96, 158, 159, 160, 161, 155, 156, 157] (by decide +kernel) (by decide +kernel)
set_option maxRecDepth 20000 in
theorem gX12_reset_Jx4a65c_iterator_32c93_f188Jx4a65c : GoodIn wsX12_reset (va_wsF RX12 188 RJx4a65c ⟨"java/util/List", "iterator", "()Ljava/util/Iterator;"⟩ yJx4a65c_iterator_32c93 wsJx4a65c_iterator_32c93) := goodIn_app (goodIn_of _ (by decide +kernel)) ggX12_reset_Jx4a65c_iterator_32c93
set_option maxRecDepth 20000 in
theorem ggX12_reset_Jx35411_hasNext_aae02 : GoodIn wsX12_reset wsJx35411_hasNext_aae02 := goodIn_r _ [100, 101, 90, 158, 159, 160, 161, 155, 156, 157] (by decide +kernel) (by decide +kernel)
set_option maxRecDepth 20000 in
theorem gX12_reset_Jx35411_hasNext_aae02_f192Jx35411 : GoodIn wsX12_reset (va_wsF RX12 192 RJx35411 ⟨"java/util/Iterator", "hasNext", "()Z"⟩ yJx35411_hasNext_aae02 wsJx35411_hasNext_aae02) := goodIn_app (goodIn_of _ (by decide +kernel)) ggX12_reset_Jx35411_hasNext_aae02
set_option maxRecDepth 20000 in
theorem ggX12_reset_Jx35411_next_0502b : GoodIn wsX12_reset wsJx35411_next_0502b := goodIn_r _ [105, 101, 90, 106, 94, 107, 108, 109, 86, 110, 95, 31, 96, 158, 159, 160, 161, 155, 156, 157] (by decide +kernel) (by decide +kernel)
set_option maxRecDepth 20000 in
theorem gX12_reset_Jx35411_next_0502b_f197Jx35411 : GoodIn wsX12_reset (va_wsF RX12 197 RJx35411 ⟨"java/util/Iterator", "next", "()Ljava/lang/Object;"⟩ yJx35411_next_0502b wsJx35411_next_0502b) := goodIn_app (goodIn_of _ (by decide +kernel)) ggX12_reset_Jx35411_next_0502b
set_option maxRecDepth 20000 in
theorem ggX12_reset_Jx4a65c_clear_da8c8 : GoodIn wsX12_reset wsJx4a65c_clear_da8c8 := goodIn_r _ [114, 30, 31, 32, 25, 155, 156, 157] (by decide +kernel) (by decide +kernel)
set_option maxRecDepth 20000 in
theorem gX12_reset_Jx4a65c_clear_da8c8_f204Jx4a65c : GoodIn wsX12_reset (va_wsF RX12 204 RJx4a65c ⟨"java/util/List", "clear", "()V"⟩ yJx4a65c_clear_da8c8 wsJx4a65c_clear_da8c8) := goodIn_app (goodIn_of _ (by decide +kernel)) ggX12_reset_Jx4a65c_clear_da8c8
theorem dX12_reset_0 : decode cX12_reset 0 = .ok (.iconst 0, 1) := by decide +kernel
theorem dX12_reset_1 : decode cX12_reset 1 = .ok (.istore_n 1, 1) := by decide +kernel
theorem dX12_reset_2 : decode cX12_reset 2 = .ok (.iload_n 1, 1) := by decide +kernel
theorem dX12_reset_3 : decode cX12_reset 3 = .ok (.bipush 8, 2) := by decide +kernel
theorem dX12_reset_5 : decode cX12_reset 5 = .ok (.if_icmp .ge 15, 3) := by decide +kernel
theorem dX12_reset_8 : decode cX12_reset 8 = .ok (.aload_n 0, 1) := by decide +kernel
theorem dX12_reset_9 : decode cX12_reset 9 = .ok (.iload_n 1, 1) := by decide +kernel
theorem dX12_reset_10 : decode cX12_reset 10 = .ok (.iconst 0, 1) := by decide +kernel
theorem dX12_reset_11 : decode cX12_reset 11 = .ok (.invokevirtual 184, 3) := by decide +kernel
theorem dX12_reset_14 : decode cX12_reset 14 = .ok (.iinc 1 1, 3) := by decide +kernel
theorem dX12_reset_17 : decode cX12_reset 17 = .ok (.goto (-15), 3) := by decide +kernel
theorem dX12_reset_20 : decode cX12_reset 20 = .ok (.aload_n 0, 1) := by decide +kernel
theorem dX12_reset_21 : decode cX12_reset 21 = .ok (.getfield 18, 3) := by decide +kernel
theorem dX12_reset_24 : decode cX12_reset 24 = .ok (.invokeinterface 188 1, 5) := by decide +kernel
theorem dX12_reset_29 : decode cX12_reset 29 = .ok (.astore_n 1, 1) := by decide +kernel
theorem dX12_reset_30 : decode cX12_reset 30 = .ok (.aload_n 1, 1) := by decide +kernel
theorem dX12_reset_31 : decode cX12_reset 31 = .ok (.invokeinterface 192 1, 5) := by decide +kernel
theorem dX12_reset_36 : decode cX12_reset 36 = .ok (.ifCond .eq 26, 3) := by decide +kernel
theorem dX12_reset_39 : decode cX12_reset 39 = .ok (.aload_n 1, 1) := by decide +kernel
theorem dX12_reset_40 : decode cX12_reset 40 = .ok (.invokeinterface 197 1, 5) := by decide +kernel
theorem dX12_reset_45 : decode cX12_reset 45 = .ok (.checkcast 47, 3) := by decide +kernel
theorem dX12_reset_48 : decode cX12_reset 48 = .ok (.astore_n 2, 1) := by decide +kernel
theorem dX12_reset_49 : decode cX12_reset 49 = .ok (.aload_n 2, 1) := by decide +kernel
theorem dX12_reset_50 : decode cX12_reset 50 = .ok (.iconst 0, 1) := by decide +kernel
theorem dX12_reset_51 : decode cX12_reset 51 = .ok (.putfield 123, 3) := by decide +kernel
theorem dX12_reset_54 : decode cX12_reset 54 = .ok (.aload_n 2, 1) := by decide +kernel
theorem dX12_reset_55 : decode cX12_reset 55 = .ok (.iconst 0, 1) := by decide +kernel
theorem dX12_reset_56 : decode cX12_reset 56 = .ok (.putfield 201, 3) := by decide +kernel
theorem dX12_reset_59 : decode cX12_reset 59 = .ok (.goto (-29), 3) := by decide +kernel
theorem dX12_reset_62 : decode cX12_reset 62 = .ok (.aload_n 0, 1) := by decide +kernel
theorem dX12_reset_63 : decode cX12_reset 63 = .ok (.getfield 21, 3) := by decide +kernel
theorem dX12_reset_66 : decode cX12_reset 66 = .ok (.invokeinterface 188 1, 5) := by decide +kernel
theorem dX12_reset_71 : decode cX12_reset 71 = .ok (.astore_n 1, 1) := by decide +kernel
theorem dX12_reset_72 : decode cX12_reset 72 = .ok (.aload_n 1, 1) := by decide +kernel
theorem dX12_reset_73 : decode cX12_reset 73 = .ok (.invokeinterface 192 1, 5) := by decide +kernel
theorem dX12_reset_78 : decode cX12_reset 78 = .ok (.ifCond .eq 21, 3) := by decide +kernel
theorem dX12_reset_81 : decode cX12_reset 81 = .ok (.aload_n 1, 1) := by decide +kernel
theorem dX12_reset_82 : decode cX12_reset 82 = .ok (.invokeinterface 197 1, 5) := by decide +kernel
theorem dX12_reset_87 : decode cX12_reset 87 = .ok (.checkcast 50, 3) := by decide +kernel
theorem dX12_reset_90 : decode cX12_reset 90 = .ok (.astore_n 2, 1) := by decide +kernel
theorem dX12_reset_91 : decode cX12_reset 91 = .ok (.aload_n 2, 1) := by decide +kernel
theorem dX12_reset_92 : decode cX12_reset 92 = .ok (.iconst 0, 1) := by decide +kernel
theorem dX12_reset_93 : decode cX12_reset 93 = .ok (.putfield 164, 3) := by decide +kernel
theorem dX12_reset_96 : decode cX12_reset 96 = .ok (.goto (-24), 3) := by decide +kernel
theorem dX12_reset_99 : decode cX12_reset 99 = .ok (.aload_n 0, 1) := by decide +kernel
theorem dX12_reset_100 : decode cX12_reset 100 = .ok (.getfield 24, 3) := by decide +kernel
theorem dX12_reset_103 : decode cX12_reset 103 = .ok (.invokeinterface 204 1, 5) := by decide +kernel
theorem dX12_reset_108 : decode cX12_reset 108 = .ok (.aload_n 0, 1) := by decide +kernel
theorem dX12_reset_109 : decode cX12_reset 109 = .ok (.bipush 105, 2) := by decide +kernel
theorem dX12_reset_111 : decode cX12_reset 111 = .ok (.putfield 30, 3) := by decide +kernel
theorem dX12_reset_114 : decode cX12_reset 114 = .ok (.aload_n 0, 1) := by decide +kernel
theorem dX12_reset_115 : decode cX12_reset 115 = .ok (.iconst 0, 1) := by decide +kernel
theorem dX12_reset_116 : decode cX12_reset 116 = .ok (.putfield 161, 3) := by decide +kernel
