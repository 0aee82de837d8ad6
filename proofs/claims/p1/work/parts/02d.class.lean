set_option maxRecDepth 20000 in
theorem ggX0_init_X1_init : GoodIn wsX0_init wsX1_init := goodIn_r _ [30, 31, 2, 3, 32, 33, 34, 35, 36, 37, 38, 39, 40, 41, 42, 88, 89, 90, 91, 92, 93] (by decide +kernel) (by decide +kernel)
set_option maxRecDepth 20000 in
theorem gX0_init_X1_init : GoodIn wsX0_init (wsX1_init) := ggX0_init_X1_init
set_option maxRecDepth 20000 in
theorem ggX0_init_X6_init : GoodIn wsX0_init wsX6_init := goodIn_r _ [45, 46, 2, 3, 32, 47, 48, 49, 50, 51, 52, 53, 54, 40, 41, 42, 103, 104, 105, 106, 107, 108, 109, 110, 111] (by decide +kernel) (by decide +kernel)
set_option maxRecDepth 20000 in
theorem gX0_init_X6_init : GoodIn wsX0_init (wsX6_init) := ggX0_init_X6_init
set_option maxRecDepth 20000 in
theorem ggX0_init_X3_init : GoodIn wsX0_init wsX3_init := goodIn_r _ [56, 57, 2, 3, 32, 58, 59, 112, 113, 114, 115] (by decide +kernel) (by decide +kernel)
set_option maxRecDepth 20000 in
theorem gX0_init_X3_init_n27 : GoodIn wsX0_init (wsX3_init) := ggX0_init_X3_init
set_option maxRecDepth 20000 in
theorem ggX0_init_X2_init : GoodIn wsX0_init wsX2_init := goodIn_r _ [62, 63, 2, 3, 32, 64, 65, 66, 67, 68, 69, 40, 41, 42, 116, 117, 118, 119, 120, 121, 122] (by decide +kernel) (by decide +kernel)
set_option maxRecDepth 20000 in
theorem gX0_init_X2_init : GoodIn wsX0_init (wsX2_init) := ggX0_init_X2_init
set_option maxRecDepth 20000 in
theorem ggX0_init_X4_init : GoodIn wsX0_init wsX4_init := goodIn_r _ [71, 72, 2, 3, 73, 74, 75, 76, 77, 78, 79, 80, 81, 32, 82, 83, 136, 137, 138, 123, 124, 125, 126, 127, 128, 129] (by decide +kernel) (by decide +kernel)
set_option maxRecDepth 20000 in
theorem gX0_init_X4_init_n41 : GoodIn wsX0_init (wsX4_init) := ggX0_init_X4_init
set_option maxRecDepth 20000 in
theorem ggX0_init_X7_init : GoodIn wsX0_init wsX7_init := goodIn_r _ [85, 86, 2, 3, 87, 130, 131, 132, 133, 134, 135] (by decide +kernel) (by decide +kernel)
set_option maxRecDepth 20000 in
theorem gX0_init_X7_init_n48 : GoodIn wsX0_init (wsX7_init) := ggX0_init_X7_init
theorem dX0_init_0 : decode cX0_init 0 = .ok (.aload_n 0, 1) := by decide +kernel
theorem dX0_init_1 : decode cX0_init 1 = .ok (.invokespecial 3, 3) := by decide +kernel
theorem dX0_init_4 : decode cX0_init 4 = .ok (.aload_n 0, 1) := by decide +kernel
theorem dX0_init_5 : decode cX0_init 5 = .ok (.new 9, 3) := by decide +kernel
theorem dX0_init_8 : decode cX0_init 8 = .ok (.dup, 1) := by decide +kernel
theorem dX0_init_9 : decode cX0_init 9 = .ok (.invokespecial 11, 3) := by decide +kernel
theorem dX0_init_12 : decode cX0_init 12 = .ok (.putfield 12, 3) := by decide +kernel
theorem dX0_init_15 : decode cX0_init 15 = .ok (.aload_n 0, 1) := by decide +kernel
theorem dX0_init_16 : decode cX0_init 16 = .ok (.new 18, 3) := by decide +kernel
theorem dX0_init_19 : decode cX0_init 19 = .ok (.dup, 1) := by decide +kernel
theorem dX0_init_20 : decode cX0_init 20 = .ok (.invokespecial 20, 3) := by decide +kernel
theorem dX0_init_23 : decode cX0_init 23 = .ok (.putfield 21, 3) := by decide +kernel
theorem dX0_init_26 : decode cX0_init 26 = .ok (.aload_n 0, 1) := by decide +kernel
theorem dX0_init_27 : decode cX0_init 27 = .ok (.new 25, 3) := by decide +kernel
theorem dX0_init_30 : decode cX0_init 30 = .ok (.dup, 1) := by decide +kernel
theorem dX0_init_31 : decode cX0_init 31 = .ok (.invokespecial 27, 3) := by decide +kernel
theorem dX0_init_34 : decode cX0_init 34 = .ok (.putfield 28, 3) := by decide +kernel
theorem dX0_init_37 : decode cX0_init 37 = .ok (.aload_n 0, 1) := by decide +kernel
theorem dX0_init_38 : decode cX0_init 38 = .ok (.new 32, 3) := by decide +kernel
theorem dX0_init_41 : decode cX0_init 41 = .ok (.dup, 1) := by decide +kernel
theorem dX0_init_42 : decode cX0_init 42 = .ok (.invokespecial 34, 3) := by decide +kernel
theorem dX0_init_45 : decode cX0_init 45 = .ok (.putfield 35, 3) := by decide +kernel
theorem dX0_init_48 : decode cX0_init 48 = .ok (.aload_n 0, 1) := by decide +kernel
theorem dX0_init_49 : decode cX0_init 49 = .ok (.new 39, 3) := by decide +kernel
theorem dX0_init_52 : decode cX0_init 52 = .ok (.dup, 1) := by decide +kernel
theorem dX0_init_53 : decode cX0_init 53 = .ok (.invokespecial 41, 3) := by decide +kernel
theorem dX0_init_56 : decode cX0_init 56 = .ok (.putfield 42, 3) := by decide +kernel
theorem dX0_init_59 : decode cX0_init 59 = .ok (.aload_n 0, 1) := by decide +kernel
theorem dX0_init_60 : decode cX0_init 60 = .ok (.new 46, 3) := by decide +kernel
theorem dX0_init_63 : decode cX0_init 63 = .ok (.dup, 1) := by decide +kernel
theorem dX0_init_64 : decode cX0_init 64 = .ok (.invokespecial 48, 3) := by decide +kernel
theorem dX0_init_67 : decode cX0_init 67 = .ok (.putfield 49, 3) := by decide +kernel
theorem dX0_init_70 : decode cX0_init 70 = .ok (.return_, 1) := by decide +kernel
set_option maxRecDepth 20000 in
theorem ggX0_goByBeats_X0_goBeat : GoodIn wsX0_goByBeats wsX0_goBeat := goodIn_ca (goodIn_r _ [7, 8, 9, 10, 11, 12, 13, 14, 15, 16, 17, 18, 19, 20, 21, 22, 23, 24, 25, 26, 27, 28, 29, 30, 31, 32, 33, 34, 35, 36, 37, 38, 39, 40, 41, 42, 43, 44, 45, 46, 47, 48, 49, 50, 51, 52, 53, 54, 55, 56, 57, 6, 58, 1, 59, 60, 61, 62, 63, 64, 65, 66, 67, 68, 69, 70, 71, 72, 73, 74, 75, 76, 77, 78, 79, 80, 81, 82, 83, 84, 85, 86, 87, 88, 89, 90, 91, 92, 93, 94, 95, 96, 97, 98, 99, 100, 101, 102, 103, 104, 105, 106, 107, 108, 109, 110, 111, 112, 113, 114, 115, 116, 117, 118, 119, 120, 121, 122, 123, 124, 125, 126, 127, 128, 129, 130, 131, 132, 133, 134, 135, 136, 137, 138, 139, 140, 141, 142, 143, 144, 145, 146, 147, 148, 149, 150, 151, 152, 153, 154, 155, 156, 157, 158, 159, 160, 161, 162, 163, 164, 165, 166, 167, 168, 169, 170, 171, 172, 173, 174, 175, 176, 177, 178, 179, 180, 181, 182, 183, 184, 185, 186, 187, 188, 189, 190, 191, 192, 193, 194, 195, 196, 197, 198, 199, 200, 201, 202, 203, 204, 205, 206, 207, 208, 209, 210, 211, 212, 213, 214, 215, 216, 217, 218, 219, 220, 221, 222, 223, 224, 225, 226, 227, 228, 229, 230, 231, 232, 233, 234, 235, 236, 237, 238, 239, 240, 241, 242, 247, 248, 249, 250, 251, 252, 253, 254, 255, 256, 257, 258, 259, 260, 261, 262, 263, 264, 265, 266, 267, 268, 269, 270, 271, 272, 273, 274, 275, 243, 244, 245, 246, 276, 277, 278, 279, 280, 281, 282, 283, 284] (by decide +kernel) (by decide +kernel)) (goodIn_sub (fun _ h => List.mem_cons_of_mem _ (List.mem_append_right _ h)) (by decide +kernel))
set_option maxRecDepth 20000 in
theorem gX0_goByBeats_X0_goBeat : GoodIn wsX0_goByBeats (wsV RX0 57 RX0 yX0_goBeat wsX0_goBeat) := goodIn_app (goodIn_of _ (by decide +kernel)) ggX0_goByBeats_X0_goBeat
theorem dX0_goByBeats_0 : decode cX0_goByBeats 0 = .ok (.aload_n 0, 1) := by decide +kernel
theorem dX0_goByBeats_1 : decode cX0_goByBeats 1 = .ok (.getfield 28, 3) := by decide +kernel
theorem dX0_goByBeats_4 : decode cX0_goByBeats 4 = .ok (.getfield 53, 3) := by decide +kernel
theorem dX0_goByBeats_7 : decode cX0_goByBeats 7 = .ok (.istore_n 2, 1) := by decide +kernel
theorem dX0_goByBeats_8 : decode cX0_goByBeats 8 = .ok (.iconst 0, 1) := by decide +kernel
theorem dX0_goByBeats_9 : decode cX0_goByBeats 9 = .ok (.istore_n 3, 1) := by decide +kernel
theorem dX0_goByBeats_10 : decode cX0_goByBeats 10 = .ok (.iload_n 3, 1) := by decide +kernel
theorem dX0_goByBeats_11 : decode cX0_goByBeats 11 = .ok (.iload_n 1, 1) := by decide +kernel
theorem dX0_goByBeats_12 : decode cX0_goByBeats 12 = .ok (.if_icmp .ge 13, 3) := by decide +kernel
theorem dX0_goByBeats_15 : decode cX0_goByBeats 15 = .ok (.aload_n 0, 1) := by decide +kernel
theorem dX0_goByBeats_16 : decode cX0_goByBeats 16 = .ok (.invokevirtual 57, 3) := by decide +kernel
theorem dX0_goByBeats_19 : decode cX0_goByBeats 19 = .ok (.iinc 3 1, 3) := by decide +kernel
theorem dX0_goByBeats_22 : decode cX0_goByBeats 22 = .ok (.goto (-12), 3) := by decide +kernel
theorem dX0_goByBeats_25 : decode cX0_goByBeats 25 = .ok (.aload_n 0, 1) := by decide +kernel
theorem dX0_goByBeats_26 : decode cX0_goByBeats 26 = .ok (.getfield 28, 3) := by decide +kernel
theorem dX0_goByBeats_29 : decode cX0_goByBeats 29 = .ok (.getfield 53, 3) := by decide +kernel
theorem dX0_goByBeats_32 : decode cX0_goByBeats 32 = .ok (.iload_n 2, 1) := by decide +kernel
theorem dX0_goByBeats_33 : decode cX0_goByBeats 33 = .ok (.isub, 1) := by decide +kernel
theorem dX0_goByBeats_34 : decode cX0_goByBeats 34 = .ok (.ireturn, 1) := by decide +kernel
set_option maxRecDepth 20000 in
theorem ggX0_goByEvents_X0_beatsToEvent : GoodIn wsX0_goByEvents wsX0_beatsToEvent := goodIn_ca (goodIn_r _ [11, 12, 13, 14, 15, 3, 4, 5, 6, 16, 17, 18, 19, 20, 21, 22, 23, 24, 25, 26, 27, 28, 29, 30, 31, 32, 33, 34, 35, 36, 37, 38, 39, 40, 41, 42, 43, 44, 45, 46, 47, 48, 49, 50, 51, 52, 53, 54, 55, 56, 57, 58, 59, 60, 61, 62, 63, 64, 65, 66, 67, 68, 69, 70, 71, 72, 73, 74, 75, 76, 77, 78, 79, 80, 81, 82, 83, 84, 85, 86, 87, 88, 89, 90, 91, 92, 93, 94, 95, 96, 97, 98, 99, 100, 101, 102, 103, 289, 290, 291, 292, 293, 294, 295, 296, 297, 302, 303, 304, 305, 306, 307, 308, 309, 310, 311, 312, 313, 314, 315, 316, 317, 318, 319, 320, 321, 322, 323, 324, 325, 326, 327, 328, 329, 330, 331, 332, 333, 334, 335, 336, 337, 338, 339] (by decide +kernel) (by decide +kernel)) (goodIn_sub (fun _ h => List.mem_cons_of_mem _ (List.mem_append_left _ (List.mem_append_right _ h))) (by decide +kernel))
set_option maxRecDepth 20000 in
theorem gX0_goByEvents_X0_beatsToEvent : GoodIn wsX0_goByEvents (wsV RX0 60 RX0 yX0_beatsToEvent wsX0_beatsToEvent) := goodIn_app (goodIn_of _ (by decide +kernel)) ggX0_goByEvents_X0_beatsToEvent
set_option maxRecDepth 20000 in
theorem ggX0_goByEvents_X0_skip : GoodIn wsX0_goByEvents wsX0_skip := goodIn_ca (goodIn_ca (goodIn_r _ [107, 108, 15, 12, 14, 16, 17, 18, 19, 20, 21, 22, 23, 109, 110, 111, 86, 112, 113, 114, 88, 93, 90, 91, 92, 72, 5, 73, 40, 41, 42, 115, 116, 117, 118, 119, 120, 121, 66, 122, 70, 76, 77, 78, 79, 80, 81, 82, 123, 124, 125, 126, 97, 127, 99, 102, 128, 129, 130, 131, 132, 31, 30, 133, 134, 135, 54, 136, 56, 62, 137, 138, 139, 10, 140, 141, 142, 143, 144, 145, 146, 147, 148, 149, 150, 151, 152, 153, 154, 155, 289, 290, 291, 292, 293, 294, 295, 296, 297, 302, 303, 304, 305, 306, 307, 308, 328, 329, 330, 331, 332, 333, 319, 320, 321, 322, 323, 324, 325, 326, 327, 334, 335, 336, 337, 338, 339, 316, 317, 318] (by decide +kernel) (by decide +kernel)) (goodIn_sub (fun _ h => List.mem_cons_of_mem _ (List.mem_append_left _ (List.mem_append_right _ h))) (by decide +kernel))) (goodIn_sub (fun _ h => List.mem_cons_of_mem _ (List.mem_append_right _ h)) (by decide +kernel))
set_option maxRecDepth 20000 in
theorem gX0_goByEvents_X0_skip : GoodIn wsX0_goByEvents (wsV RX0 70 RX0 yX0_skip wsX0_skip) := goodIn_app (goodIn_of _ (by decide +kernel)) ggX0_goByEvents_X0_skip
set_option maxRecDepth 20000 in
theorem ggX0_goByEvents_X0_goBeat : GoodIn wsX0_goByEvents wsX0_goBeat := goodIn_ca (goodIn_r _ [159, 108, 15, 12, 14, 13, 160, 16, 17, 18, 19, 20, 21, 22, 23, 161, 162, 163, 86, 164, 113, 114, 88, 93, 91, 90, 40, 41, 42, 115, 116, 117, 118, 165, 166, 167, 66, 168, 82, 76, 81, 70, 74, 69, 169, 123, 170, 171, 172, 173, 174, 10, 175, 1, 176, 177, 178, 179, 180, 181, 182, 183, 184, 185, 186, 187, 188, 189, 97, 190, 99, 102, 101, 128, 191, 192, 193, 194, 195, 196, 197, 198, 199, 200, 201, 202, 203, 204, 205, 206, 31, 207, 30, 29, 208, 209, 210, 211, 212, 213, 214, 215, 216, 217, 32, 33, 34, 35, 36, 37, 38, 39, 218, 219, 220, 221, 222, 223, 224, 225, 226, 227, 228, 229, 230, 231, 43, 44, 45, 46, 47, 48, 49, 50, 232, 233, 234, 235, 236, 237, 238, 239, 54, 240, 56, 57, 62, 241, 242, 243, 244, 245, 246, 247, 248, 249, 250, 251, 4, 5, 6, 252, 253, 254, 255, 256, 257, 258, 259, 51, 52, 53, 55, 133, 134, 135, 136, 58, 59, 60, 61, 260, 261, 262, 263, 264, 265, 266, 267, 268, 269, 270, 271, 272, 273, 274, 275, 276, 277, 278, 279, 280, 281, 282, 283, 141, 284, 285, 286, 287, 288, 137, 138, 139, 140, 142, 143, 144, 145, 146, 147, 148, 149, 150, 151, 152, 153, 154, 155, 289, 290, 291, 292, 293, 294, 295, 296, 297, 309, 310, 311, 312, 313, 314, 315, 302, 303, 304, 305, 306, 307, 308, 328, 329, 330, 331, 332, 333, 319, 320, 321, 322, 323, 324, 325, 326, 327, 298, 299, 300, 301, 334, 335, 336, 337, 338, 339, 316, 317, 318] (by decide +kernel) (by decide +kernel)) (goodIn_sub (fun _ h => List.mem_cons_of_mem _ (List.mem_append_left _ (List.mem_append_right _ h))) (by decide +kernel))
set_option maxRecDepth 20000 in
theorem gX0_goByEvents_X0_goBeat : GoodIn wsX0_goByEvents (wsV RX0 57 RX0 yX0_goBeat wsX0_goBeat) := goodIn_app (goodIn_of _ (by decide +kernel)) ggX0_goByEvents_X0_goBeat
theorem dX0_goByEvents_0 : decode cX0_goByEvents 0 = .ok (.aload_n 0, 1) := by decide +kernel
theorem dX0_goByEvents_1 : decode cX0_goByEvents 1 = .ok (.getfield 28, 3) := by decide +kernel
theorem dX0_goByEvents_4 : decode cX0_goByEvents 4 = .ok (.getfield 53, 3) := by decide +kernel
theorem dX0_goByEvents_7 : decode cX0_goByEvents 7 = .ok (.istore_n 2, 1) := by decide +kernel
theorem dX0_goByEvents_8 : decode cX0_goByEvents 8 = .ok (.iload_n 1, 1) := by decide +kernel
theorem dX0_goByEvents_9 : decode cX0_goByEvents 9 = .ok (.istore_n 3, 1) := by decide +kernel
theorem dX0_goByEvents_10 : decode cX0_goByEvents 10 = .ok (.iconst 0, 1) := by decide +kernel
theorem dX0_goByEvents_11 : decode cX0_goByEvents 11 = .ok (.istore 4, 2) := by decide +kernel
theorem dX0_goByEvents_13 : decode cX0_goByEvents 13 = .ok (.iload 4, 2) := by decide +kernel
theorem dX0_goByEvents_15 : decode cX0_goByEvents 15 = .ok (.iload_n 1, 1) := by decide +kernel
theorem dX0_goByEvents_16 : decode cX0_goByEvents 16 = .ok (.if_icmp .ge 52, 3) := by decide +kernel
theorem dX0_goByEvents_19 : decode cX0_goByEvents 19 = .ok (.iload_n 3, 1) := by decide +kernel
theorem dX0_goByEvents_20 : decode cX0_goByEvents 20 = .ok (.ifCond .le 48, 3) := by decide +kernel
theorem dX0_goByEvents_23 : decode cX0_goByEvents 23 = .ok (.aload_n 0, 1) := by decide +kernel
theorem dX0_goByEvents_24 : decode cX0_goByEvents 24 = .ok (.invokevirtual 60, 3) := by decide +kernel
theorem dX0_goByEvents_27 : decode cX0_goByEvents 27 = .ok (.iconst 1, 1) := by decide +kernel
theorem dX0_goByEvents_28 : decode cX0_goByEvents 28 = .ok (.isub, 1) := by decide +kernel
theorem dX0_goByEvents_29 : decode cX0_goByEvents 29 = .ok (.iload_n 3, 1) := by decide +kernel
theorem dX0_goByEvents_30 : decode cX0_goByEvents 30 = .ok (.invokestatic 64, 3) := by decide +kernel
theorem dX0_goByEvents_33 : decode cX0_goByEvents 33 = .ok (.istore 5, 2) := by decide +kernel
theorem dX0_goByEvents_35 : decode cX0_goByEvents 35 = .ok (.iload 5, 2) := by decide +kernel
theorem dX0_goByEvents_37 : decode cX0_goByEvents 37 = .ok (.ifCond .le 14, 3) := by decide +kernel
theorem dX0_goByEvents_40 : decode cX0_goByEvents 40 = .ok (.aload_n 0, 1) := by decide +kernel
theorem dX0_goByEvents_41 : decode cX0_goByEvents 41 = .ok (.iload 5, 2) := by decide +kernel
theorem dX0_goByEvents_43 : decode cX0_goByEvents 43 = .ok (.invokevirtual 70, 3) := by decide +kernel
theorem dX0_goByEvents_46 : decode cX0_goByEvents 46 = .ok (.iload_n 3, 1) := by decide +kernel
theorem dX0_goByEvents_47 : decode cX0_goByEvents 47 = .ok (.iload 5, 2) := by decide +kernel
theorem dX0_goByEvents_49 : decode cX0_goByEvents 49 = .ok (.isub, 1) := by decide +kernel
theorem dX0_goByEvents_50 : decode cX0_goByEvents 50 = .ok (.istore_n 3, 1) := by decide +kernel
theorem dX0_goByEvents_51 : decode cX0_goByEvents 51 = .ok (.iload_n 3, 1) := by decide +kernel
theorem dX0_goByEvents_52 : decode cX0_goByEvents 52 = .ok (.ifCond .le 10, 3) := by decide +kernel
theorem dX0_goByEvents_55 : decode cX0_goByEvents 55 = .ok (.aload_n 0, 1) := by decide +kernel
theorem dX0_goByEvents_56 : decode cX0_goByEvents 56 = .ok (.invokevirtual 57, 3) := by decide +kernel
theorem dX0_goByEvents_59 : decode cX0_goByEvents 59 = .ok (.iinc 3 (-1), 3) := by decide +kernel
theorem dX0_goByEvents_62 : decode cX0_goByEvents 62 = .ok (.iinc 4 1, 3) := by decide +kernel
theorem dX0_goByEvents_65 : decode cX0_goByEvents 65 = .ok (.goto (-52), 3) := by decide +kernel
theorem dX0_goByEvents_68 : decode cX0_goByEvents 68 = .ok (.aload_n 0, 1) := by decide +kernel
theorem dX0_goByEvents_69 : decode cX0_goByEvents 69 = .ok (.getfield 28, 3) := by decide +kernel
theorem dX0_goByEvents_72 : decode cX0_goByEvents 72 = .ok (.getfield 53, 3) := by decide +kernel
theorem dX0_goByEvents_75 : decode cX0_goByEvents 75 = .ok (.iload_n 2, 1) := by decide +kernel
theorem dX0_goByEvents_76 : decode cX0_goByEvents 76 = .ok (.isub, 1) := by decide +kernel
theorem dX0_goByEvents_77 : decode cX0_goByEvents 77 = .ok (.ireturn, 1) := by decide +kernel
set_option maxRecDepth 20000 in
theorem ggX0_beatsToEvent_X4_isDeepAsleep : GoodIn wsX0_beatsToEvent wsX4_isDeepAsleep := goodIn_r _ [14, 15, 16, 106, 107, 108, 109, 110, 111, 112] (by decide +kernel) (by decide +kernel)
set_option maxRecDepth 20000 in
theorem gX0_beatsToEvent_X4_isDeepAsleep : GoodIn wsX0_beatsToEvent (wsV RX0 74 RX4 yX4_isDeepAsleep wsX4_isDeepAsleep) := goodIn_app (goodIn_of _ (by decide +kernel)) ggX0_beatsToEvent_X4_isDeepAsleep
set_option maxRecDepth 20000 in
theorem ggX0_beatsToEvent_X4_beatsToEvent : GoodIn wsX0_beatsToEvent wsX4_beatsToEvent := goodIn_ca (goodIn_r _ [20, 15, 16, 21, 22, 23, 24, 25, 26, 27, 28, 29, 30, 31, 32, 33, 34, 35, 36, 37, 38, 39, 40, 41, 42, 43, 44, 45, 46, 47, 48, 49, 50, 51, 52, 53, 54, 55, 106, 107, 108, 109, 110, 111, 112, 113, 114, 115, 116, 117, 118, 119, 120, 121, 122] (by decide +kernel) (by decide +kernel)) (goodIn_sub (fun _ h => List.mem_cons_of_mem _ (List.mem_append_right _ h)) (by decide +kernel))
set_option maxRecDepth 20000 in
theorem gX0_beatsToEvent_X4_beatsToEvent : GoodIn wsX0_beatsToEvent (wsV RX0 78 RX4 yX4_beatsToEvent wsX4_beatsToEvent) := goodIn_app (goodIn_of _ (by decide +kernel)) ggX0_beatsToEvent_X4_beatsToEvent
set_option maxRecDepth 20000 in
theorem ggX0_beatsToEvent_X6_beatsToEvent : GoodIn wsX0_beatsToEvent wsX6_beatsToEvent := goodIn_ca (goodIn_r _ [60, 61, 62, 63, 64, 65, 7, 66, 67, 68, 6, 8, 69, 70, 71, 72, 59, 73, 74, 75, 33, 34, 35, 76, 77, 78, 79, 80, 81, 82, 83, 84, 85, 86, 123, 124, 125, 126, 127, 128, 129, 130, 131, 132, 133, 134, 135, 136, 137] (by decide +kernel) (by decide +kernel)) (goodIn_sub (fun _ h => List.mem_cons_of_mem _ (List.mem_append_right _ h)) (by decide +kernel))
set_option maxRecDepth 20000 in
theorem gX0_beatsToEvent_X6_beatsToEvent : GoodIn wsX0_beatsToEvent (wsV RX0 81 RX6 yX6_beatsToEvent wsX6_beatsToEvent) := goodIn_app (goodIn_of _ (by decide +kernel)) ggX0_beatsToEvent_X6_beatsToEvent
set_option maxRecDepth 20000 in
theorem ggX0_beatsToEvent_X7_beatsToEvent : GoodIn wsX0_beatsToEvent wsX7_beatsToEvent := goodIn_ca (goodIn_r _ [91, 92, 93, 94, 95, 96, 77, 78, 79, 80, 81, 82, 83, 84, 85, 65, 7, 66, 86, 33, 34, 35, 138, 139, 140, 141, 142, 143, 132, 133, 134, 135, 136, 137] (by decide +kernel) (by decide +kernel)) (goodIn_sub (fun _ h => List.mem_cons_of_mem _ (List.mem_append_right _ h)) (by decide +kernel))
set_option maxRecDepth 20000 in
theorem gX0_beatsToEvent_X7_beatsToEvent : GoodIn wsX0_beatsToEvent (wsV RX0 84 RX7 yX7_beatsToEvent wsX7_beatsToEvent) := goodIn_app (goodIn_of _ (by decide +kernel)) ggX0_beatsToEvent_X7_beatsToEvent
theorem dX0_beatsToEvent_0 : decode cX0_beatsToEvent 0 = .ok (.aload_n 0, 1) := by decide +kernel
theorem dX0_beatsToEvent_1 : decode cX0_beatsToEvent 1 = .ok (.getfield 42, 3) := by decide +kernel
theorem dX0_beatsToEvent_4 : decode cX0_beatsToEvent 4 = .ok (.invokevirtual 74, 3) := by decide +kernel
theorem dX0_beatsToEvent_7 : decode cX0_beatsToEvent 7 = .ok (.istore_n 1, 1) := by decide +kernel
theorem dX0_beatsToEvent_8 : decode cX0_beatsToEvent 8 = .ok (.aload_n 0, 1) := by decide +kernel
theorem dX0_beatsToEvent_9 : decode cX0_beatsToEvent 9 = .ok (.getfield 42, 3) := by decide +kernel
theorem dX0_beatsToEvent_12 : decode cX0_beatsToEvent 12 = .ok (.aload_n 0, 1) := by decide +kernel
theorem dX0_beatsToEvent_13 : decode cX0_beatsToEvent 13 = .ok (.getfield 35, 3) := by decide +kernel
theorem dX0_beatsToEvent_16 : decode cX0_beatsToEvent 16 = .ok (.invokevirtual 78, 3) := by decide +kernel
theorem dX0_beatsToEvent_19 : decode cX0_beatsToEvent 19 = .ok (.istore_n 2, 1) := by decide +kernel
theorem dX0_beatsToEvent_20 : decode cX0_beatsToEvent 20 = .ok (.iload_n 2, 1) := by decide +kernel
theorem dX0_beatsToEvent_21 : decode cX0_beatsToEvent 21 = .ok (.aload_n 0, 1) := by decide +kernel
theorem dX0_beatsToEvent_22 : decode cX0_beatsToEvent 22 = .ok (.getfield 21, 3) := by decide +kernel
theorem dX0_beatsToEvent_25 : decode cX0_beatsToEvent 25 = .ok (.aload_n 0, 1) := by decide +kernel
theorem dX0_beatsToEvent_26 : decode cX0_beatsToEvent 26 = .ok (.getfield 12, 3) := by decide +kernel
theorem dX0_beatsToEvent_29 : decode cX0_beatsToEvent 29 = .ok (.iload_n 1, 1) := by decide +kernel
theorem dX0_beatsToEvent_30 : decode cX0_beatsToEvent 30 = .ok (.invokevirtual 81, 3) := by decide +kernel
theorem dX0_beatsToEvent_33 : decode cX0_beatsToEvent 33 = .ok (.invokestatic 64, 3) := by decide +kernel
theorem dX0_beatsToEvent_36 : decode cX0_beatsToEvent 36 = .ok (.istore_n 2, 1) := by decide +kernel
theorem dX0_beatsToEvent_37 : decode cX0_beatsToEvent 37 = .ok (.iload_n 2, 1) := by decide +kernel
theorem dX0_beatsToEvent_38 : decode cX0_beatsToEvent 38 = .ok (.aload_n 0, 1) := by decide +kernel
theorem dX0_beatsToEvent_39 : decode cX0_beatsToEvent 39 = .ok (.getfield 49, 3) := by decide +kernel
theorem dX0_beatsToEvent_42 : decode cX0_beatsToEvent 42 = .ok (.aload_n 0, 1) := by decide +kernel
theorem dX0_beatsToEvent_43 : decode cX0_beatsToEvent 43 = .ok (.getfield 12, 3) := by decide +kernel
theorem dX0_beatsToEvent_46 : decode cX0_beatsToEvent 46 = .ok (.iload_n 1, 1) := by decide +kernel
theorem dX0_beatsToEvent_47 : decode cX0_beatsToEvent 47 = .ok (.invokevirtual 84, 3) := by decide +kernel
theorem dX0_beatsToEvent_50 : decode cX0_beatsToEvent 50 = .ok (.invokestatic 64, 3) := by decide +kernel
theorem dX0_beatsToEvent_53 : decode cX0_beatsToEvent 53 = .ok (.ireturn, 1) := by decide +kernel
set_option maxRecDepth 20000 in
theorem ggX0_skip_X4_isDeepAsleep : GoodIn wsX0_skip wsX4_isDeepAsleep := goodIn_r _ [10, 11, 12, 99, 100, 101, 102, 103, 104, 105] (by decide +kernel) (by decide +kernel)
set_option maxRecDepth 20000 in
theorem gX0_skip_X4_isDeepAsleep : GoodIn wsX0_skip (wsV RX0 74 RX4 yX4_isDeepAsleep wsX4_isDeepAsleep) := goodIn_app (goodIn_of _ (by decide +kernel)) ggX0_skip_X4_isDeepAsleep
set_option maxRecDepth 20000 in
theorem ggX0_skip_X1_skip : GoodIn wsX0_skip wsX1_skip := goodIn_ca (goodIn_ca (goodIn_r _ [17, 18, 19, 20, 21, 22, 23, 24, 25, 26, 27, 28, 29, 30, 31, 32, 33, 16, 34, 106, 107, 108, 109, 110, 111] (by decide +kernel) (by decide +kernel)) (goodIn_sub (fun _ h => List.mem_cons_of_mem _ (List.mem_append_left _ (List.mem_append_right _ h))) (by decide +kernel))) (goodIn_sub (fun _ h => List.mem_cons_of_mem _ (List.mem_append_right _ h)) (by decide +kernel))
set_option maxRecDepth 20000 in
theorem gX0_skip_X1_skip : GoodIn wsX0_skip (wsV RX0 88 RX1 yX1_skip wsX1_skip) := goodIn_app (goodIn_of _ (by decide +kernel)) ggX0_skip_X1_skip
set_option maxRecDepth 20000 in
theorem ggX0_skip_X6_skip : GoodIn wsX0_skip wsX6_skip := goodIn_ca (goodIn_r _ [39, 40, 41, 42, 43, 44, 38, 45, 46, 47, 28, 29, 30, 48, 32, 33, 16, 34, 18, 112, 113, 114, 115, 116, 117, 118, 119, 120, 106, 107, 108, 109, 110, 111] (by decide +kernel) (by decide +kernel)) (goodIn_sub (fun _ h => List.mem_cons_of_mem _ (List.mem_append_left _ (List.mem_append_right _ h))) (by decide +kernel))
set_option maxRecDepth 20000 in
theorem gX0_skip_X6_skip : GoodIn wsX0_skip (wsV RX0 91 RX6 yX6_skip wsX6_skip) := goodIn_app (goodIn_of _ (by decide +kernel)) ggX0_skip_X6_skip
set_option maxRecDepth 20000 in
theorem ggX0_skip_X7_skip : GoodIn wsX0_skip wsX7_skip := goodIn_ca (goodIn_r _ [53, 54, 55, 56, 32, 33, 16, 34, 18, 121, 122, 123, 124, 125, 126, 106, 107, 108, 109, 110, 111] (by decide +kernel) (by decide +kernel)) (goodIn_sub (fun _ h => List.mem_cons_of_mem _ (List.mem_append_left _ (List.mem_append_right _ h))) (by decide +kernel))
set_option maxRecDepth 20000 in
theorem gX0_skip_X7_skip : GoodIn wsX0_skip (wsV RX0 94 RX7 yX7_skip wsX7_skip) := goodIn_app (goodIn_of _ (by decide +kernel)) ggX0_skip_X7_skip
set_option maxRecDepth 20000 in
theorem ggX0_skip_X4_skip : GoodIn wsX0_skip wsX4_skip := goodIn_ca (goodIn_r _ [60, 11, 61, 62, 63, 64, 65, 66, 67, 68, 69, 99, 100, 101, 102, 103, 104, 105, 127, 128, 129] (by decide +kernel) (by decide +kernel)) (goodIn_sub (fun _ h => List.mem_cons_of_mem _ (List.mem_append_left _ (List.mem_append_right _ h))) (by decide +kernel))
set_option maxRecDepth 20000 in
theorem gX0_skip_X4_skip : GoodIn wsX0_skip (wsV RX0 95 RX4 yX4_skip wsX4_skip) := goodIn_app (goodIn_of _ (by decide +kernel)) ggX0_skip_X4_skip
set_option maxRecDepth 20000 in
theorem ggX0_skip_X0_countEnergy : GoodIn wsX0_skip wsX0_countEnergy := goodIn_r _ [74, 3, 4, 75, 76, 77, 78, 79, 80, 81, 9, 82, 11, 12, 83, 84, 85, 86, 87, 88, 89, 90, 91, 92, 93, 94, 95, 96, 97, 98, 112, 113, 114, 115, 116, 117, 118, 119, 120, 99, 100, 101, 102, 103, 104, 105] (by decide +kernel) (by decide +kernel)
set_option maxRecDepth 20000 in
theorem gX0_skip_X0_countEnergy : GoodIn wsX0_skip (wsV RX0 96 RX0 yX0_countEnergy wsX0_countEnergy) := goodIn_app (goodIn_of _ (by decide +kernel)) ggX0_skip_X0_countEnergy
theorem dX0_skip_0 : decode cX0_skip 0 = .ok (.aload_n 0, 1) := by decide +kernel
theorem dX0_skip_1 : decode cX0_skip 1 = .ok (.dup, 1) := by decide +kernel
theorem dX0_skip_2 : decode cX0_skip 2 = .ok (.getfield 85, 3) := by decide +kernel
theorem dX0_skip_5 : decode cX0_skip 5 = .ok (.iload_n 1, 1) := by decide +kernel
theorem dX0_skip_6 : decode cX0_skip 6 = .ok (.iadd, 1) := by decide +kernel
theorem dX0_skip_7 : decode cX0_skip 7 = .ok (.putfield 85, 3) := by decide +kernel
theorem dX0_skip_10 : decode cX0_skip 10 = .ok (.aload_n 0, 1) := by decide +kernel
theorem dX0_skip_11 : decode cX0_skip 11 = .ok (.getfield 12, 3) := by decide +kernel
theorem dX0_skip_14 : decode cX0_skip 14 = .ok (.iload_n 1, 1) := by decide +kernel
theorem dX0_skip_15 : decode cX0_skip 15 = .ok (.aload_n 0, 1) := by decide +kernel
theorem dX0_skip_16 : decode cX0_skip 16 = .ok (.getfield 42, 3) := by decide +kernel
theorem dX0_skip_19 : decode cX0_skip 19 = .ok (.invokevirtual 74, 3) := by decide +kernel
theorem dX0_skip_22 : decode cX0_skip 22 = .ok (.invokevirtual 88, 3) := by decide +kernel
theorem dX0_skip_25 : decode cX0_skip 25 = .ok (.aload_n 0, 1) := by decide +kernel
theorem dX0_skip_26 : decode cX0_skip 26 = .ok (.getfield 21, 3) := by decide +kernel
theorem dX0_skip_29 : decode cX0_skip 29 = .ok (.aload_n 0, 1) := by decide +kernel
theorem dX0_skip_30 : decode cX0_skip 30 = .ok (.getfield 12, 3) := by decide +kernel
theorem dX0_skip_33 : decode cX0_skip 33 = .ok (.invokevirtual 91, 3) := by decide +kernel
theorem dX0_skip_36 : decode cX0_skip 36 = .ok (.aload_n 0, 1) := by decide +kernel
theorem dX0_skip_37 : decode cX0_skip 37 = .ok (.getfield 49, 3) := by decide +kernel
theorem dX0_skip_40 : decode cX0_skip 40 = .ok (.aload_n 0, 1) := by decide +kernel
theorem dX0_skip_41 : decode cX0_skip 41 = .ok (.getfield 12, 3) := by decide +kernel
theorem dX0_skip_44 : decode cX0_skip 44 = .ok (.invokevirtual 94, 3) := by decide +kernel
theorem dX0_skip_47 : decode cX0_skip 47 = .ok (.aload_n 0, 1) := by decide +kernel
theorem dX0_skip_48 : decode cX0_skip 48 = .ok (.getfield 42, 3) := by decide +kernel
theorem dX0_skip_51 : decode cX0_skip 51 = .ok (.iload_n 1, 1) := by decide +kernel
theorem dX0_skip_52 : decode cX0_skip 52 = .ok (.invokevirtual 95, 3) := by decide +kernel
theorem dX0_skip_55 : decode cX0_skip 55 = .ok (.aload_n 0, 1) := by decide +kernel
theorem dX0_skip_56 : decode cX0_skip 56 = .ok (.iload_n 1, 1) := by decide +kernel
theorem dX0_skip_57 : decode cX0_skip 57 = .ok (.invokevirtual 96, 3) := by decide +kernel
theorem dX0_skip_60 : decode cX0_skip 60 = .ok (.return_, 1) := by decide +kernel
set_option maxRecDepth 20000 in
theorem ggX0_goBeat_X4_isDeepAsleep : GoodIn wsX0_goBeat wsX4_isDeepAsleep := goodIn_r _ [12, 13, 14, 245, 246, 247, 248, 249, 250, 251] (by decide +kernel) (by decide +kernel)
set_option maxRecDepth 20000 in
theorem gX0_goBeat_X4_isDeepAsleep : GoodIn wsX0_goBeat (wsV RX0 74 RX4 yX4_isDeepAsleep wsX4_isDeepAsleep) := goodIn_app (goodIn_of _ (by decide +kernel)) ggX0_goBeat_X4_isDeepAsleep
set_option maxRecDepth 20000 in
theorem ggX0_goBeat_X1_goBeat : GoodIn wsX0_goBeat wsX1_goBeat := goodIn_ca (goodIn_r _ [19, 20, 21, 22, 23, 24, 25, 26, 27, 28, 29, 30, 31, 18, 32, 252, 253, 254, 255, 256, 257] (by decide +kernel) (by decide +kernel)) (goodIn_sub (fun _ h => List.mem_cons_of_mem _ (List.mem_append_right _ h)) (by decide +kernel))
set_option maxRecDepth 20000 in
theorem gX0_goBeat_X1_goBeat : GoodIn wsX0_goBeat (wsV RX0 99 RX1 yX1_goBeat wsX1_goBeat) := goodIn_app (goodIn_of _ (by decide +kernel)) ggX0_goBeat_X1_goBeat
set_option maxRecDepth 20000 in
theorem ggX0_goBeat_X6_goBeat : GoodIn wsX0_goBeat wsX6_goBeat := goodIn_ca (goodIn_r _ [37, 38, 39, 40, 41, 42, 43, 44, 45, 30, 31, 18, 32, 20, 26, 27, 28, 46, 47, 258, 259, 260, 261, 262, 263, 264, 265, 266, 252, 253, 254, 255, 256, 257] (by decide +kernel) (by decide +kernel)) (goodIn_sub (fun _ h => List.mem_cons_of_mem _ (List.mem_append_right _ h)) (by decide +kernel))
set_option maxRecDepth 20000 in
theorem gX0_goBeat_X6_goBeat : GoodIn wsX0_goBeat (wsV RX0 102 RX6 yX6_goBeat wsX6_goBeat) := goodIn_app (goodIn_of _ (by decide +kernel)) ggX0_goBeat_X6_goBeat
set_option maxRecDepth 20000 in
theorem ggX0_goBeat_X0_changePins : GoodIn wsX0_goBeat wsX0_changePins := goodIn_ca (goodIn_r _ [52, 53, 4, 54, 55, 1, 26, 27, 28, 56, 57, 58, 59, 60, 61, 62, 63, 64, 46, 47, 229, 230, 231, 232, 233, 234, 235, 236, 237, 258, 259, 260, 261, 262, 263, 264, 265, 266, 267, 268, 269, 270] (by decide +kernel) (by decide +kernel)) (goodIn_sub (fun _ h => List.mem_cons_of_mem _ (List.mem_append_right _ h)) (by decide +kernel))
set_option maxRecDepth 20000 in
theorem gX0_goBeat_X0_changePins : GoodIn wsX0_goBeat (wsV RX0 108 RX0 yX0_changePins wsX0_changePins) := goodIn_app (goodIn_of _ (by decide +kernel)) ggX0_goBeat_X0_changePins
set_option maxRecDepth 20000 in
theorem ggX0_goBeat_X7_goBeat : GoodIn wsX0_goBeat wsX7_goBeat := goodIn_ca (goodIn_r _ [69, 70, 71, 72, 73, 30, 31, 18, 32, 20, 271, 272, 273, 274, 275, 276, 252, 253, 254, 255, 256, 257] (by decide +kernel) (by decide +kernel)) (goodIn_sub (fun _ h => List.mem_cons_of_mem _ (List.mem_append_right _ h)) (by decide +kernel))
set_option maxRecDepth 20000 in
theorem gX0_goBeat_X7_goBeat : GoodIn wsX0_goBeat (wsV RX0 111 RX7 yX7_goBeat wsX7_goBeat) := goodIn_app (goodIn_of _ (by decide +kernel)) ggX0_goBeat_X7_goBeat
set_option maxRecDepth 20000 in
theorem ggX0_goBeat_X0_reset : GoodIn wsX0_goBeat wsX0_reset := goodIn_ca (goodIn_r _ [77, 53, 1, 4, 5, 6, 3, 7, 56, 57, 58, 59, 60, 61, 62, 63, 64, 26, 27, 28, 46, 47, 78, 79, 80, 36, 81, 40, 41, 82, 83, 84, 85, 86, 87, 88, 11, 89, 90, 91, 13, 92, 93, 94, 95, 96, 68, 97, 71, 98, 99, 229, 230, 231, 232, 233, 234, 235, 236, 237, 238, 239, 240, 241, 242, 243, 244, 267, 268, 269, 270, 258, 259, 260, 261, 262, 263, 264, 265, 266, 245, 246, 247, 248, 249, 250, 251, 277, 278, 279, 271, 272, 273, 274, 275, 276] (by decide +kernel) (by decide +kernel)) (goodIn_sub (fun _ h => List.mem_cons_of_mem _ (List.mem_append_right _ h)) (by decide +kernel))
set_option maxRecDepth 20000 in
theorem gX0_goBeat_X0_reset : GoodIn wsX0_goBeat (wsV RX0 114 RX0 yX0_reset wsX0_reset) := goodIn_app (goodIn_of _ (by decide +kernel)) ggX0_goBeat_X0_reset
set_option maxRecDepth 20000 in
theorem ggX0_goBeat_X4_goBeat : GoodIn wsX0_goBeat wsX4_goBeat := goodIn_ca (goodIn_r _ [103, 13, 14, 92, 104, 105, 106, 107, 108, 109, 110, 111, 26, 27, 28, 112, 113, 114, 11, 115, 116, 117, 118, 119, 93, 120, 121, 122, 123, 124, 125, 90, 126, 127, 128, 129, 130, 131, 132, 133, 46, 47, 134, 135, 136, 137, 138, 139, 140, 141, 142, 143, 144, 145, 146, 147, 148, 84, 149, 150, 151, 152, 153, 154, 155, 156, 157, 158, 159, 160, 161, 162, 163, 164, 165, 166, 167, 168, 169, 170, 171, 172, 173, 174, 175, 176, 177, 178, 179, 180, 181, 182, 183, 184, 185, 186, 187, 188, 91, 245, 246, 247, 248, 249, 250, 251, 238, 239, 240, 241, 242, 243, 244, 277, 278, 279] (by decide +kernel) (by decide +kernel)) (goodIn_sub (fun _ h => List.mem_cons_of_mem _ (List.mem_append_right _ h)) (by decide +kernel))
set_option maxRecDepth 20000 in
theorem gX0_goBeat_X4_goBeat : GoodIn wsX0_goBeat (wsV RX0 117 RX4 yX4_goBeat wsX4_goBeat) := goodIn_app (goodIn_of _ (by decide +kernel)) ggX0_goBeat_X4_goBeat
set_option maxRecDepth 20000 in
theorem ggX0_goBeat_X0_endHandler : GoodIn wsX0_goBeat wsX0_endHandler := goodIn_ca (goodIn_r _ [192, 5, 193, 194, 7, 195, 3, 196, 197, 198, 68, 199, 70, 71, 200, 74, 75, 76, 51, 77, 53, 1, 4, 6, 56, 57, 58, 59, 60, 61, 62, 63, 64, 26, 27, 28, 46, 47, 78, 79, 80, 36, 81, 40, 41, 82, 83, 84, 85, 86, 87, 88, 11, 89, 90, 91, 13, 92, 93, 94, 95, 96, 97, 98, 99, 201, 202, 203, 204, 205, 206, 207, 208, 209, 210, 104, 105, 106, 107, 108, 109, 110, 111, 169, 170, 171, 142, 172, 144, 145, 126, 127, 128, 129, 130, 131, 132, 133, 116, 117, 118, 119, 229, 230, 231, 232, 233, 234, 235, 236, 237, 238, 239, 240, 241, 242, 243, 244, 271, 272, 273, 274, 275, 276, 267, 268, 269, 270, 258, 259, 260, 261, 262, 263, 264, 265, 266, 245, 246, 247, 248, 249, 250, 251, 277, 278, 279] (by decide +kernel) (by decide +kernel)) (goodIn_sub (fun _ h => List.mem_cons_of_mem _ (List.mem_append_right _ h)) (by decide +kernel))
set_option maxRecDepth 20000 in
theorem gX0_goBeat_X0_endHandler : GoodIn wsX0_goBeat (wsV RX0 119 RX0 yX0_endHandler wsX0_endHandler) := goodIn_app (goodIn_of _ (by decide +kernel)) ggX0_goBeat_X0_endHandler
set_option maxRecDepth 20000 in
theorem ggX0_goBeat_X0_countEnergy : GoodIn wsX0_goBeat wsX0_countEnergy := goodIn_r _ [214, 3, 4, 205, 215, 216, 217, 218, 219, 220, 11, 221, 13, 14, 222, 223, 224, 225, 226, 227, 228, 229, 230, 231, 232, 233, 234, 235, 236, 237, 258, 259, 260, 261, 262, 263, 264, 265, 266, 245, 246, 247, 248, 249, 250, 251] (by decide +kernel) (by decide +kernel)
set_option maxRecDepth 20000 in
theorem gX0_goBeat_X0_countEnergy : GoodIn wsX0_goBeat (wsV RX0 96 RX0 yX0_countEnergy wsX0_countEnergy) := goodIn_app (goodIn_of _ (by decide +kernel)) ggX0_goBeat_X0_countEnergy
theorem dX0_goBeat_0 : decode cX0_goBeat 0 = .ok (.aload_n 0, 1) := by decide +kernel
theorem dX0_goBeat_1 : decode cX0_goBeat 1 = .ok (.dup, 1) := by decide +kernel
theorem dX0_goBeat_2 : decode cX0_goBeat 2 = .ok (.getfield 85, 3) := by decide +kernel
theorem dX0_goBeat_5 : decode cX0_goBeat 5 = .ok (.iconst 1, 1) := by decide +kernel
theorem dX0_goBeat_6 : decode cX0_goBeat 6 = .ok (.iadd, 1) := by decide +kernel
theorem dX0_goBeat_7 : decode cX0_goBeat 7 = .ok (.putfield 85, 3) := by decide +kernel
theorem dX0_goBeat_10 : decode cX0_goBeat 10 = .ok (.aload_n 0, 1) := by decide +kernel
theorem dX0_goBeat_11 : decode cX0_goBeat 11 = .ok (.getfield 12, 3) := by decide +kernel
theorem dX0_goBeat_14 : decode cX0_goBeat 14 = .ok (.aload_n 0, 1) := by decide +kernel
theorem dX0_goBeat_15 : decode cX0_goBeat 15 = .ok (.getfield 42, 3) := by decide +kernel
theorem dX0_goBeat_18 : decode cX0_goBeat 18 = .ok (.invokevirtual 74, 3) := by decide +kernel
theorem dX0_goBeat_21 : decode cX0_goBeat 21 = .ok (.invokevirtual 99, 3) := by decide +kernel
theorem dX0_goBeat_24 : decode cX0_goBeat 24 = .ok (.aload_n 0, 1) := by decide +kernel
theorem dX0_goBeat_25 : decode cX0_goBeat 25 = .ok (.getfield 21, 3) := by decide +kernel
theorem dX0_goBeat_28 : decode cX0_goBeat 28 = .ok (.aload_n 0, 1) := by decide +kernel
theorem dX0_goBeat_29 : decode cX0_goBeat 29 = .ok (.getfield 12, 3) := by decide +kernel
theorem dX0_goBeat_32 : decode cX0_goBeat 32 = .ok (.invokevirtual 102, 3) := by decide +kernel
theorem dX0_goBeat_35 : decode cX0_goBeat 35 = .ok (.istore_n 1, 1) := by decide +kernel
theorem dX0_goBeat_36 : decode cX0_goBeat 36 = .ok (.aload_n 0, 1) := by decide +kernel
theorem dX0_goBeat_37 : decode cX0_goBeat 37 = .ok (.getfield 35, 3) := by decide +kernel
theorem dX0_goBeat_40 : decode cX0_goBeat 40 = .ok (.dup, 1) := by decide +kernel
theorem dX0_goBeat_41 : decode cX0_goBeat 41 = .ok (.getfield 105, 3) := by decide +kernel
theorem dX0_goBeat_44 : decode cX0_goBeat 44 = .ok (.iload_n 1, 1) := by decide +kernel
theorem dX0_goBeat_45 : decode cX0_goBeat 45 = .ok (.ior, 1) := by decide +kernel
theorem dX0_goBeat_46 : decode cX0_goBeat 46 = .ok (.putfield 105, 3) := by decide +kernel
theorem dX0_goBeat_49 : decode cX0_goBeat 49 = .ok (.aload_n 0, 1) := by decide +kernel
theorem dX0_goBeat_50 : decode cX0_goBeat 50 = .ok (.iload_n 1, 1) := by decide +kernel
theorem dX0_goBeat_51 : decode cX0_goBeat 51 = .ok (.invokevirtual 108, 3) := by decide +kernel
theorem dX0_goBeat_54 : decode cX0_goBeat 54 = .ok (.aload_n 0, 1) := by decide +kernel
theorem dX0_goBeat_55 : decode cX0_goBeat 55 = .ok (.getfield 49, 3) := by decide +kernel
theorem dX0_goBeat_58 : decode cX0_goBeat 58 = .ok (.aload_n 0, 1) := by decide +kernel
theorem dX0_goBeat_59 : decode cX0_goBeat 59 = .ok (.getfield 12, 3) := by decide +kernel
theorem dX0_goBeat_62 : decode cX0_goBeat 62 = .ok (.invokevirtual 111, 3) := by decide +kernel
theorem dX0_goBeat_65 : decode cX0_goBeat 65 = .ok (.ifCond .eq 10, 3) := by decide +kernel
theorem dX0_goBeat_68 : decode cX0_goBeat 68 = .ok (.aload_n 0, 1) := by decide +kernel
theorem dX0_goBeat_69 : decode cX0_goBeat 69 = .ok (.invokevirtual 114, 3) := by decide +kernel
theorem dX0_goBeat_72 : decode cX0_goBeat 72 = .ok (.goto 18, 3) := by decide +kernel
theorem dX0_goBeat_75 : decode cX0_goBeat 75 = .ok (.aload_n 0, 1) := by decide +kernel
theorem dX0_goBeat_76 : decode cX0_goBeat 76 = .ok (.aload_n 0, 1) := by decide +kernel
theorem dX0_goBeat_77 : decode cX0_goBeat 77 = .ok (.getfield 42, 3) := by decide +kernel
theorem dX0_goBeat_80 : decode cX0_goBeat 80 = .ok (.aload_n 0, 1) := by decide +kernel
theorem dX0_goBeat_81 : decode cX0_goBeat 81 = .ok (.getfield 35, 3) := by decide +kernel
theorem dX0_goBeat_84 : decode cX0_goBeat 84 = .ok (.invokevirtual 117, 3) := by decide +kernel
theorem dX0_goBeat_87 : decode cX0_goBeat 87 = .ok (.invokevirtual 119, 3) := by decide +kernel
theorem dX0_goBeat_90 : decode cX0_goBeat 90 = .ok (.aload_n 0, 1) := by decide +kernel
theorem dX0_goBeat_91 : decode cX0_goBeat 91 = .ok (.iconst 1, 1) := by decide +kernel
theorem dX0_goBeat_92 : decode cX0_goBeat 92 = .ok (.invokevirtual 96, 3) := by decide +kernel
theorem dX0_goBeat_95 : decode cX0_goBeat 95 = .ok (.return_, 1) := by decide +kernel
set_option maxRecDepth 20000 in
theorem ggX0_changePins_X8_hasBit : GoodIn wsX0_changePins wsX8_hasBit := goodIn_r _ [8] (by decide +kernel) (by decide +kernel)
set_option maxRecDepth 20000 in
theorem gX0_changePins_X8_hasBit_n122 : GoodIn wsX0_changePins (wsX8_hasBit) := ggX0_changePins_X8_hasBit
set_option maxRecDepth 20000 in
theorem ggX0_changePins_X3_put : GoodIn wsX0_changePins wsX3_put := goodIn_ca (goodIn_r _ [13, 14, 15, 16, 17, 6, 7, 8, 18, 19, 38, 39, 40, 41] (by decide +kernel) (by decide +kernel)) (goodIn_sub (fun _ h => List.mem_cons_of_mem _ (List.mem_append_right _ h)) (by decide +kernel))
set_option maxRecDepth 20000 in
theorem gX0_changePins_X3_put : GoodIn wsX0_changePins (wsV RX0 133 RX3 yX3_put wsX3_put) := goodIn_app (goodIn_of _ (by decide +kernel)) ggX0_changePins_X3_put
theorem dX0_changePins_0 : decode cX0_changePins 0 = .ok (.iconst 0, 1) := by decide +kernel
theorem dX0_changePins_1 : decode cX0_changePins 1 = .ok (.istore_n 2, 1) := by decide +kernel
theorem dX0_changePins_2 : decode cX0_changePins 2 = .ok (.iload_n 2, 1) := by decide +kernel
theorem dX0_changePins_3 : decode cX0_changePins 3 = .ok (.iconst 4, 1) := by decide +kernel
theorem dX0_changePins_4 : decode cX0_changePins 4 = .ok (.if_icmp .ge 46, 3) := by decide +kernel
theorem dX0_changePins_7 : decode cX0_changePins 7 = .ok (.iload_n 1, 1) := by decide +kernel
theorem dX0_changePins_8 : decode cX0_changePins 8 = .ok (.iload_n 2, 1) := by decide +kernel
theorem dX0_changePins_9 : decode cX0_changePins 9 = .ok (.invokestatic 122, 3) := by decide +kernel
theorem dX0_changePins_12 : decode cX0_changePins 12 = .ok (.ifCond .eq 32, 3) := by decide +kernel
theorem dX0_changePins_15 : decode cX0_changePins 15 = .ok (.aload_n 0, 1) := by decide +kernel
theorem dX0_changePins_16 : decode cX0_changePins 16 = .ok (.getfield 28, 3) := by decide +kernel
theorem dX0_changePins_19 : decode cX0_changePins 19 = .ok (.aload_n 0, 1) := by decide +kernel
theorem dX0_changePins_20 : decode cX0_changePins 20 = .ok (.getfield 21, 3) := by decide +kernel
theorem dX0_changePins_23 : decode cX0_changePins 23 = .ok (.getfield 126, 3) := by decide +kernel
theorem dX0_changePins_26 : decode cX0_changePins 26 = .ok (.iload_n 2, 1) := by decide +kernel
theorem dX0_changePins_27 : decode cX0_changePins 27 = .ok (.iaload, 1) := by decide +kernel
theorem dX0_changePins_28 : decode cX0_changePins 28 = .ok (.aload_n 0, 1) := by decide +kernel
theorem dX0_changePins_29 : decode cX0_changePins 29 = .ok (.getfield 21, 3) := by decide +kernel
theorem dX0_changePins_32 : decode cX0_changePins 32 = .ok (.getfield 130, 3) := by decide +kernel
theorem dX0_changePins_35 : decode cX0_changePins 35 = .ok (.iload_n 2, 1) := by decide +kernel
theorem dX0_changePins_36 : decode cX0_changePins 36 = .ok (.iaload, 1) := by decide +kernel
theorem dX0_changePins_37 : decode cX0_changePins 37 = .ok (.aload_n 0, 1) := by decide +kernel
theorem dX0_changePins_38 : decode cX0_changePins 38 = .ok (.getfield 85, 3) := by decide +kernel
theorem dX0_changePins_41 : decode cX0_changePins 41 = .ok (.invokevirtual 133, 3) := by decide +kernel
theorem dX0_changePins_44 : decode cX0_changePins 44 = .ok (.iinc 2 1, 3) := by decide +kernel
theorem dX0_changePins_47 : decode cX0_changePins 47 = .ok (.goto (-45), 3) := by decide +kernel
theorem dX0_changePins_50 : decode cX0_changePins 50 = .ok (.return_, 1) := by decide +kernel
set_option maxRecDepth 20000 in
theorem ggX0_endHandler_X7_bitesWhenFed : GoodIn wsX0_endHandler wsX7_bitesWhenFed := goodIn_r _ [11, 12, 13, 14, 118, 119, 120, 121, 122, 123] (by decide +kernel) (by decide +kernel)
set_option maxRecDepth 20000 in
theorem gX0_endHandler_X7_bitesWhenFed : GoodIn wsX0_endHandler (wsV RX0 141 RX7 yX7_bitesWhenFed wsX7_bitesWhenFed) := goodIn_app (goodIn_of _ (by decide +kernel)) ggX0_endHandler_X7_bitesWhenFed
set_option maxRecDepth 20000 in
theorem ggX0_endHandler_X0_reset : GoodIn wsX0_endHandler wsX0_reset := goodIn_ca (goodIn_r _ [19, 20, 21, 22, 1, 23, 6, 4, 24, 25, 26, 27, 28, 29, 30, 31, 32, 33, 34, 35, 36, 37, 38, 39, 40, 41, 42, 43, 44, 45, 46, 47, 48, 49, 50, 51, 52, 53, 54, 55, 56, 57, 58, 59, 60, 61, 10, 62, 13, 63, 64, 102, 103, 104, 105, 106, 107, 108, 109, 110, 111, 112, 113, 114, 115, 116, 117, 124, 125, 126, 127, 128, 129, 130, 131, 132, 133, 134, 135, 136, 137, 138, 139, 140, 141, 142, 143, 144, 145, 146, 118, 119, 120, 121, 122, 123] (by decide +kernel) (by decide +kernel)) (goodIn_sub (fun _ h => List.mem_cons_of_mem _ (List.mem_append_right _ h)) (by decide +kernel))
set_option maxRecDepth 20000 in
theorem gX0_endHandler_X0_reset : GoodIn wsX0_endHandler (wsV RX0 114 RX0 yX0_reset wsX0_reset) := goodIn_app (goodIn_of _ (by decide +kernel)) ggX0_endHandler_X0_reset
set_option maxRecDepth 20000 in
theorem ggX0_endHandler_X0_act : GoodIn wsX0_endHandler wsX0_act := goodIn_ca (goodIn_r _ [68, 20, 21, 22, 69, 1, 23, 24, 25, 26, 27, 28, 29, 30, 31, 32, 33, 34, 35, 36, 37, 102, 103, 104, 105, 106, 107, 108, 109, 110, 128, 129, 130, 131, 132, 133, 134, 135, 136, 111, 112, 113, 114, 115, 116, 117, 124, 125, 126, 127] (by decide +kernel) (by decide +kernel)) (goodIn_sub (fun _ h => List.mem_cons_of_mem _ (List.mem_append_right _ h)) (by decide +kernel))
set_option maxRecDepth 20000 in
theorem gX0_endHandler_X0_act : GoodIn wsX0_endHandler (wsV RX0 147 RX0 yX0_act wsX0_act) := goodIn_app (goodIn_of _ (by decide +kernel)) ggX0_endHandler_X0_act
set_option maxRecDepth 20000 in
theorem ggX0_endHandler_X4_leaveHandler : GoodIn wsX0_endHandler wsX4_leaveHandler := goodIn_ca (goodIn_r _ [73, 54, 74, 56, 57, 75, 76, 77, 78, 79, 80, 81, 82, 33, 34, 35, 83, 84, 85, 86, 87, 88, 89, 90, 91, 92, 93, 94, 95, 96, 97, 98, 99, 100, 52, 101, 58, 137, 138, 139, 140, 141, 142, 143, 111, 112, 113, 114, 115, 116, 117, 144, 145, 146] (by decide +kernel) (by decide +kernel)) (goodIn_sub (fun _ h => List.mem_cons_of_mem _ (List.mem_append_right _ h)) (by decide +kernel))
set_option maxRecDepth 20000 in
theorem gX0_endHandler_X4_leaveHandler : GoodIn wsX0_endHandler (wsV RX0 151 RX4 yX4_leaveHandler wsX4_leaveHandler) := goodIn_app (goodIn_of _ (by decide +kernel)) ggX0_endHandler_X4_leaveHandler
theorem dX0_endHandler_0 : decode cX0_endHandler 0 = .ok (.iload_n 1, 1) := by decide +kernel
theorem dX0_endHandler_1 : decode cX0_endHandler 1 = .ok (.ifCond .lt 9, 3) := by decide +kernel
theorem dX0_endHandler_4 : decode cX0_endHandler 4 = .ok (.iload_n 1, 1) := by decide +kernel
theorem dX0_endHandler_5 : decode cX0_endHandler 5 = .ok (.bipush 8, 2) := by decide +kernel
theorem dX0_endHandler_7 : decode cX0_endHandler 7 = .ok (.if_icmp .lt 4, 3) := by decide +kernel
theorem dX0_endHandler_10 : decode cX0_endHandler 10 = .ok (.return_, 1) := by decide +kernel
theorem dX0_endHandler_11 : decode cX0_endHandler 11 = .ok (.aload_n 0, 1) := by decide +kernel
theorem dX0_endHandler_12 : decode cX0_endHandler 12 = .ok (.getfield 35, 3) := by decide +kernel
theorem dX0_endHandler_15 : decode cX0_endHandler 15 = .ok (.getfield 137, 3) := by decide +kernel
theorem dX0_endHandler_18 : decode cX0_endHandler 18 = .ok (.iload_n 1, 1) := by decide +kernel
theorem dX0_endHandler_19 : decode cX0_endHandler 19 = .ok (.dup2, 1) := by decide +kernel
theorem dX0_endHandler_20 : decode cX0_endHandler 20 = .ok (.iaload, 1) := by decide +kernel
theorem dX0_endHandler_21 : decode cX0_endHandler 21 = .ok (.iconst 1, 1) := by decide +kernel
theorem dX0_endHandler_22 : decode cX0_endHandler 22 = .ok (.iadd, 1) := by decide +kernel
theorem dX0_endHandler_23 : decode cX0_endHandler 23 = .ok (.iastore, 1) := by decide +kernel
theorem dX0_endHandler_24 : decode cX0_endHandler 24 = .ok (.aload_n 0, 1) := by decide +kernel
theorem dX0_endHandler_25 : decode cX0_endHandler 25 = .ok (.getfield 35, 3) := by decide +kernel
theorem dX0_endHandler_28 : decode cX0_endHandler 28 = .ok (.getfield 140, 3) := by decide +kernel
theorem dX0_endHandler_31 : decode cX0_endHandler 31 = .ok (.iload_n 1, 1) := by decide +kernel
theorem dX0_endHandler_32 : decode cX0_endHandler 32 = .ok (.iaload, 1) := by decide +kernel
theorem dX0_endHandler_33 : decode cX0_endHandler 33 = .ok (.bipush 102, 2) := by decide +kernel
theorem dX0_endHandler_35 : decode cX0_endHandler 35 = .ok (.if_icmp .ne 18, 3) := by decide +kernel
theorem dX0_endHandler_38 : decode cX0_endHandler 38 = .ok (.aload_n 0, 1) := by decide +kernel
theorem dX0_endHandler_39 : decode cX0_endHandler 39 = .ok (.getfield 49, 3) := by decide +kernel
theorem dX0_endHandler_42 : decode cX0_endHandler 42 = .ok (.invokevirtual 141, 3) := by decide +kernel
theorem dX0_endHandler_45 : decode cX0_endHandler 45 = .ok (.ifCond .eq 8, 3) := by decide +kernel
theorem dX0_endHandler_48 : decode cX0_endHandler 48 = .ok (.aload_n 0, 1) := by decide +kernel
theorem dX0_endHandler_49 : decode cX0_endHandler 49 = .ok (.invokevirtual 114, 3) := by decide +kernel
theorem dX0_endHandler_52 : decode cX0_endHandler 52 = .ok (.return_, 1) := by decide +kernel
theorem dX0_endHandler_53 : decode cX0_endHandler 53 = .ok (.aload_n 0, 1) := by decide +kernel
theorem dX0_endHandler_54 : decode cX0_endHandler 54 = .ok (.aload_n 0, 1) := by decide +kernel
theorem dX0_endHandler_55 : decode cX0_endHandler 55 = .ok (.getfield 35, 3) := by decide +kernel
theorem dX0_endHandler_58 : decode cX0_endHandler 58 = .ok (.getfield 140, 3) := by decide +kernel
theorem dX0_endHandler_61 : decode cX0_endHandler 61 = .ok (.iload_n 1, 1) := by decide +kernel
theorem dX0_endHandler_62 : decode cX0_endHandler 62 = .ok (.iaload, 1) := by decide +kernel
theorem dX0_endHandler_63 : decode cX0_endHandler 63 = .ok (.aload_n 0, 1) := by decide +kernel
theorem dX0_endHandler_64 : decode cX0_endHandler 64 = .ok (.getfield 35, 3) := by decide +kernel
theorem dX0_endHandler_67 : decode cX0_endHandler 67 = .ok (.getfield 144, 3) := by decide +kernel
theorem dX0_endHandler_70 : decode cX0_endHandler 70 = .ok (.iload_n 1, 1) := by decide +kernel
theorem dX0_endHandler_71 : decode cX0_endHandler 71 = .ok (.iaload, 1) := by decide +kernel
theorem dX0_endHandler_72 : decode cX0_endHandler 72 = .ok (.invokevirtual 147, 3) := by decide +kernel
theorem dX0_endHandler_75 : decode cX0_endHandler 75 = .ok (.aload_n 0, 1) := by decide +kernel
theorem dX0_endHandler_76 : decode cX0_endHandler 76 = .ok (.getfield 42, 3) := by decide +kernel
theorem dX0_endHandler_79 : decode cX0_endHandler 79 = .ok (.aload_n 0, 1) := by decide +kernel
theorem dX0_endHandler_80 : decode cX0_endHandler 80 = .ok (.getfield 35, 3) := by decide +kernel
theorem dX0_endHandler_83 : decode cX0_endHandler 83 = .ok (.invokevirtual 151, 3) := by decide +kernel
theorem dX0_endHandler_86 : decode cX0_endHandler 86 = .ok (.return_, 1) := by decide +kernel
set_option maxRecDepth 20000 in
theorem ggX0_act_X3_put : GoodIn wsX0_act wsX3_put := goodIn_ca (goodIn_r _ [11, 12, 13, 14, 15, 16, 17, 18, 19, 20, 46, 47, 48, 49] (by decide +kernel) (by decide +kernel)) (goodIn_sub (fun _ h => List.mem_cons_of_mem _ (List.mem_append_right _ h)) (by decide +kernel))
set_option maxRecDepth 20000 in
theorem gX0_act_X3_put : GoodIn wsX0_act (wsV RX0 133 RX3 yX3_put wsX3_put) := goodIn_app (goodIn_of _ (by decide +kernel)) ggX0_act_X3_put
set_option maxRecDepth 20000 in
theorem ggX0_act_X8_withBit : GoodIn wsX0_act wsX8_withBit := goodIn_r _ [20] (by decide +kernel) (by decide +kernel)
set_option maxRecDepth 20000 in
theorem gX0_act_X8_withBit_n158 : GoodIn wsX0_act (wsX8_withBit) := ggX0_act_X8_withBit
theorem dX0_act_0 : decode cX0_act 0 = .ok (.iload_n 1, 1) := by decide +kernel
theorem dX0_act_1 : decode cX0_act 1 = .ok (.tableswitch 134 112 120 #[51, 112, 134, 68, 134, 134, 134, 134, 90], 51) := by decide +kernel
theorem dX0_act_52 : decode cX0_act 52 = .ok (.aload_n 0, 1) := by decide +kernel
theorem dX0_act_53 : decode cX0_act 53 = .ok (.getfield 28, 3) := by decide +kernel
theorem dX0_act_56 : decode cX0_act 56 = .ok (.iload_n 2, 1) := by decide +kernel
theorem dX0_act_57 : decode cX0_act 57 = .ok (.bipush 116, 2) := by decide +kernel
theorem dX0_act_59 : decode cX0_act 59 = .ok (.aload_n 0, 1) := by decide +kernel
theorem dX0_act_60 : decode cX0_act 60 = .ok (.getfield 85, 3) := by decide +kernel
theorem dX0_act_63 : decode cX0_act 63 = .ok (.invokevirtual 133, 3) := by decide +kernel
theorem dX0_act_66 : decode cX0_act 66 = .ok (.goto 69, 3) := by decide +kernel
theorem dX0_act_69 : decode cX0_act 69 = .ok (.aload_n 0, 1) := by decide +kernel
theorem dX0_act_70 : decode cX0_act 70 = .ok (.getfield 21, 3) := by decide +kernel
theorem dX0_act_73 : decode cX0_act 73 = .ok (.aload_n 0, 1) := by decide +kernel
theorem dX0_act_74 : decode cX0_act 74 = .ok (.getfield 21, 3) := by decide +kernel
theorem dX0_act_77 : decode cX0_act 77 = .ok (.getfield 155, 3) := by decide +kernel
theorem dX0_act_80 : decode cX0_act 80 = .ok (.iload_n 2, 1) := by decide +kernel
theorem dX0_act_81 : decode cX0_act 81 = .ok (.iconst 1, 1) := by decide +kernel
theorem dX0_act_82 : decode cX0_act 82 = .ok (.invokestatic 158, 3) := by decide +kernel
theorem dX0_act_85 : decode cX0_act 85 = .ok (.putfield 155, 3) := by decide +kernel
theorem dX0_act_88 : decode cX0_act 88 = .ok (.goto 47, 3) := by decide +kernel
theorem dX0_act_91 : decode cX0_act 91 = .ok (.aload_n 0, 1) := by decide +kernel
theorem dX0_act_92 : decode cX0_act 92 = .ok (.getfield 21, 3) := by decide +kernel
theorem dX0_act_95 : decode cX0_act 95 = .ok (.aload_n 0, 1) := by decide +kernel
theorem dX0_act_96 : decode cX0_act 96 = .ok (.getfield 21, 3) := by decide +kernel
theorem dX0_act_99 : decode cX0_act 99 = .ok (.getfield 155, 3) := by decide +kernel
theorem dX0_act_102 : decode cX0_act 102 = .ok (.iload_n 2, 1) := by decide +kernel
theorem dX0_act_103 : decode cX0_act 103 = .ok (.iconst 0, 1) := by decide +kernel
theorem dX0_act_104 : decode cX0_act 104 = .ok (.invokestatic 158, 3) := by decide +kernel
theorem dX0_act_107 : decode cX0_act 107 = .ok (.putfield 155, 3) := by decide +kernel
theorem dX0_act_110 : decode cX0_act 110 = .ok (.goto 25, 3) := by decide +kernel
theorem dX0_act_113 : decode cX0_act 113 = .ok (.aload_n 0, 1) := by decide +kernel
theorem dX0_act_114 : decode cX0_act 114 = .ok (.getfield 35, 3) := by decide +kernel
theorem dX0_act_117 : decode cX0_act 117 = .ok (.aload_n 0, 1) := by decide +kernel
theorem dX0_act_118 : decode cX0_act 118 = .ok (.getfield 35, 3) := by decide +kernel
theorem dX0_act_121 : decode cX0_act 121 = .ok (.getfield 105, 3) := by decide +kernel
theorem dX0_act_124 : decode cX0_act 124 = .ok (.iload_n 2, 1) := by decide +kernel
theorem dX0_act_125 : decode cX0_act 125 = .ok (.iconst 1, 1) := by decide +kernel
theorem dX0_act_126 : decode cX0_act 126 = .ok (.invokestatic 158, 3) := by decide +kernel
theorem dX0_act_129 : decode cX0_act 129 = .ok (.putfield 105, 3) := by decide +kernel
theorem dX0_act_132 : decode cX0_act 132 = .ok (.goto 3, 3) := by decide +kernel
theorem dX0_act_135 : decode cX0_act 135 = .ok (.return_, 1) := by decide +kernel
set_option maxRecDepth 20000 in
theorem ggX0_countEnergy_X4_energyOfBeat : GoodIn wsX0_countEnergy wsX4_energyOfBeat := goodIn_r _ [11, 12, 13, 39, 40, 41, 42, 43, 44, 45] (by decide +kernel) (by decide +kernel)
set_option maxRecDepth 20000 in
theorem gX0_countEnergy_X4_energyOfBeat : GoodIn wsX0_countEnergy (wsV RX0 162 RX4 yX4_energyOfBeat wsX4_energyOfBeat) := goodIn_app (goodIn_of _ (by decide +kernel)) ggX0_countEnergy_X4_energyOfBeat
set_option maxRecDepth 20000 in
theorem ggX0_countEnergy_J6_bitCount_0f7a4 : GoodIn wsX0_countEnergy wsJ6_bitCount_0f7a4 := goodIn_r _ [17, 18, 19, 20] (by decide +kernel) (by decide +kernel)
set_option maxRecDepth 20000 in
theorem gX0_countEnergy_J6_bitCount_0f7a4 : GoodIn wsX0_countEnergy (va_wsS RX0 165 yJ6_bitCount_0f7a4 wsJ6_bitCount_0f7a4) := goodIn_app (goodIn_of _ (by decide +kernel)) ggX0_countEnergy_J6_bitCount_0f7a4
theorem dX0_countEnergy_0 : decode cX0_countEnergy 0 = .ok (.aload_n 0, 1) := by decide +kernel
theorem dX0_countEnergy_1 : decode cX0_countEnergy 1 = .ok (.getfield 42, 3) := by decide +kernel
theorem dX0_countEnergy_4 : decode cX0_countEnergy 4 = .ok (.invokevirtual 162, 3) := by decide +kernel
theorem dX0_countEnergy_7 : decode cX0_countEnergy 7 = .ok (.aload_n 0, 1) := by decide +kernel
theorem dX0_countEnergy_8 : decode cX0_countEnergy 8 = .ok (.getfield 21, 3) := by decide +kernel
theorem dX0_countEnergy_11 : decode cX0_countEnergy 11 = .ok (.getfield 155, 3) := by decide +kernel
theorem dX0_countEnergy_14 : decode cX0_countEnergy 14 = .ok (.invokestatic 165, 3) := by decide +kernel
theorem dX0_countEnergy_17 : decode cX0_countEnergy 17 = .ok (.iadd, 1) := by decide +kernel
theorem dX0_countEnergy_18 : decode cX0_countEnergy 18 = .ok (.i2l, 1) := by decide +kernel
theorem dX0_countEnergy_19 : decode cX0_countEnergy 19 = .ok (.lstore_n 2, 1) := by decide +kernel
theorem dX0_countEnergy_20 : decode cX0_countEnergy 20 = .ok (.aload_n 0, 1) := by decide +kernel
theorem dX0_countEnergy_21 : decode cX0_countEnergy 21 = .ok (.dup, 1) := by decide +kernel
theorem dX0_countEnergy_22 : decode cX0_countEnergy 22 = .ok (.getfield 171, 3) := by decide +kernel
theorem dX0_countEnergy_25 : decode cX0_countEnergy 25 = .ok (.lload_n 2, 1) := by decide +kernel
theorem dX0_countEnergy_26 : decode cX0_countEnergy 26 = .ok (.iload_n 1, 1) := by decide +kernel
theorem dX0_countEnergy_27 : decode cX0_countEnergy 27 = .ok (.i2l, 1) := by decide +kernel
theorem dX0_countEnergy_28 : decode cX0_countEnergy 28 = .ok (.lmul, 1) := by decide +kernel
theorem dX0_countEnergy_29 : decode cX0_countEnergy 29 = .ok (.ladd, 1) := by decide +kernel
theorem dX0_countEnergy_30 : decode cX0_countEnergy 30 = .ok (.putfield 171, 3) := by decide +kernel
theorem dX0_countEnergy_33 : decode cX0_countEnergy 33 = .ok (.aload_n 0, 1) := by decide +kernel
theorem dX0_countEnergy_34 : decode cX0_countEnergy 34 = .ok (.getfield 42, 3) := by decide +kernel
theorem dX0_countEnergy_37 : decode cX0_countEnergy 37 = .ok (.getfield 175, 3) := by decide +kernel
theorem dX0_countEnergy_40 : decode cX0_countEnergy 40 = .ok (.bipush 122, 2) := by decide +kernel
theorem dX0_countEnergy_42 : decode cX0_countEnergy 42 = .ok (.if_icmp .ne 13, 3) := by decide +kernel
theorem dX0_countEnergy_45 : decode cX0_countEnergy 45 = .ok (.aload_n 0, 1) := by decide +kernel
theorem dX0_countEnergy_46 : decode cX0_countEnergy 46 = .ok (.dup, 1) := by decide +kernel
theorem dX0_countEnergy_47 : decode cX0_countEnergy 47 = .ok (.getfield 179, 3) := by decide +kernel
theorem dX0_countEnergy_50 : decode cX0_countEnergy 50 = .ok (.iload_n 1, 1) := by decide +kernel
theorem dX0_countEnergy_51 : decode cX0_countEnergy 51 = .ok (.iadd, 1) := by decide +kernel
theorem dX0_countEnergy_52 : decode cX0_countEnergy 52 = .ok (.putfield 179, 3) := by decide +kernel
theorem dX0_countEnergy_55 : decode cX0_countEnergy 55 = .ok (.return_, 1) := by decide +kernel
set_option maxRecDepth 20000 in
theorem ggX0_reset_X3_put : GoodIn wsX0_reset wsX3_put := goodIn_ca (goodIn_r _ [12, 13, 14, 15, 16, 17, 18, 19, 20, 21, 67, 68, 69, 70] (by decide +kernel) (by decide +kernel)) (goodIn_sub (fun _ h => List.mem_cons_of_mem _ (List.mem_append_right _ h)) (by decide +kernel))
set_option maxRecDepth 20000 in
theorem gX0_reset_X3_put : GoodIn wsX0_reset (wsV RX0 133 RX3 yX3_put wsX3_put) := goodIn_app (goodIn_of _ (by decide +kernel)) ggX0_reset_X3_put
set_option maxRecDepth 20000 in
theorem ggX0_reset_X6_stopAll : GoodIn wsX0_reset wsX6_stopAll := goodIn_r _ [26, 27, 28, 29, 30, 31, 32, 71, 72, 73, 74, 75, 76, 77, 78, 79] (by decide +kernel) (by decide +kernel)
set_option maxRecDepth 20000 in
theorem gX0_reset_X6_stopAll : GoodIn wsX0_reset (wsV RX0 182 RX6 yX6_stopAll wsX6_stopAll) := goodIn_app (goodIn_of _ (by decide +kernel)) ggX0_reset_X6_stopAll
set_option maxRecDepth 20000 in
theorem ggX0_reset_X4_reset : GoodIn wsX0_reset wsX4_reset := goodIn_r _ [37, 38, 39, 40, 41, 42, 80, 81, 82, 83, 84, 85, 86, 87, 88, 89] (by decide +kernel) (by decide +kernel)
set_option maxRecDepth 20000 in
theorem gX0_reset_X4_reset : GoodIn wsX0_reset (wsV RX0 185 RX4 yX4_reset wsX4_reset) := goodIn_app (goodIn_of _ (by decide +kernel)) ggX0_reset_X4_reset
set_option maxRecDepth 20000 in
theorem ggX0_reset_X7_noteReset : GoodIn wsX0_reset wsX7_noteReset := goodIn_r _ [47, 48, 49, 50, 90, 91, 92, 93, 94, 95] (by decide +kernel) (by decide +kernel)
set_option maxRecDepth 20000 in
theorem gX0_reset_X7_noteReset : GoodIn wsX0_reset (wsV RX0 186 RX7 yX7_noteReset wsX7_noteReset) := goodIn_app (goodIn_of _ (by decide +kernel)) ggX0_reset_X7_noteReset
theorem dX0_reset_0 : decode cX0_reset 0 = .ok (.iconst 0, 1) := by decide +kernel
theorem dX0_reset_1 : decode cX0_reset 1 = .ok (.istore_n 1, 1) := by decide +kernel
theorem dX0_reset_2 : decode cX0_reset 2 = .ok (.iload_n 1, 1) := by decide +kernel
theorem dX0_reset_3 : decode cX0_reset 3 = .ok (.bipush 8, 2) := by decide +kernel
theorem dX0_reset_5 : decode cX0_reset 5 = .ok (.if_icmp .ge 23, 3) := by decide +kernel
theorem dX0_reset_8 : decode cX0_reset 8 = .ok (.aload_n 0, 1) := by decide +kernel
theorem dX0_reset_9 : decode cX0_reset 9 = .ok (.getfield 28, 3) := by decide +kernel
theorem dX0_reset_12 : decode cX0_reset 12 = .ok (.iload_n 1, 1) := by decide +kernel
theorem dX0_reset_13 : decode cX0_reset 13 = .ok (.bipush 99, 2) := by decide +kernel
theorem dX0_reset_15 : decode cX0_reset 15 = .ok (.aload_n 0, 1) := by decide +kernel
theorem dX0_reset_16 : decode cX0_reset 16 = .ok (.getfield 85, 3) := by decide +kernel
theorem dX0_reset_19 : decode cX0_reset 19 = .ok (.invokevirtual 133, 3) := by decide +kernel
theorem dX0_reset_22 : decode cX0_reset 22 = .ok (.iinc 1 1, 3) := by decide +kernel
theorem dX0_reset_25 : decode cX0_reset 25 = .ok (.goto (-23), 3) := by decide +kernel
theorem dX0_reset_28 : decode cX0_reset 28 = .ok (.aload_n 0, 1) := by decide +kernel
theorem dX0_reset_29 : decode cX0_reset 29 = .ok (.getfield 21, 3) := by decide +kernel
theorem dX0_reset_32 : decode cX0_reset 32 = .ok (.invokevirtual 182, 3) := by decide +kernel
theorem dX0_reset_35 : decode cX0_reset 35 = .ok (.aload_n 0, 1) := by decide +kernel
theorem dX0_reset_36 : decode cX0_reset 36 = .ok (.getfield 35, 3) := by decide +kernel
theorem dX0_reset_39 : decode cX0_reset 39 = .ok (.iconst 0, 1) := by decide +kernel
theorem dX0_reset_40 : decode cX0_reset 40 = .ok (.putfield 105, 3) := by decide +kernel
theorem dX0_reset_43 : decode cX0_reset 43 = .ok (.aload_n 0, 1) := by decide +kernel
theorem dX0_reset_44 : decode cX0_reset 44 = .ok (.getfield 42, 3) := by decide +kernel
theorem dX0_reset_47 : decode cX0_reset 47 = .ok (.invokevirtual 185, 3) := by decide +kernel
theorem dX0_reset_50 : decode cX0_reset 50 = .ok (.aload_n 0, 1) := by decide +kernel
theorem dX0_reset_51 : decode cX0_reset 51 = .ok (.getfield 49, 3) := by decide +kernel
theorem dX0_reset_54 : decode cX0_reset 54 = .ok (.aload_n 0, 1) := by decide +kernel
theorem dX0_reset_55 : decode cX0_reset 55 = .ok (.getfield 85, 3) := by decide +kernel
theorem dX0_reset_58 : decode cX0_reset 58 = .ok (.invokevirtual 186, 3) := by decide +kernel
theorem dX0_reset_61 : decode cX0_reset 61 = .ok (.return_, 1) := by decide +kernel
set_option maxRecDepth 20000 in
theorem ggX0_copyFrom_X1_copyFrom : GoodIn wsX0_copyFrom wsX1_copyFrom := goodIn_r _ [14, 15, 16, 17, 18, 19, 20, 21, 22, 23, 24, 25, 26, 27, 28, 29, 30, 107, 108, 109, 110, 111, 112] (by decide +kernel) (by decide +kernel)
set_option maxRecDepth 20000 in
theorem gX0_copyFrom_X1_copyFrom : GoodIn wsX0_copyFrom (wsV RX0 189 RX1 yX1_copyFrom wsX1_copyFrom) := goodIn_app (goodIn_of _ (by decide +kernel)) ggX0_copyFrom_X1_copyFrom
set_option maxRecDepth 20000 in
theorem ggX0_copyFrom_X6_copyFrom : GoodIn wsX0_copyFrom wsX6_copyFrom := goodIn_r _ [35, 36, 37, 38, 39, 40, 41, 42, 43, 44, 20, 21, 22, 23, 24, 25, 26, 27, 28, 29, 30, 113, 114, 115, 116, 117, 118, 119, 120, 121] (by decide +kernel) (by decide +kernel)
set_option maxRecDepth 20000 in
theorem gX0_copyFrom_X6_copyFrom : GoodIn wsX0_copyFrom (wsV RX0 192 RX6 yX6_copyFrom wsX6_copyFrom) := goodIn_app (goodIn_of _ (by decide +kernel)) ggX0_copyFrom_X6_copyFrom
set_option maxRecDepth 20000 in
theorem ggX0_copyFrom_X3_copyFrom : GoodIn wsX0_copyFrom wsX3_copyFrom := goodIn_r _ [49, 50, 51, 52, 53, 20, 21, 22, 23, 24, 25, 26, 27, 28, 29, 30, 122, 123, 124, 125] (by decide +kernel) (by decide +kernel)
set_option maxRecDepth 20000 in
theorem gX0_copyFrom_X3_copyFrom : GoodIn wsX0_copyFrom (wsV RX0 195 RX3 yX3_copyFrom wsX3_copyFrom) := goodIn_app (goodIn_of _ (by decide +kernel)) ggX0_copyFrom_X3_copyFrom
set_option maxRecDepth 20000 in
theorem ggX0_copyFrom_X2_copyFrom : GoodIn wsX0_copyFrom wsX2_copyFrom := goodIn_r _ [58, 59, 60, 61, 62, 63, 64, 65, 20, 21, 22, 23, 24, 25, 26, 27, 28, 29, 30, 126, 127, 128, 129, 130, 131, 132] (by decide +kernel) (by decide +kernel)
set_option maxRecDepth 20000 in
theorem gX0_copyFrom_X2_copyFrom : GoodIn wsX0_copyFrom (wsV RX0 198 RX2 yX2_copyFrom wsX2_copyFrom) := goodIn_app (goodIn_of _ (by decide +kernel)) ggX0_copyFrom_X2_copyFrom
set_option maxRecDepth 20000 in
theorem ggX0_copyFrom_X4_copyFrom : GoodIn wsX0_copyFrom wsX4_copyFrom := goodIn_r _ [70, 71, 72, 73, 74, 75, 76, 77, 78, 79, 80, 81, 82, 83, 84, 85, 86, 20, 21, 22, 23, 24, 25, 26, 27, 28, 29, 30, 133, 134, 135, 136, 137, 138, 139, 140, 141, 142] (by decide +kernel) (by decide +kernel)
set_option maxRecDepth 20000 in
theorem gX0_copyFrom_X4_copyFrom : GoodIn wsX0_copyFrom (wsV RX0 200 RX4 yX4_copyFrom wsX4_copyFrom) := goodIn_app (goodIn_of _ (by decide +kernel)) ggX0_copyFrom_X4_copyFrom
set_option maxRecDepth 20000 in
theorem ggX0_copyFrom_X7_copyFrom : GoodIn wsX0_copyFrom wsX7_copyFrom := goodIn_r _ [91, 92, 93, 94, 95, 96, 97, 143, 144, 145, 146, 147, 148] (by decide +kernel) (by decide +kernel)
set_option maxRecDepth 20000 in
theorem gX0_copyFrom_X7_copyFrom : GoodIn wsX0_copyFrom (wsV RX0 203 RX7 yX7_copyFrom wsX7_copyFrom) := goodIn_app (goodIn_of _ (by decide +kernel)) ggX0_copyFrom_X7_copyFrom
theorem dX0_copyFrom_0 : decode cX0_copyFrom 0 = .ok (.aload_n 0, 1) := by decide +kernel
theorem dX0_copyFrom_1 : decode cX0_copyFrom 1 = .ok (.getfield 12, 3) := by decide +kernel
theorem dX0_copyFrom_4 : decode cX0_copyFrom 4 = .ok (.aload_n 1, 1) := by decide +kernel
theorem dX0_copyFrom_5 : decode cX0_copyFrom 5 = .ok (.getfield 12, 3) := by decide +kernel
theorem dX0_copyFrom_8 : decode cX0_copyFrom 8 = .ok (.invokevirtual 189, 3) := by decide +kernel
theorem dX0_copyFrom_11 : decode cX0_copyFrom 11 = .ok (.aload_n 0, 1) := by decide +kernel
theorem dX0_copyFrom_12 : decode cX0_copyFrom 12 = .ok (.getfield 21, 3) := by decide +kernel
theorem dX0_copyFrom_15 : decode cX0_copyFrom 15 = .ok (.aload_n 1, 1) := by decide +kernel
theorem dX0_copyFrom_16 : decode cX0_copyFrom 16 = .ok (.getfield 21, 3) := by decide +kernel
theorem dX0_copyFrom_19 : decode cX0_copyFrom 19 = .ok (.invokevirtual 192, 3) := by decide +kernel
theorem dX0_copyFrom_22 : decode cX0_copyFrom 22 = .ok (.aload_n 0, 1) := by decide +kernel
theorem dX0_copyFrom_23 : decode cX0_copyFrom 23 = .ok (.getfield 28, 3) := by decide +kernel
theorem dX0_copyFrom_26 : decode cX0_copyFrom 26 = .ok (.aload_n 1, 1) := by decide +kernel
theorem dX0_copyFrom_27 : decode cX0_copyFrom 27 = .ok (.getfield 28, 3) := by decide +kernel
theorem dX0_copyFrom_30 : decode cX0_copyFrom 30 = .ok (.invokevirtual 195, 3) := by decide +kernel
theorem dX0_copyFrom_33 : decode cX0_copyFrom 33 = .ok (.aload_n 0, 1) := by decide +kernel
theorem dX0_copyFrom_34 : decode cX0_copyFrom 34 = .ok (.getfield 35, 3) := by decide +kernel
theorem dX0_copyFrom_37 : decode cX0_copyFrom 37 = .ok (.aload_n 1, 1) := by decide +kernel
theorem dX0_copyFrom_38 : decode cX0_copyFrom 38 = .ok (.getfield 35, 3) := by decide +kernel
theorem dX0_copyFrom_41 : decode cX0_copyFrom 41 = .ok (.invokevirtual 198, 3) := by decide +kernel
theorem dX0_copyFrom_44 : decode cX0_copyFrom 44 = .ok (.aload_n 0, 1) := by decide +kernel
theorem dX0_copyFrom_45 : decode cX0_copyFrom 45 = .ok (.getfield 42, 3) := by decide +kernel
theorem dX0_copyFrom_48 : decode cX0_copyFrom 48 = .ok (.aload_n 1, 1) := by decide +kernel
theorem dX0_copyFrom_49 : decode cX0_copyFrom 49 = .ok (.getfield 42, 3) := by decide +kernel
theorem dX0_copyFrom_52 : decode cX0_copyFrom 52 = .ok (.invokevirtual 200, 3) := by decide +kernel
theorem dX0_copyFrom_55 : decode cX0_copyFrom 55 = .ok (.aload_n 0, 1) := by decide +kernel
theorem dX0_copyFrom_56 : decode cX0_copyFrom 56 = .ok (.getfield 49, 3) := by decide +kernel
theorem dX0_copyFrom_59 : decode cX0_copyFrom 59 = .ok (.aload_n 1, 1) := by decide +kernel
theorem dX0_copyFrom_60 : decode cX0_copyFrom 60 = .ok (.getfield 49, 3) := by decide +kernel
theorem dX0_copyFrom_63 : decode cX0_copyFrom 63 = .ok (.invokevirtual 203, 3) := by decide +kernel
theorem dX0_copyFrom_66 : decode cX0_copyFrom 66 = .ok (.aload_n 0, 1) := by decide +kernel
theorem dX0_copyFrom_67 : decode cX0_copyFrom 67 = .ok (.aload_n 1, 1) := by decide +kernel
theorem dX0_copyFrom_68 : decode cX0_copyFrom 68 = .ok (.getfield 85, 3) := by decide +kernel
theorem dX0_copyFrom_71 : decode cX0_copyFrom 71 = .ok (.putfield 85, 3) := by decide +kernel
theorem dX0_copyFrom_74 : decode cX0_copyFrom 74 = .ok (.aload_n 0, 1) := by decide +kernel
theorem dX0_copyFrom_75 : decode cX0_copyFrom 75 = .ok (.aload_n 1, 1) := by decide +kernel
theorem dX0_copyFrom_76 : decode cX0_copyFrom 76 = .ok (.getfield 179, 3) := by decide +kernel
theorem dX0_copyFrom_79 : decode cX0_copyFrom 79 = .ok (.putfield 179, 3) := by decide +kernel
theorem dX0_copyFrom_82 : decode cX0_copyFrom 82 = .ok (.aload_n 0, 1) := by decide +kernel
theorem dX0_copyFrom_83 : decode cX0_copyFrom 83 = .ok (.aload_n 1, 1) := by decide +kernel
theorem dX0_copyFrom_84 : decode cX0_copyFrom 84 = .ok (.getfield 171, 3) := by decide +kernel
theorem dX0_copyFrom_87 : decode cX0_copyFrom 87 = .ok (.putfield 171, 3) := by decide +kernel
theorem dX0_copyFrom_90 : decode cX0_copyFrom 90 = .ok (.return_, 1) := by decide +kernel
set_option maxRecDepth 20000 in
theorem ggX0_isSameAs_X1_isSameAs : GoodIn wsX0_isSameAs wsX1_isSameAs := goodIn_ca (goodIn_r _ [14, 15, 16, 17, 18, 19, 20, 21, 22, 102, 103, 104, 105, 106, 107] (by decide +kernel) (by decide +kernel)) (goodIn_sub (fun _ h => List.mem_cons_of_mem _ (List.mem_append_right _ h)) (by decide +kernel))
set_option maxRecDepth 20000 in
theorem gX0_isSameAs_X1_isSameAs : GoodIn wsX0_isSameAs (wsV RX0 206 RX1 yX1_isSameAs wsX1_isSameAs) := goodIn_app (goodIn_of _ (by decide +kernel)) ggX0_isSameAs_X1_isSameAs
set_option maxRecDepth 20000 in
theorem ggX0_isSameAs_X6_isSameAs : GoodIn wsX0_isSameAs wsX6_isSameAs := goodIn_ca (goodIn_r _ [27, 28, 29, 30, 31, 32, 33, 34, 35, 36, 20, 21, 22, 108, 109, 110, 111, 112, 113, 114, 115, 116] (by decide +kernel) (by decide +kernel)) (goodIn_sub (fun _ h => List.mem_cons_of_mem _ (List.mem_append_right _ h)) (by decide +kernel))
set_option maxRecDepth 20000 in
theorem gX0_isSameAs_X6_isSameAs : GoodIn wsX0_isSameAs (wsV RX0 209 RX6 yX6_isSameAs wsX6_isSameAs) := goodIn_app (goodIn_of _ (by decide +kernel)) ggX0_isSameAs_X6_isSameAs
set_option maxRecDepth 20000 in
theorem ggX0_isSameAs_X3_isSameAs : GoodIn wsX0_isSameAs wsX3_isSameAs := goodIn_ca (goodIn_r _ [41, 42, 43, 44, 45, 46, 47, 48, 49, 20, 21, 22, 117, 118, 119, 120] (by decide +kernel) (by decide +kernel)) (goodIn_sub (fun _ h => List.mem_cons_of_mem _ (List.mem_append_right _ h)) (by decide +kernel))
set_option maxRecDepth 20000 in
theorem gX0_isSameAs_X3_isSameAs : GoodIn wsX0_isSameAs (wsV RX0 212 RX3 yX3_isSameAs wsX3_isSameAs) := goodIn_app (goodIn_of _ (by decide +kernel)) ggX0_isSameAs_X3_isSameAs
set_option maxRecDepth 20000 in
theorem ggX0_isSameAs_X2_isSameAs : GoodIn wsX0_isSameAs wsX2_isSameAs := goodIn_ca (goodIn_r _ [54, 55, 56, 57, 58, 59, 60, 61, 20, 21, 22, 121, 122, 123, 124, 125, 126, 127] (by decide +kernel) (by decide +kernel)) (goodIn_sub (fun _ h => List.mem_cons_of_mem _ (List.mem_append_right _ h)) (by decide +kernel))
set_option maxRecDepth 20000 in
theorem gX0_isSameAs_X2_isSameAs : GoodIn wsX0_isSameAs (wsV RX0 215 RX2 yX2_isSameAs wsX2_isSameAs) := goodIn_app (goodIn_of _ (by decide +kernel)) ggX0_isSameAs_X2_isSameAs
set_option maxRecDepth 20000 in
theorem ggX0_isSameAs_X4_isSameAs : GoodIn wsX0_isSameAs wsX4_isSameAs := goodIn_ca (goodIn_r _ [66, 67, 68, 69, 70, 71, 72, 73, 74, 75, 76, 77, 78, 79, 80, 81, 20, 21, 22, 128, 129, 130, 131, 132, 133, 134, 135, 136, 137] (by decide +kernel) (by decide +kernel)) (goodIn_sub (fun _ h => List.mem_cons_of_mem _ (List.mem_append_right _ h)) (by decide +kernel))
set_option maxRecDepth 20000 in
theorem gX0_isSameAs_X4_isSameAs : GoodIn wsX0_isSameAs (wsV RX0 218 RX4 yX4_isSameAs wsX4_isSameAs) := goodIn_app (goodIn_of _ (by decide +kernel)) ggX0_isSameAs_X4_isSameAs
set_option maxRecDepth 20000 in
theorem ggX0_isSameAs_X7_isSameAs : GoodIn wsX0_isSameAs wsX7_isSameAs := goodIn_r _ [86, 87, 88, 89, 90, 91, 92, 138, 139, 140, 141, 142, 143] (by decide +kernel) (by decide +kernel)
set_option maxRecDepth 20000 in
theorem gX0_isSameAs_X7_isSameAs : GoodIn wsX0_isSameAs (wsV RX0 221 RX7 yX7_isSameAs wsX7_isSameAs) := goodIn_app (goodIn_of _ (by decide +kernel)) ggX0_isSameAs_X7_isSameAs
theorem dX0_isSameAs_0 : decode cX0_isSameAs 0 = .ok (.aload_n 0, 1) := by decide +kernel
theorem dX0_isSameAs_1 : decode cX0_isSameAs 1 = .ok (.getfield 12, 3) := by decide +kernel
theorem dX0_isSameAs_4 : decode cX0_isSameAs 4 = .ok (.aload_n 1, 1) := by decide +kernel
theorem dX0_isSameAs_5 : decode cX0_isSameAs 5 = .ok (.getfield 12, 3) := by decide +kernel
theorem dX0_isSameAs_8 : decode cX0_isSameAs 8 = .ok (.invokevirtual 206, 3) := by decide +kernel
theorem dX0_isSameAs_11 : decode cX0_isSameAs 11 = .ok (.ifCond .eq 111, 3) := by decide +kernel
theorem dX0_isSameAs_14 : decode cX0_isSameAs 14 = .ok (.aload_n 0, 1) := by decide +kernel
theorem dX0_isSameAs_15 : decode cX0_isSameAs 15 = .ok (.getfield 21, 3) := by decide +kernel
theorem dX0_isSameAs_18 : decode cX0_isSameAs 18 = .ok (.aload_n 1, 1) := by decide +kernel
theorem dX0_isSameAs_19 : decode cX0_isSameAs 19 = .ok (.getfield 21, 3) := by decide +kernel
theorem dX0_isSameAs_22 : decode cX0_isSameAs 22 = .ok (.invokevirtual 209, 3) := by decide +kernel
theorem dX0_isSameAs_25 : decode cX0_isSameAs 25 = .ok (.ifCond .eq 97, 3) := by decide +kernel
theorem dX0_isSameAs_28 : decode cX0_isSameAs 28 = .ok (.aload_n 0, 1) := by decide +kernel
theorem dX0_isSameAs_29 : decode cX0_isSameAs 29 = .ok (.getfield 28, 3) := by decide +kernel
theorem dX0_isSameAs_32 : decode cX0_isSameAs 32 = .ok (.aload_n 1, 1) := by decide +kernel
theorem dX0_isSameAs_33 : decode cX0_isSameAs 33 = .ok (.getfield 28, 3) := by decide +kernel
theorem dX0_isSameAs_36 : decode cX0_isSameAs 36 = .ok (.invokevirtual 212, 3) := by decide +kernel
theorem dX0_isSameAs_39 : decode cX0_isSameAs 39 = .ok (.ifCond .eq 83, 3) := by decide +kernel
theorem dX0_isSameAs_42 : decode cX0_isSameAs 42 = .ok (.aload_n 0, 1) := by decide +kernel
theorem dX0_isSameAs_43 : decode cX0_isSameAs 43 = .ok (.getfield 35, 3) := by decide +kernel
theorem dX0_isSameAs_46 : decode cX0_isSameAs 46 = .ok (.aload_n 1, 1) := by decide +kernel
theorem dX0_isSameAs_47 : decode cX0_isSameAs 47 = .ok (.getfield 35, 3) := by decide +kernel
theorem dX0_isSameAs_50 : decode cX0_isSameAs 50 = .ok (.invokevirtual 215, 3) := by decide +kernel
theorem dX0_isSameAs_53 : decode cX0_isSameAs 53 = .ok (.ifCond .eq 69, 3) := by decide +kernel
theorem dX0_isSameAs_56 : decode cX0_isSameAs 56 = .ok (.aload_n 0, 1) := by decide +kernel
theorem dX0_isSameAs_57 : decode cX0_isSameAs 57 = .ok (.getfield 42, 3) := by decide +kernel
theorem dX0_isSameAs_60 : decode cX0_isSameAs 60 = .ok (.aload_n 1, 1) := by decide +kernel
theorem dX0_isSameAs_61 : decode cX0_isSameAs 61 = .ok (.getfield 42, 3) := by decide +kernel
theorem dX0_isSameAs_64 : decode cX0_isSameAs 64 = .ok (.invokevirtual 218, 3) := by decide +kernel
theorem dX0_isSameAs_67 : decode cX0_isSameAs 67 = .ok (.ifCond .eq 55, 3) := by decide +kernel
theorem dX0_isSameAs_70 : decode cX0_isSameAs 70 = .ok (.aload_n 0, 1) := by decide +kernel
theorem dX0_isSameAs_71 : decode cX0_isSameAs 71 = .ok (.getfield 49, 3) := by decide +kernel
theorem dX0_isSameAs_74 : decode cX0_isSameAs 74 = .ok (.aload_n 1, 1) := by decide +kernel
theorem dX0_isSameAs_75 : decode cX0_isSameAs 75 = .ok (.getfield 49, 3) := by decide +kernel
theorem dX0_isSameAs_78 : decode cX0_isSameAs 78 = .ok (.invokevirtual 221, 3) := by decide +kernel
theorem dX0_isSameAs_81 : decode cX0_isSameAs 81 = .ok (.ifCond .eq 41, 3) := by decide +kernel
theorem dX0_isSameAs_84 : decode cX0_isSameAs 84 = .ok (.aload_n 0, 1) := by decide +kernel
theorem dX0_isSameAs_85 : decode cX0_isSameAs 85 = .ok (.getfield 85, 3) := by decide +kernel
theorem dX0_isSameAs_88 : decode cX0_isSameAs 88 = .ok (.aload_n 1, 1) := by decide +kernel
theorem dX0_isSameAs_89 : decode cX0_isSameAs 89 = .ok (.getfield 85, 3) := by decide +kernel
theorem dX0_isSameAs_92 : decode cX0_isSameAs 92 = .ok (.if_icmp .ne 30, 3) := by decide +kernel
theorem dX0_isSameAs_95 : decode cX0_isSameAs 95 = .ok (.aload_n 0, 1) := by decide +kernel
theorem dX0_isSameAs_96 : decode cX0_isSameAs 96 = .ok (.getfield 179, 3) := by decide +kernel
theorem dX0_isSameAs_99 : decode cX0_isSameAs 99 = .ok (.aload_n 1, 1) := by decide +kernel
theorem dX0_isSameAs_100 : decode cX0_isSameAs 100 = .ok (.getfield 179, 3) := by decide +kernel
theorem dX0_isSameAs_103 : decode cX0_isSameAs 103 = .ok (.if_icmp .ne 19, 3) := by decide +kernel
theorem dX0_isSameAs_106 : decode cX0_isSameAs 106 = .ok (.aload_n 0, 1) := by decide +kernel
theorem dX0_isSameAs_107 : decode cX0_isSameAs 107 = .ok (.getfield 171, 3) := by decide +kernel
theorem dX0_isSameAs_110 : decode cX0_isSameAs 110 = .ok (.aload_n 1, 1) := by decide +kernel
theorem dX0_isSameAs_111 : decode cX0_isSameAs 111 = .ok (.getfield 171, 3) := by decide +kernel
theorem dX0_isSameAs_114 : decode cX0_isSameAs 114 = .ok (.lcmp, 1) := by decide +kernel
theorem dX0_isSameAs_115 : decode cX0_isSameAs 115 = .ok (.ifCond .ne 7, 3) := by decide +kernel
theorem dX0_isSameAs_118 : decode cX0_isSameAs 118 = .ok (.iconst 1, 1) := by decide +kernel
theorem dX0_isSameAs_119 : decode cX0_isSameAs 119 = .ok (.goto 4, 3) := by decide +kernel
theorem dX0_isSameAs_122 : decode cX0_isSameAs 122 = .ok (.iconst 0, 1) := by decide +kernel
theorem dX0_isSameAs_123 : decode cX0_isSameAs 123 = .ok (.ireturn, 1) := by decide +kernel
set_option maxRecDepth 20000 in
theorem ggX1_init_J7_fill_53178 : GoodIn wsX1_init wsJ7_fill_53178 := goodIn_r _ [14] (by decide +kernel) (by decide +kernel)
set_option maxRecDepth 20000 in
theorem gX1_init_J7_fill_53178 : GoodIn wsX1_init (va_wsS RX1 27 yJ7_fill_53178 wsJ7_fill_53178) := goodIn_app (goodIn_of _ (by decide +kernel)) ggX1_init_J7_fill_53178
theorem dX1_init_0 : decode cX1_init 0 = .ok (.aload_n 0, 1) := by decide +kernel
theorem dX1_init_1 : decode cX1_init 1 = .ok (.invokespecial 3, 3) := by decide +kernel
theorem dX1_init_4 : decode cX1_init 4 = .ok (.aload_n 0, 1) := by decide +kernel
theorem dX1_init_5 : decode cX1_init 5 = .ok (.iconst 4, 1) := by decide +kernel
theorem dX1_init_6 : decode cX1_init 6 = .ok (.newarray .int, 2) := by decide +kernel
theorem dX1_init_8 : decode cX1_init 8 = .ok (.putfield 9, 3) := by decide +kernel
theorem dX1_init_11 : decode cX1_init 11 = .ok (.aload_n 0, 1) := by decide +kernel
theorem dX1_init_12 : decode cX1_init 12 = .ok (.iconst 4, 1) := by decide +kernel
theorem dX1_init_13 : decode cX1_init 13 = .ok (.newarray .int, 2) := by decide +kernel
theorem dX1_init_15 : decode cX1_init 15 = .ok (.putfield 15, 3) := by decide +kernel
theorem dX1_init_18 : decode cX1_init 18 = .ok (.aload_n 0, 1) := by decide +kernel
theorem dX1_init_19 : decode cX1_init 19 = .ok (.iconst 4, 1) := by decide +kernel
theorem dX1_init_20 : decode cX1_init 20 = .ok (.newarray .int, 2) := by decide +kernel
theorem dX1_init_22 : decode cX1_init 22 = .ok (.putfield 18, 3) := by decide +kernel
theorem dX1_init_25 : decode cX1_init 25 = .ok (.aload_n 0, 1) := by decide +kernel
theorem dX1_init_26 : decode cX1_init 26 = .ok (.iconst 4, 1) := by decide +kernel
theorem dX1_init_27 : decode cX1_init 27 = .ok (.newarray .int, 2) := by decide +kernel
theorem dX1_init_29 : decode cX1_init 29 = .ok (.putfield 21, 3) := by decide +kernel
theorem dX1_init_32 : decode cX1_init 32 = .ok (.aload_n 0, 1) := by decide +kernel
theorem dX1_init_33 : decode cX1_init 33 = .ok (.iconst 4, 1) := by decide +kernel
theorem dX1_init_34 : decode cX1_init 34 = .ok (.newarray .int, 2) := by decide +kernel
theorem dX1_init_36 : decode cX1_init 36 = .ok (.putfield 24, 3) := by decide +kernel
theorem dX1_init_39 : decode cX1_init 39 = .ok (.aload_n 0, 1) := by decide +kernel
theorem dX1_init_40 : decode cX1_init 40 = .ok (.getfield 15, 3) := by decide +kernel
theorem dX1_init_43 : decode cX1_init 43 = .ok (.iconst 1, 1) := by decide +kernel
theorem dX1_init_44 : decode cX1_init 44 = .ok (.invokestatic 27, 3) := by decide +kernel
theorem dX1_init_47 : decode cX1_init 47 = .ok (.aload_n 0, 1) := by decide +kernel
theorem dX1_init_48 : decode cX1_init 48 = .ok (.bipush 15, 2) := by decide +kernel
theorem dX1_init_50 : decode cX1_init 50 = .ok (.putfield 33, 3) := by decide +kernel
theorem dX1_init_53 : decode cX1_init 53 = .ok (.return_, 1) := by decide +kernel
theorem dX1_freshOf_0 : decode cX1_freshOf 0 = .ok (.iload_n 1, 1) := by decide +kernel
theorem dX1_freshOf_1 : decode cX1_freshOf 1 = .ok (.ifCond .lt 8, 3) := by decide +kernel
theorem dX1_freshOf_4 : decode cX1_freshOf 4 = .ok (.iload_n 1, 1) := by decide +kernel
theorem dX1_freshOf_5 : decode cX1_freshOf 5 = .ok (.iconst 4, 1) := by decide +kernel
theorem dX1_freshOf_6 : decode cX1_freshOf 6 = .ok (.if_icmp .lt 7, 3) := by decide +kernel
theorem dX1_freshOf_9 : decode cX1_freshOf 9 = .ok (.iconst 0, 1) := by decide +kernel
theorem dX1_freshOf_10 : decode cX1_freshOf 10 = .ok (.goto 9, 3) := by decide +kernel
theorem dX1_freshOf_13 : decode cX1_freshOf 13 = .ok (.aload_n 0, 1) := by decide +kernel
theorem dX1_freshOf_14 : decode cX1_freshOf 14 = .ok (.getfield 24, 3) := by decide +kernel
theorem dX1_freshOf_17 : decode cX1_freshOf 17 = .ok (.iload_n 1, 1) := by decide +kernel
theorem dX1_freshOf_18 : decode cX1_freshOf 18 = .ok (.iaload, 1) := by decide +kernel
theorem dX1_freshOf_19 : decode cX1_freshOf 19 = .ok (.ireturn, 1) := by decide +kernel
set_option maxRecDepth 20000 in
theorem ggX1_goBeat_X8_hasBit : GoodIn wsX1_goBeat wsX8_hasBit := goodIn_r _ [9] (by decide +kernel) (by decide +kernel)
set_option maxRecDepth 20000 in
theorem gX1_goBeat_X8_hasBit_n37 : GoodIn wsX1_goBeat (wsX8_hasBit) := ggX1_goBeat_X8_hasBit
set_option maxRecDepth 20000 in
theorem ggX1_goBeat_X1_freshOf : GoodIn wsX1_goBeat wsX1_freshOf := goodIn_ca (goodIn_r _ [14, 1, 15, 16, 17, 18, 19, 20] (by decide +kernel) (by decide +kernel)) (goodIn_sub (fun _ h => List.mem_cons_of_mem _ (List.mem_append_right _ h)) (by decide +kernel))
set_option maxRecDepth 20000 in
theorem gX1_goBeat_X1_freshOf : GoodIn wsX1_goBeat (wsV RX1 41 RX1 yX1_freshOf wsX1_freshOf) := goodIn_app (goodIn_of _ (by decide +kernel)) ggX1_goBeat_X1_freshOf
theorem dX1_goBeat_0 : decode cX1_goBeat 0 = .ok (.aload_n 0, 1) := by decide +kernel
theorem dX1_goBeat_1 : decode cX1_goBeat 1 = .ok (.getfield 24, 3) := by decide +kernel
theorem dX1_goBeat_4 : decode cX1_goBeat 4 = .ok (.iconst 0, 1) := by decide +kernel
theorem dX1_goBeat_5 : decode cX1_goBeat 5 = .ok (.iconst 1, 1) := by decide +kernel
theorem dX1_goBeat_6 : decode cX1_goBeat 6 = .ok (.iastore, 1) := by decide +kernel
theorem dX1_goBeat_7 : decode cX1_goBeat 7 = .ok (.aload_n 0, 1) := by decide +kernel
theorem dX1_goBeat_8 : decode cX1_goBeat 8 = .ok (.getfield 21, 3) := by decide +kernel
theorem dX1_goBeat_11 : decode cX1_goBeat 11 = .ok (.iconst 0, 1) := by decide +kernel
theorem dX1_goBeat_12 : decode cX1_goBeat 12 = .ok (.dup2, 1) := by decide +kernel
theorem dX1_goBeat_13 : decode cX1_goBeat 13 = .ok (.iaload, 1) := by decide +kernel
theorem dX1_goBeat_14 : decode cX1_goBeat 14 = .ok (.iconst 1, 1) := by decide +kernel
theorem dX1_goBeat_15 : decode cX1_goBeat 15 = .ok (.iadd, 1) := by decide +kernel
theorem dX1_goBeat_16 : decode cX1_goBeat 16 = .ok (.iastore, 1) := by decide +kernel
theorem dX1_goBeat_17 : decode cX1_goBeat 17 = .ok (.iconst 1, 1) := by decide +kernel
theorem dX1_goBeat_18 : decode cX1_goBeat 18 = .ok (.istore_n 2, 1) := by decide +kernel
theorem dX1_goBeat_19 : decode cX1_goBeat 19 = .ok (.iload_n 2, 1) := by decide +kernel
theorem dX1_goBeat_20 : decode cX1_goBeat 20 = .ok (.iconst 4, 1) := by decide +kernel
theorem dX1_goBeat_21 : decode cX1_goBeat 21 = .ok (.if_icmp .ge 96, 3) := by decide +kernel
theorem dX1_goBeat_24 : decode cX1_goBeat 24 = .ok (.aload_n 0, 1) := by decide +kernel
theorem dX1_goBeat_25 : decode cX1_goBeat 25 = .ok (.getfield 24, 3) := by decide +kernel
theorem dX1_goBeat_28 : decode cX1_goBeat 28 = .ok (.iload_n 2, 1) := by decide +kernel
theorem dX1_goBeat_29 : decode cX1_goBeat 29 = .ok (.iconst 0, 1) := by decide +kernel
theorem dX1_goBeat_30 : decode cX1_goBeat 30 = .ok (.iastore, 1) := by decide +kernel
theorem dX1_goBeat_31 : decode cX1_goBeat 31 = .ok (.iload_n 1, 1) := by decide +kernel
theorem dX1_goBeat_32 : decode cX1_goBeat 32 = .ok (.ifCond .ne 79, 3) := by decide +kernel
theorem dX1_goBeat_35 : decode cX1_goBeat 35 = .ok (.aload_n 0, 1) := by decide +kernel
theorem dX1_goBeat_36 : decode cX1_goBeat 36 = .ok (.getfield 33, 3) := by decide +kernel
theorem dX1_goBeat_39 : decode cX1_goBeat 39 = .ok (.iload_n 2, 1) := by decide +kernel
theorem dX1_goBeat_40 : decode cX1_goBeat 40 = .ok (.invokestatic 37, 3) := by decide +kernel
theorem dX1_goBeat_43 : decode cX1_goBeat 43 = .ok (.ifCond .eq 68, 3) := by decide +kernel
theorem dX1_goBeat_46 : decode cX1_goBeat 46 = .ok (.aload_n 0, 1) := by decide +kernel
theorem dX1_goBeat_47 : decode cX1_goBeat 47 = .ok (.aload_n 0, 1) := by decide +kernel
theorem dX1_goBeat_48 : decode cX1_goBeat 48 = .ok (.getfield 9, 3) := by decide +kernel
theorem dX1_goBeat_51 : decode cX1_goBeat 51 = .ok (.iload_n 2, 1) := by decide +kernel
theorem dX1_goBeat_52 : decode cX1_goBeat 52 = .ok (.iaload, 1) := by decide +kernel
theorem dX1_goBeat_53 : decode cX1_goBeat 53 = .ok (.invokevirtual 41, 3) := by decide +kernel
theorem dX1_goBeat_56 : decode cX1_goBeat 56 = .ok (.ifCond .ne 6, 3) := by decide +kernel
theorem dX1_goBeat_59 : decode cX1_goBeat 59 = .ok (.goto 52, 3) := by decide +kernel
theorem dX1_goBeat_62 : decode cX1_goBeat 62 = .ok (.aload_n 0, 1) := by decide +kernel
theorem dX1_goBeat_63 : decode cX1_goBeat 63 = .ok (.getfield 18, 3) := by decide +kernel
theorem dX1_goBeat_66 : decode cX1_goBeat 66 = .ok (.iload_n 2, 1) := by decide +kernel
theorem dX1_goBeat_67 : decode cX1_goBeat 67 = .ok (.dup2, 1) := by decide +kernel
theorem dX1_goBeat_68 : decode cX1_goBeat 68 = .ok (.iaload, 1) := by decide +kernel
theorem dX1_goBeat_69 : decode cX1_goBeat 69 = .ok (.iconst 1, 1) := by decide +kernel
theorem dX1_goBeat_70 : decode cX1_goBeat 70 = .ok (.iadd, 1) := by decide +kernel
theorem dX1_goBeat_71 : decode cX1_goBeat 71 = .ok (.iastore, 1) := by decide +kernel
theorem dX1_goBeat_72 : decode cX1_goBeat 72 = .ok (.aload_n 0, 1) := by decide +kernel
theorem dX1_goBeat_73 : decode cX1_goBeat 73 = .ok (.getfield 18, 3) := by decide +kernel
theorem dX1_goBeat_76 : decode cX1_goBeat 76 = .ok (.iload_n 2, 1) := by decide +kernel
theorem dX1_goBeat_77 : decode cX1_goBeat 77 = .ok (.iaload, 1) := by decide +kernel
theorem dX1_goBeat_78 : decode cX1_goBeat 78 = .ok (.aload_n 0, 1) := by decide +kernel
theorem dX1_goBeat_79 : decode cX1_goBeat 79 = .ok (.getfield 15, 3) := by decide +kernel
theorem dX1_goBeat_82 : decode cX1_goBeat 82 = .ok (.iload_n 2, 1) := by decide +kernel
theorem dX1_goBeat_83 : decode cX1_goBeat 83 = .ok (.iaload, 1) := by decide +kernel
theorem dX1_goBeat_84 : decode cX1_goBeat 84 = .ok (.if_icmp .lt 27, 3) := by decide +kernel
theorem dX1_goBeat_87 : decode cX1_goBeat 87 = .ok (.aload_n 0, 1) := by decide +kernel
theorem dX1_goBeat_88 : decode cX1_goBeat 88 = .ok (.getfield 18, 3) := by decide +kernel
theorem dX1_goBeat_91 : decode cX1_goBeat 91 = .ok (.iload_n 2, 1) := by decide +kernel
theorem dX1_goBeat_92 : decode cX1_goBeat 92 = .ok (.iconst 0, 1) := by decide +kernel
theorem dX1_goBeat_93 : decode cX1_goBeat 93 = .ok (.iastore, 1) := by decide +kernel
theorem dX1_goBeat_94 : decode cX1_goBeat 94 = .ok (.aload_n 0, 1) := by decide +kernel
theorem dX1_goBeat_95 : decode cX1_goBeat 95 = .ok (.getfield 21, 3) := by decide +kernel
theorem dX1_goBeat_98 : decode cX1_goBeat 98 = .ok (.iload_n 2, 1) := by decide +kernel
theorem dX1_goBeat_99 : decode cX1_goBeat 99 = .ok (.dup2, 1) := by decide +kernel
theorem dX1_goBeat_100 : decode cX1_goBeat 100 = .ok (.iaload, 1) := by decide +kernel
theorem dX1_goBeat_101 : decode cX1_goBeat 101 = .ok (.iconst 1, 1) := by decide +kernel
theorem dX1_goBeat_102 : decode cX1_goBeat 102 = .ok (.iadd, 1) := by decide +kernel
theorem dX1_goBeat_103 : decode cX1_goBeat 103 = .ok (.iastore, 1) := by decide +kernel
theorem dX1_goBeat_104 : decode cX1_goBeat 104 = .ok (.aload_n 0, 1) := by decide +kernel
theorem dX1_goBeat_105 : decode cX1_goBeat 105 = .ok (.getfield 24, 3) := by decide +kernel
theorem dX1_goBeat_108 : decode cX1_goBeat 108 = .ok (.iload_n 2, 1) := by decide +kernel
theorem dX1_goBeat_109 : decode cX1_goBeat 109 = .ok (.iconst 1, 1) := by decide +kernel
theorem dX1_goBeat_110 : decode cX1_goBeat 110 = .ok (.iastore, 1) := by decide +kernel
theorem dX1_goBeat_111 : decode cX1_goBeat 111 = .ok (.iinc 2 1, 3) := by decide +kernel
theorem dX1_goBeat_114 : decode cX1_goBeat 114 = .ok (.goto (-95), 3) := by decide +kernel
theorem dX1_goBeat_117 : decode cX1_goBeat 117 = .ok (.return_, 1) := by decide +kernel
set_option maxRecDepth 20000 in
theorem ggX1_skip_X8_hasBit : GoodIn wsX1_skip wsX8_hasBit := goodIn_r _ [13] (by decide +kernel) (by decide +kernel)
set_option maxRecDepth 20000 in
theorem gX1_skip_X8_hasBit_n37 : GoodIn wsX1_skip (wsX8_hasBit) := ggX1_skip_X8_hasBit
set_option maxRecDepth 20000 in
theorem ggX1_skip_X1_freshOf : GoodIn wsX1_skip wsX1_freshOf := goodIn_ca (goodIn_r _ [18, 1, 19, 20, 21, 22, 23, 24] (by decide +kernel) (by decide +kernel)) (goodIn_sub (fun _ h => List.mem_cons_of_mem _ (List.mem_append_left _ (List.mem_append_right _ h))) (by decide +kernel))
set_option maxRecDepth 20000 in
theorem gX1_skip_X1_freshOf : GoodIn wsX1_skip (wsV RX1 41 RX1 yX1_freshOf wsX1_freshOf) := goodIn_app (goodIn_of _ (by decide +kernel)) ggX1_skip_X1_freshOf
theorem dX1_skip_0 : decode cX1_skip 0 = .ok (.aload_n 0, 1) := by decide +kernel
theorem dX1_skip_1 : decode cX1_skip 1 = .ok (.getfield 24, 3) := by decide +kernel
theorem dX1_skip_4 : decode cX1_skip 4 = .ok (.iconst 0, 1) := by decide +kernel
theorem dX1_skip_5 : decode cX1_skip 5 = .ok (.iload_n 1, 1) := by decide +kernel
theorem dX1_skip_6 : decode cX1_skip 6 = .ok (.iastore, 1) := by decide +kernel
theorem dX1_skip_7 : decode cX1_skip 7 = .ok (.aload_n 0, 1) := by decide +kernel
theorem dX1_skip_8 : decode cX1_skip 8 = .ok (.getfield 21, 3) := by decide +kernel
theorem dX1_skip_11 : decode cX1_skip 11 = .ok (.iconst 0, 1) := by decide +kernel
theorem dX1_skip_12 : decode cX1_skip 12 = .ok (.dup2, 1) := by decide +kernel
theorem dX1_skip_13 : decode cX1_skip 13 = .ok (.iaload, 1) := by decide +kernel
theorem dX1_skip_14 : decode cX1_skip 14 = .ok (.iload_n 1, 1) := by decide +kernel
theorem dX1_skip_15 : decode cX1_skip 15 = .ok (.iadd, 1) := by decide +kernel
theorem dX1_skip_16 : decode cX1_skip 16 = .ok (.iastore, 1) := by decide +kernel
theorem dX1_skip_17 : decode cX1_skip 17 = .ok (.iconst 1, 1) := by decide +kernel
theorem dX1_skip_18 : decode cX1_skip 18 = .ok (.istore_n 3, 1) := by decide +kernel
theorem dX1_skip_19 : decode cX1_skip 19 = .ok (.iload_n 3, 1) := by decide +kernel
theorem dX1_skip_20 : decode cX1_skip 20 = .ok (.iconst 4, 1) := by decide +kernel
theorem dX1_skip_21 : decode cX1_skip 21 = .ok (.if_icmp .ge 146, 3) := by decide +kernel
theorem dX1_skip_24 : decode cX1_skip 24 = .ok (.iload_n 2, 1) := by decide +kernel
theorem dX1_skip_25 : decode cX1_skip 25 = .ok (.ifCond .ne 14, 3) := by decide +kernel
theorem dX1_skip_28 : decode cX1_skip 28 = .ok (.aload_n 0, 1) := by decide +kernel
theorem dX1_skip_29 : decode cX1_skip 29 = .ok (.getfield 33, 3) := by decide +kernel
theorem dX1_skip_32 : decode cX1_skip 32 = .ok (.iload_n 3, 1) := by decide +kernel
theorem dX1_skip_33 : decode cX1_skip 33 = .ok (.invokestatic 37, 3) := by decide +kernel
theorem dX1_skip_36 : decode cX1_skip 36 = .ok (.ifCond .ne 7, 3) := by decide +kernel
theorem dX1_skip_39 : decode cX1_skip 39 = .ok (.iconst 0, 1) := by decide +kernel
theorem dX1_skip_40 : decode cX1_skip 40 = .ok (.goto 13, 3) := by decide +kernel
theorem dX1_skip_43 : decode cX1_skip 43 = .ok (.aload_n 0, 1) := by decide +kernel
theorem dX1_skip_44 : decode cX1_skip 44 = .ok (.aload_n 0, 1) := by decide +kernel
theorem dX1_skip_45 : decode cX1_skip 45 = .ok (.getfield 9, 3) := by decide +kernel
theorem dX1_skip_48 : decode cX1_skip 48 = .ok (.iload_n 3, 1) := by decide +kernel
theorem dX1_skip_49 : decode cX1_skip 49 = .ok (.iaload, 1) := by decide +kernel
theorem dX1_skip_50 : decode cX1_skip 50 = .ok (.invokevirtual 41, 3) := by decide +kernel
theorem dX1_skip_53 : decode cX1_skip 53 = .ok (.istore 4, 2) := by decide +kernel
theorem dX1_skip_55 : decode cX1_skip 55 = .ok (.iconst 1, 1) := by decide +kernel
theorem dX1_skip_56 : decode cX1_skip 56 = .ok (.aload_n 0, 1) := by decide +kernel
theorem dX1_skip_57 : decode cX1_skip 57 = .ok (.getfield 15, 3) := by decide +kernel
theorem dX1_skip_60 : decode cX1_skip 60 = .ok (.iload_n 3, 1) := by decide +kernel
theorem dX1_skip_61 : decode cX1_skip 61 = .ok (.iaload, 1) := by decide +kernel
theorem dX1_skip_62 : decode cX1_skip 62 = .ok (.aload_n 0, 1) := by decide +kernel
theorem dX1_skip_63 : decode cX1_skip 63 = .ok (.getfield 18, 3) := by decide +kernel
theorem dX1_skip_66 : decode cX1_skip 66 = .ok (.iload_n 3, 1) := by decide +kernel
theorem dX1_skip_67 : decode cX1_skip 67 = .ok (.iaload, 1) := by decide +kernel
theorem dX1_skip_68 : decode cX1_skip 68 = .ok (.isub, 1) := by decide +kernel
theorem dX1_skip_69 : decode cX1_skip 69 = .ok (.invokestatic 45, 3) := by decide +kernel
theorem dX1_skip_72 : decode cX1_skip 72 = .ok (.istore 5, 2) := by decide +kernel
theorem dX1_skip_74 : decode cX1_skip 74 = .ok (.aload_n 0, 1) := by decide +kernel
theorem dX1_skip_75 : decode cX1_skip 75 = .ok (.getfield 15, 3) := by decide +kernel
theorem dX1_skip_78 : decode cX1_skip 78 = .ok (.iload_n 3, 1) := by decide +kernel
theorem dX1_skip_79 : decode cX1_skip 79 = .ok (.iaload, 1) := by decide +kernel
theorem dX1_skip_80 : decode cX1_skip 80 = .ok (.istore 6, 2) := by decide +kernel
theorem dX1_skip_82 : decode cX1_skip 82 = .ok (.iload 4, 2) := by decide +kernel
theorem dX1_skip_84 : decode cX1_skip 84 = .ok (.iload 5, 2) := by decide +kernel
theorem dX1_skip_86 : decode cX1_skip 86 = .ok (.if_icmp .lt 9, 3) := by decide +kernel
theorem dX1_skip_89 : decode cX1_skip 89 = .ok (.iload 6, 2) := by decide +kernel
theorem dX1_skip_91 : decode cX1_skip 91 = .ok (.iconst 1, 1) := by decide +kernel
theorem dX1_skip_92 : decode cX1_skip 92 = .ok (.if_icmp .ge 24, 3) := by decide +kernel
theorem dX1_skip_95 : decode cX1_skip 95 = .ok (.aload_n 0, 1) := by decide +kernel
theorem dX1_skip_96 : decode cX1_skip 96 = .ok (.getfield 18, 3) := by decide +kernel
theorem dX1_skip_99 : decode cX1_skip 99 = .ok (.iload_n 3, 1) := by decide +kernel
theorem dX1_skip_100 : decode cX1_skip 100 = .ok (.dup2, 1) := by decide +kernel
theorem dX1_skip_101 : decode cX1_skip 101 = .ok (.iaload, 1) := by decide +kernel
theorem dX1_skip_102 : decode cX1_skip 102 = .ok (.iload 4, 2) := by decide +kernel
theorem dX1_skip_104 : decode cX1_skip 104 = .ok (.iadd, 1) := by decide +kernel
theorem dX1_skip_105 : decode cX1_skip 105 = .ok (.iastore, 1) := by decide +kernel
theorem dX1_skip_106 : decode cX1_skip 106 = .ok (.aload_n 0, 1) := by decide +kernel
theorem dX1_skip_107 : decode cX1_skip 107 = .ok (.getfield 24, 3) := by decide +kernel
theorem dX1_skip_110 : decode cX1_skip 110 = .ok (.iload_n 3, 1) := by decide +kernel
theorem dX1_skip_111 : decode cX1_skip 111 = .ok (.iconst 0, 1) := by decide +kernel
theorem dX1_skip_112 : decode cX1_skip 112 = .ok (.iastore, 1) := by decide +kernel
theorem dX1_skip_113 : decode cX1_skip 113 = .ok (.goto 33, 3) := by decide +kernel
theorem dX1_skip_116 : decode cX1_skip 116 = .ok (.aload_n 0, 1) := by decide +kernel
theorem dX1_skip_117 : decode cX1_skip 117 = .ok (.getfield 18, 3) := by decide +kernel
theorem dX1_skip_120 : decode cX1_skip 120 = .ok (.iload_n 3, 1) := by decide +kernel
theorem dX1_skip_121 : decode cX1_skip 121 = .ok (.iload 4, 2) := by decide +kernel
theorem dX1_skip_123 : decode cX1_skip 123 = .ok (.iload 5, 2) := by decide +kernel
theorem dX1_skip_125 : decode cX1_skip 125 = .ok (.isub, 1) := by decide +kernel
theorem dX1_skip_126 : decode cX1_skip 126 = .ok (.iload 6, 2) := by decide +kernel
theorem dX1_skip_128 : decode cX1_skip 128 = .ok (.irem, 1) := by decide +kernel
theorem dX1_skip_129 : decode cX1_skip 129 = .ok (.iastore, 1) := by decide +kernel
theorem dX1_skip_130 : decode cX1_skip 130 = .ok (.aload_n 0, 1) := by decide +kernel
theorem dX1_skip_131 : decode cX1_skip 131 = .ok (.getfield 24, 3) := by decide +kernel
theorem dX1_skip_134 : decode cX1_skip 134 = .ok (.iload_n 3, 1) := by decide +kernel
theorem dX1_skip_135 : decode cX1_skip 135 = .ok (.iconst 1, 1) := by decide +kernel
theorem dX1_skip_136 : decode cX1_skip 136 = .ok (.iload 4, 2) := by decide +kernel
theorem dX1_skip_138 : decode cX1_skip 138 = .ok (.iload 5, 2) := by decide +kernel
theorem dX1_skip_140 : decode cX1_skip 140 = .ok (.isub, 1) := by decide +kernel
theorem dX1_skip_141 : decode cX1_skip 141 = .ok (.iload 6, 2) := by decide +kernel
theorem dX1_skip_143 : decode cX1_skip 143 = .ok (.idiv, 1) := by decide +kernel
theorem dX1_skip_144 : decode cX1_skip 144 = .ok (.iadd, 1) := by decide +kernel
theorem dX1_skip_145 : decode cX1_skip 145 = .ok (.iastore, 1) := by decide +kernel
theorem dX1_skip_146 : decode cX1_skip 146 = .ok (.aload_n 0, 1) := by decide +kernel
theorem dX1_skip_147 : decode cX1_skip 147 = .ok (.getfield 21, 3) := by decide +kernel
theorem dX1_skip_150 : decode cX1_skip 150 = .ok (.iload_n 3, 1) := by decide +kernel
theorem dX1_skip_151 : decode cX1_skip 151 = .ok (.dup2, 1) := by decide +kernel
theorem dX1_skip_152 : decode cX1_skip 152 = .ok (.iaload, 1) := by decide +kernel
theorem dX1_skip_153 : decode cX1_skip 153 = .ok (.aload_n 0, 1) := by decide +kernel
theorem dX1_skip_154 : decode cX1_skip 154 = .ok (.getfield 24, 3) := by decide +kernel
theorem dX1_skip_157 : decode cX1_skip 157 = .ok (.iload_n 3, 1) := by decide +kernel
theorem dX1_skip_158 : decode cX1_skip 158 = .ok (.iaload, 1) := by decide +kernel
theorem dX1_skip_159 : decode cX1_skip 159 = .ok (.iadd, 1) := by decide +kernel
theorem dX1_skip_160 : decode cX1_skip 160 = .ok (.iastore, 1) := by decide +kernel
theorem dX1_skip_161 : decode cX1_skip 161 = .ok (.iinc 3 1, 3) := by decide +kernel
theorem dX1_skip_164 : decode cX1_skip 164 = .ok (.goto (-145), 3) := by decide +kernel
theorem dX1_skip_167 : decode cX1_skip 167 = .ok (.return_, 1) := by decide +kernel
set_option maxRecDepth 20000 in
theorem ggX1_beatsUntil_X8_hasBit : GoodIn wsX1_beatsUntil wsX8_hasBit := goodIn_r _ [12] (by decide +kernel) (by decide +kernel)
set_option maxRecDepth 20000 in
theorem gX1_beatsUntil_X8_hasBit_n37 : GoodIn wsX1_beatsUntil (wsX8_hasBit) := ggX1_beatsUntil_X8_hasBit
theorem dX1_beatsUntil_0 : decode cX1_beatsUntil 0 = .ok (.iload_n 1, 1) := by decide +kernel
theorem dX1_beatsUntil_1 : decode cX1_beatsUntil 1 = .ok (.istore 4, 2) := by decide +kernel
theorem dX1_beatsUntil_3 : decode cX1_beatsUntil 3 = .ok (.iload_n 2, 1) := by decide +kernel
theorem dX1_beatsUntil_4 : decode cX1_beatsUntil 4 = .ok (.istore 5, 2) := by decide +kernel
theorem dX1_beatsUntil_6 : decode cX1_beatsUntil 6 = .ok (.iconst 0, 1) := by decide +kernel
theorem dX1_beatsUntil_7 : decode cX1_beatsUntil 7 = .ok (.istore 6, 2) := by decide +kernel
theorem dX1_beatsUntil_9 : decode cX1_beatsUntil 9 = .ok (.iload 6, 2) := by decide +kernel
theorem dX1_beatsUntil_11 : decode cX1_beatsUntil 11 = .ok (.iconst 4, 1) := by decide +kernel
theorem dX1_beatsUntil_12 : decode cX1_beatsUntil 12 = .ok (.if_icmp .ge 82, 3) := by decide +kernel
theorem dX1_beatsUntil_15 : decode cX1_beatsUntil 15 = .ok (.iload 4, 2) := by decide +kernel
theorem dX1_beatsUntil_17 : decode cX1_beatsUntil 17 = .ok (.ifCond .le 77, 3) := by decide +kernel
theorem dX1_beatsUntil_20 : decode cX1_beatsUntil 20 = .ok (.iload 4, 2) := by decide +kernel
theorem dX1_beatsUntil_22 : decode cX1_beatsUntil 22 = .ok (.iconst 4, 1) := by decide +kernel
theorem dX1_beatsUntil_23 : decode cX1_beatsUntil 23 = .ok (.if_icmp .ge 71, 3) := by decide +kernel
theorem dX1_beatsUntil_26 : decode cX1_beatsUntil 26 = .ok (.iload_n 3, 1) := by decide +kernel
theorem dX1_beatsUntil_27 : decode cX1_beatsUntil 27 = .ok (.ifCond .ne 15, 3) := by decide +kernel
theorem dX1_beatsUntil_30 : decode cX1_beatsUntil 30 = .ok (.aload_n 0, 1) := by decide +kernel
theorem dX1_beatsUntil_31 : decode cX1_beatsUntil 31 = .ok (.getfield 33, 3) := by decide +kernel
theorem dX1_beatsUntil_34 : decode cX1_beatsUntil 34 = .ok (.iload 4, 2) := by decide +kernel
theorem dX1_beatsUntil_36 : decode cX1_beatsUntil 36 = .ok (.invokestatic 37, 3) := by decide +kernel
theorem dX1_beatsUntil_39 : decode cX1_beatsUntil 39 = .ok (.ifCond .ne 6, 3) := by decide +kernel
theorem dX1_beatsUntil_42 : decode cX1_beatsUntil 42 = .ok (.ldc 51, 2) := by decide +kernel
theorem dX1_beatsUntil_44 : decode cX1_beatsUntil 44 = .ok (.ireturn, 1) := by decide +kernel
theorem dX1_beatsUntil_45 : decode cX1_beatsUntil 45 = .ok (.iconst 1, 1) := by decide +kernel
theorem dX1_beatsUntil_46 : decode cX1_beatsUntil 46 = .ok (.aload_n 0, 1) := by decide +kernel
theorem dX1_beatsUntil_47 : decode cX1_beatsUntil 47 = .ok (.getfield 15, 3) := by decide +kernel
theorem dX1_beatsUntil_50 : decode cX1_beatsUntil 50 = .ok (.iload 4, 2) := by decide +kernel
theorem dX1_beatsUntil_52 : decode cX1_beatsUntil 52 = .ok (.iaload, 1) := by decide +kernel
theorem dX1_beatsUntil_53 : decode cX1_beatsUntil 53 = .ok (.aload_n 0, 1) := by decide +kernel
theorem dX1_beatsUntil_54 : decode cX1_beatsUntil 54 = .ok (.getfield 18, 3) := by decide +kernel
theorem dX1_beatsUntil_57 : decode cX1_beatsUntil 57 = .ok (.iload 4, 2) := by decide +kernel
theorem dX1_beatsUntil_59 : decode cX1_beatsUntil 59 = .ok (.iaload, 1) := by decide +kernel
theorem dX1_beatsUntil_60 : decode cX1_beatsUntil 60 = .ok (.isub, 1) := by decide +kernel
theorem dX1_beatsUntil_61 : decode cX1_beatsUntil 61 = .ok (.invokestatic 45, 3) := by decide +kernel
theorem dX1_beatsUntil_64 : decode cX1_beatsUntil 64 = .ok (.iload 5, 2) := by decide +kernel
theorem dX1_beatsUntil_66 : decode cX1_beatsUntil 66 = .ok (.iconst 1, 1) := by decide +kernel
theorem dX1_beatsUntil_67 : decode cX1_beatsUntil 67 = .ok (.isub, 1) := by decide +kernel
theorem dX1_beatsUntil_68 : decode cX1_beatsUntil 68 = .ok (.aload_n 0, 1) := by decide +kernel
theorem dX1_beatsUntil_69 : decode cX1_beatsUntil 69 = .ok (.getfield 15, 3) := by decide +kernel
theorem dX1_beatsUntil_72 : decode cX1_beatsUntil 72 = .ok (.iload 4, 2) := by decide +kernel
theorem dX1_beatsUntil_74 : decode cX1_beatsUntil 74 = .ok (.iaload, 1) := by decide +kernel
theorem dX1_beatsUntil_75 : decode cX1_beatsUntil 75 = .ok (.imul, 1) := by decide +kernel
theorem dX1_beatsUntil_76 : decode cX1_beatsUntil 76 = .ok (.iadd, 1) := by decide +kernel
theorem dX1_beatsUntil_77 : decode cX1_beatsUntil 77 = .ok (.istore 5, 2) := by decide +kernel
theorem dX1_beatsUntil_79 : decode cX1_beatsUntil 79 = .ok (.aload_n 0, 1) := by decide +kernel
theorem dX1_beatsUntil_80 : decode cX1_beatsUntil 80 = .ok (.getfield 9, 3) := by decide +kernel
theorem dX1_beatsUntil_83 : decode cX1_beatsUntil 83 = .ok (.iload 4, 2) := by decide +kernel
theorem dX1_beatsUntil_85 : decode cX1_beatsUntil 85 = .ok (.iaload, 1) := by decide +kernel
theorem dX1_beatsUntil_86 : decode cX1_beatsUntil 86 = .ok (.istore 4, 2) := by decide +kernel
theorem dX1_beatsUntil_88 : decode cX1_beatsUntil 88 = .ok (.iinc 6 1, 3) := by decide +kernel
theorem dX1_beatsUntil_91 : decode cX1_beatsUntil 91 = .ok (.goto (-82), 3) := by decide +kernel
theorem dX1_beatsUntil_94 : decode cX1_beatsUntil 94 = .ok (.iload 5, 2) := by decide +kernel
theorem dX1_beatsUntil_96 : decode cX1_beatsUntil 96 = .ok (.ireturn, 1) := by decide +kernel
set_option maxRecDepth 20000 in
theorem ggX1_copyFrom_X8_copyInts : GoodIn wsX1_copyFrom wsX8_copyInts := goodIn_r _ [8, 9, 10, 11, 12, 13, 14, 15, 16] (by decide +kernel) (by decide +kernel)
set_option maxRecDepth 20000 in
theorem gX1_copyFrom_X8_copyInts_n52 : GoodIn wsX1_copyFrom (wsX8_copyInts) := ggX1_copyFrom_X8_copyInts
theorem dX1_copyFrom_0 : decode cX1_copyFrom 0 = .ok (.aload_n 1, 1) := by decide +kernel
theorem dX1_copyFrom_1 : decode cX1_copyFrom 1 = .ok (.getfield 9, 3) := by decide +kernel
theorem dX1_copyFrom_4 : decode cX1_copyFrom 4 = .ok (.aload_n 0, 1) := by decide +kernel
theorem dX1_copyFrom_5 : decode cX1_copyFrom 5 = .ok (.getfield 9, 3) := by decide +kernel
theorem dX1_copyFrom_8 : decode cX1_copyFrom 8 = .ok (.invokestatic 52, 3) := by decide +kernel
theorem dX1_copyFrom_11 : decode cX1_copyFrom 11 = .ok (.aload_n 1, 1) := by decide +kernel
theorem dX1_copyFrom_12 : decode cX1_copyFrom 12 = .ok (.getfield 15, 3) := by decide +kernel
theorem dX1_copyFrom_15 : decode cX1_copyFrom 15 = .ok (.aload_n 0, 1) := by decide +kernel
theorem dX1_copyFrom_16 : decode cX1_copyFrom 16 = .ok (.getfield 15, 3) := by decide +kernel
theorem dX1_copyFrom_19 : decode cX1_copyFrom 19 = .ok (.invokestatic 52, 3) := by decide +kernel
theorem dX1_copyFrom_22 : decode cX1_copyFrom 22 = .ok (.aload_n 1, 1) := by decide +kernel
theorem dX1_copyFrom_23 : decode cX1_copyFrom 23 = .ok (.getfield 18, 3) := by decide +kernel
theorem dX1_copyFrom_26 : decode cX1_copyFrom 26 = .ok (.aload_n 0, 1) := by decide +kernel
theorem dX1_copyFrom_27 : decode cX1_copyFrom 27 = .ok (.getfield 18, 3) := by decide +kernel
theorem dX1_copyFrom_30 : decode cX1_copyFrom 30 = .ok (.invokestatic 52, 3) := by decide +kernel
theorem dX1_copyFrom_33 : decode cX1_copyFrom 33 = .ok (.aload_n 1, 1) := by decide +kernel
theorem dX1_copyFrom_34 : decode cX1_copyFrom 34 = .ok (.getfield 21, 3) := by decide +kernel
theorem dX1_copyFrom_37 : decode cX1_copyFrom 37 = .ok (.aload_n 0, 1) := by decide +kernel
theorem dX1_copyFrom_38 : decode cX1_copyFrom 38 = .ok (.getfield 21, 3) := by decide +kernel
theorem dX1_copyFrom_41 : decode cX1_copyFrom 41 = .ok (.invokestatic 52, 3) := by decide +kernel
theorem dX1_copyFrom_44 : decode cX1_copyFrom 44 = .ok (.aload_n 0, 1) := by decide +kernel
theorem dX1_copyFrom_45 : decode cX1_copyFrom 45 = .ok (.aload_n 1, 1) := by decide +kernel
theorem dX1_copyFrom_46 : decode cX1_copyFrom 46 = .ok (.getfield 33, 3) := by decide +kernel
theorem dX1_copyFrom_49 : decode cX1_copyFrom 49 = .ok (.putfield 33, 3) := by decide +kernel
theorem dX1_copyFrom_52 : decode cX1_copyFrom 52 = .ok (.return_, 1) := by decide +kernel
set_option maxRecDepth 20000 in
theorem ggX1_isSameAs_X8_areSameInts : GoodIn wsX1_isSameAs wsX8_areSameInts := goodIn_ca (goodIn_r _ [8] (by decide +kernel) (by decide +kernel)) (goodIn_sub (fun _ h => List.mem_cons_of_mem _ (List.mem_append_right _ h)) (by decide +kernel))
set_option maxRecDepth 20000 in
theorem gX1_isSameAs_X8_areSameInts_n56 : GoodIn wsX1_isSameAs (wsX8_areSameInts) := ggX1_isSameAs_X8_areSameInts
theorem dX1_isSameAs_0 : decode cX1_isSameAs 0 = .ok (.aload_n 0, 1) := by decide +kernel
theorem dX1_isSameAs_1 : decode cX1_isSameAs 1 = .ok (.getfield 33, 3) := by decide +kernel
theorem dX1_isSameAs_4 : decode cX1_isSameAs 4 = .ok (.aload_n 1, 1) := by decide +kernel
theorem dX1_isSameAs_5 : decode cX1_isSameAs 5 = .ok (.getfield 33, 3) := by decide +kernel
theorem dX1_isSameAs_8 : decode cX1_isSameAs 8 = .ok (.if_icmp .ne 67, 3) := by decide +kernel
theorem dX1_isSameAs_11 : decode cX1_isSameAs 11 = .ok (.aload_n 0, 1) := by decide +kernel
theorem dX1_isSameAs_12 : decode cX1_isSameAs 12 = .ok (.getfield 9, 3) := by decide +kernel
theorem dX1_isSameAs_15 : decode cX1_isSameAs 15 = .ok (.aload_n 1, 1) := by decide +kernel
theorem dX1_isSameAs_16 : decode cX1_isSameAs 16 = .ok (.getfield 9, 3) := by decide +kernel
theorem dX1_isSameAs_19 : decode cX1_isSameAs 19 = .ok (.iconst 4, 1) := by decide +kernel
theorem dX1_isSameAs_20 : decode cX1_isSameAs 20 = .ok (.invokestatic 56, 3) := by decide +kernel
theorem dX1_isSameAs_23 : decode cX1_isSameAs 23 = .ok (.ifCond .eq 52, 3) := by decide +kernel
theorem dX1_isSameAs_26 : decode cX1_isSameAs 26 = .ok (.aload_n 0, 1) := by decide +kernel
theorem dX1_isSameAs_27 : decode cX1_isSameAs 27 = .ok (.getfield 15, 3) := by decide +kernel
theorem dX1_isSameAs_30 : decode cX1_isSameAs 30 = .ok (.aload_n 1, 1) := by decide +kernel
theorem dX1_isSameAs_31 : decode cX1_isSameAs 31 = .ok (.getfield 15, 3) := by decide +kernel
theorem dX1_isSameAs_34 : decode cX1_isSameAs 34 = .ok (.iconst 4, 1) := by decide +kernel
theorem dX1_isSameAs_35 : decode cX1_isSameAs 35 = .ok (.invokestatic 56, 3) := by decide +kernel
theorem dX1_isSameAs_38 : decode cX1_isSameAs 38 = .ok (.ifCond .eq 37, 3) := by decide +kernel
theorem dX1_isSameAs_41 : decode cX1_isSameAs 41 = .ok (.aload_n 0, 1) := by decide +kernel
theorem dX1_isSameAs_42 : decode cX1_isSameAs 42 = .ok (.getfield 18, 3) := by decide +kernel
theorem dX1_isSameAs_45 : decode cX1_isSameAs 45 = .ok (.aload_n 1, 1) := by decide +kernel
theorem dX1_isSameAs_46 : decode cX1_isSameAs 46 = .ok (.getfield 18, 3) := by decide +kernel
theorem dX1_isSameAs_49 : decode cX1_isSameAs 49 = .ok (.iconst 4, 1) := by decide +kernel
theorem dX1_isSameAs_50 : decode cX1_isSameAs 50 = .ok (.invokestatic 56, 3) := by decide +kernel
theorem dX1_isSameAs_53 : decode cX1_isSameAs 53 = .ok (.ifCond .eq 22, 3) := by decide +kernel
theorem dX1_isSameAs_56 : decode cX1_isSameAs 56 = .ok (.aload_n 0, 1) := by decide +kernel
theorem dX1_isSameAs_57 : decode cX1_isSameAs 57 = .ok (.getfield 21, 3) := by decide +kernel
theorem dX1_isSameAs_60 : decode cX1_isSameAs 60 = .ok (.aload_n 1, 1) := by decide +kernel
theorem dX1_isSameAs_61 : decode cX1_isSameAs 61 = .ok (.getfield 21, 3) := by decide +kernel
theorem dX1_isSameAs_64 : decode cX1_isSameAs 64 = .ok (.iconst 4, 1) := by decide +kernel
theorem dX1_isSameAs_65 : decode cX1_isSameAs 65 = .ok (.invokestatic 56, 3) := by decide +kernel
theorem dX1_isSameAs_68 : decode cX1_isSameAs 68 = .ok (.ifCond .eq 7, 3) := by decide +kernel
theorem dX1_isSameAs_71 : decode cX1_isSameAs 71 = .ok (.iconst 1, 1) := by decide +kernel
theorem dX1_isSameAs_72 : decode cX1_isSameAs 72 = .ok (.goto 4, 3) := by decide +kernel
theorem dX1_isSameAs_75 : decode cX1_isSameAs 75 = .ok (.iconst 0, 1) := by decide +kernel
theorem dX1_isSameAs_76 : decode cX1_isSameAs 76 = .ok (.ireturn, 1) := by decide +kernel
set_option maxRecDepth 20000 in
theorem ggX2_init_J7_fill_53178 : GoodIn wsX2_init wsJ7_fill_53178 := goodIn_r _ [13] (by decide +kernel) (by decide +kernel)
set_option maxRecDepth 20000 in
theorem gX2_init_J7_fill_53178 : GoodIn wsX2_init (va_wsS RX2 27 yJ7_fill_53178 wsJ7_fill_53178) := goodIn_app (goodIn_of _ (by decide +kernel)) ggX2_init_J7_fill_53178
theorem dX2_init_0 : decode cX2_init 0 = .ok (.aload_n 0, 1) := by decide +kernel
theorem dX2_init_1 : decode cX2_init 1 = .ok (.invokespecial 3, 3) := by decide +kernel
theorem dX2_init_4 : decode cX2_init 4 = .ok (.aload_n 0, 1) := by decide +kernel
theorem dX2_init_5 : decode cX2_init 5 = .ok (.bipush 8, 2) := by decide +kernel
theorem dX2_init_7 : decode cX2_init 7 = .ok (.newarray .int, 2) := by decide +kernel
theorem dX2_init_9 : decode cX2_init 9 = .ok (.putfield 9, 3) := by decide +kernel
theorem dX2_init_12 : decode cX2_init 12 = .ok (.aload_n 0, 1) := by decide +kernel
theorem dX2_init_13 : decode cX2_init 13 = .ok (.bipush 8, 2) := by decide +kernel
theorem dX2_init_15 : decode cX2_init 15 = .ok (.newarray .int, 2) := by decide +kernel
theorem dX2_init_17 : decode cX2_init 17 = .ok (.putfield 15, 3) := by decide +kernel
theorem dX2_init_20 : decode cX2_init 20 = .ok (.aload_n 0, 1) := by decide +kernel
theorem dX2_init_21 : decode cX2_init 21 = .ok (.bipush 8, 2) := by decide +kernel
theorem dX2_init_23 : decode cX2_init 23 = .ok (.newarray .int, 2) := by decide +kernel
theorem dX2_init_25 : decode cX2_init 25 = .ok (.putfield 18, 3) := by decide +kernel
theorem dX2_init_28 : decode cX2_init 28 = .ok (.aload_n 0, 1) := by decide +kernel
theorem dX2_init_29 : decode cX2_init 29 = .ok (.bipush 8, 2) := by decide +kernel
theorem dX2_init_31 : decode cX2_init 31 = .ok (.newarray .int, 2) := by decide +kernel
theorem dX2_init_33 : decode cX2_init 33 = .ok (.putfield 21, 3) := by decide +kernel
theorem dX2_init_36 : decode cX2_init 36 = .ok (.aload_n 0, 1) := by decide +kernel
theorem dX2_init_37 : decode cX2_init 37 = .ok (.bipush 8, 2) := by decide +kernel
theorem dX2_init_39 : decode cX2_init 39 = .ok (.newarray .int, 2) := by decide +kernel
theorem dX2_init_41 : decode cX2_init 41 = .ok (.putfield 24, 3) := by decide +kernel
theorem dX2_init_44 : decode cX2_init 44 = .ok (.aload_n 0, 1) := by decide +kernel
theorem dX2_init_45 : decode cX2_init 45 = .ok (.getfield 9, 3) := by decide +kernel
theorem dX2_init_48 : decode cX2_init 48 = .ok (.bipush 7, 2) := by decide +kernel
theorem dX2_init_50 : decode cX2_init 50 = .ok (.invokestatic 27, 3) := by decide +kernel
theorem dX2_init_53 : decode cX2_init 53 = .ok (.aload_n 0, 1) := by decide +kernel
theorem dX2_init_54 : decode cX2_init 54 = .ok (.getfield 15, 3) := by decide +kernel
theorem dX2_init_57 : decode cX2_init 57 = .ok (.iconst 1, 1) := by decide +kernel
theorem dX2_init_58 : decode cX2_init 58 = .ok (.invokestatic 27, 3) := by decide +kernel
theorem dX2_init_61 : decode cX2_init 61 = .ok (.aload_n 0, 1) := by decide +kernel
theorem dX2_init_62 : decode cX2_init 62 = .ok (.getfield 18, 3) := by decide +kernel
theorem dX2_init_65 : decode cX2_init 65 = .ok (.bipush 110, 2) := by decide +kernel
theorem dX2_init_67 : decode cX2_init 67 = .ok (.invokestatic 27, 3) := by decide +kernel
theorem dX2_init_70 : decode cX2_init 70 = .ok (.return_, 1) := by decide +kernel
set_option maxRecDepth 20000 in
theorem ggX2_first_X8_hasBit : GoodIn wsX2_first wsX8_hasBit := goodIn_r _ [6] (by decide +kernel) (by decide +kernel)
set_option maxRecDepth 20000 in
theorem gX2_first_X8_hasBit_n40 : GoodIn wsX2_first (wsX8_hasBit) := ggX2_first_X8_hasBit
theorem dX2_first_0 : decode cX2_first 0 = .ok (.aload_n 0, 1) := by decide +kernel
theorem dX2_first_1 : decode cX2_first 1 = .ok (.getfield 33, 3) := by decide +kernel
theorem dX2_first_4 : decode cX2_first 4 = .ok (.aload_n 0, 1) := by decide +kernel
theorem dX2_first_5 : decode cX2_first 5 = .ok (.getfield 37, 3) := by decide +kernel
theorem dX2_first_8 : decode cX2_first 8 = .ok (.iand, 1) := by decide +kernel
theorem dX2_first_9 : decode cX2_first 9 = .ok (.istore_n 1, 1) := by decide +kernel
theorem dX2_first_10 : decode cX2_first 10 = .ok (.iconst (-1), 1) := by decide +kernel
theorem dX2_first_11 : decode cX2_first 11 = .ok (.istore_n 2, 1) := by decide +kernel
theorem dX2_first_12 : decode cX2_first 12 = .ok (.bipush 8, 2) := by decide +kernel
theorem dX2_first_14 : decode cX2_first 14 = .ok (.istore_n 3, 1) := by decide +kernel
theorem dX2_first_15 : decode cX2_first 15 = .ok (.iconst 0, 1) := by decide +kernel
theorem dX2_first_16 : decode cX2_first 16 = .ok (.istore 4, 2) := by decide +kernel
theorem dX2_first_18 : decode cX2_first 18 = .ok (.iload 4, 2) := by decide +kernel
theorem dX2_first_20 : decode cX2_first 20 = .ok (.bipush 8, 2) := by decide +kernel
theorem dX2_first_22 : decode cX2_first 22 = .ok (.if_icmp .ge 44, 3) := by decide +kernel
theorem dX2_first_25 : decode cX2_first 25 = .ok (.iload_n 1, 1) := by decide +kernel
theorem dX2_first_26 : decode cX2_first 26 = .ok (.ifCond .eq 40, 3) := by decide +kernel
theorem dX2_first_29 : decode cX2_first 29 = .ok (.iload_n 1, 1) := by decide +kernel
theorem dX2_first_30 : decode cX2_first 30 = .ok (.iload 4, 2) := by decide +kernel
theorem dX2_first_32 : decode cX2_first 32 = .ok (.invokestatic 40, 3) := by decide +kernel
theorem dX2_first_35 : decode cX2_first 35 = .ok (.ifCond .eq 25, 3) := by decide +kernel
theorem dX2_first_38 : decode cX2_first 38 = .ok (.aload_n 0, 1) := by decide +kernel
theorem dX2_first_39 : decode cX2_first 39 = .ok (.getfield 9, 3) := by decide +kernel
theorem dX2_first_42 : decode cX2_first 42 = .ok (.iload 4, 2) := by decide +kernel
theorem dX2_first_44 : decode cX2_first 44 = .ok (.iaload, 1) := by decide +kernel
theorem dX2_first_45 : decode cX2_first 45 = .ok (.iload_n 3, 1) := by decide +kernel
theorem dX2_first_46 : decode cX2_first 46 = .ok (.if_icmp .ge 14, 3) := by decide +kernel
theorem dX2_first_49 : decode cX2_first 49 = .ok (.iload 4, 2) := by decide +kernel
theorem dX2_first_51 : decode cX2_first 51 = .ok (.istore_n 2, 1) := by decide +kernel
theorem dX2_first_52 : decode cX2_first 52 = .ok (.aload_n 0, 1) := by decide +kernel
theorem dX2_first_53 : decode cX2_first 53 = .ok (.getfield 9, 3) := by decide +kernel
theorem dX2_first_56 : decode cX2_first 56 = .ok (.iload 4, 2) := by decide +kernel
theorem dX2_first_58 : decode cX2_first 58 = .ok (.iaload, 1) := by decide +kernel
theorem dX2_first_59 : decode cX2_first 59 = .ok (.istore_n 3, 1) := by decide +kernel
theorem dX2_first_60 : decode cX2_first 60 = .ok (.iinc 4 1, 3) := by decide +kernel
theorem dX2_first_63 : decode cX2_first 63 = .ok (.goto (-45), 3) := by decide +kernel
theorem dX2_first_66 : decode cX2_first 66 = .ok (.iload_n 2, 1) := by decide +kernel
theorem dX2_first_67 : decode cX2_first 67 = .ok (.ireturn, 1) := by decide +kernel
theorem dX2_rankOf_0 : decode cX2_rankOf 0 = .ok (.iload_n 1, 1) := by decide +kernel
theorem dX2_rankOf_1 : decode cX2_rankOf 1 = .ok (.ifCond .lt 9, 3) := by decide +kernel
theorem dX2_rankOf_4 : decode cX2_rankOf 4 = .ok (.iload_n 1, 1) := by decide +kernel
theorem dX2_rankOf_5 : decode cX2_rankOf 5 = .ok (.bipush 8, 2) := by decide +kernel
theorem dX2_rankOf_7 : decode cX2_rankOf 7 = .ok (.if_icmp .lt 8, 3) := by decide +kernel
theorem dX2_rankOf_10 : decode cX2_rankOf 10 = .ok (.bipush 8, 2) := by decide +kernel
theorem dX2_rankOf_12 : decode cX2_rankOf 12 = .ok (.goto 9, 3) := by decide +kernel
theorem dX2_rankOf_15 : decode cX2_rankOf 15 = .ok (.aload_n 0, 1) := by decide +kernel
theorem dX2_rankOf_16 : decode cX2_rankOf 16 = .ok (.getfield 9, 3) := by decide +kernel
theorem dX2_rankOf_19 : decode cX2_rankOf 19 = .ok (.iload_n 1, 1) := by decide +kernel
theorem dX2_rankOf_20 : decode cX2_rankOf 20 = .ok (.iaload, 1) := by decide +kernel
theorem dX2_rankOf_21 : decode cX2_rankOf 21 = .ok (.ireturn, 1) := by decide +kernel
set_option maxRecDepth 20000 in
theorem ggX2_isMoreUrgent_X2_rankOf : GoodIn wsX2_isMoreUrgent wsX2_rankOf := goodIn_ca (goodIn_r _ [5, 6, 7, 8, 9, 10, 11, 12, 13] (by decide +kernel) (by decide +kernel)) (goodIn_sub (fun _ h => List.mem_cons_of_mem _ (List.mem_append_right _ h)) (by decide +kernel))
set_option maxRecDepth 20000 in
theorem gX2_isMoreUrgent_X2_rankOf : GoodIn wsX2_isMoreUrgent (wsV RX2 44 RX2 yX2_rankOf wsX2_rankOf) := goodIn_app (goodIn_of _ (by decide +kernel)) ggX2_isMoreUrgent_X2_rankOf
theorem dX2_isMoreUrgent_0 : decode cX2_isMoreUrgent 0 = .ok (.aload_n 0, 1) := by decide +kernel
theorem dX2_isMoreUrgent_1 : decode cX2_isMoreUrgent 1 = .ok (.iload_n 1, 1) := by decide +kernel
theorem dX2_isMoreUrgent_2 : decode cX2_isMoreUrgent 2 = .ok (.invokevirtual 44, 3) := by decide +kernel
theorem dX2_isMoreUrgent_5 : decode cX2_isMoreUrgent 5 = .ok (.aload_n 0, 1) := by decide +kernel
theorem dX2_isMoreUrgent_6 : decode cX2_isMoreUrgent 6 = .ok (.iload_n 2, 1) := by decide +kernel
theorem dX2_isMoreUrgent_7 : decode cX2_isMoreUrgent 7 = .ok (.invokevirtual 44, 3) := by decide +kernel
theorem dX2_isMoreUrgent_10 : decode cX2_isMoreUrgent 10 = .ok (.if_icmp .ge 7, 3) := by decide +kernel
theorem dX2_isMoreUrgent_13 : decode cX2_isMoreUrgent 13 = .ok (.iconst 1, 1) := by decide +kernel
theorem dX2_isMoreUrgent_14 : decode cX2_isMoreUrgent 14 = .ok (.goto 4, 3) := by decide +kernel
theorem dX2_isMoreUrgent_17 : decode cX2_isMoreUrgent 17 = .ok (.iconst 0, 1) := by decide +kernel
theorem dX2_isMoreUrgent_18 : decode cX2_isMoreUrgent 18 = .ok (.ireturn, 1) := by decide +kernel
theorem dX2_beatsOf_0 : decode cX2_beatsOf 0 = .ok (.iload_n 1, 1) := by decide +kernel
theorem dX2_beatsOf_1 : decode cX2_beatsOf 1 = .ok (.ifCond .lt 9, 3) := by decide +kernel
theorem dX2_beatsOf_4 : decode cX2_beatsOf 4 = .ok (.iload_n 1, 1) := by decide +kernel
theorem dX2_beatsOf_5 : decode cX2_beatsOf 5 = .ok (.bipush 8, 2) := by decide +kernel
theorem dX2_beatsOf_7 : decode cX2_beatsOf 7 = .ok (.if_icmp .lt 7, 3) := by decide +kernel
theorem dX2_beatsOf_10 : decode cX2_beatsOf 10 = .ok (.iconst 1, 1) := by decide +kernel
theorem dX2_beatsOf_11 : decode cX2_beatsOf 11 = .ok (.goto 9, 3) := by decide +kernel
theorem dX2_beatsOf_14 : decode cX2_beatsOf 14 = .ok (.aload_n 0, 1) := by decide +kernel
theorem dX2_beatsOf_15 : decode cX2_beatsOf 15 = .ok (.getfield 15, 3) := by decide +kernel
theorem dX2_beatsOf_18 : decode cX2_beatsOf 18 = .ok (.iload_n 1, 1) := by decide +kernel
theorem dX2_beatsOf_19 : decode cX2_beatsOf 19 = .ok (.iaload, 1) := by decide +kernel
theorem dX2_beatsOf_20 : decode cX2_beatsOf 20 = .ok (.ireturn, 1) := by decide +kernel
set_option maxRecDepth 20000 in
theorem ggX2_copyFrom_X8_copyInts : GoodIn wsX2_copyFrom wsX8_copyInts := goodIn_r _ [10, 11, 12, 13, 14, 15, 16, 17, 18] (by decide +kernel) (by decide +kernel)
set_option maxRecDepth 20000 in
theorem gX2_copyFrom_X8_copyInts_n48 : GoodIn wsX2_copyFrom (wsX8_copyInts) := ggX2_copyFrom_X8_copyInts
theorem dX2_copyFrom_0 : decode cX2_copyFrom 0 = .ok (.aload_n 1, 1) := by decide +kernel
theorem dX2_copyFrom_1 : decode cX2_copyFrom 1 = .ok (.getfield 9, 3) := by decide +kernel
theorem dX2_copyFrom_4 : decode cX2_copyFrom 4 = .ok (.aload_n 0, 1) := by decide +kernel
theorem dX2_copyFrom_5 : decode cX2_copyFrom 5 = .ok (.getfield 9, 3) := by decide +kernel
theorem dX2_copyFrom_8 : decode cX2_copyFrom 8 = .ok (.invokestatic 48, 3) := by decide +kernel
theorem dX2_copyFrom_11 : decode cX2_copyFrom 11 = .ok (.aload_n 1, 1) := by decide +kernel
theorem dX2_copyFrom_12 : decode cX2_copyFrom 12 = .ok (.getfield 15, 3) := by decide +kernel
theorem dX2_copyFrom_15 : decode cX2_copyFrom 15 = .ok (.aload_n 0, 1) := by decide +kernel
theorem dX2_copyFrom_16 : decode cX2_copyFrom 16 = .ok (.getfield 15, 3) := by decide +kernel
theorem dX2_copyFrom_19 : decode cX2_copyFrom 19 = .ok (.invokestatic 48, 3) := by decide +kernel
theorem dX2_copyFrom_22 : decode cX2_copyFrom 22 = .ok (.aload_n 1, 1) := by decide +kernel
theorem dX2_copyFrom_23 : decode cX2_copyFrom 23 = .ok (.getfield 18, 3) := by decide +kernel
theorem dX2_copyFrom_26 : decode cX2_copyFrom 26 = .ok (.aload_n 0, 1) := by decide +kernel
theorem dX2_copyFrom_27 : decode cX2_copyFrom 27 = .ok (.getfield 18, 3) := by decide +kernel
theorem dX2_copyFrom_30 : decode cX2_copyFrom 30 = .ok (.invokestatic 48, 3) := by decide +kernel
theorem dX2_copyFrom_33 : decode cX2_copyFrom 33 = .ok (.aload_n 1, 1) := by decide +kernel
theorem dX2_copyFrom_34 : decode cX2_copyFrom 34 = .ok (.getfield 21, 3) := by decide +kernel
theorem dX2_copyFrom_37 : decode cX2_copyFrom 37 = .ok (.aload_n 0, 1) := by decide +kernel
theorem dX2_copyFrom_38 : decode cX2_copyFrom 38 = .ok (.getfield 21, 3) := by decide +kernel
theorem dX2_copyFrom_41 : decode cX2_copyFrom 41 = .ok (.invokestatic 48, 3) := by decide +kernel
theorem dX2_copyFrom_44 : decode cX2_copyFrom 44 = .ok (.aload_n 1, 1) := by decide +kernel
theorem dX2_copyFrom_45 : decode cX2_copyFrom 45 = .ok (.getfield 24, 3) := by decide +kernel
theorem dX2_copyFrom_48 : decode cX2_copyFrom 48 = .ok (.aload_n 0, 1) := by decide +kernel
theorem dX2_copyFrom_49 : decode cX2_copyFrom 49 = .ok (.getfield 24, 3) := by decide +kernel
theorem dX2_copyFrom_52 : decode cX2_copyFrom 52 = .ok (.invokestatic 48, 3) := by decide +kernel
theorem dX2_copyFrom_55 : decode cX2_copyFrom 55 = .ok (.aload_n 0, 1) := by decide +kernel
theorem dX2_copyFrom_56 : decode cX2_copyFrom 56 = .ok (.aload_n 1, 1) := by decide +kernel
theorem dX2_copyFrom_57 : decode cX2_copyFrom 57 = .ok (.getfield 33, 3) := by decide +kernel
theorem dX2_copyFrom_60 : decode cX2_copyFrom 60 = .ok (.putfield 33, 3) := by decide +kernel
theorem dX2_copyFrom_63 : decode cX2_copyFrom 63 = .ok (.aload_n 0, 1) := by decide +kernel
theorem dX2_copyFrom_64 : decode cX2_copyFrom 64 = .ok (.aload_n 1, 1) := by decide +kernel
theorem dX2_copyFrom_65 : decode cX2_copyFrom 65 = .ok (.getfield 37, 3) := by decide +kernel
theorem dX2_copyFrom_68 : decode cX2_copyFrom 68 = .ok (.putfield 37, 3) := by decide +kernel
theorem dX2_copyFrom_71 : decode cX2_copyFrom 71 = .ok (.return_, 1) := by decide +kernel
set_option maxRecDepth 20000 in
theorem ggX2_isSameAs_X8_areSameInts : GoodIn wsX2_isSameAs wsX8_areSameInts := goodIn_ca (goodIn_r _ [10] (by decide +kernel) (by decide +kernel)) (goodIn_sub (fun _ h => List.mem_cons_of_mem _ (List.mem_append_right _ h)) (by decide +kernel))
set_option maxRecDepth 20000 in
theorem gX2_isSameAs_X8_areSameInts_n52 : GoodIn wsX2_isSameAs (wsX8_areSameInts) := ggX2_isSameAs_X8_areSameInts
theorem dX2_isSameAs_0 : decode cX2_isSameAs 0 = .ok (.aload_n 0, 1) := by decide +kernel
theorem dX2_isSameAs_1 : decode cX2_isSameAs 1 = .ok (.getfield 33, 3) := by decide +kernel
theorem dX2_isSameAs_4 : decode cX2_isSameAs 4 = .ok (.aload_n 1, 1) := by decide +kernel
theorem dX2_isSameAs_5 : decode cX2_isSameAs 5 = .ok (.getfield 33, 3) := by decide +kernel
theorem dX2_isSameAs_8 : decode cX2_isSameAs 8 = .ok (.if_icmp .ne 98, 3) := by decide +kernel
theorem dX2_isSameAs_11 : decode cX2_isSameAs 11 = .ok (.aload_n 0, 1) := by decide +kernel
theorem dX2_isSameAs_12 : decode cX2_isSameAs 12 = .ok (.getfield 37, 3) := by decide +kernel
theorem dX2_isSameAs_15 : decode cX2_isSameAs 15 = .ok (.aload_n 1, 1) := by decide +kernel
theorem dX2_isSameAs_16 : decode cX2_isSameAs 16 = .ok (.getfield 37, 3) := by decide +kernel
theorem dX2_isSameAs_19 : decode cX2_isSameAs 19 = .ok (.if_icmp .ne 87, 3) := by decide +kernel
theorem dX2_isSameAs_22 : decode cX2_isSameAs 22 = .ok (.aload_n 0, 1) := by decide +kernel
theorem dX2_isSameAs_23 : decode cX2_isSameAs 23 = .ok (.getfield 9, 3) := by decide +kernel
theorem dX2_isSameAs_26 : decode cX2_isSameAs 26 = .ok (.aload_n 1, 1) := by decide +kernel
theorem dX2_isSameAs_27 : decode cX2_isSameAs 27 = .ok (.getfield 9, 3) := by decide +kernel
theorem dX2_isSameAs_30 : decode cX2_isSameAs 30 = .ok (.bipush 8, 2) := by decide +kernel
theorem dX2_isSameAs_32 : decode cX2_isSameAs 32 = .ok (.invokestatic 52, 3) := by decide +kernel
theorem dX2_isSameAs_35 : decode cX2_isSameAs 35 = .ok (.ifCond .eq 71, 3) := by decide +kernel
theorem dX2_isSameAs_38 : decode cX2_isSameAs 38 = .ok (.aload_n 0, 1) := by decide +kernel
theorem dX2_isSameAs_39 : decode cX2_isSameAs 39 = .ok (.getfield 15, 3) := by decide +kernel
theorem dX2_isSameAs_42 : decode cX2_isSameAs 42 = .ok (.aload_n 1, 1) := by decide +kernel
theorem dX2_isSameAs_43 : decode cX2_isSameAs 43 = .ok (.getfield 15, 3) := by decide +kernel
theorem dX2_isSameAs_46 : decode cX2_isSameAs 46 = .ok (.bipush 8, 2) := by decide +kernel
theorem dX2_isSameAs_48 : decode cX2_isSameAs 48 = .ok (.invokestatic 52, 3) := by decide +kernel
theorem dX2_isSameAs_51 : decode cX2_isSameAs 51 = .ok (.ifCond .eq 55, 3) := by decide +kernel
theorem dX2_isSameAs_54 : decode cX2_isSameAs 54 = .ok (.aload_n 0, 1) := by decide +kernel
theorem dX2_isSameAs_55 : decode cX2_isSameAs 55 = .ok (.getfield 18, 3) := by decide +kernel
theorem dX2_isSameAs_58 : decode cX2_isSameAs 58 = .ok (.aload_n 1, 1) := by decide +kernel
theorem dX2_isSameAs_59 : decode cX2_isSameAs 59 = .ok (.getfield 18, 3) := by decide +kernel
theorem dX2_isSameAs_62 : decode cX2_isSameAs 62 = .ok (.bipush 8, 2) := by decide +kernel
theorem dX2_isSameAs_64 : decode cX2_isSameAs 64 = .ok (.invokestatic 52, 3) := by decide +kernel
theorem dX2_isSameAs_67 : decode cX2_isSameAs 67 = .ok (.ifCond .eq 39, 3) := by decide +kernel
theorem dX2_isSameAs_70 : decode cX2_isSameAs 70 = .ok (.aload_n 0, 1) := by decide +kernel
theorem dX2_isSameAs_71 : decode cX2_isSameAs 71 = .ok (.getfield 21, 3) := by decide +kernel
theorem dX2_isSameAs_74 : decode cX2_isSameAs 74 = .ok (.aload_n 1, 1) := by decide +kernel
theorem dX2_isSameAs_75 : decode cX2_isSameAs 75 = .ok (.getfield 21, 3) := by decide +kernel
theorem dX2_isSameAs_78 : decode cX2_isSameAs 78 = .ok (.bipush 8, 2) := by decide +kernel
theorem dX2_isSameAs_80 : decode cX2_isSameAs 80 = .ok (.invokestatic 52, 3) := by decide +kernel
theorem dX2_isSameAs_83 : decode cX2_isSameAs 83 = .ok (.ifCond .eq 23, 3) := by decide +kernel
theorem dX2_isSameAs_86 : decode cX2_isSameAs 86 = .ok (.aload_n 0, 1) := by decide +kernel
theorem dX2_isSameAs_87 : decode cX2_isSameAs 87 = .ok (.getfield 24, 3) := by decide +kernel
theorem dX2_isSameAs_90 : decode cX2_isSameAs 90 = .ok (.aload_n 1, 1) := by decide +kernel
theorem dX2_isSameAs_91 : decode cX2_isSameAs 91 = .ok (.getfield 24, 3) := by decide +kernel
theorem dX2_isSameAs_94 : decode cX2_isSameAs 94 = .ok (.bipush 8, 2) := by decide +kernel
theorem dX2_isSameAs_96 : decode cX2_isSameAs 96 = .ok (.invokestatic 52, 3) := by decide +kernel
theorem dX2_isSameAs_99 : decode cX2_isSameAs 99 = .ok (.ifCond .eq 7, 3) := by decide +kernel
theorem dX2_isSameAs_102 : decode cX2_isSameAs 102 = .ok (.iconst 1, 1) := by decide +kernel
theorem dX2_isSameAs_103 : decode cX2_isSameAs 103 = .ok (.goto 4, 3) := by decide +kernel
theorem dX2_isSameAs_106 : decode cX2_isSameAs 106 = .ok (.iconst 0, 1) := by decide +kernel
theorem dX2_isSameAs_107 : decode cX2_isSameAs 107 = .ok (.ireturn, 1) := by decide +kernel
theorem dX3_init_0 : decode cX3_init 0 = .ok (.aload_n 0, 1) := by decide +kernel
theorem dX3_init_1 : decode cX3_init 1 = .ok (.invokespecial 3, 3) := by decide +kernel
theorem dX3_init_4 : decode cX3_init 4 = .ok (.aload_n 0, 1) := by decide +kernel
theorem dX3_init_5 : decode cX3_init 5 = .ok (.sipush 200, 3) := by decide +kernel
theorem dX3_init_8 : decode cX3_init 8 = .ok (.newarray .int, 2) := by decide +kernel
theorem dX3_init_10 : decode cX3_init 10 = .ok (.putfield 9, 3) := by decide +kernel
theorem dX3_init_13 : decode cX3_init 13 = .ok (.aload_n 0, 1) := by decide +kernel
theorem dX3_init_14 : decode cX3_init 14 = .ok (.sipush 200, 3) := by decide +kernel
theorem dX3_init_17 : decode cX3_init 17 = .ok (.newarray .int, 2) := by decide +kernel
theorem dX3_init_19 : decode cX3_init 19 = .ok (.putfield 15, 3) := by decide +kernel
theorem dX3_init_22 : decode cX3_init 22 = .ok (.return_, 1) := by decide +kernel
set_option maxRecDepth 20000 in
theorem ggX3_put_X8_hasBit : GoodIn wsX3_put wsX8_hasBit := goodIn_r _ [7] (by decide +kernel) (by decide +kernel)
set_option maxRecDepth 20000 in
theorem gX3_put_X8_hasBit_n22 : GoodIn wsX3_put (wsX8_hasBit) := ggX3_put_X8_hasBit
set_option maxRecDepth 20000 in
theorem ggX3_put_X8_withBit : GoodIn wsX3_put wsX8_withBit := goodIn_r _ [9] (by decide +kernel) (by decide +kernel)
set_option maxRecDepth 20000 in
theorem gX3_put_X8_withBit_n26 : GoodIn wsX3_put (wsX8_withBit) := ggX3_put_X8_withBit
theorem dX3_put_0 : decode cX3_put 0 = .ok (.aload_n 0, 1) := by decide +kernel
theorem dX3_put_1 : decode cX3_put 1 = .ok (.getfield 18, 3) := by decide +kernel
theorem dX3_put_4 : decode cX3_put 4 = .ok (.iload_n 1, 1) := by decide +kernel
theorem dX3_put_5 : decode cX3_put 5 = .ok (.invokestatic 22, 3) := by decide +kernel
theorem dX3_put_8 : decode cX3_put 8 = .ok (.istore 4, 2) := by decide +kernel
theorem dX3_put_10 : decode cX3_put 10 = .ok (.iload_n 2, 1) := by decide +kernel
theorem dX3_put_11 : decode cX3_put 11 = .ok (.bipush 116, 2) := by decide +kernel
theorem dX3_put_13 : decode cX3_put 13 = .ok (.if_icmp .eq 25, 3) := by decide +kernel
theorem dX3_put_16 : decode cX3_put 16 = .ok (.iload_n 2, 1) := by decide +kernel
theorem dX3_put_17 : decode cX3_put 17 = .ok (.bipush 115, 2) := by decide +kernel
theorem dX3_put_19 : decode cX3_put 19 = .ok (.if_icmp .ne 8, 3) := by decide +kernel
theorem dX3_put_22 : decode cX3_put 22 = .ok (.iload 4, 2) := by decide +kernel
theorem dX3_put_24 : decode cX3_put 24 = .ok (.ifCond .eq 14, 3) := by decide +kernel
theorem dX3_put_27 : decode cX3_put 27 = .ok (.iload_n 2, 1) := by decide +kernel
theorem dX3_put_28 : decode cX3_put 28 = .ok (.bipush 99, 2) := by decide +kernel
theorem dX3_put_30 : decode cX3_put 30 = .ok (.if_icmp .ne 12, 3) := by decide +kernel
theorem dX3_put_33 : decode cX3_put 33 = .ok (.iload 4, 2) := by decide +kernel
theorem dX3_put_35 : decode cX3_put 35 = .ok (.ifCond .eq 7, 3) := by decide +kernel
theorem dX3_put_38 : decode cX3_put 38 = .ok (.iconst 1, 1) := by decide +kernel
theorem dX3_put_39 : decode cX3_put 39 = .ok (.goto 4, 3) := by decide +kernel
theorem dX3_put_42 : decode cX3_put 42 = .ok (.iconst 0, 1) := by decide +kernel
theorem dX3_put_43 : decode cX3_put 43 = .ok (.istore 5, 2) := by decide +kernel
theorem dX3_put_45 : decode cX3_put 45 = .ok (.iload 5, 2) := by decide +kernel
theorem dX3_put_47 : decode cX3_put 47 = .ok (.ifCond .ne 4, 3) := by decide +kernel
theorem dX3_put_50 : decode cX3_put 50 = .ok (.return_, 1) := by decide +kernel
theorem dX3_put_51 : decode cX3_put 51 = .ok (.aload_n 0, 1) := by decide +kernel
theorem dX3_put_52 : decode cX3_put 52 = .ok (.aload_n 0, 1) := by decide +kernel
theorem dX3_put_53 : decode cX3_put 53 = .ok (.getfield 18, 3) := by decide +kernel
theorem dX3_put_56 : decode cX3_put 56 = .ok (.iload_n 1, 1) := by decide +kernel
theorem dX3_put_57 : decode cX3_put 57 = .ok (.iload 4, 2) := by decide +kernel
theorem dX3_put_59 : decode cX3_put 59 = .ok (.ifCond .ne 7, 3) := by decide +kernel
theorem dX3_put_62 : decode cX3_put 62 = .ok (.iconst 1, 1) := by decide +kernel
theorem dX3_put_63 : decode cX3_put 63 = .ok (.goto 4, 3) := by decide +kernel
theorem dX3_put_66 : decode cX3_put 66 = .ok (.iconst 0, 1) := by decide +kernel
theorem dX3_put_67 : decode cX3_put 67 = .ok (.invokestatic 26, 3) := by decide +kernel
theorem dX3_put_70 : decode cX3_put 70 = .ok (.putfield 18, 3) := by decide +kernel
theorem dX3_put_73 : decode cX3_put 73 = .ok (.aload_n 0, 1) := by decide +kernel
theorem dX3_put_74 : decode cX3_put 74 = .ok (.getfield 30, 3) := by decide +kernel
theorem dX3_put_77 : decode cX3_put 77 = .ok (.ifCond .lt 45, 3) := by decide +kernel
theorem dX3_put_80 : decode cX3_put 80 = .ok (.aload_n 0, 1) := by decide +kernel
theorem dX3_put_81 : decode cX3_put 81 = .ok (.getfield 30, 3) := by decide +kernel
theorem dX3_put_84 : decode cX3_put 84 = .ok (.sipush 200, 3) := by decide +kernel
theorem dX3_put_87 : decode cX3_put 87 = .ok (.if_icmp .ge 35, 3) := by decide +kernel
theorem dX3_put_90 : decode cX3_put 90 = .ok (.aload_n 0, 1) := by decide +kernel
theorem dX3_put_91 : decode cX3_put 91 = .ok (.getfield 9, 3) := by decide +kernel
theorem dX3_put_94 : decode cX3_put 94 = .ok (.aload_n 0, 1) := by decide +kernel
theorem dX3_put_95 : decode cX3_put 95 = .ok (.getfield 30, 3) := by decide +kernel
theorem dX3_put_98 : decode cX3_put 98 = .ok (.iload_n 3, 1) := by decide +kernel
theorem dX3_put_99 : decode cX3_put 99 = .ok (.iastore, 1) := by decide +kernel
theorem dX3_put_100 : decode cX3_put 100 = .ok (.aload_n 0, 1) := by decide +kernel
theorem dX3_put_101 : decode cX3_put 101 = .ok (.getfield 15, 3) := by decide +kernel
theorem dX3_put_104 : decode cX3_put 104 = .ok (.aload_n 0, 1) := by decide +kernel
theorem dX3_put_105 : decode cX3_put 105 = .ok (.getfield 30, 3) := by decide +kernel
theorem dX3_put_108 : decode cX3_put 108 = .ok (.iload 4, 2) := by decide +kernel
theorem dX3_put_110 : decode cX3_put 110 = .ok (.ifCond .eq 7, 3) := by decide +kernel
theorem dX3_put_113 : decode cX3_put 113 = .ok (.iload_n 1, 1) := by decide +kernel
theorem dX3_put_114 : decode cX3_put 114 = .ok (.goto 7, 3) := by decide +kernel
theorem dX3_put_117 : decode cX3_put 117 = .ok (.bipush 8, 2) := by decide +kernel
theorem dX3_put_119 : decode cX3_put 119 = .ok (.iload_n 1, 1) := by decide +kernel
theorem dX3_put_120 : decode cX3_put 120 = .ok (.iadd, 1) := by decide +kernel
theorem dX3_put_121 : decode cX3_put 121 = .ok (.iastore, 1) := by decide +kernel
theorem dX3_put_122 : decode cX3_put 122 = .ok (.aload_n 0, 1) := by decide +kernel
theorem dX3_put_123 : decode cX3_put 123 = .ok (.dup, 1) := by decide +kernel
theorem dX3_put_124 : decode cX3_put 124 = .ok (.getfield 30, 3) := by decide +kernel
theorem dX3_put_127 : decode cX3_put 127 = .ok (.iconst 1, 1) := by decide +kernel
theorem dX3_put_128 : decode cX3_put 128 = .ok (.iadd, 1) := by decide +kernel
theorem dX3_put_129 : decode cX3_put 129 = .ok (.putfield 30, 3) := by decide +kernel
theorem dX3_put_132 : decode cX3_put 132 = .ok (.return_, 1) := by decide +kernel
set_option maxRecDepth 20000 in
theorem ggX3_copyFrom_X8_copyInts : GoodIn wsX3_copyFrom wsX8_copyInts := goodIn_r _ [7, 8, 9, 10, 11, 12, 13, 14, 15] (by decide +kernel) (by decide +kernel)
set_option maxRecDepth 20000 in
theorem gX3_copyFrom_X8_copyInts_n33 : GoodIn wsX3_copyFrom (wsX8_copyInts) := ggX3_copyFrom_X8_copyInts
theorem dX3_copyFrom_0 : decode cX3_copyFrom 0 = .ok (.aload_n 1, 1) := by decide +kernel
theorem dX3_copyFrom_1 : decode cX3_copyFrom 1 = .ok (.getfield 9, 3) := by decide +kernel
theorem dX3_copyFrom_4 : decode cX3_copyFrom 4 = .ok (.aload_n 0, 1) := by decide +kernel
theorem dX3_copyFrom_5 : decode cX3_copyFrom 5 = .ok (.getfield 9, 3) := by decide +kernel
theorem dX3_copyFrom_8 : decode cX3_copyFrom 8 = .ok (.invokestatic 33, 3) := by decide +kernel
theorem dX3_copyFrom_11 : decode cX3_copyFrom 11 = .ok (.aload_n 1, 1) := by decide +kernel
theorem dX3_copyFrom_12 : decode cX3_copyFrom 12 = .ok (.getfield 15, 3) := by decide +kernel
theorem dX3_copyFrom_15 : decode cX3_copyFrom 15 = .ok (.aload_n 0, 1) := by decide +kernel
theorem dX3_copyFrom_16 : decode cX3_copyFrom 16 = .ok (.getfield 15, 3) := by decide +kernel
theorem dX3_copyFrom_19 : decode cX3_copyFrom 19 = .ok (.invokestatic 33, 3) := by decide +kernel
theorem dX3_copyFrom_22 : decode cX3_copyFrom 22 = .ok (.aload_n 0, 1) := by decide +kernel
theorem dX3_copyFrom_23 : decode cX3_copyFrom 23 = .ok (.aload_n 1, 1) := by decide +kernel
theorem dX3_copyFrom_24 : decode cX3_copyFrom 24 = .ok (.getfield 18, 3) := by decide +kernel
theorem dX3_copyFrom_27 : decode cX3_copyFrom 27 = .ok (.putfield 18, 3) := by decide +kernel
theorem dX3_copyFrom_30 : decode cX3_copyFrom 30 = .ok (.aload_n 0, 1) := by decide +kernel
theorem dX3_copyFrom_31 : decode cX3_copyFrom 31 = .ok (.aload_n 1, 1) := by decide +kernel
theorem dX3_copyFrom_32 : decode cX3_copyFrom 32 = .ok (.getfield 30, 3) := by decide +kernel
theorem dX3_copyFrom_35 : decode cX3_copyFrom 35 = .ok (.putfield 30, 3) := by decide +kernel
theorem dX3_copyFrom_38 : decode cX3_copyFrom 38 = .ok (.return_, 1) := by decide +kernel
set_option maxRecDepth 20000 in
theorem ggX3_isSameAs_X8_areSameInts : GoodIn wsX3_isSameAs wsX8_areSameInts := goodIn_ca (goodIn_r _ [11] (by decide +kernel) (by decide +kernel)) (goodIn_sub (fun _ h => List.mem_cons_of_mem _ (List.mem_append_right _ h)) (by decide +kernel))
set_option maxRecDepth 20000 in
theorem gX3_isSameAs_X8_areSameInts_n43 : GoodIn wsX3_isSameAs (wsX8_areSameInts) := ggX3_isSameAs_X8_areSameInts
theorem dX3_isSameAs_0 : decode cX3_isSameAs 0 = .ok (.aload_n 0, 1) := by decide +kernel
theorem dX3_isSameAs_1 : decode cX3_isSameAs 1 = .ok (.getfield 18, 3) := by decide +kernel
theorem dX3_isSameAs_4 : decode cX3_isSameAs 4 = .ok (.aload_n 1, 1) := by decide +kernel
theorem dX3_isSameAs_5 : decode cX3_isSameAs 5 = .ok (.getfield 18, 3) := by decide +kernel
theorem dX3_isSameAs_8 : decode cX3_isSameAs 8 = .ok (.if_icmp .ne 66, 3) := by decide +kernel
theorem dX3_isSameAs_11 : decode cX3_isSameAs 11 = .ok (.aload_n 0, 1) := by decide +kernel
theorem dX3_isSameAs_12 : decode cX3_isSameAs 12 = .ok (.getfield 30, 3) := by decide +kernel
theorem dX3_isSameAs_15 : decode cX3_isSameAs 15 = .ok (.aload_n 1, 1) := by decide +kernel
theorem dX3_isSameAs_16 : decode cX3_isSameAs 16 = .ok (.getfield 30, 3) := by decide +kernel
theorem dX3_isSameAs_19 : decode cX3_isSameAs 19 = .ok (.if_icmp .ne 55, 3) := by decide +kernel
theorem dX3_isSameAs_22 : decode cX3_isSameAs 22 = .ok (.aload_n 0, 1) := by decide +kernel
theorem dX3_isSameAs_23 : decode cX3_isSameAs 23 = .ok (.getfield 9, 3) := by decide +kernel
theorem dX3_isSameAs_26 : decode cX3_isSameAs 26 = .ok (.aload_n 1, 1) := by decide +kernel
theorem dX3_isSameAs_27 : decode cX3_isSameAs 27 = .ok (.getfield 9, 3) := by decide +kernel
theorem dX3_isSameAs_30 : decode cX3_isSameAs 30 = .ok (.aload_n 0, 1) := by decide +kernel
theorem dX3_isSameAs_31 : decode cX3_isSameAs 31 = .ok (.getfield 30, 3) := by decide +kernel
theorem dX3_isSameAs_34 : decode cX3_isSameAs 34 = .ok (.sipush 200, 3) := by decide +kernel
theorem dX3_isSameAs_37 : decode cX3_isSameAs 37 = .ok (.invokestatic 37, 3) := by decide +kernel
theorem dX3_isSameAs_40 : decode cX3_isSameAs 40 = .ok (.invokestatic 43, 3) := by decide +kernel
theorem dX3_isSameAs_43 : decode cX3_isSameAs 43 = .ok (.ifCond .eq 31, 3) := by decide +kernel
theorem dX3_isSameAs_46 : decode cX3_isSameAs 46 = .ok (.aload_n 0, 1) := by decide +kernel
theorem dX3_isSameAs_47 : decode cX3_isSameAs 47 = .ok (.getfield 15, 3) := by decide +kernel
theorem dX3_isSameAs_50 : decode cX3_isSameAs 50 = .ok (.aload_n 1, 1) := by decide +kernel
theorem dX3_isSameAs_51 : decode cX3_isSameAs 51 = .ok (.getfield 15, 3) := by decide +kernel
theorem dX3_isSameAs_54 : decode cX3_isSameAs 54 = .ok (.aload_n 0, 1) := by decide +kernel
theorem dX3_isSameAs_55 : decode cX3_isSameAs 55 = .ok (.getfield 30, 3) := by decide +kernel
theorem dX3_isSameAs_58 : decode cX3_isSameAs 58 = .ok (.sipush 200, 3) := by decide +kernel
theorem dX3_isSameAs_61 : decode cX3_isSameAs 61 = .ok (.invokestatic 37, 3) := by decide +kernel
theorem dX3_isSameAs_64 : decode cX3_isSameAs 64 = .ok (.invokestatic 43, 3) := by decide +kernel
theorem dX3_isSameAs_67 : decode cX3_isSameAs 67 = .ok (.ifCond .eq 7, 3) := by decide +kernel
theorem dX3_isSameAs_70 : decode cX3_isSameAs 70 = .ok (.iconst 1, 1) := by decide +kernel
theorem dX3_isSameAs_71 : decode cX3_isSameAs 71 = .ok (.goto 4, 3) := by decide +kernel
theorem dX3_isSameAs_74 : decode cX3_isSameAs 74 = .ok (.iconst 0, 1) := by decide +kernel
theorem dX3_isSameAs_75 : decode cX3_isSameAs 75 = .ok (.ireturn, 1) := by decide +kernel
set_option maxRecDepth 20000 in
theorem ggX4_init_X5_init : GoodIn wsX4_init wsX5_init := goodIn_r _ [11, 12, 2, 3, 13, 14, 15, 16, 17, 18] (by decide +kernel) (by decide +kernel)
set_option maxRecDepth 20000 in
theorem gX4_init_X5_init_n11 : GoodIn wsX4_init (wsX5_init) := ggX4_init_X5_init
theorem dX4_init_0 : decode cX4_init 0 = .ok (.aload_n 0, 1) := by decide +kernel
theorem dX4_init_1 : decode cX4_init 1 = .ok (.invokespecial 3, 3) := by decide +kernel
theorem dX4_init_4 : decode cX4_init 4 = .ok (.aload_n 0, 1) := by decide +kernel
theorem dX4_init_5 : decode cX4_init 5 = .ok (.new 9, 3) := by decide +kernel
theorem dX4_init_8 : decode cX4_init 8 = .ok (.dup, 1) := by decide +kernel
theorem dX4_init_9 : decode cX4_init 9 = .ok (.invokespecial 11, 3) := by decide +kernel
theorem dX4_init_12 : decode cX4_init 12 = .ok (.putfield 12, 3) := by decide +kernel
theorem dX4_init_15 : decode cX4_init 15 = .ok (.aload_n 0, 1) := by decide +kernel
theorem dX4_init_16 : decode cX4_init 16 = .ok (.bipush 105, 2) := by decide +kernel
theorem dX4_init_18 : decode cX4_init 18 = .ok (.putfield 18, 3) := by decide +kernel
theorem dX4_init_21 : decode cX4_init 21 = .ok (.aload_n 0, 1) := by decide +kernel
theorem dX4_init_22 : decode cX4_init 22 = .ok (.iconst (-1), 1) := by decide +kernel
theorem dX4_init_23 : decode cX4_init 23 = .ok (.putfield 22, 3) := by decide +kernel
theorem dX4_init_26 : decode cX4_init 26 = .ok (.return_, 1) := by decide +kernel
theorem dX4_isDeepAsleep_0 : decode cX4_isDeepAsleep 0 = .ok (.aload_n 0, 1) := by decide +kernel
theorem dX4_isDeepAsleep_1 : decode cX4_isDeepAsleep 1 = .ok (.getfield 18, 3) := by decide +kernel
theorem dX4_isDeepAsleep_4 : decode cX4_isDeepAsleep 4 = .ok (.bipush 122, 2) := by decide +kernel
theorem dX4_isDeepAsleep_6 : decode cX4_isDeepAsleep 6 = .ok (.if_icmp .ne 15, 3) := by decide +kernel
theorem dX4_isDeepAsleep_9 : decode cX4_isDeepAsleep 9 = .ok (.aload_n 0, 1) := by decide +kernel
theorem dX4_isDeepAsleep_10 : decode cX4_isDeepAsleep 10 = .ok (.getfield 26, 3) := by decide +kernel
theorem dX4_isDeepAsleep_13 : decode cX4_isDeepAsleep 13 = .ok (.iconst 2, 1) := by decide +kernel
theorem dX4_isDeepAsleep_14 : decode cX4_isDeepAsleep 14 = .ok (.if_icmp .ne 7, 3) := by decide +kernel
theorem dX4_isDeepAsleep_17 : decode cX4_isDeepAsleep 17 = .ok (.iconst 1, 1) := by decide +kernel
theorem dX4_isDeepAsleep_18 : decode cX4_isDeepAsleep 18 = .ok (.goto 4, 3) := by decide +kernel
theorem dX4_isDeepAsleep_21 : decode cX4_isDeepAsleep 21 = .ok (.iconst 0, 1) := by decide +kernel
theorem dX4_isDeepAsleep_22 : decode cX4_isDeepAsleep 22 = .ok (.ireturn, 1) := by decide +kernel
theorem dX4_energyOfBeat_0 : decode cX4_energyOfBeat 0 = .ok (.aload_n 0, 1) := by decide +kernel
theorem dX4_energyOfBeat_1 : decode cX4_energyOfBeat 1 = .ok (.getfield 18, 3) := by decide +kernel
theorem dX4_energyOfBeat_4 : decode cX4_energyOfBeat 4 = .ok (.bipush 122, 2) := by decide +kernel
theorem dX4_energyOfBeat_6 : decode cX4_energyOfBeat 6 = .ok (.if_icmp .eq 5, 3) := by decide +kernel
theorem dX4_energyOfBeat_9 : decode cX4_energyOfBeat 9 = .ok (.iconst 5, 1) := by decide +kernel
theorem dX4_energyOfBeat_10 : decode cX4_energyOfBeat 10 = .ok (.ireturn, 1) := by decide +kernel
theorem dX4_energyOfBeat_11 : decode cX4_energyOfBeat 11 = .ok (.aload_n 0, 1) := by decide +kernel
theorem dX4_energyOfBeat_12 : decode cX4_energyOfBeat 12 = .ok (.getfield 26, 3) := by decide +kernel
theorem dX4_energyOfBeat_15 : decode cX4_energyOfBeat 15 = .ok (.iconst 2, 1) := by decide +kernel
theorem dX4_energyOfBeat_16 : decode cX4_energyOfBeat 16 = .ok (.if_icmp .ne 7, 3) := by decide +kernel
theorem dX4_energyOfBeat_19 : decode cX4_energyOfBeat 19 = .ok (.iconst 1, 1) := by decide +kernel
theorem dX4_energyOfBeat_20 : decode cX4_energyOfBeat 20 = .ok (.goto 4, 3) := by decide +kernel
theorem dX4_energyOfBeat_23 : decode cX4_energyOfBeat 23 = .ok (.iconst 2, 1) := by decide +kernel
theorem dX4_energyOfBeat_24 : decode cX4_energyOfBeat 24 = .ok (.ireturn, 1) := by decide +kernel
set_option maxRecDepth 20000 in
theorem ggX4_goBeat_X2_first : GoodIn wsX4_goBeat wsX2_first := goodIn_ca (goodIn_r _ [8, 9, 10, 11, 12, 13, 14, 106, 107, 108, 109, 110, 111, 112] (by decide +kernel) (by decide +kernel)) (goodIn_sub (fun _ h => List.mem_cons_of_mem _ (List.mem_append_right _ h)) (by decide +kernel))
set_option maxRecDepth 20000 in
theorem gX4_goBeat_X2_first : GoodIn wsX4_goBeat (wsV RX4 29 RX2 yX2_first wsX2_first) := goodIn_app (goodIn_of _ (by decide +kernel)) ggX4_goBeat_X2_first
set_option maxRecDepth 20000 in
theorem ggX4_goBeat_X4_goIdleBeat : GoodIn wsX4_goBeat wsX4_goIdleBeat := goodIn_r _ [19, 2, 1, 20, 21, 22, 18, 23, 24, 3, 99, 100, 101, 102, 103, 104, 105] (by decide +kernel) (by decide +kernel)
set_option maxRecDepth 20000 in
theorem gX4_goBeat_X4_goIdleBeat : GoodIn wsX4_goBeat (wsV RX4 35 RX4 yX4_goIdleBeat wsX4_goIdleBeat) := goodIn_app (goodIn_of _ (by decide +kernel)) ggX4_goBeat_X4_goIdleBeat
set_option maxRecDepth 20000 in
theorem ggX4_goBeat_X4_goEnteringBeat : GoodIn wsX4_goBeat wsX4_goEnteringBeat := goodIn_ca (goodIn_r _ [28, 24, 29, 3, 30, 31, 1, 32, 33, 34, 7, 35, 36, 37, 38, 39, 11, 40, 13, 41, 42, 43, 44, 45, 46, 47, 48, 49, 50, 51, 52, 53, 54, 55, 56, 57, 58, 59, 60, 61, 62, 63, 64, 65, 66, 67, 68, 69, 70, 71, 72, 73, 99, 100, 101, 102, 103, 104, 105, 106, 107, 108, 109, 110, 111, 112, 113, 114, 115] (by decide +kernel) (by decide +kernel)) (goodIn_sub (fun _ h => List.mem_cons_of_mem _ (List.mem_append_right _ h)) (by decide +kernel))
set_option maxRecDepth 20000 in
theorem gX4_goBeat_X4_goEnteringBeat : GoodIn wsX4_goBeat (wsV RX4 42 RX4 yX4_goEnteringBeat wsX4_goEnteringBeat) := goodIn_app (goodIn_of _ (by decide +kernel)) ggX4_goBeat_X4_goEnteringBeat
set_option maxRecDepth 20000 in
theorem ggX4_goBeat_X4_goHandlerBeat : GoodIn wsX4_goBeat wsX4_goHandlerBeat := goodIn_ca (goodIn_r _ [77, 31, 78, 79, 80, 50, 81, 52, 53, 32, 33, 34, 7, 35, 36, 37, 38, 39, 11, 20, 21, 22, 18, 23, 24, 3, 1, 82, 83, 84, 85, 54, 86, 87, 88, 89, 90, 91, 92, 93, 99, 100, 101, 102, 103, 104, 105, 113, 114, 115, 106, 107, 108, 109, 110, 111, 112] (by decide +kernel) (by decide +kernel)) (goodIn_sub (fun _ h => List.mem_cons_of_mem _ (List.mem_append_right _ h)) (by decide +kernel))
set_option maxRecDepth 20000 in
theorem gX4_goBeat_X4_goHandlerBeat : GoodIn wsX4_goBeat (wsV RX4 46 RX4 yX4_goHandlerBeat wsX4_goHandlerBeat) := goodIn_app (goodIn_of _ (by decide +kernel)) ggX4_goBeat_X4_goHandlerBeat
set_option maxRecDepth 20000 in
theorem ggX4_goBeat_X4_goWaitingBeat : GoodIn wsX4_goBeat wsX4_goWaitingBeat := goodIn_r _ [97, 3, 31, 98, 1, 99, 100, 101, 102, 103, 104, 105, 113, 114, 115] (by decide +kernel) (by decide +kernel)
set_option maxRecDepth 20000 in
theorem gX4_goBeat_X4_goWaitingBeat : GoodIn wsX4_goBeat (wsV RX4 50 RX4 yX4_goWaitingBeat wsX4_goWaitingBeat) := goodIn_app (goodIn_of _ (by decide +kernel)) ggX4_goBeat_X4_goWaitingBeat
theorem dX4_goBeat_0 : decode cX4_goBeat 0 = .ok (.aload_n 1, 1) := by decide +kernel
theorem dX4_goBeat_1 : decode cX4_goBeat 1 = .ok (.invokevirtual 29, 3) := by decide +kernel
theorem dX4_goBeat_4 : decode cX4_goBeat 4 = .ok (.istore_n 2, 1) := by decide +kernel
theorem dX4_goBeat_5 : decode cX4_goBeat 5 = .ok (.aload_n 0, 1) := by decide +kernel
theorem dX4_goBeat_6 : decode cX4_goBeat 6 = .ok (.getfield 18, 3) := by decide +kernel
theorem dX4_goBeat_9 : decode cX4_goBeat 9 = .ok (.lookupswitch 96 #[(101, 81), (104, 89), (105, 43), (122, 50)], 43) := by decide +kernel
theorem dX4_goBeat_52 : decode cX4_goBeat 52 = .ok (.aload_n 0, 1) := by decide +kernel
theorem dX4_goBeat_53 : decode cX4_goBeat 53 = .ok (.iload_n 2, 1) := by decide +kernel
theorem dX4_goBeat_54 : decode cX4_goBeat 54 = .ok (.invokevirtual 35, 3) := by decide +kernel
theorem dX4_goBeat_57 : decode cX4_goBeat 57 = .ok (.iconst (-1), 1) := by decide +kernel
theorem dX4_goBeat_58 : decode cX4_goBeat 58 = .ok (.ireturn, 1) := by decide +kernel
theorem dX4_goBeat_59 : decode cX4_goBeat 59 = .ok (.iload_n 2, 1) := by decide +kernel
theorem dX4_goBeat_60 : decode cX4_goBeat 60 = .ok (.iconst (-1), 1) := by decide +kernel
theorem dX4_goBeat_61 : decode cX4_goBeat 61 = .ok (.if_icmp .eq 27, 3) := by decide +kernel
theorem dX4_goBeat_64 : decode cX4_goBeat 64 = .ok (.aload_n 0, 1) := by decide +kernel
theorem dX4_goBeat_65 : decode cX4_goBeat 65 = .ok (.bipush 117, 2) := by decide +kernel
theorem dX4_goBeat_67 : decode cX4_goBeat 67 = .ok (.putfield 18, 3) := by decide +kernel
theorem dX4_goBeat_70 : decode cX4_goBeat 70 = .ok (.aload_n 0, 1) := by decide +kernel
theorem dX4_goBeat_71 : decode cX4_goBeat 71 = .ok (.aload_n 0, 1) := by decide +kernel
theorem dX4_goBeat_72 : decode cX4_goBeat 72 = .ok (.getfield 26, 3) := by decide +kernel
theorem dX4_goBeat_75 : decode cX4_goBeat 75 = .ok (.iconst 2, 1) := by decide +kernel
theorem dX4_goBeat_76 : decode cX4_goBeat 76 = .ok (.if_icmp .ne 8, 3) := by decide +kernel
theorem dX4_goBeat_79 : decode cX4_goBeat 79 = .ok (.bipush 6, 2) := by decide +kernel
theorem dX4_goBeat_81 : decode cX4_goBeat 81 = .ok (.goto 4, 3) := by decide +kernel
theorem dX4_goBeat_84 : decode cX4_goBeat 84 = .ok (.iconst 1, 1) := by decide +kernel
theorem dX4_goBeat_85 : decode cX4_goBeat 85 = .ok (.putfield 39, 3) := by decide +kernel
theorem dX4_goBeat_88 : decode cX4_goBeat 88 = .ok (.iconst (-1), 1) := by decide +kernel
theorem dX4_goBeat_89 : decode cX4_goBeat 89 = .ok (.ireturn, 1) := by decide +kernel
theorem dX4_goBeat_90 : decode cX4_goBeat 90 = .ok (.aload_n 0, 1) := by decide +kernel
theorem dX4_goBeat_91 : decode cX4_goBeat 91 = .ok (.iload_n 2, 1) := by decide +kernel
theorem dX4_goBeat_92 : decode cX4_goBeat 92 = .ok (.aload_n 1, 1) := by decide +kernel
theorem dX4_goBeat_93 : decode cX4_goBeat 93 = .ok (.invokevirtual 42, 3) := by decide +kernel
theorem dX4_goBeat_96 : decode cX4_goBeat 96 = .ok (.iconst (-1), 1) := by decide +kernel
theorem dX4_goBeat_97 : decode cX4_goBeat 97 = .ok (.ireturn, 1) := by decide +kernel
theorem dX4_goBeat_98 : decode cX4_goBeat 98 = .ok (.aload_n 0, 1) := by decide +kernel
theorem dX4_goBeat_99 : decode cX4_goBeat 99 = .ok (.iload_n 2, 1) := by decide +kernel
theorem dX4_goBeat_100 : decode cX4_goBeat 100 = .ok (.aload_n 1, 1) := by decide +kernel
theorem dX4_goBeat_101 : decode cX4_goBeat 101 = .ok (.invokevirtual 46, 3) := by decide +kernel
theorem dX4_goBeat_104 : decode cX4_goBeat 104 = .ok (.ireturn, 1) := by decide +kernel
theorem dX4_goBeat_105 : decode cX4_goBeat 105 = .ok (.aload_n 0, 1) := by decide +kernel
theorem dX4_goBeat_106 : decode cX4_goBeat 106 = .ok (.invokevirtual 50, 3) := by decide +kernel
theorem dX4_goBeat_109 : decode cX4_goBeat 109 = .ok (.iconst (-1), 1) := by decide +kernel
theorem dX4_goBeat_110 : decode cX4_goBeat 110 = .ok (.ireturn, 1) := by decide +kernel
set_option maxRecDepth 20000 in
theorem ggX4_goIdleBeat_X4_enter : GoodIn wsX4_goIdleBeat wsX4_enter := goodIn_r _ [7, 8, 9, 2, 10, 11, 12, 13, 14, 15, 16] (by decide +kernel) (by decide +kernel)
set_option maxRecDepth 20000 in
theorem gX4_goIdleBeat_X4_enter : GoodIn wsX4_goIdleBeat (wsV RX4 53 RX4 yX4_enter wsX4_enter) := goodIn_app (goodIn_of _ (by decide +kernel)) ggX4_goIdleBeat_X4_enter
theorem dX4_goIdleBeat_0 : decode cX4_goIdleBeat 0 = .ok (.iload_n 1, 1) := by decide +kernel
theorem dX4_goIdleBeat_1 : decode cX4_goIdleBeat 1 = .ok (.iconst (-1), 1) := by decide +kernel
theorem dX4_goIdleBeat_2 : decode cX4_goIdleBeat 2 = .ok (.if_icmp .eq 12, 3) := by decide +kernel
theorem dX4_goIdleBeat_5 : decode cX4_goIdleBeat 5 = .ok (.aload_n 0, 1) := by decide +kernel
theorem dX4_goIdleBeat_6 : decode cX4_goIdleBeat 6 = .ok (.iload_n 1, 1) := by decide +kernel
theorem dX4_goIdleBeat_7 : decode cX4_goIdleBeat 7 = .ok (.iconst 4, 1) := by decide +kernel
theorem dX4_goIdleBeat_8 : decode cX4_goIdleBeat 8 = .ok (.invokevirtual 53, 3) := by decide +kernel
theorem dX4_goIdleBeat_11 : decode cX4_goIdleBeat 11 = .ok (.goto 16, 3) := by decide +kernel
theorem dX4_goIdleBeat_14 : decode cX4_goIdleBeat 14 = .ok (.aload_n 0, 1) := by decide +kernel
theorem dX4_goIdleBeat_15 : decode cX4_goIdleBeat 15 = .ok (.getfield 26, 3) := by decide +kernel
theorem dX4_goIdleBeat_18 : decode cX4_goIdleBeat 18 = .ok (.ifCond .eq 9, 3) := by decide +kernel
theorem dX4_goIdleBeat_21 : decode cX4_goIdleBeat 21 = .ok (.aload_n 0, 1) := by decide +kernel
theorem dX4_goIdleBeat_22 : decode cX4_goIdleBeat 22 = .ok (.bipush 122, 2) := by decide +kernel
theorem dX4_goIdleBeat_24 : decode cX4_goIdleBeat 24 = .ok (.putfield 18, 3) := by decide +kernel
theorem dX4_goIdleBeat_27 : decode cX4_goIdleBeat 27 = .ok (.return_, 1) := by decide +kernel
set_option maxRecDepth 20000 in
theorem ggX4_goEnteringBeat_X2_isMoreUrgent : GoodIn wsX4_goEnteringBeat wsX2_isMoreUrgent := goodIn_ca (goodIn_r _ [11, 12, 13, 14, 10, 15, 16, 59, 60, 61, 62, 63, 64, 65] (by decide +kernel) (by decide +kernel)) (goodIn_sub (fun _ h => List.mem_cons_of_mem _ (List.mem_append_right _ h)) (by decide +kernel))
set_option maxRecDepth 20000 in
theorem gX4_goEnteringBeat_X2_isMoreUrgent : GoodIn wsX4_goEnteringBeat (wsV RX4 57 RX2 yX2_isMoreUrgent wsX2_isMoreUrgent) := goodIn_app (goodIn_of _ (by decide +kernel)) ggX4_goEnteringBeat_X2_isMoreUrgent
set_option maxRecDepth 20000 in
theorem ggX4_goEnteringBeat_X8_withBit : GoodIn wsX4_goEnteringBeat wsX8_withBit := goodIn_r _ [19] (by decide +kernel) (by decide +kernel)
set_option maxRecDepth 20000 in
theorem gX4_goEnteringBeat_X8_withBit_n67 : GoodIn wsX4_goEnteringBeat (wsX8_withBit) := ggX4_goEnteringBeat_X8_withBit
set_option maxRecDepth 20000 in
theorem ggX4_goEnteringBeat_X2_beatsOf : GoodIn wsX4_goEnteringBeat wsX2_beatsOf := goodIn_ca (goodIn_r _ [23, 24, 59, 60, 61, 62, 63, 64, 65] (by decide +kernel) (by decide +kernel)) (goodIn_sub (fun _ h => List.mem_cons_of_mem _ (List.mem_append_right _ h)) (by decide +kernel))
set_option maxRecDepth 20000 in
theorem gX4_goEnteringBeat_X2_beatsOf : GoodIn wsX4_goEnteringBeat (wsV RX4 71 RX2 yX2_beatsOf wsX2_beatsOf) := goodIn_app (goodIn_of _ (by decide +kernel)) ggX4_goEnteringBeat_X2_beatsOf
set_option maxRecDepth 20000 in
theorem ggX4_goEnteringBeat_X5_push : GoodIn wsX4_goEnteringBeat wsX5_push := goodIn_ca (goodIn_r _ [29, 30, 31, 32, 33, 34, 35, 36, 37, 38, 39, 40, 41, 42, 43, 44, 45, 46, 47, 48, 49, 50, 51, 66, 67, 68] (by decide +kernel) (by decide +kernel)) (goodIn_sub (fun _ h => List.mem_cons_of_mem _ (List.mem_append_right _ h)) (by decide +kernel))
set_option maxRecDepth 20000 in
theorem gX4_goEnteringBeat_X5_push : GoodIn wsX4_goEnteringBeat (wsV RX4 75 RX5 yX5_push wsX5_push) := goodIn_app (goodIn_of _ (by decide +kernel)) ggX4_goEnteringBeat_X5_push
theorem dX4_goEnteringBeat_0 : decode cX4_goEnteringBeat 0 = .ok (.aload_n 2, 1) := by decide +kernel
theorem dX4_goEnteringBeat_1 : decode cX4_goEnteringBeat 1 = .ok (.iload_n 1, 1) := by decide +kernel
theorem dX4_goEnteringBeat_2 : decode cX4_goEnteringBeat 2 = .ok (.aload_n 0, 1) := by decide +kernel
theorem dX4_goEnteringBeat_3 : decode cX4_goEnteringBeat 3 = .ok (.getfield 22, 3) := by decide +kernel
theorem dX4_goEnteringBeat_6 : decode cX4_goEnteringBeat 6 = .ok (.invokevirtual 57, 3) := by decide +kernel
theorem dX4_goEnteringBeat_9 : decode cX4_goEnteringBeat 9 = .ok (.ifCond .eq 18, 3) := by decide +kernel
theorem dX4_goEnteringBeat_12 : decode cX4_goEnteringBeat 12 = .ok (.aload_n 0, 1) := by decide +kernel
theorem dX4_goEnteringBeat_13 : decode cX4_goEnteringBeat 13 = .ok (.iload_n 1, 1) := by decide +kernel
theorem dX4_goEnteringBeat_14 : decode cX4_goEnteringBeat 14 = .ok (.putfield 22, 3) := by decide +kernel
theorem dX4_goEnteringBeat_17 : decode cX4_goEnteringBeat 17 = .ok (.aload_n 0, 1) := by decide +kernel
theorem dX4_goEnteringBeat_18 : decode cX4_goEnteringBeat 18 = .ok (.dup, 1) := by decide +kernel
theorem dX4_goEnteringBeat_19 : decode cX4_goEnteringBeat 19 = .ok (.getfield 61, 3) := by decide +kernel
theorem dX4_goEnteringBeat_22 : decode cX4_goEnteringBeat 22 = .ok (.iconst 1, 1) := by decide +kernel
theorem dX4_goEnteringBeat_23 : decode cX4_goEnteringBeat 23 = .ok (.iadd, 1) := by decide +kernel
theorem dX4_goEnteringBeat_24 : decode cX4_goEnteringBeat 24 = .ok (.putfield 61, 3) := by decide +kernel
theorem dX4_goEnteringBeat_27 : decode cX4_goEnteringBeat 27 = .ok (.aload_n 0, 1) := by decide +kernel
theorem dX4_goEnteringBeat_28 : decode cX4_goEnteringBeat 28 = .ok (.dup, 1) := by decide +kernel
theorem dX4_goEnteringBeat_29 : decode cX4_goEnteringBeat 29 = .ok (.getfield 39, 3) := by decide +kernel
theorem dX4_goEnteringBeat_32 : decode cX4_goEnteringBeat 32 = .ok (.iconst 1, 1) := by decide +kernel
theorem dX4_goEnteringBeat_33 : decode cX4_goEnteringBeat 33 = .ok (.isub, 1) := by decide +kernel
theorem dX4_goEnteringBeat_34 : decode cX4_goEnteringBeat 34 = .ok (.putfield 39, 3) := by decide +kernel
theorem dX4_goEnteringBeat_37 : decode cX4_goEnteringBeat 37 = .ok (.aload_n 0, 1) := by decide +kernel
theorem dX4_goEnteringBeat_38 : decode cX4_goEnteringBeat 38 = .ok (.getfield 39, 3) := by decide +kernel
theorem dX4_goEnteringBeat_41 : decode cX4_goEnteringBeat 41 = .ok (.iconst 1, 1) := by decide +kernel
theorem dX4_goEnteringBeat_42 : decode cX4_goEnteringBeat 42 = .ok (.if_icmp .ge 49, 3) := by decide +kernel
theorem dX4_goEnteringBeat_45 : decode cX4_goEnteringBeat 45 = .ok (.aload_n 2, 1) := by decide +kernel
theorem dX4_goEnteringBeat_46 : decode cX4_goEnteringBeat 46 = .ok (.aload_n 2, 1) := by decide +kernel
theorem dX4_goEnteringBeat_47 : decode cX4_goEnteringBeat 47 = .ok (.getfield 64, 3) := by decide +kernel
theorem dX4_goEnteringBeat_50 : decode cX4_goEnteringBeat 50 = .ok (.aload_n 0, 1) := by decide +kernel
theorem dX4_goEnteringBeat_51 : decode cX4_goEnteringBeat 51 = .ok (.getfield 22, 3) := by decide +kernel
theorem dX4_goEnteringBeat_54 : decode cX4_goEnteringBeat 54 = .ok (.iconst 0, 1) := by decide +kernel
theorem dX4_goEnteringBeat_55 : decode cX4_goEnteringBeat 55 = .ok (.invokestatic 67, 3) := by decide +kernel
theorem dX4_goEnteringBeat_58 : decode cX4_goEnteringBeat 58 = .ok (.putfield 64, 3) := by decide +kernel
theorem dX4_goEnteringBeat_61 : decode cX4_goEnteringBeat 61 = .ok (.aload_n 0, 1) := by decide +kernel
theorem dX4_goEnteringBeat_62 : decode cX4_goEnteringBeat 62 = .ok (.getfield 12, 3) := by decide +kernel
theorem dX4_goEnteringBeat_65 : decode cX4_goEnteringBeat 65 = .ok (.aload_n 0, 1) := by decide +kernel
theorem dX4_goEnteringBeat_66 : decode cX4_goEnteringBeat 66 = .ok (.getfield 22, 3) := by decide +kernel
theorem dX4_goEnteringBeat_69 : decode cX4_goEnteringBeat 69 = .ok (.aload_n 2, 1) := by decide +kernel
theorem dX4_goEnteringBeat_70 : decode cX4_goEnteringBeat 70 = .ok (.aload_n 0, 1) := by decide +kernel
theorem dX4_goEnteringBeat_71 : decode cX4_goEnteringBeat 71 = .ok (.getfield 22, 3) := by decide +kernel
theorem dX4_goEnteringBeat_74 : decode cX4_goEnteringBeat 74 = .ok (.invokevirtual 71, 3) := by decide +kernel
theorem dX4_goEnteringBeat_77 : decode cX4_goEnteringBeat 77 = .ok (.invokevirtual 75, 3) := by decide +kernel
theorem dX4_goEnteringBeat_80 : decode cX4_goEnteringBeat 80 = .ok (.aload_n 0, 1) := by decide +kernel
theorem dX4_goEnteringBeat_81 : decode cX4_goEnteringBeat 81 = .ok (.iconst (-1), 1) := by decide +kernel
theorem dX4_goEnteringBeat_82 : decode cX4_goEnteringBeat 82 = .ok (.putfield 22, 3) := by decide +kernel
theorem dX4_goEnteringBeat_85 : decode cX4_goEnteringBeat 85 = .ok (.aload_n 0, 1) := by decide +kernel
theorem dX4_goEnteringBeat_86 : decode cX4_goEnteringBeat 86 = .ok (.bipush 104, 2) := by decide +kernel
theorem dX4_goEnteringBeat_88 : decode cX4_goEnteringBeat 88 = .ok (.putfield 18, 3) := by decide +kernel
theorem dX4_goEnteringBeat_91 : decode cX4_goEnteringBeat 91 = .ok (.return_, 1) := by decide +kernel
set_option maxRecDepth 20000 in
theorem ggX4_goHandlerBeat_X5_topLine : GoodIn wsX4_goHandlerBeat wsX5_topLine := goodIn_ca (goodIn_r _ [6, 7, 8, 47, 48, 49] (by decide +kernel) (by decide +kernel)) (goodIn_sub (fun _ h => List.mem_cons_of_mem _ (List.mem_append_right _ h)) (by decide +kernel))
set_option maxRecDepth 20000 in
theorem gX4_goHandlerBeat_X5_topLine : GoodIn wsX4_goHandlerBeat (wsV RX4 78 RX5 yX5_topLine wsX5_topLine) := goodIn_app (goodIn_of _ (by decide +kernel)) ggX4_goHandlerBeat_X5_topLine
set_option maxRecDepth 20000 in
theorem ggX4_goHandlerBeat_X2_isMoreUrgent : GoodIn wsX4_goHandlerBeat wsX2_isMoreUrgent := goodIn_ca (goodIn_r _ [13, 14, 15, 16, 12, 17, 18, 50, 51, 52, 53, 54, 55, 56] (by decide +kernel) (by decide +kernel)) (goodIn_sub (fun _ h => List.mem_cons_of_mem _ (List.mem_append_right _ h)) (by decide +kernel))
set_option maxRecDepth 20000 in
theorem gX4_goHandlerBeat_X2_isMoreUrgent : GoodIn wsX4_goHandlerBeat (wsV RX4 57 RX2 yX2_isMoreUrgent wsX2_isMoreUrgent) := goodIn_app (goodIn_of _ (by decide +kernel)) ggX4_goHandlerBeat_X2_isMoreUrgent
set_option maxRecDepth 20000 in
theorem ggX4_goHandlerBeat_X4_enter : GoodIn wsX4_goHandlerBeat wsX4_enter := goodIn_r _ [23, 24, 25, 26, 40, 41, 42, 43, 44, 45, 46] (by decide +kernel) (by decide +kernel)
set_option maxRecDepth 20000 in
theorem gX4_goHandlerBeat_X4_enter : GoodIn wsX4_goHandlerBeat (wsV RX4 53 RX4 yX4_enter wsX4_enter) := goodIn_app (goodIn_of _ (by decide +kernel)) ggX4_goHandlerBeat_X4_enter
set_option maxRecDepth 20000 in
theorem ggX4_goHandlerBeat_X5_takeBeats : GoodIn wsX4_goHandlerBeat wsX5_takeBeats := goodIn_ca (goodIn_r _ [30, 7, 31, 47, 48, 49] (by decide +kernel) (by decide +kernel)) (goodIn_sub (fun _ h => List.mem_cons_of_mem _ (List.mem_append_right _ h)) (by decide +kernel))
set_option maxRecDepth 20000 in
theorem gX4_goHandlerBeat_X5_takeBeats : GoodIn wsX4_goHandlerBeat (wsV RX4 81 RX5 yX5_takeBeats wsX5_takeBeats) := goodIn_app (goodIn_of _ (by decide +kernel)) ggX4_goHandlerBeat_X5_takeBeats
set_option maxRecDepth 20000 in
theorem ggX4_goHandlerBeat_X5_topBeats : GoodIn wsX4_goHandlerBeat wsX5_topBeats := goodIn_ca (goodIn_r _ [35, 7, 31, 47, 48, 49] (by decide +kernel) (by decide +kernel)) (goodIn_sub (fun _ h => List.mem_cons_of_mem _ (List.mem_append_right _ h)) (by decide +kernel))
set_option maxRecDepth 20000 in
theorem gX4_goHandlerBeat_X5_topBeats : GoodIn wsX4_goHandlerBeat (wsV RX4 84 RX5 yX5_topBeats wsX5_topBeats) := goodIn_app (goodIn_of _ (by decide +kernel)) ggX4_goHandlerBeat_X5_topBeats
set_option maxRecDepth 20000 in
theorem ggX4_goHandlerBeat_X5_pop : GoodIn wsX4_goHandlerBeat wsX5_pop := goodIn_r _ [39, 7, 47, 48, 49] (by decide +kernel) (by decide +kernel)
set_option maxRecDepth 20000 in
theorem gX4_goHandlerBeat_X5_pop : GoodIn wsX4_goHandlerBeat (wsV RX4 87 RX5 yX5_pop wsX5_pop) := goodIn_app (goodIn_of _ (by decide +kernel)) ggX4_goHandlerBeat_X5_pop
theorem dX4_goHandlerBeat_0 : decode cX4_goHandlerBeat 0 = .ok (.aload_n 0, 1) := by decide +kernel
theorem dX4_goHandlerBeat_1 : decode cX4_goHandlerBeat 1 = .ok (.getfield 12, 3) := by decide +kernel
theorem dX4_goHandlerBeat_4 : decode cX4_goHandlerBeat 4 = .ok (.invokevirtual 78, 3) := by decide +kernel
theorem dX4_goHandlerBeat_7 : decode cX4_goHandlerBeat 7 = .ok (.istore_n 3, 1) := by decide +kernel
theorem dX4_goHandlerBeat_8 : decode cX4_goHandlerBeat 8 = .ok (.aload_n 2, 1) := by decide +kernel
theorem dX4_goHandlerBeat_9 : decode cX4_goHandlerBeat 9 = .ok (.iload_n 1, 1) := by decide +kernel
theorem dX4_goHandlerBeat_10 : decode cX4_goHandlerBeat 10 = .ok (.iload_n 3, 1) := by decide +kernel
theorem dX4_goHandlerBeat_11 : decode cX4_goHandlerBeat 11 = .ok (.invokevirtual 57, 3) := by decide +kernel
theorem dX4_goHandlerBeat_14 : decode cX4_goHandlerBeat 14 = .ok (.ifCond .eq 11, 3) := by decide +kernel
theorem dX4_goHandlerBeat_17 : decode cX4_goHandlerBeat 17 = .ok (.aload_n 0, 1) := by decide +kernel
theorem dX4_goHandlerBeat_18 : decode cX4_goHandlerBeat 18 = .ok (.iload_n 1, 1) := by decide +kernel
theorem dX4_goHandlerBeat_19 : decode cX4_goHandlerBeat 19 = .ok (.iconst 4, 1) := by decide +kernel
theorem dX4_goHandlerBeat_20 : decode cX4_goHandlerBeat 20 = .ok (.invokevirtual 53, 3) := by decide +kernel
theorem dX4_goHandlerBeat_23 : decode cX4_goHandlerBeat 23 = .ok (.iconst (-1), 1) := by decide +kernel
theorem dX4_goHandlerBeat_24 : decode cX4_goHandlerBeat 24 = .ok (.ireturn, 1) := by decide +kernel
theorem dX4_goHandlerBeat_25 : decode cX4_goHandlerBeat 25 = .ok (.aload_n 0, 1) := by decide +kernel
theorem dX4_goHandlerBeat_26 : decode cX4_goHandlerBeat 26 = .ok (.getfield 12, 3) := by decide +kernel
theorem dX4_goHandlerBeat_29 : decode cX4_goHandlerBeat 29 = .ok (.iconst 1, 1) := by decide +kernel
theorem dX4_goHandlerBeat_30 : decode cX4_goHandlerBeat 30 = .ok (.invokevirtual 81, 3) := by decide +kernel
theorem dX4_goHandlerBeat_33 : decode cX4_goHandlerBeat 33 = .ok (.aload_n 0, 1) := by decide +kernel
theorem dX4_goHandlerBeat_34 : decode cX4_goHandlerBeat 34 = .ok (.getfield 12, 3) := by decide +kernel
theorem dX4_goHandlerBeat_37 : decode cX4_goHandlerBeat 37 = .ok (.invokevirtual 84, 3) := by decide +kernel
theorem dX4_goHandlerBeat_40 : decode cX4_goHandlerBeat 40 = .ok (.ifCond .le 5, 3) := by decide +kernel
theorem dX4_goHandlerBeat_43 : decode cX4_goHandlerBeat 43 = .ok (.iconst (-1), 1) := by decide +kernel
theorem dX4_goHandlerBeat_44 : decode cX4_goHandlerBeat 44 = .ok (.ireturn, 1) := by decide +kernel
theorem dX4_goHandlerBeat_45 : decode cX4_goHandlerBeat 45 = .ok (.aload_n 0, 1) := by decide +kernel
theorem dX4_goHandlerBeat_46 : decode cX4_goHandlerBeat 46 = .ok (.getfield 12, 3) := by decide +kernel
theorem dX4_goHandlerBeat_49 : decode cX4_goHandlerBeat 49 = .ok (.invokevirtual 87, 3) := by decide +kernel
theorem dX4_goHandlerBeat_52 : decode cX4_goHandlerBeat 52 = .ok (.iload_n 3, 1) := by decide +kernel
theorem dX4_goHandlerBeat_53 : decode cX4_goHandlerBeat 53 = .ok (.ireturn, 1) := by decide +kernel
theorem dX4_goWaitingBeat_0 : decode cX4_goWaitingBeat 0 = .ok (.aload_n 0, 1) := by decide +kernel
theorem dX4_goWaitingBeat_1 : decode cX4_goWaitingBeat 1 = .ok (.dup, 1) := by decide +kernel
theorem dX4_goWaitingBeat_2 : decode cX4_goWaitingBeat 2 = .ok (.getfield 39, 3) := by decide +kernel
theorem dX4_goWaitingBeat_5 : decode cX4_goWaitingBeat 5 = .ok (.iconst 1, 1) := by decide +kernel
theorem dX4_goWaitingBeat_6 : decode cX4_goWaitingBeat 6 = .ok (.isub, 1) := by decide +kernel
theorem dX4_goWaitingBeat_7 : decode cX4_goWaitingBeat 7 = .ok (.putfield 39, 3) := by decide +kernel
theorem dX4_goWaitingBeat_10 : decode cX4_goWaitingBeat 10 = .ok (.aload_n 0, 1) := by decide +kernel
theorem dX4_goWaitingBeat_11 : decode cX4_goWaitingBeat 11 = .ok (.getfield 39, 3) := by decide +kernel
theorem dX4_goWaitingBeat_14 : decode cX4_goWaitingBeat 14 = .ok (.iconst 1, 1) := by decide +kernel
theorem dX4_goWaitingBeat_15 : decode cX4_goWaitingBeat 15 = .ok (.if_icmp .ge 24, 3) := by decide +kernel
theorem dX4_goWaitingBeat_18 : decode cX4_goWaitingBeat 18 = .ok (.aload_n 0, 1) := by decide +kernel
theorem dX4_goWaitingBeat_19 : decode cX4_goWaitingBeat 19 = .ok (.aload_n 0, 1) := by decide +kernel
theorem dX4_goWaitingBeat_20 : decode cX4_goWaitingBeat 20 = .ok (.getfield 12, 3) := by decide +kernel
theorem dX4_goWaitingBeat_23 : decode cX4_goWaitingBeat 23 = .ok (.getfield 90, 3) := by decide +kernel
theorem dX4_goWaitingBeat_26 : decode cX4_goWaitingBeat 26 = .ok (.ifCond .le 8, 3) := by decide +kernel
theorem dX4_goWaitingBeat_29 : decode cX4_goWaitingBeat 29 = .ok (.bipush 104, 2) := by decide +kernel
theorem dX4_goWaitingBeat_31 : decode cX4_goWaitingBeat 31 = .ok (.goto 5, 3) := by decide +kernel
theorem dX4_goWaitingBeat_34 : decode cX4_goWaitingBeat 34 = .ok (.bipush 105, 2) := by decide +kernel
theorem dX4_goWaitingBeat_36 : decode cX4_goWaitingBeat 36 = .ok (.putfield 18, 3) := by decide +kernel
theorem dX4_goWaitingBeat_39 : decode cX4_goWaitingBeat 39 = .ok (.return_, 1) := by decide +kernel
theorem dX4_enter_0 : decode cX4_enter 0 = .ok (.aload_n 0, 1) := by decide +kernel
theorem dX4_enter_1 : decode cX4_enter 1 = .ok (.iload_n 1, 1) := by decide +kernel
theorem dX4_enter_2 : decode cX4_enter 2 = .ok (.putfield 22, 3) := by decide +kernel
theorem dX4_enter_5 : decode cX4_enter 5 = .ok (.aload_n 0, 1) := by decide +kernel
theorem dX4_enter_6 : decode cX4_enter 6 = .ok (.iload_n 2, 1) := by decide +kernel
theorem dX4_enter_7 : decode cX4_enter 7 = .ok (.putfield 39, 3) := by decide +kernel
theorem dX4_enter_10 : decode cX4_enter 10 = .ok (.aload_n 0, 1) := by decide +kernel
theorem dX4_enter_11 : decode cX4_enter 11 = .ok (.bipush 101, 2) := by decide +kernel
theorem dX4_enter_13 : decode cX4_enter 13 = .ok (.putfield 18, 3) := by decide +kernel
theorem dX4_enter_16 : decode cX4_enter 16 = .ok (.return_, 1) := by decide +kernel
set_option maxRecDepth 20000 in
theorem ggX4_leaveHandler_X2_first : GoodIn wsX4_leaveHandler wsX2_first := goodIn_ca (goodIn_r _ [9, 10, 11, 12, 13, 14, 15, 44, 45, 46, 47, 48, 49, 50] (by decide +kernel) (by decide +kernel)) (goodIn_sub (fun _ h => List.mem_cons_of_mem _ (List.mem_append_right _ h)) (by decide +kernel))
set_option maxRecDepth 20000 in
theorem gX4_leaveHandler_X2_first : GoodIn wsX4_leaveHandler (wsV RX4 29 RX2 yX2_first wsX2_first) := goodIn_app (goodIn_of _ (by decide +kernel)) ggX4_leaveHandler_X2_first
set_option maxRecDepth 20000 in
theorem ggX4_leaveHandler_X5_topLine : GoodIn wsX4_leaveHandler wsX5_topLine := goodIn_ca (goodIn_r _ [20, 21, 22, 51, 52, 53] (by decide +kernel) (by decide +kernel)) (goodIn_sub (fun _ h => List.mem_cons_of_mem _ (List.mem_append_right _ h)) (by decide +kernel))
set_option maxRecDepth 20000 in
theorem gX4_leaveHandler_X5_topLine : GoodIn wsX4_leaveHandler (wsV RX4 78 RX5 yX5_topLine wsX5_topLine) := goodIn_app (goodIn_of _ (by decide +kernel)) ggX4_leaveHandler_X5_topLine
set_option maxRecDepth 20000 in
theorem ggX4_leaveHandler_X2_isMoreUrgent : GoodIn wsX4_leaveHandler wsX2_isMoreUrgent := goodIn_ca (goodIn_r _ [26, 27, 28, 29, 8, 30, 12, 44, 45, 46, 47, 48, 49, 50] (by decide +kernel) (by decide +kernel)) (goodIn_sub (fun _ h => List.mem_cons_of_mem _ (List.mem_append_right _ h)) (by decide +kernel))
set_option maxRecDepth 20000 in
theorem gX4_leaveHandler_X2_isMoreUrgent : GoodIn wsX4_leaveHandler (wsV RX4 57 RX2 yX2_isMoreUrgent wsX2_isMoreUrgent) := goodIn_app (goodIn_of _ (by decide +kernel)) ggX4_leaveHandler_X2_isMoreUrgent
set_option maxRecDepth 20000 in
theorem ggX4_leaveHandler_X4_enter : GoodIn wsX4_leaveHandler wsX4_enter := goodIn_r _ [35, 36, 4, 3, 37, 38, 39, 40, 41, 42, 43] (by decide +kernel) (by decide +kernel)
set_option maxRecDepth 20000 in
theorem gX4_leaveHandler_X4_enter : GoodIn wsX4_leaveHandler (wsV RX4 53 RX4 yX4_enter wsX4_enter) := goodIn_app (goodIn_of _ (by decide +kernel)) ggX4_leaveHandler_X4_enter
theorem dX4_leaveHandler_0 : decode cX4_leaveHandler 0 = .ok (.aload_n 1, 1) := by decide +kernel
theorem dX4_leaveHandler_1 : decode cX4_leaveHandler 1 = .ok (.invokevirtual 29, 3) := by decide +kernel
theorem dX4_leaveHandler_4 : decode cX4_leaveHandler 4 = .ok (.istore_n 2, 1) := by decide +kernel
theorem dX4_leaveHandler_5 : decode cX4_leaveHandler 5 = .ok (.aload_n 1, 1) := by decide +kernel
theorem dX4_leaveHandler_6 : decode cX4_leaveHandler 6 = .ok (.iload_n 2, 1) := by decide +kernel
theorem dX4_leaveHandler_7 : decode cX4_leaveHandler 7 = .ok (.aload_n 0, 1) := by decide +kernel
theorem dX4_leaveHandler_8 : decode cX4_leaveHandler 8 = .ok (.getfield 12, 3) := by decide +kernel
theorem dX4_leaveHandler_11 : decode cX4_leaveHandler 11 = .ok (.invokevirtual 78, 3) := by decide +kernel
theorem dX4_leaveHandler_14 : decode cX4_leaveHandler 14 = .ok (.invokevirtual 57, 3) := by decide +kernel
theorem dX4_leaveHandler_17 : decode cX4_leaveHandler 17 = .ok (.ifCond .eq 22, 3) := by decide +kernel
theorem dX4_leaveHandler_20 : decode cX4_leaveHandler 20 = .ok (.aload_n 0, 1) := by decide +kernel
theorem dX4_leaveHandler_21 : decode cX4_leaveHandler 21 = .ok (.iload_n 2, 1) := by decide +kernel
theorem dX4_leaveHandler_22 : decode cX4_leaveHandler 22 = .ok (.iconst 2, 1) := by decide +kernel
theorem dX4_leaveHandler_23 : decode cX4_leaveHandler 23 = .ok (.invokevirtual 53, 3) := by decide +kernel
theorem dX4_leaveHandler_26 : decode cX4_leaveHandler 26 = .ok (.aload_n 0, 1) := by decide +kernel
theorem dX4_leaveHandler_27 : decode cX4_leaveHandler 27 = .ok (.dup, 1) := by decide +kernel
theorem dX4_leaveHandler_28 : decode cX4_leaveHandler 28 = .ok (.getfield 93, 3) := by decide +kernel
theorem dX4_leaveHandler_31 : decode cX4_leaveHandler 31 = .ok (.iconst 1, 1) := by decide +kernel
theorem dX4_leaveHandler_32 : decode cX4_leaveHandler 32 = .ok (.iadd, 1) := by decide +kernel
theorem dX4_leaveHandler_33 : decode cX4_leaveHandler 33 = .ok (.putfield 93, 3) := by decide +kernel
theorem dX4_leaveHandler_36 : decode cX4_leaveHandler 36 = .ok (.goto 14, 3) := by decide +kernel
theorem dX4_leaveHandler_39 : decode cX4_leaveHandler 39 = .ok (.aload_n 0, 1) := by decide +kernel
theorem dX4_leaveHandler_40 : decode cX4_leaveHandler 40 = .ok (.bipush 120, 2) := by decide +kernel
theorem dX4_leaveHandler_42 : decode cX4_leaveHandler 42 = .ok (.putfield 18, 3) := by decide +kernel
theorem dX4_leaveHandler_45 : decode cX4_leaveHandler 45 = .ok (.aload_n 0, 1) := by decide +kernel
theorem dX4_leaveHandler_46 : decode cX4_leaveHandler 46 = .ok (.iconst 3, 1) := by decide +kernel
theorem dX4_leaveHandler_47 : decode cX4_leaveHandler 47 = .ok (.putfield 39, 3) := by decide +kernel
theorem dX4_leaveHandler_50 : decode cX4_leaveHandler 50 = .ok (.return_, 1) := by decide +kernel
set_option maxRecDepth 20000 in
theorem ggX4_beatsToEvent_X2_first : GoodIn wsX4_beatsToEvent wsX2_first := goodIn_ca (goodIn_r _ [11, 12, 13, 14, 15, 16, 17, 45, 46, 47, 48, 49, 50, 51] (by decide +kernel) (by decide +kernel)) (goodIn_sub (fun _ h => List.mem_cons_of_mem _ (List.mem_append_right _ h)) (by decide +kernel))
set_option maxRecDepth 20000 in
theorem gX4_beatsToEvent_X2_first : GoodIn wsX4_beatsToEvent (wsV RX4 29 RX2 yX2_first wsX2_first) := goodIn_app (goodIn_of _ (by decide +kernel)) ggX4_beatsToEvent_X2_first
set_option maxRecDepth 20000 in
theorem ggX4_beatsToEvent_X2_isMoreUrgent : GoodIn wsX4_beatsToEvent wsX2_isMoreUrgent := goodIn_ca (goodIn_r _ [21, 22, 23, 24, 10, 25, 14, 45, 46, 47, 48, 49, 50, 51] (by decide +kernel) (by decide +kernel)) (goodIn_sub (fun _ h => List.mem_cons_of_mem _ (List.mem_append_right _ h)) (by decide +kernel))
set_option maxRecDepth 20000 in
theorem gX4_beatsToEvent_X2_isMoreUrgent : GoodIn wsX4_beatsToEvent (wsV RX4 57 RX2 yX2_isMoreUrgent wsX2_isMoreUrgent) := goodIn_app (goodIn_of _ (by decide +kernel)) ggX4_beatsToEvent_X2_isMoreUrgent
set_option maxRecDepth 20000 in
theorem ggX4_beatsToEvent_X5_topLine : GoodIn wsX4_beatsToEvent wsX5_topLine := goodIn_ca (goodIn_r _ [30, 31, 32, 52, 53, 54] (by decide +kernel) (by decide +kernel)) (goodIn_sub (fun _ h => List.mem_cons_of_mem _ (List.mem_append_right _ h)) (by decide +kernel))
set_option maxRecDepth 20000 in
theorem gX4_beatsToEvent_X5_topLine : GoodIn wsX4_beatsToEvent (wsV RX4 78 RX5 yX5_topLine wsX5_topLine) := goodIn_app (goodIn_of _ (by decide +kernel)) ggX4_beatsToEvent_X5_topLine
set_option maxRecDepth 20000 in
theorem ggX4_beatsToEvent_X5_topBeats : GoodIn wsX4_beatsToEvent wsX5_topBeats := goodIn_ca (goodIn_r _ [36, 31, 37, 52, 53, 54] (by decide +kernel) (by decide +kernel)) (goodIn_sub (fun _ h => List.mem_cons_of_mem _ (List.mem_append_right _ h)) (by decide +kernel))
set_option maxRecDepth 20000 in
theorem gX4_beatsToEvent_X5_topBeats : GoodIn wsX4_beatsToEvent (wsV RX4 84 RX5 yX5_topBeats wsX5_topBeats) := goodIn_app (goodIn_of _ (by decide +kernel)) ggX4_beatsToEvent_X5_topBeats
theorem dX4_beatsToEvent_0 : decode cX4_beatsToEvent 0 = .ok (.aload_n 1, 1) := by decide +kernel
theorem dX4_beatsToEvent_1 : decode cX4_beatsToEvent 1 = .ok (.invokevirtual 29, 3) := by decide +kernel
theorem dX4_beatsToEvent_4 : decode cX4_beatsToEvent 4 = .ok (.istore_n 2, 1) := by decide +kernel
theorem dX4_beatsToEvent_5 : decode cX4_beatsToEvent 5 = .ok (.aload_n 0, 1) := by decide +kernel
theorem dX4_beatsToEvent_6 : decode cX4_beatsToEvent 6 = .ok (.getfield 18, 3) := by decide +kernel
theorem dX4_beatsToEvent_9 : decode cX4_beatsToEvent 9 = .ok (.lookupswitch 122 #[(101, 74), (104, 95), (105, 43), (122, 62)], 43) := by decide +kernel
theorem dX4_beatsToEvent_52 : decode cX4_beatsToEvent 52 = .ok (.iload_n 2, 1) := by decide +kernel
theorem dX4_beatsToEvent_53 : decode cX4_beatsToEvent 53 = .ok (.iconst (-1), 1) := by decide +kernel
theorem dX4_beatsToEvent_54 : decode cX4_beatsToEvent 54 = .ok (.if_icmp .ne 10, 3) := by decide +kernel
theorem dX4_beatsToEvent_57 : decode cX4_beatsToEvent 57 = .ok (.aload_n 0, 1) := by decide +kernel
theorem dX4_beatsToEvent_58 : decode cX4_beatsToEvent 58 = .ok (.getfield 26, 3) := by decide +kernel
theorem dX4_beatsToEvent_61 : decode cX4_beatsToEvent 61 = .ok (.ifCond .eq 7, 3) := by decide +kernel
theorem dX4_beatsToEvent_64 : decode cX4_beatsToEvent 64 = .ok (.iconst 1, 1) := by decide +kernel
theorem dX4_beatsToEvent_65 : decode cX4_beatsToEvent 65 = .ok (.goto 5, 3) := by decide +kernel
theorem dX4_beatsToEvent_68 : decode cX4_beatsToEvent 68 = .ok (.ldc 96, 2) := by decide +kernel
theorem dX4_beatsToEvent_70 : decode cX4_beatsToEvent 70 = .ok (.ireturn, 1) := by decide +kernel
theorem dX4_beatsToEvent_71 : decode cX4_beatsToEvent 71 = .ok (.iload_n 2, 1) := by decide +kernel
theorem dX4_beatsToEvent_72 : decode cX4_beatsToEvent 72 = .ok (.iconst (-1), 1) := by decide +kernel
theorem dX4_beatsToEvent_73 : decode cX4_beatsToEvent 73 = .ok (.if_icmp .eq 7, 3) := by decide +kernel
theorem dX4_beatsToEvent_76 : decode cX4_beatsToEvent 76 = .ok (.iconst 1, 1) := by decide +kernel
theorem dX4_beatsToEvent_77 : decode cX4_beatsToEvent 77 = .ok (.goto 5, 3) := by decide +kernel
theorem dX4_beatsToEvent_80 : decode cX4_beatsToEvent 80 = .ok (.ldc 96, 2) := by decide +kernel
theorem dX4_beatsToEvent_82 : decode cX4_beatsToEvent 82 = .ok (.ireturn, 1) := by decide +kernel
theorem dX4_beatsToEvent_83 : decode cX4_beatsToEvent 83 = .ok (.aload_n 1, 1) := by decide +kernel
theorem dX4_beatsToEvent_84 : decode cX4_beatsToEvent 84 = .ok (.iload_n 2, 1) := by decide +kernel
theorem dX4_beatsToEvent_85 : decode cX4_beatsToEvent 85 = .ok (.aload_n 0, 1) := by decide +kernel
theorem dX4_beatsToEvent_86 : decode cX4_beatsToEvent 86 = .ok (.getfield 22, 3) := by decide +kernel
theorem dX4_beatsToEvent_89 : decode cX4_beatsToEvent 89 = .ok (.invokevirtual 57, 3) := by decide +kernel
theorem dX4_beatsToEvent_92 : decode cX4_beatsToEvent 92 = .ok (.ifCond .eq 7, 3) := by decide +kernel
theorem dX4_beatsToEvent_95 : decode cX4_beatsToEvent 95 = .ok (.iconst 1, 1) := by decide +kernel
theorem dX4_beatsToEvent_96 : decode cX4_beatsToEvent 96 = .ok (.goto 7, 3) := by decide +kernel
theorem dX4_beatsToEvent_99 : decode cX4_beatsToEvent 99 = .ok (.aload_n 0, 1) := by decide +kernel
theorem dX4_beatsToEvent_100 : decode cX4_beatsToEvent 100 = .ok (.getfield 39, 3) := by decide +kernel
theorem dX4_beatsToEvent_103 : decode cX4_beatsToEvent 103 = .ok (.ireturn, 1) := by decide +kernel
theorem dX4_beatsToEvent_104 : decode cX4_beatsToEvent 104 = .ok (.aload_n 1, 1) := by decide +kernel
theorem dX4_beatsToEvent_105 : decode cX4_beatsToEvent 105 = .ok (.iload_n 2, 1) := by decide +kernel
theorem dX4_beatsToEvent_106 : decode cX4_beatsToEvent 106 = .ok (.aload_n 0, 1) := by decide +kernel
theorem dX4_beatsToEvent_107 : decode cX4_beatsToEvent 107 = .ok (.getfield 12, 3) := by decide +kernel
theorem dX4_beatsToEvent_110 : decode cX4_beatsToEvent 110 = .ok (.invokevirtual 78, 3) := by decide +kernel
theorem dX4_beatsToEvent_113 : decode cX4_beatsToEvent 113 = .ok (.invokevirtual 57, 3) := by decide +kernel
theorem dX4_beatsToEvent_116 : decode cX4_beatsToEvent 116 = .ok (.ifCond .eq 7, 3) := by decide +kernel
theorem dX4_beatsToEvent_119 : decode cX4_beatsToEvent 119 = .ok (.iconst 1, 1) := by decide +kernel
theorem dX4_beatsToEvent_120 : decode cX4_beatsToEvent 120 = .ok (.goto 10, 3) := by decide +kernel
theorem dX4_beatsToEvent_123 : decode cX4_beatsToEvent 123 = .ok (.aload_n 0, 1) := by decide +kernel
theorem dX4_beatsToEvent_124 : decode cX4_beatsToEvent 124 = .ok (.getfield 12, 3) := by decide +kernel
theorem dX4_beatsToEvent_127 : decode cX4_beatsToEvent 127 = .ok (.invokevirtual 84, 3) := by decide +kernel
theorem dX4_beatsToEvent_130 : decode cX4_beatsToEvent 130 = .ok (.ireturn, 1) := by decide +kernel
theorem dX4_beatsToEvent_131 : decode cX4_beatsToEvent 131 = .ok (.aload_n 0, 1) := by decide +kernel
theorem dX4_beatsToEvent_132 : decode cX4_beatsToEvent 132 = .ok (.getfield 39, 3) := by decide +kernel
theorem dX4_beatsToEvent_135 : decode cX4_beatsToEvent 135 = .ok (.ireturn, 1) := by decide +kernel
set_option maxRecDepth 20000 in
theorem ggX4_skip_X5_takeBeats : GoodIn wsX4_skip wsX5_takeBeats := goodIn_ca (goodIn_r _ [8, 9, 10, 18, 19, 20] (by decide +kernel) (by decide +kernel)) (goodIn_sub (fun _ h => List.mem_cons_of_mem _ (List.mem_append_right _ h)) (by decide +kernel))
set_option maxRecDepth 20000 in
theorem gX4_skip_X5_takeBeats : GoodIn wsX4_skip (wsV RX4 81 RX5 yX5_takeBeats wsX5_takeBeats) := goodIn_app (goodIn_of _ (by decide +kernel)) ggX4_skip_X5_takeBeats
theorem dX4_skip_0 : decode cX4_skip 0 = .ok (.aload_n 0, 1) := by decide +kernel
theorem dX4_skip_1 : decode cX4_skip 1 = .ok (.getfield 18, 3) := by decide +kernel
theorem dX4_skip_4 : decode cX4_skip 4 = .ok (.bipush 104, 2) := by decide +kernel
theorem dX4_skip_6 : decode cX4_skip 6 = .ok (.if_icmp .ne 14, 3) := by decide +kernel
theorem dX4_skip_9 : decode cX4_skip 9 = .ok (.aload_n 0, 1) := by decide +kernel
theorem dX4_skip_10 : decode cX4_skip 10 = .ok (.getfield 12, 3) := by decide +kernel
theorem dX4_skip_13 : decode cX4_skip 13 = .ok (.iload_n 1, 1) := by decide +kernel
theorem dX4_skip_14 : decode cX4_skip 14 = .ok (.invokevirtual 81, 3) := by decide +kernel
theorem dX4_skip_17 : decode cX4_skip 17 = .ok (.goto 31, 3) := by decide +kernel
theorem dX4_skip_20 : decode cX4_skip 20 = .ok (.aload_n 0, 1) := by decide +kernel
theorem dX4_skip_21 : decode cX4_skip 21 = .ok (.getfield 18, 3) := by decide +kernel
theorem dX4_skip_24 : decode cX4_skip 24 = .ok (.bipush 105, 2) := by decide +kernel
theorem dX4_skip_26 : decode cX4_skip 26 = .ok (.if_icmp .eq 22, 3) := by decide +kernel
theorem dX4_skip_29 : decode cX4_skip 29 = .ok (.aload_n 0, 1) := by decide +kernel
theorem dX4_skip_30 : decode cX4_skip 30 = .ok (.getfield 18, 3) := by decide +kernel
theorem dX4_skip_33 : decode cX4_skip 33 = .ok (.bipush 122, 2) := by decide +kernel
theorem dX4_skip_35 : decode cX4_skip 35 = .ok (.if_icmp .eq 13, 3) := by decide +kernel
theorem dX4_skip_38 : decode cX4_skip 38 = .ok (.aload_n 0, 1) := by decide +kernel
theorem dX4_skip_39 : decode cX4_skip 39 = .ok (.dup, 1) := by decide +kernel
theorem dX4_skip_40 : decode cX4_skip 40 = .ok (.getfield 39, 3) := by decide +kernel
theorem dX4_skip_43 : decode cX4_skip 43 = .ok (.iload_n 1, 1) := by decide +kernel
theorem dX4_skip_44 : decode cX4_skip 44 = .ok (.isub, 1) := by decide +kernel
theorem dX4_skip_45 : decode cX4_skip 45 = .ok (.putfield 39, 3) := by decide +kernel
theorem dX4_skip_48 : decode cX4_skip 48 = .ok (.return_, 1) := by decide +kernel
theorem dX4_reset_0 : decode cX4_reset 0 = .ok (.aload_n 0, 1) := by decide +kernel
theorem dX4_reset_1 : decode cX4_reset 1 = .ok (.getfield 12, 3) := by decide +kernel
theorem dX4_reset_4 : decode cX4_reset 4 = .ok (.iconst 0, 1) := by decide +kernel
theorem dX4_reset_5 : decode cX4_reset 5 = .ok (.putfield 90, 3) := by decide +kernel
theorem dX4_reset_8 : decode cX4_reset 8 = .ok (.aload_n 0, 1) := by decide +kernel
theorem dX4_reset_9 : decode cX4_reset 9 = .ok (.bipush 105, 2) := by decide +kernel
theorem dX4_reset_11 : decode cX4_reset 11 = .ok (.putfield 18, 3) := by decide +kernel
theorem dX4_reset_14 : decode cX4_reset 14 = .ok (.aload_n 0, 1) := by decide +kernel
theorem dX4_reset_15 : decode cX4_reset 15 = .ok (.iconst 0, 1) := by decide +kernel
theorem dX4_reset_16 : decode cX4_reset 16 = .ok (.putfield 39, 3) := by decide +kernel
theorem dX4_reset_19 : decode cX4_reset 19 = .ok (.aload_n 0, 1) := by decide +kernel
theorem dX4_reset_20 : decode cX4_reset 20 = .ok (.iconst (-1), 1) := by decide +kernel
theorem dX4_reset_21 : decode cX4_reset 21 = .ok (.putfield 22, 3) := by decide +kernel
theorem dX4_reset_24 : decode cX4_reset 24 = .ok (.return_, 1) := by decide +kernel
set_option maxRecDepth 20000 in
theorem ggX4_copyFrom_X5_copyFrom : GoodIn wsX4_copyFrom wsX5_copyFrom := goodIn_r _ [12, 13, 14, 15, 16, 17, 18, 19, 20, 21, 22, 23, 24, 25, 26, 27, 35, 36, 37] (by decide +kernel) (by decide +kernel)
set_option maxRecDepth 20000 in
theorem gX4_copyFrom_X5_copyFrom : GoodIn wsX4_copyFrom (wsV RX4 97 RX5 yX5_copyFrom wsX5_copyFrom) := goodIn_app (goodIn_of _ (by decide +kernel)) ggX4_copyFrom_X5_copyFrom
theorem dX4_copyFrom_0 : decode cX4_copyFrom 0 = .ok (.aload_n 0, 1) := by decide +kernel
theorem dX4_copyFrom_1 : decode cX4_copyFrom 1 = .ok (.getfield 12, 3) := by decide +kernel
theorem dX4_copyFrom_4 : decode cX4_copyFrom 4 = .ok (.aload_n 1, 1) := by decide +kernel
theorem dX4_copyFrom_5 : decode cX4_copyFrom 5 = .ok (.getfield 12, 3) := by decide +kernel
theorem dX4_copyFrom_8 : decode cX4_copyFrom 8 = .ok (.invokevirtual 97, 3) := by decide +kernel
theorem dX4_copyFrom_11 : decode cX4_copyFrom 11 = .ok (.aload_n 0, 1) := by decide +kernel
theorem dX4_copyFrom_12 : decode cX4_copyFrom 12 = .ok (.aload_n 1, 1) := by decide +kernel
theorem dX4_copyFrom_13 : decode cX4_copyFrom 13 = .ok (.getfield 18, 3) := by decide +kernel
theorem dX4_copyFrom_16 : decode cX4_copyFrom 16 = .ok (.putfield 18, 3) := by decide +kernel
theorem dX4_copyFrom_19 : decode cX4_copyFrom 19 = .ok (.aload_n 0, 1) := by decide +kernel
theorem dX4_copyFrom_20 : decode cX4_copyFrom 20 = .ok (.aload_n 1, 1) := by decide +kernel
theorem dX4_copyFrom_21 : decode cX4_copyFrom 21 = .ok (.getfield 39, 3) := by decide +kernel
theorem dX4_copyFrom_24 : decode cX4_copyFrom 24 = .ok (.putfield 39, 3) := by decide +kernel
theorem dX4_copyFrom_27 : decode cX4_copyFrom 27 = .ok (.aload_n 0, 1) := by decide +kernel
theorem dX4_copyFrom_28 : decode cX4_copyFrom 28 = .ok (.aload_n 1, 1) := by decide +kernel
theorem dX4_copyFrom_29 : decode cX4_copyFrom 29 = .ok (.getfield 22, 3) := by decide +kernel
theorem dX4_copyFrom_32 : decode cX4_copyFrom 32 = .ok (.putfield 22, 3) := by decide +kernel
theorem dX4_copyFrom_35 : decode cX4_copyFrom 35 = .ok (.aload_n 0, 1) := by decide +kernel
theorem dX4_copyFrom_36 : decode cX4_copyFrom 36 = .ok (.aload_n 1, 1) := by decide +kernel
theorem dX4_copyFrom_37 : decode cX4_copyFrom 37 = .ok (.getfield 26, 3) := by decide +kernel
theorem dX4_copyFrom_40 : decode cX4_copyFrom 40 = .ok (.putfield 26, 3) := by decide +kernel
theorem dX4_copyFrom_43 : decode cX4_copyFrom 43 = .ok (.aload_n 0, 1) := by decide +kernel
theorem dX4_copyFrom_44 : decode cX4_copyFrom 44 = .ok (.aload_n 1, 1) := by decide +kernel
theorem dX4_copyFrom_45 : decode cX4_copyFrom 45 = .ok (.getfield 61, 3) := by decide +kernel
theorem dX4_copyFrom_48 : decode cX4_copyFrom 48 = .ok (.putfield 61, 3) := by decide +kernel
theorem dX4_copyFrom_51 : decode cX4_copyFrom 51 = .ok (.aload_n 0, 1) := by decide +kernel
theorem dX4_copyFrom_52 : decode cX4_copyFrom 52 = .ok (.aload_n 1, 1) := by decide +kernel
theorem dX4_copyFrom_53 : decode cX4_copyFrom 53 = .ok (.getfield 93, 3) := by decide +kernel
theorem dX4_copyFrom_56 : decode cX4_copyFrom 56 = .ok (.putfield 93, 3) := by decide +kernel
theorem dX4_copyFrom_59 : decode cX4_copyFrom 59 = .ok (.return_, 1) := by decide +kernel
set_option maxRecDepth 20000 in
theorem ggX4_isSameAs_X5_isSameAs : GoodIn wsX4_isSameAs wsX5_isSameAs := goodIn_ca (goodIn_r _ [12, 13, 14, 15, 16, 17, 18, 26, 27, 28] (by decide +kernel) (by decide +kernel)) (goodIn_sub (fun _ h => List.mem_cons_of_mem _ (List.mem_append_right _ h)) (by decide +kernel))
set_option maxRecDepth 20000 in
theorem gX4_isSameAs_X5_isSameAs : GoodIn wsX4_isSameAs (wsV RX4 101 RX5 yX5_isSameAs wsX5_isSameAs) := goodIn_app (goodIn_of _ (by decide +kernel)) ggX4_isSameAs_X5_isSameAs
theorem dX4_isSameAs_0 : decode cX4_isSameAs 0 = .ok (.aload_n 0, 1) := by decide +kernel
theorem dX4_isSameAs_1 : decode cX4_isSameAs 1 = .ok (.getfield 12, 3) := by decide +kernel
theorem dX4_isSameAs_4 : decode cX4_isSameAs 4 = .ok (.aload_n 1, 1) := by decide +kernel
theorem dX4_isSameAs_5 : decode cX4_isSameAs 5 = .ok (.getfield 12, 3) := by decide +kernel
theorem dX4_isSameAs_8 : decode cX4_isSameAs 8 = .ok (.invokevirtual 101, 3) := by decide +kernel
theorem dX4_isSameAs_11 : decode cX4_isSameAs 11 = .ok (.ifCond .eq 73, 3) := by decide +kernel
theorem dX4_isSameAs_14 : decode cX4_isSameAs 14 = .ok (.aload_n 0, 1) := by decide +kernel
theorem dX4_isSameAs_15 : decode cX4_isSameAs 15 = .ok (.getfield 18, 3) := by decide +kernel
theorem dX4_isSameAs_18 : decode cX4_isSameAs 18 = .ok (.aload_n 1, 1) := by decide +kernel
theorem dX4_isSameAs_19 : decode cX4_isSameAs 19 = .ok (.getfield 18, 3) := by decide +kernel
theorem dX4_isSameAs_22 : decode cX4_isSameAs 22 = .ok (.if_icmp .ne 62, 3) := by decide +kernel
theorem dX4_isSameAs_25 : decode cX4_isSameAs 25 = .ok (.aload_n 0, 1) := by decide +kernel
theorem dX4_isSameAs_26 : decode cX4_isSameAs 26 = .ok (.getfield 39, 3) := by decide +kernel
theorem dX4_isSameAs_29 : decode cX4_isSameAs 29 = .ok (.aload_n 1, 1) := by decide +kernel
theorem dX4_isSameAs_30 : decode cX4_isSameAs 30 = .ok (.getfield 39, 3) := by decide +kernel
theorem dX4_isSameAs_33 : decode cX4_isSameAs 33 = .ok (.if_icmp .ne 51, 3) := by decide +kernel
theorem dX4_isSameAs_36 : decode cX4_isSameAs 36 = .ok (.aload_n 0, 1) := by decide +kernel
theorem dX4_isSameAs_37 : decode cX4_isSameAs 37 = .ok (.getfield 22, 3) := by decide +kernel
theorem dX4_isSameAs_40 : decode cX4_isSameAs 40 = .ok (.aload_n 1, 1) := by decide +kernel
theorem dX4_isSameAs_41 : decode cX4_isSameAs 41 = .ok (.getfield 22, 3) := by decide +kernel
theorem dX4_isSameAs_44 : decode cX4_isSameAs 44 = .ok (.if_icmp .ne 40, 3) := by decide +kernel
theorem dX4_isSameAs_47 : decode cX4_isSameAs 47 = .ok (.aload_n 0, 1) := by decide +kernel
theorem dX4_isSameAs_48 : decode cX4_isSameAs 48 = .ok (.getfield 26, 3) := by decide +kernel
theorem dX4_isSameAs_51 : decode cX4_isSameAs 51 = .ok (.aload_n 1, 1) := by decide +kernel
theorem dX4_isSameAs_52 : decode cX4_isSameAs 52 = .ok (.getfield 26, 3) := by decide +kernel
theorem dX4_isSameAs_55 : decode cX4_isSameAs 55 = .ok (.if_icmp .ne 29, 3) := by decide +kernel
theorem dX4_isSameAs_58 : decode cX4_isSameAs 58 = .ok (.aload_n 0, 1) := by decide +kernel
theorem dX4_isSameAs_59 : decode cX4_isSameAs 59 = .ok (.getfield 61, 3) := by decide +kernel
theorem dX4_isSameAs_62 : decode cX4_isSameAs 62 = .ok (.aload_n 1, 1) := by decide +kernel
theorem dX4_isSameAs_63 : decode cX4_isSameAs 63 = .ok (.getfield 61, 3) := by decide +kernel
theorem dX4_isSameAs_66 : decode cX4_isSameAs 66 = .ok (.if_icmp .ne 18, 3) := by decide +kernel
theorem dX4_isSameAs_69 : decode cX4_isSameAs 69 = .ok (.aload_n 0, 1) := by decide +kernel
theorem dX4_isSameAs_70 : decode cX4_isSameAs 70 = .ok (.getfield 93, 3) := by decide +kernel
theorem dX4_isSameAs_73 : decode cX4_isSameAs 73 = .ok (.aload_n 1, 1) := by decide +kernel
theorem dX4_isSameAs_74 : decode cX4_isSameAs 74 = .ok (.getfield 93, 3) := by decide +kernel
theorem dX4_isSameAs_77 : decode cX4_isSameAs 77 = .ok (.if_icmp .ne 7, 3) := by decide +kernel
theorem dX4_isSameAs_80 : decode cX4_isSameAs 80 = .ok (.iconst 1, 1) := by decide +kernel
theorem dX4_isSameAs_81 : decode cX4_isSameAs 81 = .ok (.goto 4, 3) := by decide +kernel
theorem dX4_isSameAs_84 : decode cX4_isSameAs 84 = .ok (.iconst 0, 1) := by decide +kernel
theorem dX4_isSameAs_85 : decode cX4_isSameAs 85 = .ok (.ireturn, 1) := by decide +kernel
theorem dX5_init_0 : decode cX5_init 0 = .ok (.aload_n 0, 1) := by decide +kernel
theorem dX5_init_1 : decode cX5_init 1 = .ok (.invokespecial 3, 3) := by decide +kernel
theorem dX5_init_4 : decode cX5_init 4 = .ok (.aload_n 0, 1) := by decide +kernel
theorem dX5_init_5 : decode cX5_init 5 = .ok (.bipush 8, 2) := by decide +kernel
theorem dX5_init_7 : decode cX5_init 7 = .ok (.newarray .int, 2) := by decide +kernel
theorem dX5_init_9 : decode cX5_init 9 = .ok (.putfield 9, 3) := by decide +kernel
theorem dX5_init_12 : decode cX5_init 12 = .ok (.aload_n 0, 1) := by decide +kernel
theorem dX5_init_13 : decode cX5_init 13 = .ok (.bipush 8, 2) := by decide +kernel
theorem dX5_init_15 : decode cX5_init 15 = .ok (.newarray .int, 2) := by decide +kernel
theorem dX5_init_17 : decode cX5_init 17 = .ok (.putfield 15, 3) := by decide +kernel
theorem dX5_init_20 : decode cX5_init 20 = .ok (.return_, 1) := by decide +kernel
set_option maxRecDepth 20000 in
theorem ggX5_push_J7_copyOf_59c91 : GoodIn wsX5_push wsJ7_copyOf_59c91 := goodIn_r _ [7, 8, 9, 10, 11, 12, 13, 14, 15, 16, 17, 18, 19, 20, 21, 22] (by decide +kernel) (by decide +kernel)
set_option maxRecDepth 20000 in
theorem gX5_push_J7_copyOf_59c91 : GoodIn wsX5_push (va_wsS RX5 22 yJ7_copyOf_59c91 wsJ7_copyOf_59c91) := goodIn_app (goodIn_of _ (by decide +kernel)) ggX5_push_J7_copyOf_59c91
theorem dX5_push_0 : decode cX5_push 0 = .ok (.aload_n 0, 1) := by decide +kernel
theorem dX5_push_1 : decode cX5_push 1 = .ok (.getfield 18, 3) := by decide +kernel
theorem dX5_push_4 : decode cX5_push 4 = .ok (.aload_n 0, 1) := by decide +kernel
theorem dX5_push_5 : decode cX5_push 5 = .ok (.getfield 9, 3) := by decide +kernel
theorem dX5_push_8 : decode cX5_push 8 = .ok (.arraylength, 1) := by decide +kernel
theorem dX5_push_9 : decode cX5_push 9 = .ok (.if_icmp .lt 53, 3) := by decide +kernel
theorem dX5_push_12 : decode cX5_push 12 = .ok (.aload_n 0, 1) := by decide +kernel
theorem dX5_push_13 : decode cX5_push 13 = .ok (.getfield 18, 3) := by decide +kernel
theorem dX5_push_16 : decode cX5_push 16 = .ok (.sipush 2100, 3) := by decide +kernel
theorem dX5_push_19 : decode cX5_push 19 = .ok (.if_icmp .ge 43, 3) := by decide +kernel
theorem dX5_push_22 : decode cX5_push 22 = .ok (.aload_n 0, 1) := by decide +kernel
theorem dX5_push_23 : decode cX5_push 23 = .ok (.aload_n 0, 1) := by decide +kernel
theorem dX5_push_24 : decode cX5_push 24 = .ok (.getfield 9, 3) := by decide +kernel
theorem dX5_push_27 : decode cX5_push 27 = .ok (.aload_n 0, 1) := by decide +kernel
theorem dX5_push_28 : decode cX5_push 28 = .ok (.getfield 18, 3) := by decide +kernel
theorem dX5_push_31 : decode cX5_push 31 = .ok (.aload_n 0, 1) := by decide +kernel
theorem dX5_push_32 : decode cX5_push 32 = .ok (.getfield 18, 3) := by decide +kernel
theorem dX5_push_35 : decode cX5_push 35 = .ok (.iadd, 1) := by decide +kernel
theorem dX5_push_36 : decode cX5_push 36 = .ok (.invokestatic 22, 3) := by decide +kernel
theorem dX5_push_39 : decode cX5_push 39 = .ok (.putfield 9, 3) := by decide +kernel
theorem dX5_push_42 : decode cX5_push 42 = .ok (.aload_n 0, 1) := by decide +kernel
theorem dX5_push_43 : decode cX5_push 43 = .ok (.aload_n 0, 1) := by decide +kernel
theorem dX5_push_44 : decode cX5_push 44 = .ok (.getfield 15, 3) := by decide +kernel
theorem dX5_push_47 : decode cX5_push 47 = .ok (.aload_n 0, 1) := by decide +kernel
theorem dX5_push_48 : decode cX5_push 48 = .ok (.getfield 18, 3) := by decide +kernel
theorem dX5_push_51 : decode cX5_push 51 = .ok (.aload_n 0, 1) := by decide +kernel
theorem dX5_push_52 : decode cX5_push 52 = .ok (.getfield 18, 3) := by decide +kernel
theorem dX5_push_55 : decode cX5_push 55 = .ok (.iadd, 1) := by decide +kernel
theorem dX5_push_56 : decode cX5_push 56 = .ok (.invokestatic 22, 3) := by decide +kernel
theorem dX5_push_59 : decode cX5_push 59 = .ok (.putfield 15, 3) := by decide +kernel
theorem dX5_push_62 : decode cX5_push 62 = .ok (.aload_n 0, 1) := by decide +kernel
theorem dX5_push_63 : decode cX5_push 63 = .ok (.getfield 18, 3) := by decide +kernel
theorem dX5_push_66 : decode cX5_push 66 = .ok (.ifCond .lt 67, 3) := by decide +kernel
theorem dX5_push_69 : decode cX5_push 69 = .ok (.aload_n 0, 1) := by decide +kernel
theorem dX5_push_70 : decode cX5_push 70 = .ok (.getfield 18, 3) := by decide +kernel
theorem dX5_push_73 : decode cX5_push 73 = .ok (.aload_n 0, 1) := by decide +kernel
theorem dX5_push_74 : decode cX5_push 74 = .ok (.getfield 9, 3) := by decide +kernel
theorem dX5_push_77 : decode cX5_push 77 = .ok (.arraylength, 1) := by decide +kernel
theorem dX5_push_78 : decode cX5_push 78 = .ok (.if_icmp .ge 55, 3) := by decide +kernel
theorem dX5_push_81 : decode cX5_push 81 = .ok (.aload_n 0, 1) := by decide +kernel
theorem dX5_push_82 : decode cX5_push 82 = .ok (.getfield 18, 3) := by decide +kernel
theorem dX5_push_85 : decode cX5_push 85 = .ok (.aload_n 0, 1) := by decide +kernel
theorem dX5_push_86 : decode cX5_push 86 = .ok (.getfield 15, 3) := by decide +kernel
theorem dX5_push_89 : decode cX5_push 89 = .ok (.arraylength, 1) := by decide +kernel
theorem dX5_push_90 : decode cX5_push 90 = .ok (.if_icmp .ge 43, 3) := by decide +kernel
theorem dX5_push_93 : decode cX5_push 93 = .ok (.aload_n 0, 1) := by decide +kernel
theorem dX5_push_94 : decode cX5_push 94 = .ok (.getfield 18, 3) := by decide +kernel
theorem dX5_push_97 : decode cX5_push 97 = .ok (.sipush 2100, 3) := by decide +kernel
theorem dX5_push_100 : decode cX5_push 100 = .ok (.if_icmp .ge 33, 3) := by decide +kernel
theorem dX5_push_103 : decode cX5_push 103 = .ok (.aload_n 0, 1) := by decide +kernel
theorem dX5_push_104 : decode cX5_push 104 = .ok (.getfield 9, 3) := by decide +kernel
theorem dX5_push_107 : decode cX5_push 107 = .ok (.aload_n 0, 1) := by decide +kernel
theorem dX5_push_108 : decode cX5_push 108 = .ok (.getfield 18, 3) := by decide +kernel
theorem dX5_push_111 : decode cX5_push 111 = .ok (.iload_n 1, 1) := by decide +kernel
theorem dX5_push_112 : decode cX5_push 112 = .ok (.iastore, 1) := by decide +kernel
theorem dX5_push_113 : decode cX5_push 113 = .ok (.aload_n 0, 1) := by decide +kernel
theorem dX5_push_114 : decode cX5_push 114 = .ok (.getfield 15, 3) := by decide +kernel
theorem dX5_push_117 : decode cX5_push 117 = .ok (.aload_n 0, 1) := by decide +kernel
theorem dX5_push_118 : decode cX5_push 118 = .ok (.getfield 18, 3) := by decide +kernel
theorem dX5_push_121 : decode cX5_push 121 = .ok (.iload_n 2, 1) := by decide +kernel
theorem dX5_push_122 : decode cX5_push 122 = .ok (.iastore, 1) := by decide +kernel
theorem dX5_push_123 : decode cX5_push 123 = .ok (.aload_n 0, 1) := by decide +kernel
theorem dX5_push_124 : decode cX5_push 124 = .ok (.dup, 1) := by decide +kernel
theorem dX5_push_125 : decode cX5_push 125 = .ok (.getfield 18, 3) := by decide +kernel
theorem dX5_push_128 : decode cX5_push 128 = .ok (.iconst 1, 1) := by decide +kernel
theorem dX5_push_129 : decode cX5_push 129 = .ok (.iadd, 1) := by decide +kernel
theorem dX5_push_130 : decode cX5_push 130 = .ok (.putfield 18, 3) := by decide +kernel
theorem dX5_push_133 : decode cX5_push 133 = .ok (.return_, 1) := by decide +kernel
theorem dX5_topLine_0 : decode cX5_topLine 0 = .ok (.aload_n 0, 1) := by decide +kernel
theorem dX5_topLine_1 : decode cX5_topLine 1 = .ok (.getfield 18, 3) := by decide +kernel
theorem dX5_topLine_4 : decode cX5_topLine 4 = .ok (.iconst 1, 1) := by decide +kernel
theorem dX5_topLine_5 : decode cX5_topLine 5 = .ok (.if_icmp .lt 15, 3) := by decide +kernel
theorem dX5_topLine_8 : decode cX5_topLine 8 = .ok (.aload_n 0, 1) := by decide +kernel
theorem dX5_topLine_9 : decode cX5_topLine 9 = .ok (.getfield 18, 3) := by decide +kernel
theorem dX5_topLine_12 : decode cX5_topLine 12 = .ok (.aload_n 0, 1) := by decide +kernel
theorem dX5_topLine_13 : decode cX5_topLine 13 = .ok (.getfield 9, 3) := by decide +kernel
theorem dX5_topLine_16 : decode cX5_topLine 16 = .ok (.arraylength, 1) := by decide +kernel
theorem dX5_topLine_17 : decode cX5_topLine 17 = .ok (.if_icmp .le 7, 3) := by decide +kernel
theorem dX5_topLine_20 : decode cX5_topLine 20 = .ok (.iconst (-1), 1) := by decide +kernel
theorem dX5_topLine_21 : decode cX5_topLine 21 = .ok (.goto 14, 3) := by decide +kernel
theorem dX5_topLine_24 : decode cX5_topLine 24 = .ok (.aload_n 0, 1) := by decide +kernel
theorem dX5_topLine_25 : decode cX5_topLine 25 = .ok (.getfield 9, 3) := by decide +kernel
theorem dX5_topLine_28 : decode cX5_topLine 28 = .ok (.aload_n 0, 1) := by decide +kernel
theorem dX5_topLine_29 : decode cX5_topLine 29 = .ok (.getfield 18, 3) := by decide +kernel
theorem dX5_topLine_32 : decode cX5_topLine 32 = .ok (.iconst 1, 1) := by decide +kernel
theorem dX5_topLine_33 : decode cX5_topLine 33 = .ok (.isub, 1) := by decide +kernel
theorem dX5_topLine_34 : decode cX5_topLine 34 = .ok (.iaload, 1) := by decide +kernel
theorem dX5_topLine_35 : decode cX5_topLine 35 = .ok (.ireturn, 1) := by decide +kernel
theorem dX5_topBeats_0 : decode cX5_topBeats 0 = .ok (.aload_n 0, 1) := by decide +kernel
theorem dX5_topBeats_1 : decode cX5_topBeats 1 = .ok (.getfield 18, 3) := by decide +kernel
theorem dX5_topBeats_4 : decode cX5_topBeats 4 = .ok (.iconst 1, 1) := by decide +kernel
theorem dX5_topBeats_5 : decode cX5_topBeats 5 = .ok (.if_icmp .lt 15, 3) := by decide +kernel
theorem dX5_topBeats_8 : decode cX5_topBeats 8 = .ok (.aload_n 0, 1) := by decide +kernel
theorem dX5_topBeats_9 : decode cX5_topBeats 9 = .ok (.getfield 18, 3) := by decide +kernel
theorem dX5_topBeats_12 : decode cX5_topBeats 12 = .ok (.aload_n 0, 1) := by decide +kernel
theorem dX5_topBeats_13 : decode cX5_topBeats 13 = .ok (.getfield 15, 3) := by decide +kernel
theorem dX5_topBeats_16 : decode cX5_topBeats 16 = .ok (.arraylength, 1) := by decide +kernel
theorem dX5_topBeats_17 : decode cX5_topBeats 17 = .ok (.if_icmp .le 7, 3) := by decide +kernel
theorem dX5_topBeats_20 : decode cX5_topBeats 20 = .ok (.iconst 0, 1) := by decide +kernel
theorem dX5_topBeats_21 : decode cX5_topBeats 21 = .ok (.goto 14, 3) := by decide +kernel
theorem dX5_topBeats_24 : decode cX5_topBeats 24 = .ok (.aload_n 0, 1) := by decide +kernel
theorem dX5_topBeats_25 : decode cX5_topBeats 25 = .ok (.getfield 15, 3) := by decide +kernel
theorem dX5_topBeats_28 : decode cX5_topBeats 28 = .ok (.aload_n 0, 1) := by decide +kernel
theorem dX5_topBeats_29 : decode cX5_topBeats 29 = .ok (.getfield 18, 3) := by decide +kernel
theorem dX5_topBeats_32 : decode cX5_topBeats 32 = .ok (.iconst 1, 1) := by decide +kernel
theorem dX5_topBeats_33 : decode cX5_topBeats 33 = .ok (.isub, 1) := by decide +kernel
theorem dX5_topBeats_34 : decode cX5_topBeats 34 = .ok (.iaload, 1) := by decide +kernel
theorem dX5_topBeats_35 : decode cX5_topBeats 35 = .ok (.ireturn, 1) := by decide +kernel
theorem dX5_takeBeats_0 : decode cX5_takeBeats 0 = .ok (.aload_n 0, 1) := by decide +kernel
theorem dX5_takeBeats_1 : decode cX5_takeBeats 1 = .ok (.getfield 18, 3) := by decide +kernel
theorem dX5_takeBeats_4 : decode cX5_takeBeats 4 = .ok (.iconst 1, 1) := by decide +kernel
theorem dX5_takeBeats_5 : decode cX5_takeBeats 5 = .ok (.if_icmp .lt 30, 3) := by decide +kernel
theorem dX5_takeBeats_8 : decode cX5_takeBeats 8 = .ok (.aload_n 0, 1) := by decide +kernel
theorem dX5_takeBeats_9 : decode cX5_takeBeats 9 = .ok (.getfield 18, 3) := by decide +kernel
theorem dX5_takeBeats_12 : decode cX5_takeBeats 12 = .ok (.aload_n 0, 1) := by decide +kernel
theorem dX5_takeBeats_13 : decode cX5_takeBeats 13 = .ok (.getfield 15, 3) := by decide +kernel
theorem dX5_takeBeats_16 : decode cX5_takeBeats 16 = .ok (.arraylength, 1) := by decide +kernel
theorem dX5_takeBeats_17 : decode cX5_takeBeats 17 = .ok (.if_icmp .gt 18, 3) := by decide +kernel
theorem dX5_takeBeats_20 : decode cX5_takeBeats 20 = .ok (.aload_n 0, 1) := by decide +kernel
theorem dX5_takeBeats_21 : decode cX5_takeBeats 21 = .ok (.getfield 15, 3) := by decide +kernel
theorem dX5_takeBeats_24 : decode cX5_takeBeats 24 = .ok (.aload_n 0, 1) := by decide +kernel
theorem dX5_takeBeats_25 : decode cX5_takeBeats 25 = .ok (.getfield 18, 3) := by decide +kernel
theorem dX5_takeBeats_28 : decode cX5_takeBeats 28 = .ok (.iconst 1, 1) := by decide +kernel
theorem dX5_takeBeats_29 : decode cX5_takeBeats 29 = .ok (.isub, 1) := by decide +kernel
theorem dX5_takeBeats_30 : decode cX5_takeBeats 30 = .ok (.dup2, 1) := by decide +kernel
theorem dX5_takeBeats_31 : decode cX5_takeBeats 31 = .ok (.iaload, 1) := by decide +kernel
theorem dX5_takeBeats_32 : decode cX5_takeBeats 32 = .ok (.iload_n 1, 1) := by decide +kernel
theorem dX5_takeBeats_33 : decode cX5_takeBeats 33 = .ok (.isub, 1) := by decide +kernel
theorem dX5_takeBeats_34 : decode cX5_takeBeats 34 = .ok (.iastore, 1) := by decide +kernel
theorem dX5_takeBeats_35 : decode cX5_takeBeats 35 = .ok (.return_, 1) := by decide +kernel
theorem dX5_pop_0 : decode cX5_pop 0 = .ok (.aload_n 0, 1) := by decide +kernel
theorem dX5_pop_1 : decode cX5_pop 1 = .ok (.getfield 18, 3) := by decide +kernel
theorem dX5_pop_4 : decode cX5_pop 4 = .ok (.ifCond .le 13, 3) := by decide +kernel
theorem dX5_pop_7 : decode cX5_pop 7 = .ok (.aload_n 0, 1) := by decide +kernel
theorem dX5_pop_8 : decode cX5_pop 8 = .ok (.dup, 1) := by decide +kernel
theorem dX5_pop_9 : decode cX5_pop 9 = .ok (.getfield 18, 3) := by decide +kernel
theorem dX5_pop_12 : decode cX5_pop 12 = .ok (.iconst 1, 1) := by decide +kernel
theorem dX5_pop_13 : decode cX5_pop 13 = .ok (.isub, 1) := by decide +kernel
theorem dX5_pop_14 : decode cX5_pop 14 = .ok (.putfield 18, 3) := by decide +kernel
theorem dX5_pop_17 : decode cX5_pop 17 = .ok (.return_, 1) := by decide +kernel
set_option maxRecDepth 20000 in
theorem ggX5_copyFrom_X8_copyInts : GoodIn wsX5_copyFrom wsX8_copyInts := goodIn_r _ [7, 8, 9, 10, 11, 12, 13, 14, 15] (by decide +kernel) (by decide +kernel)
set_option maxRecDepth 20000 in
theorem gX5_copyFrom_X8_copyInts_n28 : GoodIn wsX5_copyFrom (wsX8_copyInts) := ggX5_copyFrom_X8_copyInts
theorem dX5_copyFrom_0 : decode cX5_copyFrom 0 = .ok (.aload_n 0, 1) := by decide +kernel
theorem dX5_copyFrom_1 : decode cX5_copyFrom 1 = .ok (.getfield 9, 3) := by decide +kernel
theorem dX5_copyFrom_4 : decode cX5_copyFrom 4 = .ok (.arraylength, 1) := by decide +kernel
theorem dX5_copyFrom_5 : decode cX5_copyFrom 5 = .ok (.aload_n 1, 1) := by decide +kernel
theorem dX5_copyFrom_6 : decode cX5_copyFrom 6 = .ok (.getfield 9, 3) := by decide +kernel
theorem dX5_copyFrom_9 : decode cX5_copyFrom 9 = .ok (.arraylength, 1) := by decide +kernel
theorem dX5_copyFrom_10 : decode cX5_copyFrom 10 = .ok (.if_icmp .ge 25, 3) := by decide +kernel
theorem dX5_copyFrom_13 : decode cX5_copyFrom 13 = .ok (.aload_n 0, 1) := by decide +kernel
theorem dX5_copyFrom_14 : decode cX5_copyFrom 14 = .ok (.aload_n 1, 1) := by decide +kernel
theorem dX5_copyFrom_15 : decode cX5_copyFrom 15 = .ok (.getfield 9, 3) := by decide +kernel
theorem dX5_copyFrom_18 : decode cX5_copyFrom 18 = .ok (.arraylength, 1) := by decide +kernel
theorem dX5_copyFrom_19 : decode cX5_copyFrom 19 = .ok (.newarray .int, 2) := by decide +kernel
theorem dX5_copyFrom_21 : decode cX5_copyFrom 21 = .ok (.putfield 9, 3) := by decide +kernel
theorem dX5_copyFrom_24 : decode cX5_copyFrom 24 = .ok (.aload_n 0, 1) := by decide +kernel
theorem dX5_copyFrom_25 : decode cX5_copyFrom 25 = .ok (.aload_n 1, 1) := by decide +kernel
theorem dX5_copyFrom_26 : decode cX5_copyFrom 26 = .ok (.getfield 9, 3) := by decide +kernel
theorem dX5_copyFrom_29 : decode cX5_copyFrom 29 = .ok (.arraylength, 1) := by decide +kernel
theorem dX5_copyFrom_30 : decode cX5_copyFrom 30 = .ok (.newarray .int, 2) := by decide +kernel
theorem dX5_copyFrom_32 : decode cX5_copyFrom 32 = .ok (.putfield 15, 3) := by decide +kernel
theorem dX5_copyFrom_35 : decode cX5_copyFrom 35 = .ok (.aload_n 1, 1) := by decide +kernel
theorem dX5_copyFrom_36 : decode cX5_copyFrom 36 = .ok (.getfield 9, 3) := by decide +kernel
theorem dX5_copyFrom_39 : decode cX5_copyFrom 39 = .ok (.aload_n 0, 1) := by decide +kernel
theorem dX5_copyFrom_40 : decode cX5_copyFrom 40 = .ok (.getfield 9, 3) := by decide +kernel
theorem dX5_copyFrom_43 : decode cX5_copyFrom 43 = .ok (.invokestatic 28, 3) := by decide +kernel
theorem dX5_copyFrom_46 : decode cX5_copyFrom 46 = .ok (.aload_n 1, 1) := by decide +kernel
theorem dX5_copyFrom_47 : decode cX5_copyFrom 47 = .ok (.getfield 15, 3) := by decide +kernel
theorem dX5_copyFrom_50 : decode cX5_copyFrom 50 = .ok (.aload_n 0, 1) := by decide +kernel
theorem dX5_copyFrom_51 : decode cX5_copyFrom 51 = .ok (.getfield 15, 3) := by decide +kernel
theorem dX5_copyFrom_54 : decode cX5_copyFrom 54 = .ok (.invokestatic 28, 3) := by decide +kernel
theorem dX5_copyFrom_57 : decode cX5_copyFrom 57 = .ok (.aload_n 0, 1) := by decide +kernel
theorem dX5_copyFrom_58 : decode cX5_copyFrom 58 = .ok (.aload_n 1, 1) := by decide +kernel
theorem dX5_copyFrom_59 : decode cX5_copyFrom 59 = .ok (.getfield 18, 3) := by decide +kernel
theorem dX5_copyFrom_62 : decode cX5_copyFrom 62 = .ok (.putfield 18, 3) := by decide +kernel
theorem dX5_copyFrom_65 : decode cX5_copyFrom 65 = .ok (.return_, 1) := by decide +kernel
set_option maxRecDepth 20000 in
theorem ggX5_isSameAs_X8_areSameInts : GoodIn wsX5_isSameAs wsX8_areSameInts := goodIn_ca (goodIn_r _ [6] (by decide +kernel) (by decide +kernel)) (goodIn_sub (fun _ h => List.mem_cons_of_mem _ (List.mem_append_right _ h)) (by decide +kernel))
set_option maxRecDepth 20000 in
theorem gX5_isSameAs_X8_areSameInts_n32 : GoodIn wsX5_isSameAs (wsX8_areSameInts) := ggX5_isSameAs_X8_areSameInts
theorem dX5_isSameAs_0 : decode cX5_isSameAs 0 = .ok (.aload_n 0, 1) := by decide +kernel
theorem dX5_isSameAs_1 : decode cX5_isSameAs 1 = .ok (.getfield 18, 3) := by decide +kernel
theorem dX5_isSameAs_4 : decode cX5_isSameAs 4 = .ok (.aload_n 1, 1) := by decide +kernel
theorem dX5_isSameAs_5 : decode cX5_isSameAs 5 = .ok (.getfield 18, 3) := by decide +kernel
theorem dX5_isSameAs_8 : decode cX5_isSameAs 8 = .ok (.if_icmp .ne 43, 3) := by decide +kernel
theorem dX5_isSameAs_11 : decode cX5_isSameAs 11 = .ok (.aload_n 0, 1) := by decide +kernel
theorem dX5_isSameAs_12 : decode cX5_isSameAs 12 = .ok (.getfield 9, 3) := by decide +kernel
theorem dX5_isSameAs_15 : decode cX5_isSameAs 15 = .ok (.aload_n 1, 1) := by decide +kernel
theorem dX5_isSameAs_16 : decode cX5_isSameAs 16 = .ok (.getfield 9, 3) := by decide +kernel
theorem dX5_isSameAs_19 : decode cX5_isSameAs 19 = .ok (.aload_n 0, 1) := by decide +kernel
theorem dX5_isSameAs_20 : decode cX5_isSameAs 20 = .ok (.getfield 18, 3) := by decide +kernel
theorem dX5_isSameAs_23 : decode cX5_isSameAs 23 = .ok (.invokestatic 32, 3) := by decide +kernel
theorem dX5_isSameAs_26 : decode cX5_isSameAs 26 = .ok (.ifCond .eq 25, 3) := by decide +kernel
theorem dX5_isSameAs_29 : decode cX5_isSameAs 29 = .ok (.aload_n 0, 1) := by decide +kernel
theorem dX5_isSameAs_30 : decode cX5_isSameAs 30 = .ok (.getfield 15, 3) := by decide +kernel
theorem dX5_isSameAs_33 : decode cX5_isSameAs 33 = .ok (.aload_n 1, 1) := by decide +kernel
theorem dX5_isSameAs_34 : decode cX5_isSameAs 34 = .ok (.getfield 15, 3) := by decide +kernel
theorem dX5_isSameAs_37 : decode cX5_isSameAs 37 = .ok (.aload_n 0, 1) := by decide +kernel
theorem dX5_isSameAs_38 : decode cX5_isSameAs 38 = .ok (.getfield 18, 3) := by decide +kernel
theorem dX5_isSameAs_41 : decode cX5_isSameAs 41 = .ok (.invokestatic 32, 3) := by decide +kernel
theorem dX5_isSameAs_44 : decode cX5_isSameAs 44 = .ok (.ifCond .eq 7, 3) := by decide +kernel
theorem dX5_isSameAs_47 : decode cX5_isSameAs 47 = .ok (.iconst 1, 1) := by decide +kernel
theorem dX5_isSameAs_48 : decode cX5_isSameAs 48 = .ok (.goto 4, 3) := by decide +kernel
theorem dX5_isSameAs_51 : decode cX5_isSameAs 51 = .ok (.iconst 0, 1) := by decide +kernel
theorem dX5_isSameAs_52 : decode cX5_isSameAs 52 = .ok (.ireturn, 1) := by decide +kernel
set_option maxRecDepth 20000 in
theorem ggX6_init_J7_fill_53178 : GoodIn wsX6_init wsJ7_fill_53178 := goodIn_r _ [15] (by decide +kernel) (by decide +kernel)
set_option maxRecDepth 20000 in
theorem gX6_init_J7_fill_53178 : GoodIn wsX6_init (va_wsS RX6 33 yJ7_fill_53178 wsJ7_fill_53178) := goodIn_app (goodIn_of _ (by decide +kernel)) ggX6_init_J7_fill_53178
theorem dX6_init_0 : decode cX6_init 0 = .ok (.aload_n 0, 1) := by decide +kernel
theorem dX6_init_1 : decode cX6_init 1 = .ok (.invokespecial 3, 3) := by decide +kernel
theorem dX6_init_4 : decode cX6_init 4 = .ok (.aload_n 0, 1) := by decide +kernel
theorem dX6_init_5 : decode cX6_init 5 = .ok (.iconst 4, 1) := by decide +kernel
theorem dX6_init_6 : decode cX6_init 6 = .ok (.newarray .int, 2) := by decide +kernel
theorem dX6_init_8 : decode cX6_init 8 = .ok (.putfield 9, 3) := by decide +kernel
theorem dX6_init_11 : decode cX6_init 11 = .ok (.aload_n 0, 1) := by decide +kernel
theorem dX6_init_12 : decode cX6_init 12 = .ok (.iconst 4, 1) := by decide +kernel
theorem dX6_init_13 : decode cX6_init 13 = .ok (.newarray .int, 2) := by decide +kernel
theorem dX6_init_15 : decode cX6_init 15 = .ok (.putfield 15, 3) := by decide +kernel
theorem dX6_init_18 : decode cX6_init 18 = .ok (.aload_n 0, 1) := by decide +kernel
theorem dX6_init_19 : decode cX6_init 19 = .ok (.iconst 4, 1) := by decide +kernel
theorem dX6_init_20 : decode cX6_init 20 = .ok (.newarray .int, 2) := by decide +kernel
theorem dX6_init_22 : decode cX6_init 22 = .ok (.putfield 18, 3) := by decide +kernel
theorem dX6_init_25 : decode cX6_init 25 = .ok (.aload_n 0, 1) := by decide +kernel
theorem dX6_init_26 : decode cX6_init 26 = .ok (.iconst 4, 1) := by decide +kernel
theorem dX6_init_27 : decode cX6_init 27 = .ok (.newarray .int, 2) := by decide +kernel
theorem dX6_init_29 : decode cX6_init 29 = .ok (.putfield 21, 3) := by decide +kernel
theorem dX6_init_32 : decode cX6_init 32 = .ok (.aload_n 0, 1) := by decide +kernel
theorem dX6_init_33 : decode cX6_init 33 = .ok (.iconst 4, 1) := by decide +kernel
theorem dX6_init_34 : decode cX6_init 34 = .ok (.newarray .int, 2) := by decide +kernel
theorem dX6_init_36 : decode cX6_init 36 = .ok (.putfield 24, 3) := by decide +kernel
theorem dX6_init_39 : decode cX6_init 39 = .ok (.aload_n 0, 1) := by decide +kernel
theorem dX6_init_40 : decode cX6_init 40 = .ok (.iconst 4, 1) := by decide +kernel
theorem dX6_init_41 : decode cX6_init 41 = .ok (.newarray .int, 2) := by decide +kernel
theorem dX6_init_43 : decode cX6_init 43 = .ok (.putfield 27, 3) := by decide +kernel
theorem dX6_init_46 : decode cX6_init 46 = .ok (.aload_n 0, 1) := by decide +kernel
theorem dX6_init_47 : decode cX6_init 47 = .ok (.iconst 4, 1) := by decide +kernel
theorem dX6_init_48 : decode cX6_init 48 = .ok (.newarray .int, 2) := by decide +kernel
theorem dX6_init_50 : decode cX6_init 50 = .ok (.putfield 30, 3) := by decide +kernel
theorem dX6_init_53 : decode cX6_init 53 = .ok (.aload_n 0, 1) := by decide +kernel
theorem dX6_init_54 : decode cX6_init 54 = .ok (.getfield 15, 3) := by decide +kernel
theorem dX6_init_57 : decode cX6_init 57 = .ok (.bipush 10, 2) := by decide +kernel
theorem dX6_init_59 : decode cX6_init 59 = .ok (.invokestatic 33, 3) := by decide +kernel
theorem dX6_init_62 : decode cX6_init 62 = .ok (.aload_n 0, 1) := by decide +kernel
theorem dX6_init_63 : decode cX6_init 63 = .ok (.getfield 18, 3) := by decide +kernel
theorem dX6_init_66 : decode cX6_init 66 = .ok (.bipush 10, 2) := by decide +kernel
theorem dX6_init_68 : decode cX6_init 68 = .ok (.invokestatic 33, 3) := by decide +kernel
theorem dX6_init_71 : decode cX6_init 71 = .ok (.aload_n 0, 1) := by decide +kernel
theorem dX6_init_72 : decode cX6_init 72 = .ok (.getfield 21, 3) := by decide +kernel
theorem dX6_init_75 : decode cX6_init 75 = .ok (.iconst (-1), 1) := by decide +kernel
theorem dX6_init_76 : decode cX6_init 76 = .ok (.invokestatic 33, 3) := by decide +kernel
theorem dX6_init_79 : decode cX6_init 79 = .ok (.aload_n 0, 1) := by decide +kernel
theorem dX6_init_80 : decode cX6_init 80 = .ok (.getfield 30, 3) := by decide +kernel
theorem dX6_init_83 : decode cX6_init 83 = .ok (.bipush 110, 2) := by decide +kernel
theorem dX6_init_85 : decode cX6_init 85 = .ok (.invokestatic 33, 3) := by decide +kernel
theorem dX6_init_88 : decode cX6_init 88 = .ok (.return_, 1) := by decide +kernel
set_option maxRecDepth 20000 in
theorem ggX6_goBeat_X1_freshOf : GoodIn wsX6_goBeat wsX1_freshOf := goodIn_ca (goodIn_r _ [12, 13, 28, 29, 30, 31, 32, 33] (by decide +kernel) (by decide +kernel)) (goodIn_sub (fun _ h => List.mem_cons_of_mem _ (List.mem_append_right _ h)) (by decide +kernel))
set_option maxRecDepth 20000 in
theorem gX6_goBeat_X1_freshOf : GoodIn wsX6_goBeat (wsV RX6 39 RX1 yX1_freshOf wsX1_freshOf) := goodIn_app (goodIn_of _ (by decide +kernel)) ggX6_goBeat_X1_freshOf
set_option maxRecDepth 20000 in
theorem ggX6_goBeat_X8_hasBit : GoodIn wsX6_goBeat wsX8_hasBit := goodIn_r _ [16] (by decide +kernel) (by decide +kernel)
set_option maxRecDepth 20000 in
theorem gX6_goBeat_X8_hasBit_n45 : GoodIn wsX6_goBeat (wsX8_hasBit) := ggX6_goBeat_X8_hasBit
set_option maxRecDepth 20000 in
theorem ggX6_goBeat_X8_withBit : GoodIn wsX6_goBeat wsX8_withBit := goodIn_r _ [18] (by decide +kernel) (by decide +kernel)
set_option maxRecDepth 20000 in
theorem gX6_goBeat_X8_withBit_n53 : GoodIn wsX6_goBeat (wsX8_withBit) := ggX6_goBeat_X8_withBit
theorem dX6_goBeat_0 : decode cX6_goBeat 0 = .ok (.iconst 0, 1) := by decide +kernel
theorem dX6_goBeat_1 : decode cX6_goBeat 1 = .ok (.istore_n 2, 1) := by decide +kernel
theorem dX6_goBeat_2 : decode cX6_goBeat 2 = .ok (.iconst 0, 1) := by decide +kernel
theorem dX6_goBeat_3 : decode cX6_goBeat 3 = .ok (.istore_n 3, 1) := by decide +kernel
theorem dX6_goBeat_4 : decode cX6_goBeat 4 = .ok (.iload_n 3, 1) := by decide +kernel
theorem dX6_goBeat_5 : decode cX6_goBeat 5 = .ok (.iconst 4, 1) := by decide +kernel
theorem dX6_goBeat_6 : decode cX6_goBeat 6 = .ok (.if_icmp .ge 164, 3) := by decide +kernel
theorem dX6_goBeat_9 : decode cX6_goBeat 9 = .ok (.aload_n 0, 1) := by decide +kernel
theorem dX6_goBeat_10 : decode cX6_goBeat 10 = .ok (.getfield 21, 3) := by decide +kernel
theorem dX6_goBeat_13 : decode cX6_goBeat 13 = .ok (.iload_n 3, 1) := by decide +kernel
theorem dX6_goBeat_14 : decode cX6_goBeat 14 = .ok (.iaload, 1) := by decide +kernel
theorem dX6_goBeat_15 : decode cX6_goBeat 15 = .ok (.iconst (-1), 1) := by decide +kernel
theorem dX6_goBeat_16 : decode cX6_goBeat 16 = .ok (.if_icmp .ne 24, 3) := by decide +kernel
theorem dX6_goBeat_19 : decode cX6_goBeat 19 = .ok (.aload_n 1, 1) := by decide +kernel
theorem dX6_goBeat_20 : decode cX6_goBeat 20 = .ok (.aload_n 0, 1) := by decide +kernel
theorem dX6_goBeat_21 : decode cX6_goBeat 21 = .ok (.getfield 9, 3) := by decide +kernel
theorem dX6_goBeat_24 : decode cX6_goBeat 24 = .ok (.iload_n 3, 1) := by decide +kernel
theorem dX6_goBeat_25 : decode cX6_goBeat 25 = .ok (.iaload, 1) := by decide +kernel
theorem dX6_goBeat_26 : decode cX6_goBeat 26 = .ok (.invokevirtual 39, 3) := by decide +kernel
theorem dX6_goBeat_29 : decode cX6_goBeat 29 = .ok (.ifCond .le 7, 3) := by decide +kernel
theorem dX6_goBeat_32 : decode cX6_goBeat 32 = .ok (.iconst 1, 1) := by decide +kernel
theorem dX6_goBeat_33 : decode cX6_goBeat 33 = .ok (.goto 19, 3) := by decide +kernel
theorem dX6_goBeat_36 : decode cX6_goBeat 36 = .ok (.iconst 0, 1) := by decide +kernel
theorem dX6_goBeat_37 : decode cX6_goBeat 37 = .ok (.goto 15, 3) := by decide +kernel
theorem dX6_goBeat_40 : decode cX6_goBeat 40 = .ok (.iload_n 2, 1) := by decide +kernel
theorem dX6_goBeat_41 : decode cX6_goBeat 41 = .ok (.iconst 4, 1) := by decide +kernel
theorem dX6_goBeat_42 : decode cX6_goBeat 42 = .ok (.aload_n 0, 1) := by decide +kernel
theorem dX6_goBeat_43 : decode cX6_goBeat 43 = .ok (.getfield 21, 3) := by decide +kernel
theorem dX6_goBeat_46 : decode cX6_goBeat 46 = .ok (.iload_n 3, 1) := by decide +kernel
theorem dX6_goBeat_47 : decode cX6_goBeat 47 = .ok (.iaload, 1) := by decide +kernel
theorem dX6_goBeat_48 : decode cX6_goBeat 48 = .ok (.iadd, 1) := by decide +kernel
theorem dX6_goBeat_49 : decode cX6_goBeat 49 = .ok (.invokestatic 45, 3) := by decide +kernel
theorem dX6_goBeat_52 : decode cX6_goBeat 52 = .ok (.istore 4, 2) := by decide +kernel
theorem dX6_goBeat_54 : decode cX6_goBeat 54 = .ok (.iload 4, 2) := by decide +kernel
theorem dX6_goBeat_56 : decode cX6_goBeat 56 = .ok (.ifCond .eq 108, 3) := by decide +kernel
theorem dX6_goBeat_59 : decode cX6_goBeat 59 = .ok (.aload_n 0, 1) := by decide +kernel
theorem dX6_goBeat_60 : decode cX6_goBeat 60 = .ok (.getfield 49, 3) := by decide +kernel
theorem dX6_goBeat_63 : decode cX6_goBeat 63 = .ok (.iload_n 3, 1) := by decide +kernel
theorem dX6_goBeat_64 : decode cX6_goBeat 64 = .ok (.invokestatic 45, 3) := by decide +kernel
theorem dX6_goBeat_67 : decode cX6_goBeat 67 = .ok (.ifCond .ne 6, 3) := by decide +kernel
theorem dX6_goBeat_70 : decode cX6_goBeat 70 = .ok (.goto 94, 3) := by decide +kernel
theorem dX6_goBeat_73 : decode cX6_goBeat 73 = .ok (.aload_n 0, 1) := by decide +kernel
theorem dX6_goBeat_74 : decode cX6_goBeat 74 = .ok (.getfield 24, 3) := by decide +kernel
theorem dX6_goBeat_77 : decode cX6_goBeat 77 = .ok (.iload_n 3, 1) := by decide +kernel
theorem dX6_goBeat_78 : decode cX6_goBeat 78 = .ok (.dup2, 1) := by decide +kernel
theorem dX6_goBeat_79 : decode cX6_goBeat 79 = .ok (.iaload, 1) := by decide +kernel
theorem dX6_goBeat_80 : decode cX6_goBeat 80 = .ok (.iconst 1, 1) := by decide +kernel
theorem dX6_goBeat_81 : decode cX6_goBeat 81 = .ok (.iadd, 1) := by decide +kernel
theorem dX6_goBeat_82 : decode cX6_goBeat 82 = .ok (.iastore, 1) := by decide +kernel
theorem dX6_goBeat_83 : decode cX6_goBeat 83 = .ok (.aload_n 0, 1) := by decide +kernel
theorem dX6_goBeat_84 : decode cX6_goBeat 84 = .ok (.getfield 24, 3) := by decide +kernel
theorem dX6_goBeat_87 : decode cX6_goBeat 87 = .ok (.iload_n 3, 1) := by decide +kernel
theorem dX6_goBeat_88 : decode cX6_goBeat 88 = .ok (.iaload, 1) := by decide +kernel
theorem dX6_goBeat_89 : decode cX6_goBeat 89 = .ok (.aload_n 0, 1) := by decide +kernel
theorem dX6_goBeat_90 : decode cX6_goBeat 90 = .ok (.getfield 18, 3) := by decide +kernel
theorem dX6_goBeat_93 : decode cX6_goBeat 93 = .ok (.iload_n 3, 1) := by decide +kernel
theorem dX6_goBeat_94 : decode cX6_goBeat 94 = .ok (.iaload, 1) := by decide +kernel
theorem dX6_goBeat_95 : decode cX6_goBeat 95 = .ok (.if_icmp .ne 10, 3) := by decide +kernel
theorem dX6_goBeat_98 : decode cX6_goBeat 98 = .ok (.iload_n 2, 1) := by decide +kernel
theorem dX6_goBeat_99 : decode cX6_goBeat 99 = .ok (.iload_n 3, 1) := by decide +kernel
theorem dX6_goBeat_100 : decode cX6_goBeat 100 = .ok (.iconst 1, 1) := by decide +kernel
theorem dX6_goBeat_101 : decode cX6_goBeat 101 = .ok (.invokestatic 53, 3) := by decide +kernel
theorem dX6_goBeat_104 : decode cX6_goBeat 104 = .ok (.istore_n 2, 1) := by decide +kernel
theorem dX6_goBeat_105 : decode cX6_goBeat 105 = .ok (.aload_n 0, 1) := by decide +kernel
theorem dX6_goBeat_106 : decode cX6_goBeat 106 = .ok (.getfield 24, 3) := by decide +kernel
theorem dX6_goBeat_109 : decode cX6_goBeat 109 = .ok (.iload_n 3, 1) := by decide +kernel
theorem dX6_goBeat_110 : decode cX6_goBeat 110 = .ok (.iaload, 1) := by decide +kernel
theorem dX6_goBeat_111 : decode cX6_goBeat 111 = .ok (.aload_n 0, 1) := by decide +kernel
theorem dX6_goBeat_112 : decode cX6_goBeat 112 = .ok (.getfield 15, 3) := by decide +kernel
theorem dX6_goBeat_115 : decode cX6_goBeat 115 = .ok (.iload_n 3, 1) := by decide +kernel
theorem dX6_goBeat_116 : decode cX6_goBeat 116 = .ok (.iaload, 1) := by decide +kernel
theorem dX6_goBeat_117 : decode cX6_goBeat 117 = .ok (.if_icmp .lt 47, 3) := by decide +kernel
theorem dX6_goBeat_120 : decode cX6_goBeat 120 = .ok (.iload_n 2, 1) := by decide +kernel
theorem dX6_goBeat_121 : decode cX6_goBeat 121 = .ok (.iconst 4, 1) := by decide +kernel
theorem dX6_goBeat_122 : decode cX6_goBeat 122 = .ok (.iload_n 3, 1) := by decide +kernel
theorem dX6_goBeat_123 : decode cX6_goBeat 123 = .ok (.iadd, 1) := by decide +kernel
theorem dX6_goBeat_124 : decode cX6_goBeat 124 = .ok (.iconst 1, 1) := by decide +kernel
theorem dX6_goBeat_125 : decode cX6_goBeat 125 = .ok (.invokestatic 53, 3) := by decide +kernel
theorem dX6_goBeat_128 : decode cX6_goBeat 128 = .ok (.istore_n 2, 1) := by decide +kernel
theorem dX6_goBeat_129 : decode cX6_goBeat 129 = .ok (.aload_n 0, 1) := by decide +kernel
theorem dX6_goBeat_130 : decode cX6_goBeat 130 = .ok (.getfield 24, 3) := by decide +kernel
theorem dX6_goBeat_133 : decode cX6_goBeat 133 = .ok (.iload_n 3, 1) := by decide +kernel
theorem dX6_goBeat_134 : decode cX6_goBeat 134 = .ok (.iconst 0, 1) := by decide +kernel
theorem dX6_goBeat_135 : decode cX6_goBeat 135 = .ok (.iastore, 1) := by decide +kernel
theorem dX6_goBeat_136 : decode cX6_goBeat 136 = .ok (.aload_n 0, 1) := by decide +kernel
theorem dX6_goBeat_137 : decode cX6_goBeat 137 = .ok (.aload_n 0, 1) := by decide +kernel
theorem dX6_goBeat_138 : decode cX6_goBeat 138 = .ok (.getfield 49, 3) := by decide +kernel
theorem dX6_goBeat_141 : decode cX6_goBeat 141 = .ok (.iload_n 3, 1) := by decide +kernel
theorem dX6_goBeat_142 : decode cX6_goBeat 142 = .ok (.aload_n 0, 1) := by decide +kernel
theorem dX6_goBeat_143 : decode cX6_goBeat 143 = .ok (.getfield 57, 3) := by decide +kernel
theorem dX6_goBeat_146 : decode cX6_goBeat 146 = .ok (.iload_n 3, 1) := by decide +kernel
theorem dX6_goBeat_147 : decode cX6_goBeat 147 = .ok (.invokestatic 45, 3) := by decide +kernel
theorem dX6_goBeat_150 : decode cX6_goBeat 150 = .ok (.ifCond .ne 7, 3) := by decide +kernel
theorem dX6_goBeat_153 : decode cX6_goBeat 153 = .ok (.iconst 1, 1) := by decide +kernel
theorem dX6_goBeat_154 : decode cX6_goBeat 154 = .ok (.goto 4, 3) := by decide +kernel
theorem dX6_goBeat_157 : decode cX6_goBeat 157 = .ok (.iconst 0, 1) := by decide +kernel
theorem dX6_goBeat_158 : decode cX6_goBeat 158 = .ok (.invokestatic 53, 3) := by decide +kernel
theorem dX6_goBeat_161 : decode cX6_goBeat 161 = .ok (.putfield 49, 3) := by decide +kernel
theorem dX6_goBeat_164 : decode cX6_goBeat 164 = .ok (.iinc 3 1, 3) := by decide +kernel
theorem dX6_goBeat_167 : decode cX6_goBeat 167 = .ok (.goto (-163), 3) := by decide +kernel
theorem dX6_goBeat_170 : decode cX6_goBeat 170 = .ok (.iload_n 2, 1) := by decide +kernel
theorem dX6_goBeat_171 : decode cX6_goBeat 171 = .ok (.ireturn, 1) := by decide +kernel
set_option maxRecDepth 20000 in
theorem ggX6_countsByClock_X8_hasBit : GoodIn wsX6_countsByClock wsX8_hasBit := goodIn_r _ [5] (by decide +kernel) (by decide +kernel)
set_option maxRecDepth 20000 in
theorem gX6_countsByClock_X8_hasBit_n45 : GoodIn wsX6_countsByClock (wsX8_hasBit) := ggX6_countsByClock_X8_hasBit
theorem dX6_countsByClock_0 : decode cX6_countsByClock 0 = .ok (.aload_n 0, 1) := by decide +kernel
theorem dX6_countsByClock_1 : decode cX6_countsByClock 1 = .ok (.getfield 49, 3) := by decide +kernel
theorem dX6_countsByClock_4 : decode cX6_countsByClock 4 = .ok (.iload_n 1, 1) := by decide +kernel
theorem dX6_countsByClock_5 : decode cX6_countsByClock 5 = .ok (.invokestatic 45, 3) := by decide +kernel
theorem dX6_countsByClock_8 : decode cX6_countsByClock 8 = .ok (.ifCond .eq 26, 3) := by decide +kernel
theorem dX6_countsByClock_11 : decode cX6_countsByClock 11 = .ok (.iload_n 1, 1) := by decide +kernel
theorem dX6_countsByClock_12 : decode cX6_countsByClock 12 = .ok (.ifCond .lt 22, 3) := by decide +kernel
theorem dX6_countsByClock_15 : decode cX6_countsByClock 15 = .ok (.iload_n 1, 1) := by decide +kernel
theorem dX6_countsByClock_16 : decode cX6_countsByClock 16 = .ok (.iconst 4, 1) := by decide +kernel
theorem dX6_countsByClock_17 : decode cX6_countsByClock 17 = .ok (.if_icmp .ge 17, 3) := by decide +kernel
theorem dX6_countsByClock_20 : decode cX6_countsByClock 20 = .ok (.aload_n 0, 1) := by decide +kernel
theorem dX6_countsByClock_21 : decode cX6_countsByClock 21 = .ok (.getfield 21, 3) := by decide +kernel
theorem dX6_countsByClock_24 : decode cX6_countsByClock 24 = .ok (.iload_n 1, 1) := by decide +kernel
theorem dX6_countsByClock_25 : decode cX6_countsByClock 25 = .ok (.iaload, 1) := by decide +kernel
theorem dX6_countsByClock_26 : decode cX6_countsByClock 26 = .ok (.iconst (-1), 1) := by decide +kernel
theorem dX6_countsByClock_27 : decode cX6_countsByClock 27 = .ok (.if_icmp .ne 7, 3) := by decide +kernel
theorem dX6_countsByClock_30 : decode cX6_countsByClock 30 = .ok (.iconst 1, 1) := by decide +kernel
theorem dX6_countsByClock_31 : decode cX6_countsByClock 31 = .ok (.goto 4, 3) := by decide +kernel
theorem dX6_countsByClock_34 : decode cX6_countsByClock 34 = .ok (.iconst 0, 1) := by decide +kernel
theorem dX6_countsByClock_35 : decode cX6_countsByClock 35 = .ok (.ireturn, 1) := by decide +kernel
set_option maxRecDepth 20000 in
theorem ggX6_skip_X6_countsByClock : GoodIn wsX6_skip wsX6_countsByClock := goodIn_ca (goodIn_r _ [7, 8, 9, 10, 11, 12, 19, 20, 21, 22, 23, 24, 25, 26, 27] (by decide +kernel) (by decide +kernel)) (goodIn_sub (fun _ h => List.mem_cons_of_mem _ (List.mem_append_right _ h)) (by decide +kernel))
set_option maxRecDepth 20000 in
theorem gX6_skip_X6_countsByClock : GoodIn wsX6_skip (wsV RX6 60 RX6 yX6_countsByClock wsX6_countsByClock) := goodIn_app (goodIn_of _ (by decide +kernel)) ggX6_skip_X6_countsByClock
set_option maxRecDepth 20000 in
theorem ggX6_skip_X1_freshOf : GoodIn wsX6_skip wsX1_freshOf := goodIn_ca (goodIn_r _ [17, 18, 28, 29, 30, 31, 32, 33] (by decide +kernel) (by decide +kernel)) (goodIn_sub (fun _ h => List.mem_cons_of_mem _ (List.mem_append_right _ h)) (by decide +kernel))
set_option maxRecDepth 20000 in
theorem gX6_skip_X1_freshOf : GoodIn wsX6_skip (wsV RX6 39 RX1 yX1_freshOf wsX1_freshOf) := goodIn_app (goodIn_of _ (by decide +kernel)) ggX6_skip_X1_freshOf
theorem dX6_skip_0 : decode cX6_skip 0 = .ok (.iconst 0, 1) := by decide +kernel
theorem dX6_skip_1 : decode cX6_skip 1 = .ok (.istore_n 2, 1) := by decide +kernel
theorem dX6_skip_2 : decode cX6_skip 2 = .ok (.iload_n 2, 1) := by decide +kernel
theorem dX6_skip_3 : decode cX6_skip 3 = .ok (.iconst 4, 1) := by decide +kernel
theorem dX6_skip_4 : decode cX6_skip 4 = .ok (.if_icmp .ge 36, 3) := by decide +kernel
theorem dX6_skip_7 : decode cX6_skip 7 = .ok (.aload_n 0, 1) := by decide +kernel
theorem dX6_skip_8 : decode cX6_skip 8 = .ok (.iload_n 2, 1) := by decide +kernel
theorem dX6_skip_9 : decode cX6_skip 9 = .ok (.invokevirtual 60, 3) := by decide +kernel
theorem dX6_skip_12 : decode cX6_skip 12 = .ok (.ifCond .eq 22, 3) := by decide +kernel
theorem dX6_skip_15 : decode cX6_skip 15 = .ok (.aload_n 0, 1) := by decide +kernel
theorem dX6_skip_16 : decode cX6_skip 16 = .ok (.getfield 24, 3) := by decide +kernel
theorem dX6_skip_19 : decode cX6_skip 19 = .ok (.iload_n 2, 1) := by decide +kernel
theorem dX6_skip_20 : decode cX6_skip 20 = .ok (.dup2, 1) := by decide +kernel
theorem dX6_skip_21 : decode cX6_skip 21 = .ok (.iaload, 1) := by decide +kernel
theorem dX6_skip_22 : decode cX6_skip 22 = .ok (.aload_n 1, 1) := by decide +kernel
theorem dX6_skip_23 : decode cX6_skip 23 = .ok (.aload_n 0, 1) := by decide +kernel
theorem dX6_skip_24 : decode cX6_skip 24 = .ok (.getfield 9, 3) := by decide +kernel
theorem dX6_skip_27 : decode cX6_skip 27 = .ok (.iload_n 2, 1) := by decide +kernel
theorem dX6_skip_28 : decode cX6_skip 28 = .ok (.iaload, 1) := by decide +kernel
theorem dX6_skip_29 : decode cX6_skip 29 = .ok (.invokevirtual 39, 3) := by decide +kernel
theorem dX6_skip_32 : decode cX6_skip 32 = .ok (.iadd, 1) := by decide +kernel
theorem dX6_skip_33 : decode cX6_skip 33 = .ok (.iastore, 1) := by decide +kernel
theorem dX6_skip_34 : decode cX6_skip 34 = .ok (.iinc 2 1, 3) := by decide +kernel
theorem dX6_skip_37 : decode cX6_skip 37 = .ok (.goto (-35), 3) := by decide +kernel
theorem dX6_skip_40 : decode cX6_skip 40 = .ok (.return_, 1) := by decide +kernel
set_option maxRecDepth 20000 in
theorem ggX6_beatsToEvent_X6_countsByClock : GoodIn wsX6_beatsToEvent wsX6_countsByClock := goodIn_ca (goodIn_r _ [17, 18, 19, 20, 21, 22, 34, 35, 36, 37, 38, 39, 40, 41, 42] (by decide +kernel) (by decide +kernel)) (goodIn_sub (fun _ h => List.mem_cons_of_mem _ (List.mem_append_right _ h)) (by decide +kernel))
set_option maxRecDepth 20000 in
theorem gX6_beatsToEvent_X6_countsByClock : GoodIn wsX6_beatsToEvent (wsV RX6 60 RX6 yX6_countsByClock wsX6_countsByClock) := goodIn_app (goodIn_of _ (by decide +kernel)) ggX6_beatsToEvent_X6_countsByClock
set_option maxRecDepth 20000 in
theorem ggX6_beatsToEvent_X1_beatsUntil : GoodIn wsX6_beatsToEvent wsX1_beatsUntil := goodIn_ca (goodIn_r _ [27, 28, 29, 30, 31, 32, 5, 6, 7, 33, 20, 21, 22, 43, 44, 45, 46, 47, 48] (by decide +kernel) (by decide +kernel)) (goodIn_sub (fun _ h => List.mem_cons_of_mem _ (List.mem_append_right _ h)) (by decide +kernel))
set_option maxRecDepth 20000 in
theorem gX6_beatsToEvent_X1_beatsUntil : GoodIn wsX6_beatsToEvent (wsV RX6 74 RX1 yX1_beatsUntil wsX1_beatsUntil) := goodIn_app (goodIn_of _ (by decide +kernel)) ggX6_beatsToEvent_X1_beatsUntil
theorem dX6_beatsToEvent_0 : decode cX6_beatsToEvent 0 = .ok (.ldc 64, 2) := by decide +kernel
theorem dX6_beatsToEvent_2 : decode cX6_beatsToEvent 2 = .ok (.istore_n 3, 1) := by decide +kernel
theorem dX6_beatsToEvent_3 : decode cX6_beatsToEvent 3 = .ok (.iconst 0, 1) := by decide +kernel
theorem dX6_beatsToEvent_4 : decode cX6_beatsToEvent 4 = .ok (.istore 4, 2) := by decide +kernel
theorem dX6_beatsToEvent_6 : decode cX6_beatsToEvent 6 = .ok (.iload 4, 2) := by decide +kernel
theorem dX6_beatsToEvent_8 : decode cX6_beatsToEvent 8 = .ok (.iconst 4, 1) := by decide +kernel
theorem dX6_beatsToEvent_9 : decode cX6_beatsToEvent 9 = .ok (.if_icmp .ge 100, 3) := by decide +kernel
theorem dX6_beatsToEvent_12 : decode cX6_beatsToEvent 12 = .ok (.aload_n 0, 1) := by decide +kernel
theorem dX6_beatsToEvent_13 : decode cX6_beatsToEvent 13 = .ok (.iload 4, 2) := by decide +kernel
theorem dX6_beatsToEvent_15 : decode cX6_beatsToEvent 15 = .ok (.invokevirtual 60, 3) := by decide +kernel
theorem dX6_beatsToEvent_18 : decode cX6_beatsToEvent 18 = .ok (.ifCond .ne 6, 3) := by decide +kernel
theorem dX6_beatsToEvent_21 : decode cX6_beatsToEvent 21 = .ok (.goto 82, 3) := by decide +kernel
theorem dX6_beatsToEvent_24 : decode cX6_beatsToEvent 24 = .ok (.iconst 1, 1) := by decide +kernel
theorem dX6_beatsToEvent_25 : decode cX6_beatsToEvent 25 = .ok (.aload_n 0, 1) := by decide +kernel
theorem dX6_beatsToEvent_26 : decode cX6_beatsToEvent 26 = .ok (.getfield 15, 3) := by decide +kernel
theorem dX6_beatsToEvent_29 : decode cX6_beatsToEvent 29 = .ok (.iload 4, 2) := by decide +kernel
theorem dX6_beatsToEvent_31 : decode cX6_beatsToEvent 31 = .ok (.iaload, 1) := by decide +kernel
theorem dX6_beatsToEvent_32 : decode cX6_beatsToEvent 32 = .ok (.aload_n 0, 1) := by decide +kernel
theorem dX6_beatsToEvent_33 : decode cX6_beatsToEvent 33 = .ok (.getfield 24, 3) := by decide +kernel
theorem dX6_beatsToEvent_36 : decode cX6_beatsToEvent 36 = .ok (.iload 4, 2) := by decide +kernel
theorem dX6_beatsToEvent_38 : decode cX6_beatsToEvent 38 = .ok (.iaload, 1) := by decide +kernel
theorem dX6_beatsToEvent_39 : decode cX6_beatsToEvent 39 = .ok (.isub, 1) := by decide +kernel
theorem dX6_beatsToEvent_40 : decode cX6_beatsToEvent 40 = .ok (.invokestatic 65, 3) := by decide +kernel
theorem dX6_beatsToEvent_43 : decode cX6_beatsToEvent 43 = .ok (.istore 5, 2) := by decide +kernel
theorem dX6_beatsToEvent_45 : decode cX6_beatsToEvent 45 = .ok (.aload_n 0, 1) := by decide +kernel
theorem dX6_beatsToEvent_46 : decode cX6_beatsToEvent 46 = .ok (.getfield 18, 3) := by decide +kernel
theorem dX6_beatsToEvent_49 : decode cX6_beatsToEvent 49 = .ok (.iload 4, 2) := by decide +kernel
theorem dX6_beatsToEvent_51 : decode cX6_beatsToEvent 51 = .ok (.iaload, 1) := by decide +kernel
theorem dX6_beatsToEvent_52 : decode cX6_beatsToEvent 52 = .ok (.aload_n 0, 1) := by decide +kernel
theorem dX6_beatsToEvent_53 : decode cX6_beatsToEvent 53 = .ok (.getfield 24, 3) := by decide +kernel
theorem dX6_beatsToEvent_56 : decode cX6_beatsToEvent 56 = .ok (.iload 4, 2) := by decide +kernel
theorem dX6_beatsToEvent_58 : decode cX6_beatsToEvent 58 = .ok (.iaload, 1) := by decide +kernel
theorem dX6_beatsToEvent_59 : decode cX6_beatsToEvent 59 = .ok (.if_icmp .le 25, 3) := by decide +kernel
theorem dX6_beatsToEvent_62 : decode cX6_beatsToEvent 62 = .ok (.iload 5, 2) := by decide +kernel
theorem dX6_beatsToEvent_64 : decode cX6_beatsToEvent 64 = .ok (.aload_n 0, 1) := by decide +kernel
theorem dX6_beatsToEvent_65 : decode cX6_beatsToEvent 65 = .ok (.getfield 18, 3) := by decide +kernel
theorem dX6_beatsToEvent_68 : decode cX6_beatsToEvent 68 = .ok (.iload 4, 2) := by decide +kernel
theorem dX6_beatsToEvent_70 : decode cX6_beatsToEvent 70 = .ok (.iaload, 1) := by decide +kernel
theorem dX6_beatsToEvent_71 : decode cX6_beatsToEvent 71 = .ok (.aload_n 0, 1) := by decide +kernel
theorem dX6_beatsToEvent_72 : decode cX6_beatsToEvent 72 = .ok (.getfield 24, 3) := by decide +kernel
theorem dX6_beatsToEvent_75 : decode cX6_beatsToEvent 75 = .ok (.iload 4, 2) := by decide +kernel
theorem dX6_beatsToEvent_77 : decode cX6_beatsToEvent 77 = .ok (.iaload, 1) := by decide +kernel
theorem dX6_beatsToEvent_78 : decode cX6_beatsToEvent 78 = .ok (.isub, 1) := by decide +kernel
theorem dX6_beatsToEvent_79 : decode cX6_beatsToEvent 79 = .ok (.invokestatic 71, 3) := by decide +kernel
theorem dX6_beatsToEvent_82 : decode cX6_beatsToEvent 82 = .ok (.istore 5, 2) := by decide +kernel
theorem dX6_beatsToEvent_84 : decode cX6_beatsToEvent 84 = .ok (.iload_n 3, 1) := by decide +kernel
theorem dX6_beatsToEvent_85 : decode cX6_beatsToEvent 85 = .ok (.aload_n 1, 1) := by decide +kernel
theorem dX6_beatsToEvent_86 : decode cX6_beatsToEvent 86 = .ok (.aload_n 0, 1) := by decide +kernel
theorem dX6_beatsToEvent_87 : decode cX6_beatsToEvent 87 = .ok (.getfield 9, 3) := by decide +kernel
theorem dX6_beatsToEvent_90 : decode cX6_beatsToEvent 90 = .ok (.iload 4, 2) := by decide +kernel
theorem dX6_beatsToEvent_92 : decode cX6_beatsToEvent 92 = .ok (.iaload, 1) := by decide +kernel
theorem dX6_beatsToEvent_93 : decode cX6_beatsToEvent 93 = .ok (.iload 5, 2) := by decide +kernel
theorem dX6_beatsToEvent_95 : decode cX6_beatsToEvent 95 = .ok (.iload_n 2, 1) := by decide +kernel
theorem dX6_beatsToEvent_96 : decode cX6_beatsToEvent 96 = .ok (.invokevirtual 74, 3) := by decide +kernel
theorem dX6_beatsToEvent_99 : decode cX6_beatsToEvent 99 = .ok (.invokestatic 71, 3) := by decide +kernel
theorem dX6_beatsToEvent_102 : decode cX6_beatsToEvent 102 = .ok (.istore_n 3, 1) := by decide +kernel
theorem dX6_beatsToEvent_103 : decode cX6_beatsToEvent 103 = .ok (.iinc 4 1, 3) := by decide +kernel
theorem dX6_beatsToEvent_106 : decode cX6_beatsToEvent 106 = .ok (.goto (-100), 3) := by decide +kernel
theorem dX6_beatsToEvent_109 : decode cX6_beatsToEvent 109 = .ok (.iload_n 3, 1) := by decide +kernel
theorem dX6_beatsToEvent_110 : decode cX6_beatsToEvent 110 = .ok (.ireturn, 1) := by decide +kernel
set_option maxRecDepth 20000 in
theorem ggX6_stopAll_J7_fill_53178 : GoodIn wsX6_stopAll wsJ7_fill_53178 := goodIn_r _ [6] (by decide +kernel) (by decide +kernel)
set_option maxRecDepth 20000 in
theorem gX6_stopAll_J7_fill_53178 : GoodIn wsX6_stopAll (va_wsS RX6 33 yJ7_fill_53178 wsJ7_fill_53178) := goodIn_app (goodIn_of _ (by decide +kernel)) ggX6_stopAll_J7_fill_53178
theorem dX6_stopAll_0 : decode cX6_stopAll 0 = .ok (.aload_n 0, 1) := by decide +kernel
theorem dX6_stopAll_1 : decode cX6_stopAll 1 = .ok (.iconst 0, 1) := by decide +kernel
theorem dX6_stopAll_2 : decode cX6_stopAll 2 = .ok (.putfield 49, 3) := by decide +kernel
theorem dX6_stopAll_5 : decode cX6_stopAll 5 = .ok (.aload_n 0, 1) := by decide +kernel
theorem dX6_stopAll_6 : decode cX6_stopAll 6 = .ok (.getfield 24, 3) := by decide +kernel
theorem dX6_stopAll_9 : decode cX6_stopAll 9 = .ok (.iconst 0, 1) := by decide +kernel
theorem dX6_stopAll_10 : decode cX6_stopAll 10 = .ok (.invokestatic 33, 3) := by decide +kernel
theorem dX6_stopAll_13 : decode cX6_stopAll 13 = .ok (.return_, 1) := by decide +kernel
set_option maxRecDepth 20000 in
theorem ggX6_copyFrom_X8_copyInts : GoodIn wsX6_copyFrom wsX8_copyInts := goodIn_r _ [12, 13, 14, 15, 16, 17, 18, 19, 20] (by decide +kernel) (by decide +kernel)
set_option maxRecDepth 20000 in
theorem gX6_copyFrom_X8_copyInts_n77 : GoodIn wsX6_copyFrom (wsX8_copyInts) := ggX6_copyFrom_X8_copyInts
theorem dX6_copyFrom_0 : decode cX6_copyFrom 0 = .ok (.aload_n 1, 1) := by decide +kernel
theorem dX6_copyFrom_1 : decode cX6_copyFrom 1 = .ok (.getfield 9, 3) := by decide +kernel
theorem dX6_copyFrom_4 : decode cX6_copyFrom 4 = .ok (.aload_n 0, 1) := by decide +kernel
theorem dX6_copyFrom_5 : decode cX6_copyFrom 5 = .ok (.getfield 9, 3) := by decide +kernel
theorem dX6_copyFrom_8 : decode cX6_copyFrom 8 = .ok (.invokestatic 77, 3) := by decide +kernel
theorem dX6_copyFrom_11 : decode cX6_copyFrom 11 = .ok (.aload_n 1, 1) := by decide +kernel
theorem dX6_copyFrom_12 : decode cX6_copyFrom 12 = .ok (.getfield 15, 3) := by decide +kernel
theorem dX6_copyFrom_15 : decode cX6_copyFrom 15 = .ok (.aload_n 0, 1) := by decide +kernel
theorem dX6_copyFrom_16 : decode cX6_copyFrom 16 = .ok (.getfield 15, 3) := by decide +kernel
theorem dX6_copyFrom_19 : decode cX6_copyFrom 19 = .ok (.invokestatic 77, 3) := by decide +kernel
theorem dX6_copyFrom_22 : decode cX6_copyFrom 22 = .ok (.aload_n 1, 1) := by decide +kernel
theorem dX6_copyFrom_23 : decode cX6_copyFrom 23 = .ok (.getfield 18, 3) := by decide +kernel
theorem dX6_copyFrom_26 : decode cX6_copyFrom 26 = .ok (.aload_n 0, 1) := by decide +kernel
theorem dX6_copyFrom_27 : decode cX6_copyFrom 27 = .ok (.getfield 18, 3) := by decide +kernel
theorem dX6_copyFrom_30 : decode cX6_copyFrom 30 = .ok (.invokestatic 77, 3) := by decide +kernel
theorem dX6_copyFrom_33 : decode cX6_copyFrom 33 = .ok (.aload_n 1, 1) := by decide +kernel
theorem dX6_copyFrom_34 : decode cX6_copyFrom 34 = .ok (.getfield 21, 3) := by decide +kernel
theorem dX6_copyFrom_37 : decode cX6_copyFrom 37 = .ok (.aload_n 0, 1) := by decide +kernel
theorem dX6_copyFrom_38 : decode cX6_copyFrom 38 = .ok (.getfield 21, 3) := by decide +kernel
theorem dX6_copyFrom_41 : decode cX6_copyFrom 41 = .ok (.invokestatic 77, 3) := by decide +kernel
theorem dX6_copyFrom_44 : decode cX6_copyFrom 44 = .ok (.aload_n 1, 1) := by decide +kernel
theorem dX6_copyFrom_45 : decode cX6_copyFrom 45 = .ok (.getfield 24, 3) := by decide +kernel
theorem dX6_copyFrom_48 : decode cX6_copyFrom 48 = .ok (.aload_n 0, 1) := by decide +kernel
theorem dX6_copyFrom_49 : decode cX6_copyFrom 49 = .ok (.getfield 24, 3) := by decide +kernel
theorem dX6_copyFrom_52 : decode cX6_copyFrom 52 = .ok (.invokestatic 77, 3) := by decide +kernel
theorem dX6_copyFrom_55 : decode cX6_copyFrom 55 = .ok (.aload_n 1, 1) := by decide +kernel
theorem dX6_copyFrom_56 : decode cX6_copyFrom 56 = .ok (.getfield 27, 3) := by decide +kernel
theorem dX6_copyFrom_59 : decode cX6_copyFrom 59 = .ok (.aload_n 0, 1) := by decide +kernel
theorem dX6_copyFrom_60 : decode cX6_copyFrom 60 = .ok (.getfield 27, 3) := by decide +kernel
theorem dX6_copyFrom_63 : decode cX6_copyFrom 63 = .ok (.invokestatic 77, 3) := by decide +kernel
theorem dX6_copyFrom_66 : decode cX6_copyFrom 66 = .ok (.aload_n 1, 1) := by decide +kernel
theorem dX6_copyFrom_67 : decode cX6_copyFrom 67 = .ok (.getfield 30, 3) := by decide +kernel
theorem dX6_copyFrom_70 : decode cX6_copyFrom 70 = .ok (.aload_n 0, 1) := by decide +kernel
theorem dX6_copyFrom_71 : decode cX6_copyFrom 71 = .ok (.getfield 30, 3) := by decide +kernel
theorem dX6_copyFrom_74 : decode cX6_copyFrom 74 = .ok (.invokestatic 77, 3) := by decide +kernel
theorem dX6_copyFrom_77 : decode cX6_copyFrom 77 = .ok (.aload_n 0, 1) := by decide +kernel
theorem dX6_copyFrom_78 : decode cX6_copyFrom 78 = .ok (.aload_n 1, 1) := by decide +kernel
theorem dX6_copyFrom_79 : decode cX6_copyFrom 79 = .ok (.getfield 57, 3) := by decide +kernel
theorem dX6_copyFrom_82 : decode cX6_copyFrom 82 = .ok (.putfield 57, 3) := by decide +kernel
theorem dX6_copyFrom_85 : decode cX6_copyFrom 85 = .ok (.aload_n 0, 1) := by decide +kernel
theorem dX6_copyFrom_86 : decode cX6_copyFrom 86 = .ok (.aload_n 1, 1) := by decide +kernel
theorem dX6_copyFrom_87 : decode cX6_copyFrom 87 = .ok (.getfield 49, 3) := by decide +kernel
theorem dX6_copyFrom_90 : decode cX6_copyFrom 90 = .ok (.putfield 49, 3) := by decide +kernel
theorem dX6_copyFrom_93 : decode cX6_copyFrom 93 = .ok (.return_, 1) := by decide +kernel
set_option maxRecDepth 20000 in
theorem ggX6_isSameAs_X8_areSameInts : GoodIn wsX6_isSameAs wsX8_areSameInts := goodIn_ca (goodIn_r _ [12] (by decide +kernel) (by decide +kernel)) (goodIn_sub (fun _ h => List.mem_cons_of_mem _ (List.mem_append_right _ h)) (by decide +kernel))
set_option maxRecDepth 20000 in
theorem gX6_isSameAs_X8_areSameInts_n81 : GoodIn wsX6_isSameAs (wsX8_areSameInts) := ggX6_isSameAs_X8_areSameInts
theorem dX6_isSameAs_0 : decode cX6_isSameAs 0 = .ok (.aload_n 0, 1) := by decide +kernel
theorem dX6_isSameAs_1 : decode cX6_isSameAs 1 = .ok (.getfield 57, 3) := by decide +kernel
theorem dX6_isSameAs_4 : decode cX6_isSameAs 4 = .ok (.aload_n 1, 1) := by decide +kernel
theorem dX6_isSameAs_5 : decode cX6_isSameAs 5 = .ok (.getfield 57, 3) := by decide +kernel
theorem dX6_isSameAs_8 : decode cX6_isSameAs 8 = .ok (.if_icmp .ne 123, 3) := by decide +kernel
theorem dX6_isSameAs_11 : decode cX6_isSameAs 11 = .ok (.aload_n 0, 1) := by decide +kernel
theorem dX6_isSameAs_12 : decode cX6_isSameAs 12 = .ok (.getfield 49, 3) := by decide +kernel
theorem dX6_isSameAs_15 : decode cX6_isSameAs 15 = .ok (.aload_n 1, 1) := by decide +kernel
theorem dX6_isSameAs_16 : decode cX6_isSameAs 16 = .ok (.getfield 49, 3) := by decide +kernel
theorem dX6_isSameAs_19 : decode cX6_isSameAs 19 = .ok (.if_icmp .ne 112, 3) := by decide +kernel
theorem dX6_isSameAs_22 : decode cX6_isSameAs 22 = .ok (.aload_n 0, 1) := by decide +kernel
theorem dX6_isSameAs_23 : decode cX6_isSameAs 23 = .ok (.getfield 9, 3) := by decide +kernel
theorem dX6_isSameAs_26 : decode cX6_isSameAs 26 = .ok (.aload_n 1, 1) := by decide +kernel
theorem dX6_isSameAs_27 : decode cX6_isSameAs 27 = .ok (.getfield 9, 3) := by decide +kernel
theorem dX6_isSameAs_30 : decode cX6_isSameAs 30 = .ok (.iconst 4, 1) := by decide +kernel
theorem dX6_isSameAs_31 : decode cX6_isSameAs 31 = .ok (.invokestatic 81, 3) := by decide +kernel
theorem dX6_isSameAs_34 : decode cX6_isSameAs 34 = .ok (.ifCond .eq 97, 3) := by decide +kernel
theorem dX6_isSameAs_37 : decode cX6_isSameAs 37 = .ok (.aload_n 0, 1) := by decide +kernel
theorem dX6_isSameAs_38 : decode cX6_isSameAs 38 = .ok (.getfield 15, 3) := by decide +kernel
theorem dX6_isSameAs_41 : decode cX6_isSameAs 41 = .ok (.aload_n 1, 1) := by decide +kernel
theorem dX6_isSameAs_42 : decode cX6_isSameAs 42 = .ok (.getfield 15, 3) := by decide +kernel
theorem dX6_isSameAs_45 : decode cX6_isSameAs 45 = .ok (.iconst 4, 1) := by decide +kernel
theorem dX6_isSameAs_46 : decode cX6_isSameAs 46 = .ok (.invokestatic 81, 3) := by decide +kernel
theorem dX6_isSameAs_49 : decode cX6_isSameAs 49 = .ok (.ifCond .eq 82, 3) := by decide +kernel
theorem dX6_isSameAs_52 : decode cX6_isSameAs 52 = .ok (.aload_n 0, 1) := by decide +kernel
theorem dX6_isSameAs_53 : decode cX6_isSameAs 53 = .ok (.getfield 18, 3) := by decide +kernel
theorem dX6_isSameAs_56 : decode cX6_isSameAs 56 = .ok (.aload_n 1, 1) := by decide +kernel
theorem dX6_isSameAs_57 : decode cX6_isSameAs 57 = .ok (.getfield 18, 3) := by decide +kernel
theorem dX6_isSameAs_60 : decode cX6_isSameAs 60 = .ok (.iconst 4, 1) := by decide +kernel
theorem dX6_isSameAs_61 : decode cX6_isSameAs 61 = .ok (.invokestatic 81, 3) := by decide +kernel
theorem dX6_isSameAs_64 : decode cX6_isSameAs 64 = .ok (.ifCond .eq 67, 3) := by decide +kernel
theorem dX6_isSameAs_67 : decode cX6_isSameAs 67 = .ok (.aload_n 0, 1) := by decide +kernel
theorem dX6_isSameAs_68 : decode cX6_isSameAs 68 = .ok (.getfield 21, 3) := by decide +kernel
theorem dX6_isSameAs_71 : decode cX6_isSameAs 71 = .ok (.aload_n 1, 1) := by decide +kernel
theorem dX6_isSameAs_72 : decode cX6_isSameAs 72 = .ok (.getfield 21, 3) := by decide +kernel
theorem dX6_isSameAs_75 : decode cX6_isSameAs 75 = .ok (.iconst 4, 1) := by decide +kernel
theorem dX6_isSameAs_76 : decode cX6_isSameAs 76 = .ok (.invokestatic 81, 3) := by decide +kernel
theorem dX6_isSameAs_79 : decode cX6_isSameAs 79 = .ok (.ifCond .eq 52, 3) := by decide +kernel
theorem dX6_isSameAs_82 : decode cX6_isSameAs 82 = .ok (.aload_n 0, 1) := by decide +kernel
theorem dX6_isSameAs_83 : decode cX6_isSameAs 83 = .ok (.getfield 24, 3) := by decide +kernel
theorem dX6_isSameAs_86 : decode cX6_isSameAs 86 = .ok (.aload_n 1, 1) := by decide +kernel
theorem dX6_isSameAs_87 : decode cX6_isSameAs 87 = .ok (.getfield 24, 3) := by decide +kernel
theorem dX6_isSameAs_90 : decode cX6_isSameAs 90 = .ok (.iconst 4, 1) := by decide +kernel
theorem dX6_isSameAs_91 : decode cX6_isSameAs 91 = .ok (.invokestatic 81, 3) := by decide +kernel
theorem dX6_isSameAs_94 : decode cX6_isSameAs 94 = .ok (.ifCond .eq 37, 3) := by decide +kernel
theorem dX6_isSameAs_97 : decode cX6_isSameAs 97 = .ok (.aload_n 0, 1) := by decide +kernel
theorem dX6_isSameAs_98 : decode cX6_isSameAs 98 = .ok (.getfield 27, 3) := by decide +kernel
theorem dX6_isSameAs_101 : decode cX6_isSameAs 101 = .ok (.aload_n 1, 1) := by decide +kernel
theorem dX6_isSameAs_102 : decode cX6_isSameAs 102 = .ok (.getfield 27, 3) := by decide +kernel
theorem dX6_isSameAs_105 : decode cX6_isSameAs 105 = .ok (.iconst 4, 1) := by decide +kernel
theorem dX6_isSameAs_106 : decode cX6_isSameAs 106 = .ok (.invokestatic 81, 3) := by decide +kernel
theorem dX6_isSameAs_109 : decode cX6_isSameAs 109 = .ok (.ifCond .eq 22, 3) := by decide +kernel
theorem dX6_isSameAs_112 : decode cX6_isSameAs 112 = .ok (.aload_n 0, 1) := by decide +kernel
theorem dX6_isSameAs_113 : decode cX6_isSameAs 113 = .ok (.getfield 30, 3) := by decide +kernel
theorem dX6_isSameAs_116 : decode cX6_isSameAs 116 = .ok (.aload_n 1, 1) := by decide +kernel
theorem dX6_isSameAs_117 : decode cX6_isSameAs 117 = .ok (.getfield 30, 3) := by decide +kernel
theorem dX6_isSameAs_120 : decode cX6_isSameAs 120 = .ok (.iconst 4, 1) := by decide +kernel
theorem dX6_isSameAs_121 : decode cX6_isSameAs 121 = .ok (.invokestatic 81, 3) := by decide +kernel
theorem dX6_isSameAs_124 : decode cX6_isSameAs 124 = .ok (.ifCond .eq 7, 3) := by decide +kernel
theorem dX6_isSameAs_127 : decode cX6_isSameAs 127 = .ok (.iconst 1, 1) := by decide +kernel
theorem dX6_isSameAs_128 : decode cX6_isSameAs 128 = .ok (.goto 4, 3) := by decide +kernel
theorem dX6_isSameAs_131 : decode cX6_isSameAs 131 = .ok (.iconst 0, 1) := by decide +kernel
theorem dX6_isSameAs_132 : decode cX6_isSameAs 132 = .ok (.ireturn, 1) := by decide +kernel
theorem dX7_init_0 : decode cX7_init 0 = .ok (.aload_n 0, 1) := by decide +kernel
theorem dX7_init_1 : decode cX7_init 1 = .ok (.invokespecial 3, 3) := by decide +kernel
theorem dX7_init_4 : decode cX7_init 4 = .ok (.aload_n 0, 1) := by decide +kernel
theorem dX7_init_5 : decode cX7_init 5 = .ok (.iconst (-1), 1) := by decide +kernel
theorem dX7_init_6 : decode cX7_init 6 = .ok (.putfield 9, 3) := by decide +kernel
theorem dX7_init_9 : decode cX7_init 9 = .ok (.return_, 1) := by decide +kernel
set_option maxRecDepth 20000 in
theorem ggX7_goBeat_X1_freshOf : GoodIn wsX7_goBeat wsX1_freshOf := goodIn_ca (goodIn_r _ [8, 9, 16, 17, 18, 19, 20, 21] (by decide +kernel) (by decide +kernel)) (goodIn_sub (fun _ h => List.mem_cons_of_mem _ (List.mem_append_right _ h)) (by decide +kernel))
set_option maxRecDepth 20000 in
theorem gX7_goBeat_X1_freshOf : GoodIn wsX7_goBeat (wsV RX7 15 RX1 yX1_freshOf wsX1_freshOf) := goodIn_app (goodIn_of _ (by decide +kernel)) ggX7_goBeat_X1_freshOf
theorem dX7_goBeat_0 : decode cX7_goBeat 0 = .ok (.aload_n 0, 1) := by decide +kernel
theorem dX7_goBeat_1 : decode cX7_goBeat 1 = .ok (.getfield 9, 3) := by decide +kernel
theorem dX7_goBeat_4 : decode cX7_goBeat 4 = .ok (.iconst (-1), 1) := by decide +kernel
theorem dX7_goBeat_5 : decode cX7_goBeat 5 = .ok (.if_icmp .eq 14, 3) := by decide +kernel
theorem dX7_goBeat_8 : decode cX7_goBeat 8 = .ok (.aload_n 1, 1) := by decide +kernel
theorem dX7_goBeat_9 : decode cX7_goBeat 9 = .ok (.aload_n 0, 1) := by decide +kernel
theorem dX7_goBeat_10 : decode cX7_goBeat 10 = .ok (.getfield 9, 3) := by decide +kernel
theorem dX7_goBeat_13 : decode cX7_goBeat 13 = .ok (.invokevirtual 15, 3) := by decide +kernel
theorem dX7_goBeat_16 : decode cX7_goBeat 16 = .ok (.ifCond .ne 5, 3) := by decide +kernel
theorem dX7_goBeat_19 : decode cX7_goBeat 19 = .ok (.iconst 0, 1) := by decide +kernel
theorem dX7_goBeat_20 : decode cX7_goBeat 20 = .ok (.ireturn, 1) := by decide +kernel
theorem dX7_goBeat_21 : decode cX7_goBeat 21 = .ok (.aload_n 0, 1) := by decide +kernel
theorem dX7_goBeat_22 : decode cX7_goBeat 22 = .ok (.dup, 1) := by decide +kernel
theorem dX7_goBeat_23 : decode cX7_goBeat 23 = .ok (.getfield 21, 3) := by decide +kernel
theorem dX7_goBeat_26 : decode cX7_goBeat 26 = .ok (.iconst 1, 1) := by decide +kernel
theorem dX7_goBeat_27 : decode cX7_goBeat 27 = .ok (.iadd, 1) := by decide +kernel
theorem dX7_goBeat_28 : decode cX7_goBeat 28 = .ok (.putfield 21, 3) := by decide +kernel
theorem dX7_goBeat_31 : decode cX7_goBeat 31 = .ok (.aload_n 0, 1) := by decide +kernel
theorem dX7_goBeat_32 : decode cX7_goBeat 32 = .ok (.getfield 21, 3) := by decide +kernel
theorem dX7_goBeat_35 : decode cX7_goBeat 35 = .ok (.aload_n 0, 1) := by decide +kernel
theorem dX7_goBeat_36 : decode cX7_goBeat 36 = .ok (.getfield 24, 3) := by decide +kernel
theorem dX7_goBeat_39 : decode cX7_goBeat 39 = .ok (.if_icmp .ne 7, 3) := by decide +kernel
theorem dX7_goBeat_42 : decode cX7_goBeat 42 = .ok (.iconst 1, 1) := by decide +kernel
theorem dX7_goBeat_43 : decode cX7_goBeat 43 = .ok (.goto 4, 3) := by decide +kernel
theorem dX7_goBeat_46 : decode cX7_goBeat 46 = .ok (.iconst 0, 1) := by decide +kernel
theorem dX7_goBeat_47 : decode cX7_goBeat 47 = .ok (.ireturn, 1) := by decide +kernel
set_option maxRecDepth 20000 in
theorem ggX7_skip_X1_freshOf : GoodIn wsX7_skip wsX1_freshOf := goodIn_ca (goodIn_r _ [7, 8, 15, 16, 17, 18, 19, 20] (by decide +kernel) (by decide +kernel)) (goodIn_sub (fun _ h => List.mem_cons_of_mem _ (List.mem_append_right _ h)) (by decide +kernel))
set_option maxRecDepth 20000 in
theorem gX7_skip_X1_freshOf : GoodIn wsX7_skip (wsV RX7 15 RX1 yX1_freshOf wsX1_freshOf) := goodIn_app (goodIn_of _ (by decide +kernel)) ggX7_skip_X1_freshOf
theorem dX7_skip_0 : decode cX7_skip 0 = .ok (.aload_n 0, 1) := by decide +kernel
theorem dX7_skip_1 : decode cX7_skip 1 = .ok (.getfield 9, 3) := by decide +kernel
theorem dX7_skip_4 : decode cX7_skip 4 = .ok (.iconst (-1), 1) := by decide +kernel
theorem dX7_skip_5 : decode cX7_skip 5 = .ok (.if_icmp .eq 20, 3) := by decide +kernel
theorem dX7_skip_8 : decode cX7_skip 8 = .ok (.aload_n 0, 1) := by decide +kernel
theorem dX7_skip_9 : decode cX7_skip 9 = .ok (.dup, 1) := by decide +kernel
theorem dX7_skip_10 : decode cX7_skip 10 = .ok (.getfield 21, 3) := by decide +kernel
theorem dX7_skip_13 : decode cX7_skip 13 = .ok (.aload_n 1, 1) := by decide +kernel
theorem dX7_skip_14 : decode cX7_skip 14 = .ok (.aload_n 0, 1) := by decide +kernel
theorem dX7_skip_15 : decode cX7_skip 15 = .ok (.getfield 9, 3) := by decide +kernel
theorem dX7_skip_18 : decode cX7_skip 18 = .ok (.invokevirtual 15, 3) := by decide +kernel
theorem dX7_skip_21 : decode cX7_skip 21 = .ok (.iadd, 1) := by decide +kernel
theorem dX7_skip_22 : decode cX7_skip 22 = .ok (.putfield 21, 3) := by decide +kernel
theorem dX7_skip_25 : decode cX7_skip 25 = .ok (.return_, 1) := by decide +kernel
set_option maxRecDepth 20000 in
theorem ggX7_beatsToEvent_X1_beatsUntil : GoodIn wsX7_beatsToEvent wsX1_beatsUntil := goodIn_ca (goodIn_r _ [9, 10, 11, 12, 13, 14, 15, 16, 17, 18, 19, 20, 21, 28, 29, 30, 31, 32, 33] (by decide +kernel) (by decide +kernel)) (goodIn_sub (fun _ h => List.mem_cons_of_mem _ (List.mem_append_right _ h)) (by decide +kernel))
set_option maxRecDepth 20000 in
theorem gX7_beatsToEvent_X1_beatsUntil : GoodIn wsX7_beatsToEvent (wsV RX7 28 RX1 yX1_beatsUntil wsX1_beatsUntil) := goodIn_app (goodIn_of _ (by decide +kernel)) ggX7_beatsToEvent_X1_beatsUntil
theorem dX7_beatsToEvent_0 : decode cX7_beatsToEvent 0 = .ok (.aload_n 0, 1) := by decide +kernel
theorem dX7_beatsToEvent_1 : decode cX7_beatsToEvent 1 = .ok (.getfield 9, 3) := by decide +kernel
theorem dX7_beatsToEvent_4 : decode cX7_beatsToEvent 4 = .ok (.iconst (-1), 1) := by decide +kernel
theorem dX7_beatsToEvent_5 : decode cX7_beatsToEvent 5 = .ok (.if_icmp .ne 8, 3) := by decide +kernel
theorem dX7_beatsToEvent_8 : decode cX7_beatsToEvent 8 = .ok (.ldc 27, 2) := by decide +kernel
theorem dX7_beatsToEvent_10 : decode cX7_beatsToEvent 10 = .ok (.goto 21, 3) := by decide +kernel
theorem dX7_beatsToEvent_13 : decode cX7_beatsToEvent 13 = .ok (.aload_n 1, 1) := by decide +kernel
theorem dX7_beatsToEvent_14 : decode cX7_beatsToEvent 14 = .ok (.aload_n 0, 1) := by decide +kernel
theorem dX7_beatsToEvent_15 : decode cX7_beatsToEvent 15 = .ok (.getfield 9, 3) := by decide +kernel
theorem dX7_beatsToEvent_18 : decode cX7_beatsToEvent 18 = .ok (.aload_n 0, 1) := by decide +kernel
theorem dX7_beatsToEvent_19 : decode cX7_beatsToEvent 19 = .ok (.getfield 24, 3) := by decide +kernel
theorem dX7_beatsToEvent_22 : decode cX7_beatsToEvent 22 = .ok (.aload_n 0, 1) := by decide +kernel
theorem dX7_beatsToEvent_23 : decode cX7_beatsToEvent 23 = .ok (.getfield 21, 3) := by decide +kernel
theorem dX7_beatsToEvent_26 : decode cX7_beatsToEvent 26 = .ok (.isub, 1) := by decide +kernel
theorem dX7_beatsToEvent_27 : decode cX7_beatsToEvent 27 = .ok (.iload_n 2, 1) := by decide +kernel
theorem dX7_beatsToEvent_28 : decode cX7_beatsToEvent 28 = .ok (.invokevirtual 28, 3) := by decide +kernel
theorem dX7_beatsToEvent_31 : decode cX7_beatsToEvent 31 = .ok (.ireturn, 1) := by decide +kernel
theorem dX7_bitesWhenFed_0 : decode cX7_bitesWhenFed 0 = .ok (.aload_n 0, 1) := by decide +kernel
theorem dX7_bitesWhenFed_1 : decode cX7_bitesWhenFed 1 = .ok (.getfield 9, 3) := by decide +kernel
theorem dX7_bitesWhenFed_4 : decode cX7_bitesWhenFed 4 = .ok (.iconst (-1), 1) := by decide +kernel
theorem dX7_bitesWhenFed_5 : decode cX7_bitesWhenFed 5 = .ok (.if_icmp .ne 5, 3) := by decide +kernel
theorem dX7_bitesWhenFed_8 : decode cX7_bitesWhenFed 8 = .ok (.iconst 0, 1) := by decide +kernel
theorem dX7_bitesWhenFed_9 : decode cX7_bitesWhenFed 9 = .ok (.ireturn, 1) := by decide +kernel
theorem dX7_bitesWhenFed_10 : decode cX7_bitesWhenFed 10 = .ok (.aload_n 0, 1) := by decide +kernel
theorem dX7_bitesWhenFed_11 : decode cX7_bitesWhenFed 11 = .ok (.getfield 21, 3) := by decide +kernel
theorem dX7_bitesWhenFed_14 : decode cX7_bitesWhenFed 14 = .ok (.aload_n 0, 1) := by decide +kernel
theorem dX7_bitesWhenFed_15 : decode cX7_bitesWhenFed 15 = .ok (.getfield 32, 3) := by decide +kernel
theorem dX7_bitesWhenFed_18 : decode cX7_bitesWhenFed 18 = .ok (.if_icmp .ge 5, 3) := by decide +kernel
theorem dX7_bitesWhenFed_21 : decode cX7_bitesWhenFed 21 = .ok (.iconst 1, 1) := by decide +kernel
theorem dX7_bitesWhenFed_22 : decode cX7_bitesWhenFed 22 = .ok (.ireturn, 1) := by decide +kernel
theorem dX7_bitesWhenFed_23 : decode cX7_bitesWhenFed 23 = .ok (.aload_n 0, 1) := by decide +kernel
theorem dX7_bitesWhenFed_24 : decode cX7_bitesWhenFed 24 = .ok (.iconst 0, 1) := by decide +kernel
theorem dX7_bitesWhenFed_25 : decode cX7_bitesWhenFed 25 = .ok (.putfield 21, 3) := by decide +kernel
theorem dX7_bitesWhenFed_28 : decode cX7_bitesWhenFed 28 = .ok (.iconst 0, 1) := by decide +kernel
theorem dX7_bitesWhenFed_29 : decode cX7_bitesWhenFed 29 = .ok (.ireturn, 1) := by decide +kernel
theorem dX7_noteReset_0 : decode cX7_noteReset 0 = .ok (.aload_n 0, 1) := by decide +kernel
theorem dX7_noteReset_1 : decode cX7_noteReset 1 = .ok (.iconst 0, 1) := by decide +kernel
theorem dX7_noteReset_2 : decode cX7_noteReset 2 = .ok (.putfield 21, 3) := by decide +kernel
theorem dX7_noteReset_5 : decode cX7_noteReset 5 = .ok (.aload_n 0, 1) := by decide +kernel
theorem dX7_noteReset_6 : decode cX7_noteReset 6 = .ok (.dup, 1) := by decide +kernel
theorem dX7_noteReset_7 : decode cX7_noteReset 7 = .ok (.getfield 35, 3) := by decide +kernel
theorem dX7_noteReset_10 : decode cX7_noteReset 10 = .ok (.iconst 1, 1) := by decide +kernel
theorem dX7_noteReset_11 : decode cX7_noteReset 11 = .ok (.iadd, 1) := by decide +kernel
theorem dX7_noteReset_12 : decode cX7_noteReset 12 = .ok (.putfield 35, 3) := by decide +kernel
theorem dX7_noteReset_15 : decode cX7_noteReset 15 = .ok (.aload_n 0, 1) := by decide +kernel
theorem dX7_noteReset_16 : decode cX7_noteReset 16 = .ok (.iload_n 1, 1) := by decide +kernel
theorem dX7_noteReset_17 : decode cX7_noteReset 17 = .ok (.putfield 38, 3) := by decide +kernel
theorem dX7_noteReset_20 : decode cX7_noteReset 20 = .ok (.return_, 1) := by decide +kernel
theorem dX7_copyFrom_0 : decode cX7_copyFrom 0 = .ok (.aload_n 0, 1) := by decide +kernel
theorem dX7_copyFrom_1 : decode cX7_copyFrom 1 = .ok (.aload_n 1, 1) := by decide +kernel
theorem dX7_copyFrom_2 : decode cX7_copyFrom 2 = .ok (.getfield 9, 3) := by decide +kernel
theorem dX7_copyFrom_5 : decode cX7_copyFrom 5 = .ok (.putfield 9, 3) := by decide +kernel
theorem dX7_copyFrom_8 : decode cX7_copyFrom 8 = .ok (.aload_n 0, 1) := by decide +kernel
theorem dX7_copyFrom_9 : decode cX7_copyFrom 9 = .ok (.aload_n 1, 1) := by decide +kernel
theorem dX7_copyFrom_10 : decode cX7_copyFrom 10 = .ok (.getfield 32, 3) := by decide +kernel
theorem dX7_copyFrom_13 : decode cX7_copyFrom 13 = .ok (.putfield 32, 3) := by decide +kernel
theorem dX7_copyFrom_16 : decode cX7_copyFrom 16 = .ok (.aload_n 0, 1) := by decide +kernel
theorem dX7_copyFrom_17 : decode cX7_copyFrom 17 = .ok (.aload_n 1, 1) := by decide +kernel
theorem dX7_copyFrom_18 : decode cX7_copyFrom 18 = .ok (.getfield 24, 3) := by decide +kernel
theorem dX7_copyFrom_21 : decode cX7_copyFrom 21 = .ok (.putfield 24, 3) := by decide +kernel
theorem dX7_copyFrom_24 : decode cX7_copyFrom 24 = .ok (.aload_n 0, 1) := by decide +kernel
theorem dX7_copyFrom_25 : decode cX7_copyFrom 25 = .ok (.aload_n 1, 1) := by decide +kernel
theorem dX7_copyFrom_26 : decode cX7_copyFrom 26 = .ok (.getfield 21, 3) := by decide +kernel
theorem dX7_copyFrom_29 : decode cX7_copyFrom 29 = .ok (.putfield 21, 3) := by decide +kernel
theorem dX7_copyFrom_32 : decode cX7_copyFrom 32 = .ok (.aload_n 0, 1) := by decide +kernel
theorem dX7_copyFrom_33 : decode cX7_copyFrom 33 = .ok (.aload_n 1, 1) := by decide +kernel
theorem dX7_copyFrom_34 : decode cX7_copyFrom 34 = .ok (.getfield 35, 3) := by decide +kernel
theorem dX7_copyFrom_37 : decode cX7_copyFrom 37 = .ok (.putfield 35, 3) := by decide +kernel
theorem dX7_copyFrom_40 : decode cX7_copyFrom 40 = .ok (.aload_n 0, 1) := by decide +kernel
theorem dX7_copyFrom_41 : decode cX7_copyFrom 41 = .ok (.aload_n 1, 1) := by decide +kernel
theorem dX7_copyFrom_42 : decode cX7_copyFrom 42 = .ok (.getfield 38, 3) := by decide +kernel
theorem dX7_copyFrom_45 : decode cX7_copyFrom 45 = .ok (.putfield 38, 3) := by decide +kernel
theorem dX7_copyFrom_48 : decode cX7_copyFrom 48 = .ok (.return_, 1) := by decide +kernel
theorem dX7_isSameAs_0 : decode cX7_isSameAs 0 = .ok (.aload_n 0, 1) := by decide +kernel
theorem dX7_isSameAs_1 : decode cX7_isSameAs 1 = .ok (.getfield 9, 3) := by decide +kernel
theorem dX7_isSameAs_4 : decode cX7_isSameAs 4 = .ok (.aload_n 1, 1) := by decide +kernel
theorem dX7_isSameAs_5 : decode cX7_isSameAs 5 = .ok (.getfield 9, 3) := by decide +kernel
theorem dX7_isSameAs_8 : decode cX7_isSameAs 8 = .ok (.if_icmp .ne 62, 3) := by decide +kernel
theorem dX7_isSameAs_11 : decode cX7_isSameAs 11 = .ok (.aload_n 0, 1) := by decide +kernel
theorem dX7_isSameAs_12 : decode cX7_isSameAs 12 = .ok (.getfield 32, 3) := by decide +kernel
theorem dX7_isSameAs_15 : decode cX7_isSameAs 15 = .ok (.aload_n 1, 1) := by decide +kernel
theorem dX7_isSameAs_16 : decode cX7_isSameAs 16 = .ok (.getfield 32, 3) := by decide +kernel
theorem dX7_isSameAs_19 : decode cX7_isSameAs 19 = .ok (.if_icmp .ne 51, 3) := by decide +kernel
theorem dX7_isSameAs_22 : decode cX7_isSameAs 22 = .ok (.aload_n 0, 1) := by decide +kernel
theorem dX7_isSameAs_23 : decode cX7_isSameAs 23 = .ok (.getfield 24, 3) := by decide +kernel
theorem dX7_isSameAs_26 : decode cX7_isSameAs 26 = .ok (.aload_n 1, 1) := by decide +kernel
theorem dX7_isSameAs_27 : decode cX7_isSameAs 27 = .ok (.getfield 24, 3) := by decide +kernel
theorem dX7_isSameAs_30 : decode cX7_isSameAs 30 = .ok (.if_icmp .ne 40, 3) := by decide +kernel
theorem dX7_isSameAs_33 : decode cX7_isSameAs 33 = .ok (.aload_n 0, 1) := by decide +kernel
theorem dX7_isSameAs_34 : decode cX7_isSameAs 34 = .ok (.getfield 21, 3) := by decide +kernel
theorem dX7_isSameAs_37 : decode cX7_isSameAs 37 = .ok (.aload_n 1, 1) := by decide +kernel
theorem dX7_isSameAs_38 : decode cX7_isSameAs 38 = .ok (.getfield 21, 3) := by decide +kernel
theorem dX7_isSameAs_41 : decode cX7_isSameAs 41 = .ok (.if_icmp .ne 29, 3) := by decide +kernel
theorem dX7_isSameAs_44 : decode cX7_isSameAs 44 = .ok (.aload_n 0, 1) := by decide +kernel
theorem dX7_isSameAs_45 : decode cX7_isSameAs 45 = .ok (.getfield 35, 3) := by decide +kernel
theorem dX7_isSameAs_48 : decode cX7_isSameAs 48 = .ok (.aload_n 1, 1) := by decide +kernel
theorem dX7_isSameAs_49 : decode cX7_isSameAs 49 = .ok (.getfield 35, 3) := by decide +kernel
theorem dX7_isSameAs_52 : decode cX7_isSameAs 52 = .ok (.if_icmp .ne 18, 3) := by decide +kernel
theorem dX7_isSameAs_55 : decode cX7_isSameAs 55 = .ok (.aload_n 0, 1) := by decide +kernel
theorem dX7_isSameAs_56 : decode cX7_isSameAs 56 = .ok (.getfield 38, 3) := by decide +kernel
theorem dX7_isSameAs_59 : decode cX7_isSameAs 59 = .ok (.aload_n 1, 1) := by decide +kernel
theorem dX7_isSameAs_60 : decode cX7_isSameAs 60 = .ok (.getfield 38, 3) := by decide +kernel
theorem dX7_isSameAs_63 : decode cX7_isSameAs 63 = .ok (.if_icmp .ne 7, 3) := by decide +kernel
theorem dX7_isSameAs_66 : decode cX7_isSameAs 66 = .ok (.iconst 1, 1) := by decide +kernel
theorem dX7_isSameAs_67 : decode cX7_isSameAs 67 = .ok (.goto 4, 3) := by decide +kernel
theorem dX7_isSameAs_70 : decode cX7_isSameAs 70 = .ok (.iconst 0, 1) := by decide +kernel
theorem dX7_isSameAs_71 : decode cX7_isSameAs 71 = .ok (.ireturn, 1) := by decide +kernel
set_option maxRecDepth 20000 in
theorem ggX8_init_X0_init : GoodIn wsX8_init wsX0_init := goodIn_r _ [11, 12, 2, 3, 13, 14, 15, 16, 17, 18, 19, 20, 21, 22, 23, 24, 25, 26, 27, 28, 29, 30, 31, 32, 33, 34, 35, 36, 37, 38, 39, 40, 41, 42, 43, 44, 45, 46, 47, 48, 49, 50, 51, 52, 53, 54, 55, 56, 57, 58, 59, 60, 61, 62, 63, 64, 65, 66, 67, 68, 69, 70, 71, 72, 73, 74, 75, 76, 77, 78, 79, 80, 81, 82, 83, 84, 85, 86, 87, 88, 89, 90, 91, 92, 93, 94, 95, 96, 109, 110, 111, 112, 113, 114, 97, 98, 99, 100, 101, 102, 103, 104, 105, 115, 116, 117, 118, 119, 120, 121, 122, 123, 124, 125, 126, 127, 128, 129, 130, 131, 132, 133, 134, 135, 136, 137, 138, 139, 140, 141, 142, 143, 144, 145, 146, 147, 148, 149, 150] (by decide +kernel) (by decide +kernel)
set_option maxRecDepth 20000 in
theorem gX8_init_X0_init_n9 : GoodIn wsX8_init (wsX0_init) := ggX8_init_X0_init
theorem dX8_init_0 : decode cX8_init 0 = .ok (.aload_n 0, 1) := by decide +kernel
theorem dX8_init_1 : decode cX8_init 1 = .ok (.invokespecial 1, 3) := by decide +kernel
theorem dX8_init_4 : decode cX8_init 4 = .ok (.aload_n 0, 1) := by decide +kernel
theorem dX8_init_5 : decode cX8_init 5 = .ok (.new 7, 3) := by decide +kernel
theorem dX8_init_8 : decode cX8_init 8 = .ok (.dup, 1) := by decide +kernel
theorem dX8_init_9 : decode cX8_init 9 = .ok (.invokespecial 9, 3) := by decide +kernel
theorem dX8_init_12 : decode cX8_init 12 = .ok (.putfield 10, 3) := by decide +kernel
theorem dX8_init_15 : decode cX8_init 15 = .ok (.aload_n 0, 1) := by decide +kernel
theorem dX8_init_16 : decode cX8_init 16 = .ok (.new 7, 3) := by decide +kernel
theorem dX8_init_19 : decode cX8_init 19 = .ok (.dup, 1) := by decide +kernel
theorem dX8_init_20 : decode cX8_init 20 = .ok (.invokespecial 9, 3) := by decide +kernel
theorem dX8_init_23 : decode cX8_init 23 = .ok (.putfield 16, 3) := by decide +kernel
theorem dX8_init_26 : decode cX8_init 26 = .ok (.aload_n 0, 1) := by decide +kernel
theorem dX8_init_27 : decode cX8_init 27 = .ok (.new 7, 3) := by decide +kernel
theorem dX8_init_30 : decode cX8_init 30 = .ok (.dup, 1) := by decide +kernel
theorem dX8_init_31 : decode cX8_init 31 = .ok (.invokespecial 9, 3) := by decide +kernel
theorem dX8_init_34 : decode cX8_init 34 = .ok (.putfield 19, 3) := by decide +kernel
theorem dX8_init_37 : decode cX8_init 37 = .ok (.return_, 1) := by decide +kernel
set_option maxRecDepth 20000 in
theorem ggX8_setClock_X8_withBit : GoodIn wsX8_setClock wsX8_withBit := goodIn_r _ [13] (by decide +kernel) (by decide +kernel)
set_option maxRecDepth 20000 in
theorem gX8_setClock_X8_withBit : GoodIn wsX8_setClock (va_wsS RX8 53 yX8_withBit wsX8_withBit) := goodIn_app (goodIn_of _ (by decide +kernel)) ggX8_setClock_X8_withBit
theorem dX8_setClock_0 : decode cX8_setClock 0 = .ok (.iload_n 1, 1) := by decide +kernel
theorem dX8_setClock_1 : decode cX8_setClock 1 = .ok (.iconst 1, 1) := by decide +kernel
theorem dX8_setClock_2 : decode cX8_setClock 2 = .ok (.if_icmp .lt 8, 3) := by decide +kernel
theorem dX8_setClock_5 : decode cX8_setClock 5 = .ok (.iload_n 1, 1) := by decide +kernel
theorem dX8_setClock_6 : decode cX8_setClock 6 = .ok (.iconst 4, 1) := by decide +kernel
theorem dX8_setClock_7 : decode cX8_setClock 7 = .ok (.if_icmp .lt 13, 3) := by decide +kernel
theorem dX8_setClock_10 : decode cX8_setClock 10 = .ok (.new 22, 3) := by decide +kernel
theorem dX8_setClock_13 : decode cX8_setClock 13 = .ok (.dup, 1) := by decide +kernel
theorem dX8_setClock_14 : decode cX8_setClock 14 = .ok (.ldc 24, 2) := by decide +kernel
theorem dX8_setClock_16 : decode cX8_setClock 16 = .ok (.invokespecial 26, 3) := by decide +kernel
theorem dX8_setClock_19 : decode cX8_setClock 19 = .ok (.athrow, 1) := by decide +kernel
theorem dX8_setClock_20 : decode cX8_setClock 20 = .ok (.iload_n 2, 1) := by decide +kernel
theorem dX8_setClock_21 : decode cX8_setClock 21 = .ok (.ifCond .lt 8, 3) := by decide +kernel
theorem dX8_setClock_24 : decode cX8_setClock 24 = .ok (.iload_n 2, 1) := by decide +kernel
theorem dX8_setClock_25 : decode cX8_setClock 25 = .ok (.iload_n 1, 1) := by decide +kernel
theorem dX8_setClock_26 : decode cX8_setClock 26 = .ok (.if_icmp .lt 13, 3) := by decide +kernel
theorem dX8_setClock_29 : decode cX8_setClock 29 = .ok (.new 22, 3) := by decide +kernel
theorem dX8_setClock_32 : decode cX8_setClock 32 = .ok (.dup, 1) := by decide +kernel
theorem dX8_setClock_33 : decode cX8_setClock 33 = .ok (.ldc 29, 2) := by decide +kernel
theorem dX8_setClock_35 : decode cX8_setClock 35 = .ok (.invokespecial 26, 3) := by decide +kernel
theorem dX8_setClock_38 : decode cX8_setClock 38 = .ok (.athrow, 1) := by decide +kernel
theorem dX8_setClock_39 : decode cX8_setClock 39 = .ok (.iload_n 3, 1) := by decide +kernel
theorem dX8_setClock_40 : decode cX8_setClock 40 = .ok (.iconst 1, 1) := by decide +kernel
theorem dX8_setClock_41 : decode cX8_setClock 41 = .ok (.if_icmp .lt 9, 3) := by decide +kernel
theorem dX8_setClock_44 : decode cX8_setClock 44 = .ok (.iload_n 3, 1) := by decide +kernel
theorem dX8_setClock_45 : decode cX8_setClock 45 = .ok (.bipush 64, 2) := by decide +kernel
theorem dX8_setClock_47 : decode cX8_setClock 47 = .ok (.if_icmp .le 13, 3) := by decide +kernel
theorem dX8_setClock_50 : decode cX8_setClock 50 = .ok (.new 31, 3) := by decide +kernel
theorem dX8_setClock_53 : decode cX8_setClock 53 = .ok (.dup, 1) := by decide +kernel
theorem dX8_setClock_54 : decode cX8_setClock 54 = .ok (.ldc 33, 2) := by decide +kernel
theorem dX8_setClock_56 : decode cX8_setClock 56 = .ok (.invokespecial 35, 3) := by decide +kernel
theorem dX8_setClock_59 : decode cX8_setClock 59 = .ok (.athrow, 1) := by decide +kernel
theorem dX8_setClock_60 : decode cX8_setClock 60 = .ok (.aload_n 0, 1) := by decide +kernel
theorem dX8_setClock_61 : decode cX8_setClock 61 = .ok (.getfield 10, 3) := by decide +kernel
theorem dX8_setClock_64 : decode cX8_setClock 64 = .ok (.getfield 36, 3) := by decide +kernel
theorem dX8_setClock_67 : decode cX8_setClock 67 = .ok (.astore 5, 2) := by decide +kernel
theorem dX8_setClock_69 : decode cX8_setClock 69 = .ok (.aload 5, 2) := by decide +kernel
theorem dX8_setClock_71 : decode cX8_setClock 71 = .ok (.getfield 40, 3) := by decide +kernel
theorem dX8_setClock_74 : decode cX8_setClock 74 = .ok (.iload_n 1, 1) := by decide +kernel
theorem dX8_setClock_75 : decode cX8_setClock 75 = .ok (.iaload, 1) := by decide +kernel
theorem dX8_setClock_76 : decode cX8_setClock 76 = .ok (.istore 6, 2) := by decide +kernel
theorem dX8_setClock_78 : decode cX8_setClock 78 = .ok (.aload 5, 2) := by decide +kernel
theorem dX8_setClock_80 : decode cX8_setClock 80 = .ok (.getfield 46, 3) := by decide +kernel
theorem dX8_setClock_83 : decode cX8_setClock 83 = .ok (.iload_n 1, 1) := by decide +kernel
theorem dX8_setClock_84 : decode cX8_setClock 84 = .ok (.iload_n 2, 1) := by decide +kernel
theorem dX8_setClock_85 : decode cX8_setClock 85 = .ok (.iastore, 1) := by decide +kernel
theorem dX8_setClock_86 : decode cX8_setClock 86 = .ok (.aload 5, 2) := by decide +kernel
theorem dX8_setClock_88 : decode cX8_setClock 88 = .ok (.getfield 40, 3) := by decide +kernel
theorem dX8_setClock_91 : decode cX8_setClock 91 = .ok (.iload_n 1, 1) := by decide +kernel
theorem dX8_setClock_92 : decode cX8_setClock 92 = .ok (.iload_n 3, 1) := by decide +kernel
theorem dX8_setClock_93 : decode cX8_setClock 93 = .ok (.iastore, 1) := by decide +kernel
theorem dX8_setClock_94 : decode cX8_setClock 94 = .ok (.aload 5, 2) := by decide +kernel
theorem dX8_setClock_96 : decode cX8_setClock 96 = .ok (.aload 5, 2) := by decide +kernel
theorem dX8_setClock_98 : decode cX8_setClock 98 = .ok (.getfield 49, 3) := by decide +kernel
theorem dX8_setClock_101 : decode cX8_setClock 101 = .ok (.iload_n 1, 1) := by decide +kernel
theorem dX8_setClock_102 : decode cX8_setClock 102 = .ok (.iload 4, 2) := by decide +kernel
theorem dX8_setClock_104 : decode cX8_setClock 104 = .ok (.invokestatic 53, 3) := by decide +kernel
theorem dX8_setClock_107 : decode cX8_setClock 107 = .ok (.putfield 49, 3) := by decide +kernel
theorem dX8_setClock_110 : decode cX8_setClock 110 = .ok (.iload 6, 2) := by decide +kernel
theorem dX8_setClock_112 : decode cX8_setClock 112 = .ok (.ireturn, 1) := by decide +kernel
set_option maxRecDepth 20000 in
theorem ggX8_setTimer_X8_withBit : GoodIn wsX8_setTimer wsX8_withBit := goodIn_r _ [15] (by decide +kernel) (by decide +kernel)
set_option maxRecDepth 20000 in
theorem gX8_setTimer_X8_withBit : GoodIn wsX8_setTimer (va_wsS RX8 53 yX8_withBit wsX8_withBit) := goodIn_app (goodIn_of _ (by decide +kernel)) ggX8_setTimer_X8_withBit
theorem dX8_setTimer_0 : decode cX8_setTimer 0 = .ok (.iload_n 1, 1) := by decide +kernel
theorem dX8_setTimer_1 : decode cX8_setTimer 1 = .ok (.ifCond .lt 17, 3) := by decide +kernel
theorem dX8_setTimer_4 : decode cX8_setTimer 4 = .ok (.iload_n 1, 1) := by decide +kernel
theorem dX8_setTimer_5 : decode cX8_setTimer 5 = .ok (.iconst 4, 1) := by decide +kernel
theorem dX8_setTimer_6 : decode cX8_setTimer 6 = .ok (.if_icmp .ge 12, 3) := by decide +kernel
theorem dX8_setTimer_9 : decode cX8_setTimer 9 = .ok (.iload_n 2, 1) := by decide +kernel
theorem dX8_setTimer_10 : decode cX8_setTimer 10 = .ok (.ifCond .lt 8, 3) := by decide +kernel
theorem dX8_setTimer_13 : decode cX8_setTimer 13 = .ok (.iload_n 2, 1) := by decide +kernel
theorem dX8_setTimer_14 : decode cX8_setTimer 14 = .ok (.iconst 4, 1) := by decide +kernel
theorem dX8_setTimer_15 : decode cX8_setTimer 15 = .ok (.if_icmp .lt 13, 3) := by decide +kernel
theorem dX8_setTimer_18 : decode cX8_setTimer 18 = .ok (.new 22, 3) := by decide +kernel
theorem dX8_setTimer_21 : decode cX8_setTimer 21 = .ok (.dup, 1) := by decide +kernel
theorem dX8_setTimer_22 : decode cX8_setTimer 22 = .ok (.ldc 57, 2) := by decide +kernel
theorem dX8_setTimer_24 : decode cX8_setTimer 24 = .ok (.invokespecial 26, 3) := by decide +kernel
theorem dX8_setTimer_27 : decode cX8_setTimer 27 = .ok (.athrow, 1) := by decide +kernel
theorem dX8_setTimer_28 : decode cX8_setTimer 28 = .ok (.iload_n 3, 1) := by decide +kernel
theorem dX8_setTimer_29 : decode cX8_setTimer 29 = .ok (.iconst 1, 1) := by decide +kernel
theorem dX8_setTimer_30 : decode cX8_setTimer 30 = .ok (.if_icmp .lt 24, 3) := by decide +kernel
theorem dX8_setTimer_33 : decode cX8_setTimer 33 = .ok (.iload_n 3, 1) := by decide +kernel
theorem dX8_setTimer_34 : decode cX8_setTimer 34 = .ok (.sipush 200, 3) := by decide +kernel
theorem dX8_setTimer_37 : decode cX8_setTimer 37 = .ok (.if_icmp .gt 17, 3) := by decide +kernel
theorem dX8_setTimer_40 : decode cX8_setTimer 40 = .ok (.iload 4, 2) := by decide +kernel
theorem dX8_setTimer_42 : decode cX8_setTimer 42 = .ok (.iconst 1, 1) := by decide +kernel
theorem dX8_setTimer_43 : decode cX8_setTimer 43 = .ok (.if_icmp .lt 11, 3) := by decide +kernel
theorem dX8_setTimer_46 : decode cX8_setTimer 46 = .ok (.iload 4, 2) := by decide +kernel
theorem dX8_setTimer_48 : decode cX8_setTimer 48 = .ok (.sipush 200, 3) := by decide +kernel
theorem dX8_setTimer_51 : decode cX8_setTimer 51 = .ok (.if_icmp .le 13, 3) := by decide +kernel
theorem dX8_setTimer_54 : decode cX8_setTimer 54 = .ok (.new 31, 3) := by decide +kernel
theorem dX8_setTimer_57 : decode cX8_setTimer 57 = .ok (.dup, 1) := by decide +kernel
theorem dX8_setTimer_58 : decode cX8_setTimer 58 = .ok (.ldc 59, 2) := by decide +kernel
theorem dX8_setTimer_60 : decode cX8_setTimer 60 = .ok (.invokespecial 35, 3) := by decide +kernel
theorem dX8_setTimer_63 : decode cX8_setTimer 63 = .ok (.athrow, 1) := by decide +kernel
theorem dX8_setTimer_64 : decode cX8_setTimer 64 = .ok (.iload 5, 2) := by decide +kernel
theorem dX8_setTimer_66 : decode cX8_setTimer 66 = .ok (.bipush 114, 2) := by decide +kernel
theorem dX8_setTimer_68 : decode cX8_setTimer 68 = .ok (.if_icmp .eq 20, 3) := by decide +kernel
theorem dX8_setTimer_71 : decode cX8_setTimer 71 = .ok (.iload 5, 2) := by decide +kernel
theorem dX8_setTimer_73 : decode cX8_setTimer 73 = .ok (.bipush 111, 2) := by decide +kernel
theorem dX8_setTimer_75 : decode cX8_setTimer 75 = .ok (.if_icmp .eq 13, 3) := by decide +kernel
theorem dX8_setTimer_78 : decode cX8_setTimer 78 = .ok (.new 31, 3) := by decide +kernel
theorem dX8_setTimer_81 : decode cX8_setTimer 81 = .ok (.dup, 1) := by decide +kernel
theorem dX8_setTimer_82 : decode cX8_setTimer 82 = .ok (.ldc 61, 2) := by decide +kernel
theorem dX8_setTimer_84 : decode cX8_setTimer 84 = .ok (.invokespecial 35, 3) := by decide +kernel
theorem dX8_setTimer_87 : decode cX8_setTimer 87 = .ok (.athrow, 1) := by decide +kernel
theorem dX8_setTimer_88 : decode cX8_setTimer 88 = .ok (.aload_n 0, 1) := by decide +kernel
theorem dX8_setTimer_89 : decode cX8_setTimer 89 = .ok (.getfield 10, 3) := by decide +kernel
theorem dX8_setTimer_92 : decode cX8_setTimer 92 = .ok (.getfield 63, 3) := by decide +kernel
theorem dX8_setTimer_95 : decode cX8_setTimer 95 = .ok (.astore 6, 2) := by decide +kernel
theorem dX8_setTimer_97 : decode cX8_setTimer 97 = .ok (.aload 6, 2) := by decide +kernel
theorem dX8_setTimer_99 : decode cX8_setTimer 99 = .ok (.getfield 67, 3) := by decide +kernel
theorem dX8_setTimer_102 : decode cX8_setTimer 102 = .ok (.iload_n 1, 1) := by decide +kernel
theorem dX8_setTimer_103 : decode cX8_setTimer 103 = .ok (.iaload, 1) := by decide +kernel
theorem dX8_setTimer_104 : decode cX8_setTimer 104 = .ok (.istore 7, 2) := by decide +kernel
theorem dX8_setTimer_106 : decode cX8_setTimer 106 = .ok (.aload 6, 2) := by decide +kernel
theorem dX8_setTimer_108 : decode cX8_setTimer 108 = .ok (.getfield 72, 3) := by decide +kernel
theorem dX8_setTimer_111 : decode cX8_setTimer 111 = .ok (.iload_n 1, 1) := by decide +kernel
theorem dX8_setTimer_112 : decode cX8_setTimer 112 = .ok (.iload_n 2, 1) := by decide +kernel
theorem dX8_setTimer_113 : decode cX8_setTimer 113 = .ok (.iastore, 1) := by decide +kernel
theorem dX8_setTimer_114 : decode cX8_setTimer 114 = .ok (.aload 6, 2) := by decide +kernel
theorem dX8_setTimer_116 : decode cX8_setTimer 116 = .ok (.getfield 67, 3) := by decide +kernel
theorem dX8_setTimer_119 : decode cX8_setTimer 119 = .ok (.iload_n 1, 1) := by decide +kernel
theorem dX8_setTimer_120 : decode cX8_setTimer 120 = .ok (.iload_n 3, 1) := by decide +kernel
theorem dX8_setTimer_121 : decode cX8_setTimer 121 = .ok (.iastore, 1) := by decide +kernel
theorem dX8_setTimer_122 : decode cX8_setTimer 122 = .ok (.aload 6, 2) := by decide +kernel
theorem dX8_setTimer_124 : decode cX8_setTimer 124 = .ok (.getfield 75, 3) := by decide +kernel
theorem dX8_setTimer_127 : decode cX8_setTimer 127 = .ok (.iload_n 1, 1) := by decide +kernel
theorem dX8_setTimer_128 : decode cX8_setTimer 128 = .ok (.iload 4, 2) := by decide +kernel
theorem dX8_setTimer_130 : decode cX8_setTimer 130 = .ok (.iastore, 1) := by decide +kernel
theorem dX8_setTimer_131 : decode cX8_setTimer 131 = .ok (.aload 6, 2) := by decide +kernel
theorem dX8_setTimer_133 : decode cX8_setTimer 133 = .ok (.aload 6, 2) := by decide +kernel
theorem dX8_setTimer_135 : decode cX8_setTimer 135 = .ok (.getfield 78, 3) := by decide +kernel
theorem dX8_setTimer_138 : decode cX8_setTimer 138 = .ok (.iload_n 1, 1) := by decide +kernel
theorem dX8_setTimer_139 : decode cX8_setTimer 139 = .ok (.iload 5, 2) := by decide +kernel
theorem dX8_setTimer_141 : decode cX8_setTimer 141 = .ok (.bipush 111, 2) := by decide +kernel
theorem dX8_setTimer_143 : decode cX8_setTimer 143 = .ok (.if_icmp .ne 7, 3) := by decide +kernel
theorem dX8_setTimer_146 : decode cX8_setTimer 146 = .ok (.iconst 1, 1) := by decide +kernel
theorem dX8_setTimer_147 : decode cX8_setTimer 147 = .ok (.goto 4, 3) := by decide +kernel
theorem dX8_setTimer_150 : decode cX8_setTimer 150 = .ok (.iconst 0, 1) := by decide +kernel
theorem dX8_setTimer_151 : decode cX8_setTimer 151 = .ok (.invokestatic 53, 3) := by decide +kernel
theorem dX8_setTimer_154 : decode cX8_setTimer 154 = .ok (.putfield 78, 3) := by decide +kernel
theorem dX8_setTimer_157 : decode cX8_setTimer 157 = .ok (.aload 6, 2) := by decide +kernel
theorem dX8_setTimer_159 : decode cX8_setTimer 159 = .ok (.getfield 81, 3) := by decide +kernel
theorem dX8_setTimer_162 : decode cX8_setTimer 162 = .ok (.iload_n 1, 1) := by decide +kernel
theorem dX8_setTimer_163 : decode cX8_setTimer 163 = .ok (.iconst (-1), 1) := by decide +kernel
theorem dX8_setTimer_164 : decode cX8_setTimer 164 = .ok (.iastore, 1) := by decide +kernel
theorem dX8_setTimer_165 : decode cX8_setTimer 165 = .ok (.iload 7, 2) := by decide +kernel
theorem dX8_setTimer_167 : decode cX8_setTimer 167 = .ok (.ireturn, 1) := by decide +kernel
theorem dX8_link_0 : decode cX8_link 0 = .ok (.iload_n 1, 1) := by decide +kernel
theorem dX8_link_1 : decode cX8_link 1 = .ok (.ifCond .lt 8, 3) := by decide +kernel
theorem dX8_link_4 : decode cX8_link 4 = .ok (.iload_n 1, 1) := by decide +kernel
theorem dX8_link_5 : decode cX8_link 5 = .ok (.iconst 4, 1) := by decide +kernel
theorem dX8_link_6 : decode cX8_link 6 = .ok (.if_icmp .lt 13, 3) := by decide +kernel
theorem dX8_link_9 : decode cX8_link 9 = .ok (.new 22, 3) := by decide +kernel
theorem dX8_link_12 : decode cX8_link 12 = .ok (.dup, 1) := by decide +kernel
theorem dX8_link_13 : decode cX8_link 13 = .ok (.ldc 84, 2) := by decide +kernel
theorem dX8_link_15 : decode cX8_link 15 = .ok (.invokespecial 26, 3) := by decide +kernel
theorem dX8_link_18 : decode cX8_link 18 = .ok (.athrow, 1) := by decide +kernel
theorem dX8_link_19 : decode cX8_link 19 = .ok (.iload_n 2, 1) := by decide +kernel
theorem dX8_link_20 : decode cX8_link 20 = .ok (.iconst (-1), 1) := by decide +kernel
theorem dX8_link_21 : decode cX8_link 21 = .ok (.if_icmp .lt 8, 3) := by decide +kernel
theorem dX8_link_24 : decode cX8_link 24 = .ok (.iload_n 2, 1) := by decide +kernel
theorem dX8_link_25 : decode cX8_link 25 = .ok (.iload_n 1, 1) := by decide +kernel
theorem dX8_link_26 : decode cX8_link 26 = .ok (.if_icmp .lt 13, 3) := by decide +kernel
theorem dX8_link_29 : decode cX8_link 29 = .ok (.new 31, 3) := by decide +kernel
theorem dX8_link_32 : decode cX8_link 32 = .ok (.dup, 1) := by decide +kernel
theorem dX8_link_33 : decode cX8_link 33 = .ok (.ldc 86, 2) := by decide +kernel
theorem dX8_link_35 : decode cX8_link 35 = .ok (.invokespecial 35, 3) := by decide +kernel
theorem dX8_link_38 : decode cX8_link 38 = .ok (.athrow, 1) := by decide +kernel
theorem dX8_link_39 : decode cX8_link 39 = .ok (.aload_n 0, 1) := by decide +kernel
theorem dX8_link_40 : decode cX8_link 40 = .ok (.getfield 10, 3) := by decide +kernel
theorem dX8_link_43 : decode cX8_link 43 = .ok (.getfield 63, 3) := by decide +kernel
theorem dX8_link_46 : decode cX8_link 46 = .ok (.getfield 81, 3) := by decide +kernel
theorem dX8_link_49 : decode cX8_link 49 = .ok (.iload_n 1, 1) := by decide +kernel
theorem dX8_link_50 : decode cX8_link 50 = .ok (.iaload, 1) := by decide +kernel
theorem dX8_link_51 : decode cX8_link 51 = .ok (.istore_n 3, 1) := by decide +kernel
theorem dX8_link_52 : decode cX8_link 52 = .ok (.aload_n 0, 1) := by decide +kernel
theorem dX8_link_53 : decode cX8_link 53 = .ok (.getfield 10, 3) := by decide +kernel
theorem dX8_link_56 : decode cX8_link 56 = .ok (.getfield 63, 3) := by decide +kernel
theorem dX8_link_59 : decode cX8_link 59 = .ok (.getfield 81, 3) := by decide +kernel
theorem dX8_link_62 : decode cX8_link 62 = .ok (.iload_n 1, 1) := by decide +kernel
theorem dX8_link_63 : decode cX8_link 63 = .ok (.iload_n 2, 1) := by decide +kernel
theorem dX8_link_64 : decode cX8_link 64 = .ok (.iastore, 1) := by decide +kernel
theorem dX8_link_65 : decode cX8_link 65 = .ok (.iload_n 3, 1) := by decide +kernel
theorem dX8_link_66 : decode cX8_link 66 = .ok (.ireturn, 1) := by decide +kernel
theorem dX8_setPin_0 : decode cX8_setPin 0 = .ok (.iload_n 1, 1) := by decide +kernel
theorem dX8_setPin_1 : decode cX8_setPin 1 = .ok (.ifCond .lt 18, 3) := by decide +kernel
theorem dX8_setPin_4 : decode cX8_setPin 4 = .ok (.iload_n 1, 1) := by decide +kernel
theorem dX8_setPin_5 : decode cX8_setPin 5 = .ok (.iconst 4, 1) := by decide +kernel
theorem dX8_setPin_6 : decode cX8_setPin 6 = .ok (.if_icmp .ge 13, 3) := by decide +kernel
theorem dX8_setPin_9 : decode cX8_setPin 9 = .ok (.iload_n 2, 1) := by decide +kernel
theorem dX8_setPin_10 : decode cX8_setPin 10 = .ok (.ifCond .lt 9, 3) := by decide +kernel
theorem dX8_setPin_13 : decode cX8_setPin 13 = .ok (.iload_n 2, 1) := by decide +kernel
theorem dX8_setPin_14 : decode cX8_setPin 14 = .ok (.bipush 8, 2) := by decide +kernel
theorem dX8_setPin_16 : decode cX8_setPin 16 = .ok (.if_icmp .lt 13, 3) := by decide +kernel
theorem dX8_setPin_19 : decode cX8_setPin 19 = .ok (.new 22, 3) := by decide +kernel
theorem dX8_setPin_22 : decode cX8_setPin 22 = .ok (.dup, 1) := by decide +kernel
theorem dX8_setPin_23 : decode cX8_setPin 23 = .ok (.ldc 88, 2) := by decide +kernel
theorem dX8_setPin_25 : decode cX8_setPin 25 = .ok (.invokespecial 26, 3) := by decide +kernel
theorem dX8_setPin_28 : decode cX8_setPin 28 = .ok (.athrow, 1) := by decide +kernel
theorem dX8_setPin_29 : decode cX8_setPin 29 = .ok (.iload_n 3, 1) := by decide +kernel
theorem dX8_setPin_30 : decode cX8_setPin 30 = .ok (.bipush 115, 2) := by decide +kernel
theorem dX8_setPin_32 : decode cX8_setPin 32 = .ok (.if_icmp .eq 31, 3) := by decide +kernel
theorem dX8_setPin_35 : decode cX8_setPin 35 = .ok (.iload_n 3, 1) := by decide +kernel
theorem dX8_setPin_36 : decode cX8_setPin 36 = .ok (.bipush 99, 2) := by decide +kernel
theorem dX8_setPin_38 : decode cX8_setPin 38 = .ok (.if_icmp .eq 25, 3) := by decide +kernel
theorem dX8_setPin_41 : decode cX8_setPin 41 = .ok (.iload_n 3, 1) := by decide +kernel
theorem dX8_setPin_42 : decode cX8_setPin 42 = .ok (.bipush 116, 2) := by decide +kernel
theorem dX8_setPin_44 : decode cX8_setPin 44 = .ok (.if_icmp .eq 19, 3) := by decide +kernel
theorem dX8_setPin_47 : decode cX8_setPin 47 = .ok (.iload_n 3, 1) := by decide +kernel
theorem dX8_setPin_48 : decode cX8_setPin 48 = .ok (.bipush 110, 2) := by decide +kernel
theorem dX8_setPin_50 : decode cX8_setPin 50 = .ok (.if_icmp .eq 13, 3) := by decide +kernel
theorem dX8_setPin_53 : decode cX8_setPin 53 = .ok (.new 31, 3) := by decide +kernel
theorem dX8_setPin_56 : decode cX8_setPin 56 = .ok (.dup, 1) := by decide +kernel
theorem dX8_setPin_57 : decode cX8_setPin 57 = .ok (.ldc 90, 2) := by decide +kernel
theorem dX8_setPin_59 : decode cX8_setPin 59 = .ok (.invokespecial 35, 3) := by decide +kernel
theorem dX8_setPin_62 : decode cX8_setPin 62 = .ok (.athrow, 1) := by decide +kernel
theorem dX8_setPin_63 : decode cX8_setPin 63 = .ok (.aload_n 0, 1) := by decide +kernel
theorem dX8_setPin_64 : decode cX8_setPin 64 = .ok (.getfield 10, 3) := by decide +kernel
theorem dX8_setPin_67 : decode cX8_setPin 67 = .ok (.getfield 63, 3) := by decide +kernel
theorem dX8_setPin_70 : decode cX8_setPin 70 = .ok (.getfield 92, 3) := by decide +kernel
theorem dX8_setPin_73 : decode cX8_setPin 73 = .ok (.iload_n 1, 1) := by decide +kernel
theorem dX8_setPin_74 : decode cX8_setPin 74 = .ok (.iaload, 1) := by decide +kernel
theorem dX8_setPin_75 : decode cX8_setPin 75 = .ok (.i2c, 1) := by decide +kernel
theorem dX8_setPin_76 : decode cX8_setPin 76 = .ok (.istore 4, 2) := by decide +kernel
theorem dX8_setPin_78 : decode cX8_setPin 78 = .ok (.aload_n 0, 1) := by decide +kernel
theorem dX8_setPin_79 : decode cX8_setPin 79 = .ok (.getfield 10, 3) := by decide +kernel
theorem dX8_setPin_82 : decode cX8_setPin 82 = .ok (.getfield 63, 3) := by decide +kernel
theorem dX8_setPin_85 : decode cX8_setPin 85 = .ok (.getfield 95, 3) := by decide +kernel
theorem dX8_setPin_88 : decode cX8_setPin 88 = .ok (.iload_n 1, 1) := by decide +kernel
theorem dX8_setPin_89 : decode cX8_setPin 89 = .ok (.iload_n 2, 1) := by decide +kernel
theorem dX8_setPin_90 : decode cX8_setPin 90 = .ok (.iastore, 1) := by decide +kernel
theorem dX8_setPin_91 : decode cX8_setPin 91 = .ok (.aload_n 0, 1) := by decide +kernel
theorem dX8_setPin_92 : decode cX8_setPin 92 = .ok (.getfield 10, 3) := by decide +kernel
theorem dX8_setPin_95 : decode cX8_setPin 95 = .ok (.getfield 63, 3) := by decide +kernel
theorem dX8_setPin_98 : decode cX8_setPin 98 = .ok (.getfield 92, 3) := by decide +kernel
theorem dX8_setPin_101 : decode cX8_setPin 101 = .ok (.iload_n 1, 1) := by decide +kernel
theorem dX8_setPin_102 : decode cX8_setPin 102 = .ok (.iload_n 3, 1) := by decide +kernel
theorem dX8_setPin_103 : decode cX8_setPin 103 = .ok (.iastore, 1) := by decide +kernel
theorem dX8_setPin_104 : decode cX8_setPin 104 = .ok (.iload 4, 2) := by decide +kernel
theorem dX8_setPin_106 : decode cX8_setPin 106 = .ok (.ireturn, 1) := by decide +kernel
set_option maxRecDepth 20000 in
theorem ggX8_start_X8_hasBit : GoodIn wsX8_start wsX8_hasBit := goodIn_r _ [9] (by decide +kernel) (by decide +kernel)
set_option maxRecDepth 20000 in
theorem gX8_start_X8_hasBit : GoodIn wsX8_start (va_wsS RX8 101 yX8_hasBit wsX8_hasBit) := goodIn_app (goodIn_of _ (by decide +kernel)) ggX8_start_X8_hasBit
set_option maxRecDepth 20000 in
theorem ggX8_start_X8_withBit : GoodIn wsX8_start wsX8_withBit := goodIn_r _ [12] (by decide +kernel) (by decide +kernel)
set_option maxRecDepth 20000 in
theorem gX8_start_X8_withBit : GoodIn wsX8_start (va_wsS RX8 53 yX8_withBit wsX8_withBit) := goodIn_app (goodIn_of _ (by decide +kernel)) ggX8_start_X8_withBit
theorem dX8_start_0 : decode cX8_start 0 = .ok (.iload_n 1, 1) := by decide +kernel
theorem dX8_start_1 : decode cX8_start 1 = .ok (.ifCond .lt 8, 3) := by decide +kernel
theorem dX8_start_4 : decode cX8_start 4 = .ok (.iload_n 1, 1) := by decide +kernel
theorem dX8_start_5 : decode cX8_start 5 = .ok (.iconst 4, 1) := by decide +kernel
theorem dX8_start_6 : decode cX8_start 6 = .ok (.if_icmp .lt 13, 3) := by decide +kernel
theorem dX8_start_9 : decode cX8_start 9 = .ok (.new 22, 3) := by decide +kernel
theorem dX8_start_12 : decode cX8_start 12 = .ok (.dup, 1) := by decide +kernel
theorem dX8_start_13 : decode cX8_start 13 = .ok (.ldc 84, 2) := by decide +kernel
theorem dX8_start_15 : decode cX8_start 15 = .ok (.invokespecial 26, 3) := by decide +kernel
theorem dX8_start_18 : decode cX8_start 18 = .ok (.athrow, 1) := by decide +kernel
theorem dX8_start_19 : decode cX8_start 19 = .ok (.aload_n 0, 1) := by decide +kernel
theorem dX8_start_20 : decode cX8_start 20 = .ok (.getfield 10, 3) := by decide +kernel
theorem dX8_start_23 : decode cX8_start 23 = .ok (.getfield 63, 3) := by decide +kernel
theorem dX8_start_26 : decode cX8_start 26 = .ok (.getfield 98, 3) := by decide +kernel
theorem dX8_start_29 : decode cX8_start 29 = .ok (.iload_n 1, 1) := by decide +kernel
theorem dX8_start_30 : decode cX8_start 30 = .ok (.invokestatic 101, 3) := by decide +kernel
theorem dX8_start_33 : decode cX8_start 33 = .ok (.istore_n 3, 1) := by decide +kernel
theorem dX8_start_34 : decode cX8_start 34 = .ok (.aload_n 0, 1) := by decide +kernel
theorem dX8_start_35 : decode cX8_start 35 = .ok (.getfield 10, 3) := by decide +kernel
theorem dX8_start_38 : decode cX8_start 38 = .ok (.getfield 63, 3) := by decide +kernel
theorem dX8_start_41 : decode cX8_start 41 = .ok (.aload_n 0, 1) := by decide +kernel
theorem dX8_start_42 : decode cX8_start 42 = .ok (.getfield 10, 3) := by decide +kernel
theorem dX8_start_45 : decode cX8_start 45 = .ok (.getfield 63, 3) := by decide +kernel
theorem dX8_start_48 : decode cX8_start 48 = .ok (.getfield 98, 3) := by decide +kernel
theorem dX8_start_51 : decode cX8_start 51 = .ok (.iload_n 1, 1) := by decide +kernel
theorem dX8_start_52 : decode cX8_start 52 = .ok (.iload_n 2, 1) := by decide +kernel
theorem dX8_start_53 : decode cX8_start 53 = .ok (.invokestatic 53, 3) := by decide +kernel
theorem dX8_start_56 : decode cX8_start 56 = .ok (.putfield 98, 3) := by decide +kernel
theorem dX8_start_59 : decode cX8_start 59 = .ok (.iload_n 3, 1) := by decide +kernel
theorem dX8_start_60 : decode cX8_start 60 = .ok (.ireturn, 1) := by decide +kernel
set_option maxRecDepth 20000 in
theorem ggX8_setLine_X8_withBit : GoodIn wsX8_setLine wsX8_withBit := goodIn_r _ [12] (by decide +kernel) (by decide +kernel)
set_option maxRecDepth 20000 in
theorem gX8_setLine_X8_withBit : GoodIn wsX8_setLine (va_wsS RX8 53 yX8_withBit wsX8_withBit) := goodIn_app (goodIn_of _ (by decide +kernel)) ggX8_setLine_X8_withBit
theorem dX8_setLine_0 : decode cX8_setLine 0 = .ok (.iload_n 1, 1) := by decide +kernel
theorem dX8_setLine_1 : decode cX8_setLine 1 = .ok (.ifCond .lt 9, 3) := by decide +kernel
theorem dX8_setLine_4 : decode cX8_setLine 4 = .ok (.iload_n 1, 1) := by decide +kernel
theorem dX8_setLine_5 : decode cX8_setLine 5 = .ok (.bipush 8, 2) := by decide +kernel
theorem dX8_setLine_7 : decode cX8_setLine 7 = .ok (.if_icmp .lt 13, 3) := by decide +kernel
theorem dX8_setLine_10 : decode cX8_setLine 10 = .ok (.new 22, 3) := by decide +kernel
theorem dX8_setLine_13 : decode cX8_setLine 13 = .ok (.dup, 1) := by decide +kernel
theorem dX8_setLine_14 : decode cX8_setLine 14 = .ok (.ldc 105, 2) := by decide +kernel
theorem dX8_setLine_16 : decode cX8_setLine 16 = .ok (.invokespecial 26, 3) := by decide +kernel
theorem dX8_setLine_19 : decode cX8_setLine 19 = .ok (.athrow, 1) := by decide +kernel
theorem dX8_setLine_20 : decode cX8_setLine 20 = .ok (.iload_n 2, 1) := by decide +kernel
theorem dX8_setLine_21 : decode cX8_setLine 21 = .ok (.ifCond .lt 9, 3) := by decide +kernel
theorem dX8_setLine_24 : decode cX8_setLine 24 = .ok (.iload_n 2, 1) := by decide +kernel
theorem dX8_setLine_25 : decode cX8_setLine 25 = .ok (.bipush 7, 2) := by decide +kernel
theorem dX8_setLine_27 : decode cX8_setLine 27 = .ok (.if_icmp .le 13, 3) := by decide +kernel
theorem dX8_setLine_30 : decode cX8_setLine 30 = .ok (.new 31, 3) := by decide +kernel
theorem dX8_setLine_33 : decode cX8_setLine 33 = .ok (.dup, 1) := by decide +kernel
theorem dX8_setLine_34 : decode cX8_setLine 34 = .ok (.ldc 107, 2) := by decide +kernel
theorem dX8_setLine_36 : decode cX8_setLine 36 = .ok (.invokespecial 35, 3) := by decide +kernel
theorem dX8_setLine_39 : decode cX8_setLine 39 = .ok (.athrow, 1) := by decide +kernel
theorem dX8_setLine_40 : decode cX8_setLine 40 = .ok (.aload_n 0, 1) := by decide +kernel
theorem dX8_setLine_41 : decode cX8_setLine 41 = .ok (.getfield 10, 3) := by decide +kernel
theorem dX8_setLine_44 : decode cX8_setLine 44 = .ok (.getfield 109, 3) := by decide +kernel
theorem dX8_setLine_47 : decode cX8_setLine 47 = .ok (.astore 4, 2) := by decide +kernel
theorem dX8_setLine_49 : decode cX8_setLine 49 = .ok (.aload 4, 2) := by decide +kernel
theorem dX8_setLine_51 : decode cX8_setLine 51 = .ok (.getfield 113, 3) := by decide +kernel
theorem dX8_setLine_54 : decode cX8_setLine 54 = .ok (.iload_n 1, 1) := by decide +kernel
theorem dX8_setLine_55 : decode cX8_setLine 55 = .ok (.iaload, 1) := by decide +kernel
theorem dX8_setLine_56 : decode cX8_setLine 56 = .ok (.istore 5, 2) := by decide +kernel
theorem dX8_setLine_58 : decode cX8_setLine 58 = .ok (.aload 4, 2) := by decide +kernel
theorem dX8_setLine_60 : decode cX8_setLine 60 = .ok (.getfield 113, 3) := by decide +kernel
theorem dX8_setLine_63 : decode cX8_setLine 63 = .ok (.iload_n 1, 1) := by decide +kernel
theorem dX8_setLine_64 : decode cX8_setLine 64 = .ok (.iload_n 2, 1) := by decide +kernel
theorem dX8_setLine_65 : decode cX8_setLine 65 = .ok (.iastore, 1) := by decide +kernel
theorem dX8_setLine_66 : decode cX8_setLine 66 = .ok (.aload 4, 2) := by decide +kernel
theorem dX8_setLine_68 : decode cX8_setLine 68 = .ok (.aload 4, 2) := by decide +kernel
theorem dX8_setLine_70 : decode cX8_setLine 70 = .ok (.getfield 118, 3) := by decide +kernel
theorem dX8_setLine_73 : decode cX8_setLine 73 = .ok (.iload_n 1, 1) := by decide +kernel
theorem dX8_setLine_74 : decode cX8_setLine 74 = .ok (.iload_n 3, 1) := by decide +kernel
theorem dX8_setLine_75 : decode cX8_setLine 75 = .ok (.invokestatic 53, 3) := by decide +kernel
theorem dX8_setLine_78 : decode cX8_setLine 78 = .ok (.putfield 118, 3) := by decide +kernel
theorem dX8_setLine_81 : decode cX8_setLine 81 = .ok (.iload 5, 2) := by decide +kernel
theorem dX8_setLine_83 : decode cX8_setLine 83 = .ok (.ireturn, 1) := by decide +kernel
set_option maxRecDepth 20000 in
theorem ggX8_setHandler_X8_targetsOf : GoodIn wsX8_setHandler wsX8_targetsOf := goodIn_r _ [13] (by decide +kernel) (by decide +kernel)
set_option maxRecDepth 20000 in
theorem gX8_setHandler_X8_targetsOf : GoodIn wsX8_setHandler (va_wsS RX8 123 yX8_targetsOf wsX8_targetsOf) := goodIn_app (goodIn_of _ (by decide +kernel)) ggX8_setHandler_X8_targetsOf
theorem dX8_setHandler_0 : decode cX8_setHandler 0 = .ok (.iload_n 1, 1) := by decide +kernel
theorem dX8_setHandler_1 : decode cX8_setHandler 1 = .ok (.ifCond .lt 9, 3) := by decide +kernel
theorem dX8_setHandler_4 : decode cX8_setHandler 4 = .ok (.iload_n 1, 1) := by decide +kernel
theorem dX8_setHandler_5 : decode cX8_setHandler 5 = .ok (.bipush 8, 2) := by decide +kernel
theorem dX8_setHandler_7 : decode cX8_setHandler 7 = .ok (.if_icmp .lt 13, 3) := by decide +kernel
theorem dX8_setHandler_10 : decode cX8_setHandler 10 = .ok (.new 22, 3) := by decide +kernel
theorem dX8_setHandler_13 : decode cX8_setHandler 13 = .ok (.dup, 1) := by decide +kernel
theorem dX8_setHandler_14 : decode cX8_setHandler 14 = .ok (.ldc 105, 2) := by decide +kernel
theorem dX8_setHandler_16 : decode cX8_setHandler 16 = .ok (.invokespecial 26, 3) := by decide +kernel
theorem dX8_setHandler_19 : decode cX8_setHandler 19 = .ok (.athrow, 1) := by decide +kernel
theorem dX8_setHandler_20 : decode cX8_setHandler 20 = .ok (.iload_n 2, 1) := by decide +kernel
theorem dX8_setHandler_21 : decode cX8_setHandler 21 = .ok (.iconst 1, 1) := by decide +kernel
theorem dX8_setHandler_22 : decode cX8_setHandler 22 = .ok (.if_icmp .lt 9, 3) := by decide +kernel
theorem dX8_setHandler_25 : decode cX8_setHandler 25 = .ok (.iload_n 2, 1) := by decide +kernel
theorem dX8_setHandler_26 : decode cX8_setHandler 26 = .ok (.bipush 60, 2) := by decide +kernel
theorem dX8_setHandler_28 : decode cX8_setHandler 28 = .ok (.if_icmp .le 13, 3) := by decide +kernel
theorem dX8_setHandler_31 : decode cX8_setHandler 31 = .ok (.new 31, 3) := by decide +kernel
theorem dX8_setHandler_34 : decode cX8_setHandler 34 = .ok (.dup, 1) := by decide +kernel
theorem dX8_setHandler_35 : decode cX8_setHandler 35 = .ok (.ldc 121, 2) := by decide +kernel
theorem dX8_setHandler_37 : decode cX8_setHandler 37 = .ok (.invokespecial 35, 3) := by decide +kernel
theorem dX8_setHandler_40 : decode cX8_setHandler 40 = .ok (.athrow, 1) := by decide +kernel
theorem dX8_setHandler_41 : decode cX8_setHandler 41 = .ok (.iload 4, 2) := by decide +kernel
theorem dX8_setHandler_43 : decode cX8_setHandler 43 = .ok (.ifCond .lt 12, 3) := by decide +kernel
theorem dX8_setHandler_46 : decode cX8_setHandler 46 = .ok (.iload 4, 2) := by decide +kernel
theorem dX8_setHandler_48 : decode cX8_setHandler 48 = .ok (.iload_n 3, 1) := by decide +kernel
theorem dX8_setHandler_49 : decode cX8_setHandler 49 = .ok (.invokestatic 123, 3) := by decide +kernel
theorem dX8_setHandler_52 : decode cX8_setHandler 52 = .ok (.if_icmp .lt 13, 3) := by decide +kernel
theorem dX8_setHandler_55 : decode cX8_setHandler 55 = .ok (.new 31, 3) := by decide +kernel
theorem dX8_setHandler_58 : decode cX8_setHandler 58 = .ok (.dup, 1) := by decide +kernel
theorem dX8_setHandler_59 : decode cX8_setHandler 59 = .ok (.ldc 127, 2) := by decide +kernel
theorem dX8_setHandler_61 : decode cX8_setHandler 61 = .ok (.invokespecial 35, 3) := by decide +kernel
theorem dX8_setHandler_64 : decode cX8_setHandler 64 = .ok (.athrow, 1) := by decide +kernel
theorem dX8_setHandler_65 : decode cX8_setHandler 65 = .ok (.aload_n 0, 1) := by decide +kernel
theorem dX8_setHandler_66 : decode cX8_setHandler 66 = .ok (.getfield 10, 3) := by decide +kernel
theorem dX8_setHandler_69 : decode cX8_setHandler 69 = .ok (.getfield 109, 3) := by decide +kernel
theorem dX8_setHandler_72 : decode cX8_setHandler 72 = .ok (.astore 5, 2) := by decide +kernel
theorem dX8_setHandler_74 : decode cX8_setHandler 74 = .ok (.aload 5, 2) := by decide +kernel
theorem dX8_setHandler_76 : decode cX8_setHandler 76 = .ok (.getfield 129, 3) := by decide +kernel
theorem dX8_setHandler_79 : decode cX8_setHandler 79 = .ok (.iload_n 1, 1) := by decide +kernel
theorem dX8_setHandler_80 : decode cX8_setHandler 80 = .ok (.iaload, 1) := by decide +kernel
theorem dX8_setHandler_81 : decode cX8_setHandler 81 = .ok (.istore 6, 2) := by decide +kernel
theorem dX8_setHandler_83 : decode cX8_setHandler 83 = .ok (.aload 5, 2) := by decide +kernel
theorem dX8_setHandler_85 : decode cX8_setHandler 85 = .ok (.getfield 129, 3) := by decide +kernel
theorem dX8_setHandler_88 : decode cX8_setHandler 88 = .ok (.iload_n 1, 1) := by decide +kernel
theorem dX8_setHandler_89 : decode cX8_setHandler 89 = .ok (.iload_n 2, 1) := by decide +kernel
theorem dX8_setHandler_90 : decode cX8_setHandler 90 = .ok (.iastore, 1) := by decide +kernel
theorem dX8_setHandler_91 : decode cX8_setHandler 91 = .ok (.aload 5, 2) := by decide +kernel
theorem dX8_setHandler_93 : decode cX8_setHandler 93 = .ok (.getfield 132, 3) := by decide +kernel
theorem dX8_setHandler_96 : decode cX8_setHandler 96 = .ok (.iload_n 1, 1) := by decide +kernel
theorem dX8_setHandler_97 : decode cX8_setHandler 97 = .ok (.iload_n 3, 1) := by decide +kernel
theorem dX8_setHandler_98 : decode cX8_setHandler 98 = .ok (.iastore, 1) := by decide +kernel
theorem dX8_setHandler_99 : decode cX8_setHandler 99 = .ok (.aload 5, 2) := by decide +kernel
theorem dX8_setHandler_101 : decode cX8_setHandler 101 = .ok (.getfield 133, 3) := by decide +kernel
theorem dX8_setHandler_104 : decode cX8_setHandler 104 = .ok (.iload_n 1, 1) := by decide +kernel
theorem dX8_setHandler_105 : decode cX8_setHandler 105 = .ok (.iload 4, 2) := by decide +kernel
theorem dX8_setHandler_107 : decode cX8_setHandler 107 = .ok (.iastore, 1) := by decide +kernel
theorem dX8_setHandler_108 : decode cX8_setHandler 108 = .ok (.iload 6, 2) := by decide +kernel
theorem dX8_setHandler_110 : decode cX8_setHandler 110 = .ok (.ireturn, 1) := by decide +kernel
theorem dX8_setSleep_0 : decode cX8_setSleep 0 = .ok (.iload_n 1, 1) := by decide +kernel
theorem dX8_setSleep_1 : decode cX8_setSleep 1 = .ok (.ifCond .lt 8, 3) := by decide +kernel
theorem dX8_setSleep_4 : decode cX8_setSleep 4 = .ok (.iload_n 1, 1) := by decide +kernel
theorem dX8_setSleep_5 : decode cX8_setSleep 5 = .ok (.iconst 2, 1) := by decide +kernel
theorem dX8_setSleep_6 : decode cX8_setSleep 6 = .ok (.if_icmp .le 13, 3) := by decide +kernel
theorem dX8_setSleep_9 : decode cX8_setSleep 9 = .ok (.new 31, 3) := by decide +kernel
theorem dX8_setSleep_12 : decode cX8_setSleep 12 = .ok (.dup, 1) := by decide +kernel
theorem dX8_setSleep_13 : decode cX8_setSleep 13 = .ok (.ldc 136, 2) := by decide +kernel
theorem dX8_setSleep_15 : decode cX8_setSleep 15 = .ok (.invokespecial 35, 3) := by decide +kernel
theorem dX8_setSleep_18 : decode cX8_setSleep 18 = .ok (.athrow, 1) := by decide +kernel
theorem dX8_setSleep_19 : decode cX8_setSleep 19 = .ok (.aload_n 0, 1) := by decide +kernel
theorem dX8_setSleep_20 : decode cX8_setSleep 20 = .ok (.getfield 10, 3) := by decide +kernel
theorem dX8_setSleep_23 : decode cX8_setSleep 23 = .ok (.getfield 138, 3) := by decide +kernel
theorem dX8_setSleep_26 : decode cX8_setSleep 26 = .ok (.astore_n 2, 1) := by decide +kernel
theorem dX8_setSleep_27 : decode cX8_setSleep 27 = .ok (.aload_n 2, 1) := by decide +kernel
theorem dX8_setSleep_28 : decode cX8_setSleep 28 = .ok (.getfield 142, 3) := by decide +kernel
theorem dX8_setSleep_31 : decode cX8_setSleep 31 = .ok (.istore_n 3, 1) := by decide +kernel
theorem dX8_setSleep_32 : decode cX8_setSleep 32 = .ok (.aload_n 2, 1) := by decide +kernel
theorem dX8_setSleep_33 : decode cX8_setSleep 33 = .ok (.iload_n 1, 1) := by decide +kernel
theorem dX8_setSleep_34 : decode cX8_setSleep 34 = .ok (.putfield 142, 3) := by decide +kernel
theorem dX8_setSleep_37 : decode cX8_setSleep 37 = .ok (.iload_n 1, 1) := by decide +kernel
theorem dX8_setSleep_38 : decode cX8_setSleep 38 = .ok (.ifCond .ne 18, 3) := by decide +kernel
theorem dX8_setSleep_41 : decode cX8_setSleep 41 = .ok (.aload_n 2, 1) := by decide +kernel
theorem dX8_setSleep_42 : decode cX8_setSleep 42 = .ok (.getfield 147, 3) := by decide +kernel
theorem dX8_setSleep_45 : decode cX8_setSleep 45 = .ok (.bipush 122, 2) := by decide +kernel
theorem dX8_setSleep_47 : decode cX8_setSleep 47 = .ok (.if_icmp .ne 9, 3) := by decide +kernel
theorem dX8_setSleep_50 : decode cX8_setSleep 50 = .ok (.aload_n 2, 1) := by decide +kernel
theorem dX8_setSleep_51 : decode cX8_setSleep 51 = .ok (.bipush 105, 2) := by decide +kernel
theorem dX8_setSleep_53 : decode cX8_setSleep 53 = .ok (.putfield 147, 3) := by decide +kernel
theorem dX8_setSleep_56 : decode cX8_setSleep 56 = .ok (.iload_n 3, 1) := by decide +kernel
theorem dX8_setSleep_57 : decode cX8_setSleep 57 = .ok (.ireturn, 1) := by decide +kernel
theorem dX8_setWatchdog_0 : decode cX8_setWatchdog 0 = .ok (.iload_n 1, 1) := by decide +kernel
theorem dX8_setWatchdog_1 : decode cX8_setWatchdog 1 = .ok (.iconst (-1), 1) := by decide +kernel
theorem dX8_setWatchdog_2 : decode cX8_setWatchdog 2 = .ok (.if_icmp .lt 8, 3) := by decide +kernel
theorem dX8_setWatchdog_5 : decode cX8_setWatchdog 5 = .ok (.iload_n 1, 1) := by decide +kernel
theorem dX8_setWatchdog_6 : decode cX8_setWatchdog 6 = .ok (.iconst 4, 1) := by decide +kernel
theorem dX8_setWatchdog_7 : decode cX8_setWatchdog 7 = .ok (.if_icmp .lt 13, 3) := by decide +kernel
theorem dX8_setWatchdog_10 : decode cX8_setWatchdog 10 = .ok (.new 22, 3) := by decide +kernel
theorem dX8_setWatchdog_13 : decode cX8_setWatchdog 13 = .ok (.dup, 1) := by decide +kernel
theorem dX8_setWatchdog_14 : decode cX8_setWatchdog 14 = .ok (.ldc 24, 2) := by decide +kernel
theorem dX8_setWatchdog_16 : decode cX8_setWatchdog 16 = .ok (.invokespecial 26, 3) := by decide +kernel
theorem dX8_setWatchdog_19 : decode cX8_setWatchdog 19 = .ok (.athrow, 1) := by decide +kernel
theorem dX8_setWatchdog_20 : decode cX8_setWatchdog 20 = .ok (.iload_n 2, 1) := by decide +kernel
theorem dX8_setWatchdog_21 : decode cX8_setWatchdog 21 = .ok (.ifCond .lt 21, 3) := by decide +kernel
theorem dX8_setWatchdog_24 : decode cX8_setWatchdog 24 = .ok (.iload_n 2, 1) := by decide +kernel
theorem dX8_setWatchdog_25 : decode cX8_setWatchdog 25 = .ok (.bipush 99, 2) := by decide +kernel
theorem dX8_setWatchdog_27 : decode cX8_setWatchdog 27 = .ok (.if_icmp .gt 15, 3) := by decide +kernel
theorem dX8_setWatchdog_30 : decode cX8_setWatchdog 30 = .ok (.iload_n 3, 1) := by decide +kernel
theorem dX8_setWatchdog_31 : decode cX8_setWatchdog 31 = .ok (.iload_n 2, 1) := by decide +kernel
theorem dX8_setWatchdog_32 : decode cX8_setWatchdog 32 = .ok (.if_icmp .le 10, 3) := by decide +kernel
theorem dX8_setWatchdog_35 : decode cX8_setWatchdog 35 = .ok (.iload_n 3, 1) := by decide +kernel
theorem dX8_setWatchdog_36 : decode cX8_setWatchdog 36 = .ok (.sipush 200, 3) := by decide +kernel
theorem dX8_setWatchdog_39 : decode cX8_setWatchdog 39 = .ok (.if_icmp .le 13, 3) := by decide +kernel
theorem dX8_setWatchdog_42 : decode cX8_setWatchdog 42 = .ok (.new 31, 3) := by decide +kernel
theorem dX8_setWatchdog_45 : decode cX8_setWatchdog 45 = .ok (.dup, 1) := by decide +kernel
theorem dX8_setWatchdog_46 : decode cX8_setWatchdog 46 = .ok (.ldc 59, 2) := by decide +kernel
theorem dX8_setWatchdog_48 : decode cX8_setWatchdog 48 = .ok (.invokespecial 35, 3) := by decide +kernel
theorem dX8_setWatchdog_51 : decode cX8_setWatchdog 51 = .ok (.athrow, 1) := by decide +kernel
theorem dX8_setWatchdog_52 : decode cX8_setWatchdog 52 = .ok (.aload_n 0, 1) := by decide +kernel
theorem dX8_setWatchdog_53 : decode cX8_setWatchdog 53 = .ok (.getfield 10, 3) := by decide +kernel
theorem dX8_setWatchdog_56 : decode cX8_setWatchdog 56 = .ok (.getfield 151, 3) := by decide +kernel
theorem dX8_setWatchdog_59 : decode cX8_setWatchdog 59 = .ok (.astore 4, 2) := by decide +kernel
theorem dX8_setWatchdog_61 : decode cX8_setWatchdog 61 = .ok (.aload 4, 2) := by decide +kernel
theorem dX8_setWatchdog_63 : decode cX8_setWatchdog 63 = .ok (.getfield 155, 3) := by decide +kernel
theorem dX8_setWatchdog_66 : decode cX8_setWatchdog 66 = .ok (.iconst (-1), 1) := by decide +kernel
theorem dX8_setWatchdog_67 : decode cX8_setWatchdog 67 = .ok (.if_icmp .eq 7, 3) := by decide +kernel
theorem dX8_setWatchdog_70 : decode cX8_setWatchdog 70 = .ok (.iconst 1, 1) := by decide +kernel
theorem dX8_setWatchdog_71 : decode cX8_setWatchdog 71 = .ok (.goto 4, 3) := by decide +kernel
theorem dX8_setWatchdog_74 : decode cX8_setWatchdog 74 = .ok (.iconst 0, 1) := by decide +kernel
theorem dX8_setWatchdog_75 : decode cX8_setWatchdog 75 = .ok (.istore 5, 2) := by decide +kernel
theorem dX8_setWatchdog_77 : decode cX8_setWatchdog 77 = .ok (.aload 4, 2) := by decide +kernel
theorem dX8_setWatchdog_79 : decode cX8_setWatchdog 79 = .ok (.iload_n 1, 1) := by decide +kernel
theorem dX8_setWatchdog_80 : decode cX8_setWatchdog 80 = .ok (.putfield 155, 3) := by decide +kernel
theorem dX8_setWatchdog_83 : decode cX8_setWatchdog 83 = .ok (.aload 4, 2) := by decide +kernel
theorem dX8_setWatchdog_85 : decode cX8_setWatchdog 85 = .ok (.iload_n 2, 1) := by decide +kernel
theorem dX8_setWatchdog_86 : decode cX8_setWatchdog 86 = .ok (.putfield 159, 3) := by decide +kernel
theorem dX8_setWatchdog_89 : decode cX8_setWatchdog 89 = .ok (.aload 4, 2) := by decide +kernel
theorem dX8_setWatchdog_91 : decode cX8_setWatchdog 91 = .ok (.iload_n 3, 1) := by decide +kernel
theorem dX8_setWatchdog_92 : decode cX8_setWatchdog 92 = .ok (.putfield 162, 3) := by decide +kernel
theorem dX8_setWatchdog_95 : decode cX8_setWatchdog 95 = .ok (.aload 4, 2) := by decide +kernel
theorem dX8_setWatchdog_97 : decode cX8_setWatchdog 97 = .ok (.iconst 0, 1) := by decide +kernel
theorem dX8_setWatchdog_98 : decode cX8_setWatchdog 98 = .ok (.putfield 165, 3) := by decide +kernel
theorem dX8_setWatchdog_101 : decode cX8_setWatchdog 101 = .ok (.iload 5, 2) := by decide +kernel
theorem dX8_setWatchdog_103 : decode cX8_setWatchdog 103 = .ok (.ireturn, 1) := by decide +kernel
set_option maxRecDepth 20000 in
theorem ggX8_request_X8_hasBit : GoodIn wsX8_request wsX8_hasBit := goodIn_r _ [9] (by decide +kernel) (by decide +kernel)
set_option maxRecDepth 20000 in
theorem gX8_request_X8_hasBit : GoodIn wsX8_request (va_wsS RX8 101 yX8_hasBit wsX8_hasBit) := goodIn_app (goodIn_of _ (by decide +kernel)) ggX8_request_X8_hasBit
set_option maxRecDepth 20000 in
theorem ggX8_request_X8_withBit : GoodIn wsX8_request wsX8_withBit := goodIn_r _ [12] (by decide +kernel) (by decide +kernel)
set_option maxRecDepth 20000 in
theorem gX8_request_X8_withBit : GoodIn wsX8_request (va_wsS RX8 53 yX8_withBit wsX8_withBit) := goodIn_app (goodIn_of _ (by decide +kernel)) ggX8_request_X8_withBit
theorem dX8_request_0 : decode cX8_request 0 = .ok (.iload_n 1, 1) := by decide +kernel
theorem dX8_request_1 : decode cX8_request 1 = .ok (.ifCond .lt 9, 3) := by decide +kernel
theorem dX8_request_4 : decode cX8_request 4 = .ok (.iload_n 1, 1) := by decide +kernel
theorem dX8_request_5 : decode cX8_request 5 = .ok (.bipush 8, 2) := by decide +kernel
theorem dX8_request_7 : decode cX8_request 7 = .ok (.if_icmp .lt 13, 3) := by decide +kernel
theorem dX8_request_10 : decode cX8_request 10 = .ok (.new 22, 3) := by decide +kernel
theorem dX8_request_13 : decode cX8_request 13 = .ok (.dup, 1) := by decide +kernel
theorem dX8_request_14 : decode cX8_request 14 = .ok (.ldc 105, 2) := by decide +kernel
theorem dX8_request_16 : decode cX8_request 16 = .ok (.invokespecial 26, 3) := by decide +kernel
theorem dX8_request_19 : decode cX8_request 19 = .ok (.athrow, 1) := by decide +kernel
theorem dX8_request_20 : decode cX8_request 20 = .ok (.aload_n 0, 1) := by decide +kernel
theorem dX8_request_21 : decode cX8_request 21 = .ok (.getfield 10, 3) := by decide +kernel
theorem dX8_request_24 : decode cX8_request 24 = .ok (.getfield 109, 3) := by decide +kernel
theorem dX8_request_27 : decode cX8_request 27 = .ok (.getfield 168, 3) := by decide +kernel
theorem dX8_request_30 : decode cX8_request 30 = .ok (.iload_n 1, 1) := by decide +kernel
theorem dX8_request_31 : decode cX8_request 31 = .ok (.invokestatic 101, 3) := by decide +kernel
theorem dX8_request_34 : decode cX8_request 34 = .ok (.istore_n 2, 1) := by decide +kernel
theorem dX8_request_35 : decode cX8_request 35 = .ok (.aload_n 0, 1) := by decide +kernel
theorem dX8_request_36 : decode cX8_request 36 = .ok (.getfield 10, 3) := by decide +kernel
theorem dX8_request_39 : decode cX8_request 39 = .ok (.getfield 109, 3) := by decide +kernel
theorem dX8_request_42 : decode cX8_request 42 = .ok (.aload_n 0, 1) := by decide +kernel
theorem dX8_request_43 : decode cX8_request 43 = .ok (.getfield 10, 3) := by decide +kernel
theorem dX8_request_46 : decode cX8_request 46 = .ok (.getfield 109, 3) := by decide +kernel
theorem dX8_request_49 : decode cX8_request 49 = .ok (.getfield 168, 3) := by decide +kernel
theorem dX8_request_52 : decode cX8_request 52 = .ok (.iload_n 1, 1) := by decide +kernel
theorem dX8_request_53 : decode cX8_request 53 = .ok (.iconst 1, 1) := by decide +kernel
theorem dX8_request_54 : decode cX8_request 54 = .ok (.invokestatic 53, 3) := by decide +kernel
theorem dX8_request_57 : decode cX8_request 57 = .ok (.putfield 168, 3) := by decide +kernel
theorem dX8_request_60 : decode cX8_request 60 = .ok (.iload_n 2, 1) := by decide +kernel
theorem dX8_request_61 : decode cX8_request 61 = .ok (.ifCond .ne 7, 3) := by decide +kernel
theorem dX8_request_64 : decode cX8_request 64 = .ok (.iconst 1, 1) := by decide +kernel
theorem dX8_request_65 : decode cX8_request 65 = .ok (.goto 4, 3) := by decide +kernel
theorem dX8_request_68 : decode cX8_request 68 = .ok (.iconst 0, 1) := by decide +kernel
theorem dX8_request_69 : decode cX8_request 69 = .ok (.ireturn, 1) := by decide +kernel
set_option maxRecDepth 20000 in
theorem ggX8_feed_X7_bitesWhenFed : GoodIn wsX8_feed wsX7_bitesWhenFed := goodIn_r _ [7, 8, 9, 10, 76, 77, 78, 79, 80, 81] (by decide +kernel) (by decide +kernel)
set_option maxRecDepth 20000 in
theorem gX8_feed_X7_bitesWhenFed : GoodIn wsX8_feed (wsV RX8 171 RX7 yX7_bitesWhenFed wsX7_bitesWhenFed) := goodIn_app (goodIn_of _ (by decide +kernel)) ggX8_feed_X7_bitesWhenFed
set_option maxRecDepth 20000 in
theorem ggX8_feed_X0_reset : GoodIn wsX8_feed wsX0_reset := goodIn_ca (goodIn_r _ [15, 16, 17, 18, 19, 20, 21, 22, 23, 24, 25, 26, 27, 28, 29, 30, 31, 32, 33, 34, 35, 36, 37, 38, 39, 40, 41, 42, 43, 44, 45, 46, 47, 48, 49, 50, 51, 52, 53, 54, 55, 56, 57, 58, 59, 60, 6, 61, 9, 62, 63, 67, 68, 69, 70, 71, 72, 73, 74, 75, 82, 83, 84, 85, 86, 87, 88, 89, 90, 91, 92, 93, 94, 95, 96, 97, 98, 99, 100, 101, 102, 103, 104, 105, 106, 107, 108, 109, 110, 111, 76, 77, 78, 79, 80, 81] (by decide +kernel) (by decide +kernel)) (goodIn_sub (fun _ h => List.mem_cons_of_mem _ (List.mem_append_right _ h)) (by decide +kernel))
set_option maxRecDepth 20000 in
theorem gX8_feed_X0_reset : GoodIn wsX8_feed (wsV RX8 175 RX0 yX0_reset wsX0_reset) := goodIn_app (goodIn_of _ (by decide +kernel)) ggX8_feed_X0_reset
theorem dX8_feed_0 : decode cX8_feed 0 = .ok (.aload_n 0, 1) := by decide +kernel
theorem dX8_feed_1 : decode cX8_feed 1 = .ok (.getfield 10, 3) := by decide +kernel
theorem dX8_feed_4 : decode cX8_feed 4 = .ok (.getfield 151, 3) := by decide +kernel
theorem dX8_feed_7 : decode cX8_feed 7 = .ok (.invokevirtual 171, 3) := by decide +kernel
theorem dX8_feed_10 : decode cX8_feed 10 = .ok (.istore_n 1, 1) := by decide +kernel
theorem dX8_feed_11 : decode cX8_feed 11 = .ok (.iload_n 1, 1) := by decide +kernel
theorem dX8_feed_12 : decode cX8_feed 12 = .ok (.ifCond .eq 10, 3) := by decide +kernel
theorem dX8_feed_15 : decode cX8_feed 15 = .ok (.aload_n 0, 1) := by decide +kernel
theorem dX8_feed_16 : decode cX8_feed 16 = .ok (.getfield 10, 3) := by decide +kernel
theorem dX8_feed_19 : decode cX8_feed 19 = .ok (.invokevirtual 175, 3) := by decide +kernel
theorem dX8_feed_22 : decode cX8_feed 22 = .ok (.iload_n 1, 1) := by decide +kernel
theorem dX8_feed_23 : decode cX8_feed 23 = .ok (.ireturn, 1) := by decide +kernel
set_option maxRecDepth 20000 in
theorem ggX8_run_X0_goByEvents : GoodIn wsX8_run wsX0_goByEvents := goodIn_ca (goodIn_ca (goodIn_r _ [8, 9, 10, 11, 12, 13, 14, 15, 16, 17, 7, 18, 19, 20, 21, 22, 23, 24, 25, 26, 27, 28, 29, 30, 31, 32, 33, 34, 35, 36, 37, 38, 39, 40, 41, 42, 43, 44, 45, 46, 47, 48, 49, 50, 51, 52, 53, 54, 55, 56, 57, 58, 59, 60, 61, 62, 63, 64, 65, 66, 67, 68, 69, 70, 71, 72, 73, 74, 75, 76, 77, 78, 79, 80, 81, 82, 83, 84, 85, 86, 87, 88, 89, 90, 91, 92, 93, 94, 95, 96, 97, 98, 99, 100, 101, 102, 103, 104, 105, 106, 107, 108, 109, 110, 111, 112, 113, 114, 115, 116, 117, 118, 119, 120, 121, 122, 123, 124, 125, 126, 127, 128, 129, 130, 131, 132, 133, 134, 135, 136, 137, 138, 139, 140, 141, 142, 143, 144, 145, 146, 147, 148, 149, 150, 151, 152, 153, 154, 155, 156, 157, 158, 159, 160, 161, 162, 163, 164, 165, 166, 167, 168, 169, 170, 171, 172, 173, 174, 175, 176, 177, 178, 179, 180, 181, 182, 183, 184, 185, 186, 187, 188, 189, 190, 191, 192, 193, 194, 195, 196, 197, 198, 199, 200, 201, 202, 203, 204, 205, 206, 207, 208, 209, 210, 211, 212, 213, 214, 215, 216, 217, 218, 219, 220, 221, 222, 223, 224, 225, 226, 227, 228, 229, 230, 231, 232, 233, 234, 235, 236, 237, 238, 239, 240, 241, 242, 243, 244, 245, 246, 247, 248, 249, 250, 251, 252, 253, 254, 255, 256, 257, 258, 259, 260, 261, 262, 263, 264, 265, 266, 267, 268, 269, 270, 271, 272, 273, 274, 275, 276, 277, 278, 279, 280, 281, 282, 283, 284, 285, 286, 287, 288, 289, 290, 291, 292, 293, 294, 295, 299, 300, 301, 302, 303, 304, 305, 306, 307, 308, 309, 310, 311, 312, 313, 314, 315, 316, 317, 318, 319, 320, 321, 322, 323, 324, 325, 326, 327, 328, 329, 330, 331, 332, 333, 334, 335, 336, 337, 338, 339, 340, 341, 342, 343, 344, 345, 346, 347, 348, 349] (by decide +kernel) (by decide +kernel)) (goodIn_sub (fun _ h => List.mem_cons_of_mem _ (List.mem_append_left _ (List.mem_append_right _ h))) (by decide +kernel))) (goodIn_sub (fun _ h => List.mem_cons_of_mem _ (List.mem_append_right _ h)) (by decide +kernel))
set_option maxRecDepth 20000 in
theorem gX8_run_X0_goByEvents : GoodIn wsX8_run (wsV RX8 178 RX0 yX0_goByEvents wsX0_goByEvents) := goodIn_app (goodIn_of _ (by decide +kernel)) ggX8_run_X0_goByEvents
theorem dX8_run_0 : decode cX8_run 0 = .ok (.iload_n 1, 1) := by decide +kernel
theorem dX8_run_1 : decode cX8_run 1 = .ok (.iconst 1, 1) := by decide +kernel
theorem dX8_run_2 : decode cX8_run 2 = .ok (.if_icmp .lt 10, 3) := by decide +kernel
theorem dX8_run_5 : decode cX8_run 5 = .ok (.iload_n 1, 1) := by decide +kernel
theorem dX8_run_6 : decode cX8_run 6 = .ok (.sipush 5000, 3) := by decide +kernel
theorem dX8_run_9 : decode cX8_run 9 = .ok (.if_icmp .le 13, 3) := by decide +kernel
theorem dX8_run_12 : decode cX8_run 12 = .ok (.new 31, 3) := by decide +kernel
theorem dX8_run_15 : decode cX8_run 15 = .ok (.dup, 1) := by decide +kernel
theorem dX8_run_16 : decode cX8_run 16 = .ok (.ldc 121, 2) := by decide +kernel
theorem dX8_run_18 : decode cX8_run 18 = .ok (.invokespecial 35, 3) := by decide +kernel
theorem dX8_run_21 : decode cX8_run 21 = .ok (.athrow, 1) := by decide +kernel
theorem dX8_run_22 : decode cX8_run 22 = .ok (.aload_n 0, 1) := by decide +kernel
theorem dX8_run_23 : decode cX8_run 23 = .ok (.getfield 10, 3) := by decide +kernel
theorem dX8_run_26 : decode cX8_run 26 = .ok (.iload_n 1, 1) := by decide +kernel
theorem dX8_run_27 : decode cX8_run 27 = .ok (.invokevirtual 178, 3) := by decide +kernel
theorem dX8_run_30 : decode cX8_run 30 = .ok (.ireturn, 1) := by decide +kernel
set_option maxRecDepth 20000 in
theorem ggX8_runByBeats_X0_goByBeats : GoodIn wsX8_runByBeats wsX0_goByBeats := goodIn_ca (goodIn_r _ [8, 9, 10, 11, 12, 13, 7, 14, 15, 16, 17, 18, 19, 20, 21, 22, 23, 24, 25, 26, 27, 28, 29, 30, 31, 32, 33, 34, 35, 36, 37, 38, 39, 40, 41, 42, 43, 44, 45, 46, 47, 48, 49, 50, 51, 52, 53, 54, 55, 56, 57, 58, 59, 60, 61, 62, 63, 64, 65, 66, 67, 68, 69, 70, 71, 72, 73, 74, 75, 76, 77, 78, 79, 80, 81, 82, 83, 84, 85, 86, 87, 88, 89, 90, 91, 92, 93, 94, 95, 96, 97, 98, 99, 100, 101, 102, 103, 104, 105, 106, 107, 108, 109, 110, 111, 112, 113, 114, 115, 116, 117, 118, 119, 120, 121, 122, 123, 124, 125, 126, 127, 128, 129, 130, 131, 132, 133, 134, 135, 136, 137, 138, 139, 140, 141, 142, 143, 144, 145, 146, 147, 148, 149, 150, 151, 152, 153, 154, 155, 156, 157, 158, 159, 160, 161, 162, 163, 164, 165, 166, 167, 168, 169, 170, 171, 172, 173, 174, 175, 176, 177, 178, 179, 180, 181, 182, 183, 184, 185, 186, 187, 188, 189, 190, 191, 192, 193, 194, 195, 196, 197, 198, 199, 200, 201, 202, 203, 204, 205, 206, 207, 208, 209, 210, 211, 212, 213, 214, 215, 216, 217, 218, 219, 220, 221, 222, 223, 224, 225, 226, 227, 228, 229, 230, 231, 232, 233, 234, 235, 236, 237, 238, 239, 240, 244, 245, 246, 247, 248, 249, 250, 251, 252, 253, 254, 255, 256, 257, 258, 259, 260, 261, 262, 263, 264, 265, 266, 267, 268, 269, 270, 271, 272, 273, 274, 275, 276, 277, 278, 279, 280, 281, 282, 283, 284, 285, 286, 287, 288, 289, 290, 291, 292, 293, 294] (by decide +kernel) (by decide +kernel)) (goodIn_sub (fun _ h => List.mem_cons_of_mem _ (List.mem_append_right _ h)) (by decide +kernel))
set_option maxRecDepth 20000 in
theorem gX8_runByBeats_X0_goByBeats : GoodIn wsX8_runByBeats (wsV RX8 182 RX0 yX0_goByBeats wsX0_goByBeats) := goodIn_app (goodIn_of _ (by decide +kernel)) ggX8_runByBeats_X0_goByBeats
theorem dX8_runByBeats_0 : decode cX8_runByBeats 0 = .ok (.iload_n 1, 1) := by decide +kernel
theorem dX8_runByBeats_1 : decode cX8_runByBeats 1 = .ok (.iconst 1, 1) := by decide +kernel
theorem dX8_runByBeats_2 : decode cX8_runByBeats 2 = .ok (.if_icmp .lt 10, 3) := by decide +kernel
theorem dX8_runByBeats_5 : decode cX8_runByBeats 5 = .ok (.iload_n 1, 1) := by decide +kernel
theorem dX8_runByBeats_6 : decode cX8_runByBeats 6 = .ok (.sipush 500, 3) := by decide +kernel
theorem dX8_runByBeats_9 : decode cX8_runByBeats 9 = .ok (.if_icmp .le 13, 3) := by decide +kernel
theorem dX8_runByBeats_12 : decode cX8_runByBeats 12 = .ok (.new 31, 3) := by decide +kernel
theorem dX8_runByBeats_15 : decode cX8_runByBeats 15 = .ok (.dup, 1) := by decide +kernel
theorem dX8_runByBeats_16 : decode cX8_runByBeats 16 = .ok (.ldc 121, 2) := by decide +kernel
theorem dX8_runByBeats_18 : decode cX8_runByBeats 18 = .ok (.invokespecial 35, 3) := by decide +kernel
theorem dX8_runByBeats_21 : decode cX8_runByBeats 21 = .ok (.athrow, 1) := by decide +kernel
theorem dX8_runByBeats_22 : decode cX8_runByBeats 22 = .ok (.aload_n 0, 1) := by decide +kernel
theorem dX8_runByBeats_23 : decode cX8_runByBeats 23 = .ok (.getfield 10, 3) := by decide +kernel
theorem dX8_runByBeats_26 : decode cX8_runByBeats 26 = .ok (.iload_n 1, 1) := by decide +kernel
theorem dX8_runByBeats_27 : decode cX8_runByBeats 27 = .ok (.invokevirtual 182, 3) := by decide +kernel
theorem dX8_runByBeats_30 : decode cX8_runByBeats 30 = .ok (.ireturn, 1) := by decide +kernel
set_option maxRecDepth 20000 in
theorem ggX8_toEvent_X0_beatsToEvent : GoodIn wsX8_toEvent wsX0_beatsToEvent := goodIn_ca (goodIn_r _ [9, 10, 11, 12, 13, 14, 15, 16, 17, 18, 19, 20, 21, 22, 23, 24, 25, 26, 27, 28, 29, 30, 31, 32, 33, 34, 35, 36, 37, 38, 39, 40, 41, 42, 43, 44, 45, 46, 47, 48, 49, 50, 51, 52, 53, 54, 55, 56, 57, 58, 59, 60, 61, 62, 63, 64, 65, 66, 67, 68, 69, 70, 71, 72, 73, 74, 75, 76, 77, 78, 79, 80, 81, 82, 83, 84, 85, 86, 87, 88, 89, 90, 91, 92, 93, 94, 95, 96, 97, 98, 99, 100, 101, 102, 103, 104, 105, 109, 110, 111, 112, 113, 114, 115, 116, 117, 118, 119, 120, 121, 122, 123, 124, 125, 126, 127, 128, 129, 130, 131, 132, 133, 134, 135, 136, 137, 138, 139, 140, 141, 142, 143, 144, 145, 146, 147, 148, 149, 150, 151, 152, 153, 154, 155] (by decide +kernel) (by decide +kernel)) (goodIn_sub (fun _ h => List.mem_cons_of_mem _ (List.mem_append_right _ h)) (by decide +kernel))
set_option maxRecDepth 20000 in
theorem gX8_toEvent_X0_beatsToEvent : GoodIn wsX8_toEvent (wsV RX8 185 RX0 yX0_beatsToEvent wsX0_beatsToEvent) := goodIn_app (goodIn_of _ (by decide +kernel)) ggX8_toEvent_X0_beatsToEvent
theorem dX8_toEvent_0 : decode cX8_toEvent 0 = .ok (.aload_n 0, 1) := by decide +kernel
theorem dX8_toEvent_1 : decode cX8_toEvent 1 = .ok (.getfield 10, 3) := by decide +kernel
theorem dX8_toEvent_4 : decode cX8_toEvent 4 = .ok (.invokevirtual 185, 3) := by decide +kernel
theorem dX8_toEvent_7 : decode cX8_toEvent 7 = .ok (.istore_n 1, 1) := by decide +kernel
theorem dX8_toEvent_8 : decode cX8_toEvent 8 = .ok (.iload_n 1, 1) := by decide +kernel
theorem dX8_toEvent_9 : decode cX8_toEvent 9 = .ok (.ldc 189, 2) := by decide +kernel
theorem dX8_toEvent_11 : decode cX8_toEvent 11 = .ok (.if_icmp .lt 13, 3) := by decide +kernel
theorem dX8_toEvent_14 : decode cX8_toEvent 14 = .ok (.new 190, 3) := by decide +kernel
theorem dX8_toEvent_17 : decode cX8_toEvent 17 = .ok (.dup, 1) := by decide +kernel
theorem dX8_toEvent_18 : decode cX8_toEvent 18 = .ok (.ldc 192, 2) := by decide +kernel
theorem dX8_toEvent_20 : decode cX8_toEvent 20 = .ok (.invokespecial 194, 3) := by decide +kernel
theorem dX8_toEvent_23 : decode cX8_toEvent 23 = .ok (.athrow, 1) := by decide +kernel
theorem dX8_toEvent_24 : decode cX8_toEvent 24 = .ok (.iload_n 1, 1) := by decide +kernel
theorem dX8_toEvent_25 : decode cX8_toEvent 25 = .ok (.ireturn, 1) := by decide +kernel
theorem dX8_time_0 : decode cX8_time 0 = .ok (.aload_n 0, 1) := by decide +kernel
theorem dX8_time_1 : decode cX8_time 1 = .ok (.getfield 10, 3) := by decide +kernel
theorem dX8_time_4 : decode cX8_time 4 = .ok (.getfield 195, 3) := by decide +kernel
theorem dX8_time_7 : decode cX8_time 7 = .ok (.ireturn, 1) := by decide +kernel
theorem dX8_ticks_0 : decode cX8_ticks 0 = .ok (.iload_n 1, 1) := by decide +kernel
theorem dX8_ticks_1 : decode cX8_ticks 1 = .ok (.ifCond .lt 8, 3) := by decide +kernel
theorem dX8_ticks_4 : decode cX8_ticks 4 = .ok (.iload_n 1, 1) := by decide +kernel
theorem dX8_ticks_5 : decode cX8_ticks 5 = .ok (.iconst 4, 1) := by decide +kernel
theorem dX8_ticks_6 : decode cX8_ticks 6 = .ok (.if_icmp .lt 13, 3) := by decide +kernel
theorem dX8_ticks_9 : decode cX8_ticks 9 = .ok (.new 22, 3) := by decide +kernel
theorem dX8_ticks_12 : decode cX8_ticks 12 = .ok (.dup, 1) := by decide +kernel
theorem dX8_ticks_13 : decode cX8_ticks 13 = .ok (.ldc 24, 2) := by decide +kernel
theorem dX8_ticks_15 : decode cX8_ticks 15 = .ok (.invokespecial 26, 3) := by decide +kernel
theorem dX8_ticks_18 : decode cX8_ticks 18 = .ok (.athrow, 1) := by decide +kernel
theorem dX8_ticks_19 : decode cX8_ticks 19 = .ok (.aload_n 0, 1) := by decide +kernel
theorem dX8_ticks_20 : decode cX8_ticks 20 = .ok (.getfield 10, 3) := by decide +kernel
theorem dX8_ticks_23 : decode cX8_ticks 23 = .ok (.getfield 36, 3) := by decide +kernel
theorem dX8_ticks_26 : decode cX8_ticks 26 = .ok (.getfield 198, 3) := by decide +kernel
theorem dX8_ticks_29 : decode cX8_ticks 29 = .ok (.iload_n 1, 1) := by decide +kernel
theorem dX8_ticks_30 : decode cX8_ticks 30 = .ok (.iaload, 1) := by decide +kernel
theorem dX8_ticks_31 : decode cX8_ticks 31 = .ok (.ireturn, 1) := by decide +kernel
theorem dX8_count_0 : decode cX8_count 0 = .ok (.iload_n 1, 1) := by decide +kernel
theorem dX8_count_1 : decode cX8_count 1 = .ok (.ifCond .lt 8, 3) := by decide +kernel
theorem dX8_count_4 : decode cX8_count 4 = .ok (.iload_n 1, 1) := by decide +kernel
theorem dX8_count_5 : decode cX8_count 5 = .ok (.iconst 4, 1) := by decide +kernel
theorem dX8_count_6 : decode cX8_count 6 = .ok (.if_icmp .lt 13, 3) := by decide +kernel
theorem dX8_count_9 : decode cX8_count 9 = .ok (.new 22, 3) := by decide +kernel
theorem dX8_count_12 : decode cX8_count 12 = .ok (.dup, 1) := by decide +kernel
theorem dX8_count_13 : decode cX8_count 13 = .ok (.ldc 84, 2) := by decide +kernel
theorem dX8_count_15 : decode cX8_count 15 = .ok (.invokespecial 26, 3) := by decide +kernel
theorem dX8_count_18 : decode cX8_count 18 = .ok (.athrow, 1) := by decide +kernel
theorem dX8_count_19 : decode cX8_count 19 = .ok (.aload_n 0, 1) := by decide +kernel
theorem dX8_count_20 : decode cX8_count 20 = .ok (.getfield 10, 3) := by decide +kernel
theorem dX8_count_23 : decode cX8_count 23 = .ok (.getfield 63, 3) := by decide +kernel
theorem dX8_count_26 : decode cX8_count 26 = .ok (.getfield 201, 3) := by decide +kernel
theorem dX8_count_29 : decode cX8_count 29 = .ok (.iload_n 1, 1) := by decide +kernel
theorem dX8_count_30 : decode cX8_count 30 = .ok (.iaload, 1) := by decide +kernel
theorem dX8_count_31 : decode cX8_count 31 = .ok (.ireturn, 1) := by decide +kernel
set_option maxRecDepth 20000 in
theorem ggX8_isRunning_X8_hasBit : GoodIn wsX8_isRunning wsX8_hasBit := goodIn_r _ [9] (by decide +kernel) (by decide +kernel)
set_option maxRecDepth 20000 in
theorem gX8_isRunning_X8_hasBit : GoodIn wsX8_isRunning (va_wsS RX8 101 yX8_hasBit wsX8_hasBit) := goodIn_app (goodIn_of _ (by decide +kernel)) ggX8_isRunning_X8_hasBit
theorem dX8_isRunning_0 : decode cX8_isRunning 0 = .ok (.iload_n 1, 1) := by decide +kernel
theorem dX8_isRunning_1 : decode cX8_isRunning 1 = .ok (.ifCond .lt 8, 3) := by decide +kernel
theorem dX8_isRunning_4 : decode cX8_isRunning 4 = .ok (.iload_n 1, 1) := by decide +kernel
theorem dX8_isRunning_5 : decode cX8_isRunning 5 = .ok (.iconst 4, 1) := by decide +kernel
theorem dX8_isRunning_6 : decode cX8_isRunning 6 = .ok (.if_icmp .lt 13, 3) := by decide +kernel
theorem dX8_isRunning_9 : decode cX8_isRunning 9 = .ok (.new 22, 3) := by decide +kernel
theorem dX8_isRunning_12 : decode cX8_isRunning 12 = .ok (.dup, 1) := by decide +kernel
theorem dX8_isRunning_13 : decode cX8_isRunning 13 = .ok (.ldc 84, 2) := by decide +kernel
theorem dX8_isRunning_15 : decode cX8_isRunning 15 = .ok (.invokespecial 26, 3) := by decide +kernel
theorem dX8_isRunning_18 : decode cX8_isRunning 18 = .ok (.athrow, 1) := by decide +kernel
theorem dX8_isRunning_19 : decode cX8_isRunning 19 = .ok (.aload_n 0, 1) := by decide +kernel
theorem dX8_isRunning_20 : decode cX8_isRunning 20 = .ok (.getfield 10, 3) := by decide +kernel
theorem dX8_isRunning_23 : decode cX8_isRunning 23 = .ok (.getfield 63, 3) := by decide +kernel
theorem dX8_isRunning_26 : decode cX8_isRunning 26 = .ok (.getfield 98, 3) := by decide +kernel
theorem dX8_isRunning_29 : decode cX8_isRunning 29 = .ok (.iload_n 1, 1) := by decide +kernel
theorem dX8_isRunning_30 : decode cX8_isRunning 30 = .ok (.invokestatic 101, 3) := by decide +kernel
theorem dX8_isRunning_33 : decode cX8_isRunning 33 = .ok (.ireturn, 1) := by decide +kernel
theorem dX8_pins_0 : decode cX8_pins 0 = .ok (.aload_n 0, 1) := by decide +kernel
theorem dX8_pins_1 : decode cX8_pins 1 = .ok (.getfield 10, 3) := by decide +kernel
theorem dX8_pins_4 : decode cX8_pins 4 = .ok (.getfield 203, 3) := by decide +kernel
theorem dX8_pins_7 : decode cX8_pins 7 = .ok (.getfield 207, 3) := by decide +kernel
theorem dX8_pins_10 : decode cX8_pins 10 = .ok (.ireturn, 1) := by decide +kernel
theorem dX8_edges_0 : decode cX8_edges 0 = .ok (.aload_n 0, 1) := by decide +kernel
theorem dX8_edges_1 : decode cX8_edges 1 = .ok (.getfield 10, 3) := by decide +kernel
theorem dX8_edges_4 : decode cX8_edges 4 = .ok (.getfield 203, 3) := by decide +kernel
theorem dX8_edges_7 : decode cX8_edges 7 = .ok (.getfield 212, 3) := by decide +kernel
theorem dX8_edges_10 : decode cX8_edges 10 = .ok (.ireturn, 1) := by decide +kernel
theorem dX8_edgeTime_0 : decode cX8_edgeTime 0 = .ok (.iload_n 1, 1) := by decide +kernel
theorem dX8_edgeTime_1 : decode cX8_edgeTime 1 = .ok (.ifCond .lt 24, 3) := by decide +kernel
theorem dX8_edgeTime_4 : decode cX8_edgeTime 4 = .ok (.iload_n 1, 1) := by decide +kernel
theorem dX8_edgeTime_5 : decode cX8_edgeTime 5 = .ok (.aload_n 0, 1) := by decide +kernel
theorem dX8_edgeTime_6 : decode cX8_edgeTime 6 = .ok (.getfield 10, 3) := by decide +kernel
theorem dX8_edgeTime_9 : decode cX8_edgeTime 9 = .ok (.getfield 203, 3) := by decide +kernel
theorem dX8_edgeTime_12 : decode cX8_edgeTime 12 = .ok (.getfield 212, 3) := by decide +kernel
theorem dX8_edgeTime_15 : decode cX8_edgeTime 15 = .ok (.if_icmp .ge 10, 3) := by decide +kernel
theorem dX8_edgeTime_18 : decode cX8_edgeTime 18 = .ok (.iload_n 1, 1) := by decide +kernel
theorem dX8_edgeTime_19 : decode cX8_edgeTime 19 = .ok (.sipush 200, 3) := by decide +kernel
theorem dX8_edgeTime_22 : decode cX8_edgeTime 22 = .ok (.if_icmp .lt 13, 3) := by decide +kernel
theorem dX8_edgeTime_25 : decode cX8_edgeTime 25 = .ok (.new 190, 3) := by decide +kernel
theorem dX8_edgeTime_28 : decode cX8_edgeTime 28 = .ok (.dup, 1) := by decide +kernel
theorem dX8_edgeTime_29 : decode cX8_edgeTime 29 = .ok (.ldc 215, 2) := by decide +kernel
theorem dX8_edgeTime_31 : decode cX8_edgeTime 31 = .ok (.invokespecial 194, 3) := by decide +kernel
theorem dX8_edgeTime_34 : decode cX8_edgeTime 34 = .ok (.athrow, 1) := by decide +kernel
theorem dX8_edgeTime_35 : decode cX8_edgeTime 35 = .ok (.aload_n 0, 1) := by decide +kernel
theorem dX8_edgeTime_36 : decode cX8_edgeTime 36 = .ok (.getfield 10, 3) := by decide +kernel
theorem dX8_edgeTime_39 : decode cX8_edgeTime 39 = .ok (.getfield 203, 3) := by decide +kernel
theorem dX8_edgeTime_42 : decode cX8_edgeTime 42 = .ok (.getfield 217, 3) := by decide +kernel
theorem dX8_edgeTime_45 : decode cX8_edgeTime 45 = .ok (.iload_n 1, 1) := by decide +kernel
theorem dX8_edgeTime_46 : decode cX8_edgeTime 46 = .ok (.iaload, 1) := by decide +kernel
theorem dX8_edgeTime_47 : decode cX8_edgeTime 47 = .ok (.ireturn, 1) := by decide +kernel
theorem dX8_edgePin_0 : decode cX8_edgePin 0 = .ok (.iload_n 1, 1) := by decide +kernel
theorem dX8_edgePin_1 : decode cX8_edgePin 1 = .ok (.ifCond .lt 24, 3) := by decide +kernel
theorem dX8_edgePin_4 : decode cX8_edgePin 4 = .ok (.iload_n 1, 1) := by decide +kernel
theorem dX8_edgePin_5 : decode cX8_edgePin 5 = .ok (.aload_n 0, 1) := by decide +kernel
theorem dX8_edgePin_6 : decode cX8_edgePin 6 = .ok (.getfield 10, 3) := by decide +kernel
theorem dX8_edgePin_9 : decode cX8_edgePin 9 = .ok (.getfield 203, 3) := by decide +kernel
theorem dX8_edgePin_12 : decode cX8_edgePin 12 = .ok (.getfield 212, 3) := by decide +kernel
theorem dX8_edgePin_15 : decode cX8_edgePin 15 = .ok (.if_icmp .ge 10, 3) := by decide +kernel
theorem dX8_edgePin_18 : decode cX8_edgePin 18 = .ok (.iload_n 1, 1) := by decide +kernel
theorem dX8_edgePin_19 : decode cX8_edgePin 19 = .ok (.sipush 200, 3) := by decide +kernel
theorem dX8_edgePin_22 : decode cX8_edgePin 22 = .ok (.if_icmp .lt 13, 3) := by decide +kernel
theorem dX8_edgePin_25 : decode cX8_edgePin 25 = .ok (.new 190, 3) := by decide +kernel
theorem dX8_edgePin_28 : decode cX8_edgePin 28 = .ok (.dup, 1) := by decide +kernel
theorem dX8_edgePin_29 : decode cX8_edgePin 29 = .ok (.ldc 215, 2) := by decide +kernel
theorem dX8_edgePin_31 : decode cX8_edgePin 31 = .ok (.invokespecial 194, 3) := by decide +kernel
theorem dX8_edgePin_34 : decode cX8_edgePin 34 = .ok (.athrow, 1) := by decide +kernel
theorem dX8_edgePin_35 : decode cX8_edgePin 35 = .ok (.aload_n 0, 1) := by decide +kernel
theorem dX8_edgePin_36 : decode cX8_edgePin 36 = .ok (.getfield 10, 3) := by decide +kernel
theorem dX8_edgePin_39 : decode cX8_edgePin 39 = .ok (.getfield 203, 3) := by decide +kernel
theorem dX8_edgePin_42 : decode cX8_edgePin 42 = .ok (.getfield 220, 3) := by decide +kernel
theorem dX8_edgePin_45 : decode cX8_edgePin 45 = .ok (.iload_n 1, 1) := by decide +kernel
theorem dX8_edgePin_46 : decode cX8_edgePin 46 = .ok (.iaload, 1) := by decide +kernel
theorem dX8_edgePin_47 : decode cX8_edgePin 47 = .ok (.ireturn, 1) := by decide +kernel
set_option maxRecDepth 20000 in
theorem ggX8_isRequested_X8_hasBit : GoodIn wsX8_isRequested wsX8_hasBit := goodIn_r _ [9] (by decide +kernel) (by decide +kernel)
set_option maxRecDepth 20000 in
theorem gX8_isRequested_X8_hasBit : GoodIn wsX8_isRequested (va_wsS RX8 101 yX8_hasBit wsX8_hasBit) := goodIn_app (goodIn_of _ (by decide +kernel)) ggX8_isRequested_X8_hasBit
theorem dX8_isRequested_0 : decode cX8_isRequested 0 = .ok (.iload_n 1, 1) := by decide +kernel
theorem dX8_isRequested_1 : decode cX8_isRequested 1 = .ok (.ifCond .lt 9, 3) := by decide +kernel
theorem dX8_isRequested_4 : decode cX8_isRequested 4 = .ok (.iload_n 1, 1) := by decide +kernel
theorem dX8_isRequested_5 : decode cX8_isRequested 5 = .ok (.bipush 8, 2) := by decide +kernel
theorem dX8_isRequested_7 : decode cX8_isRequested 7 = .ok (.if_icmp .lt 13, 3) := by decide +kernel
theorem dX8_isRequested_10 : decode cX8_isRequested 10 = .ok (.new 22, 3) := by decide +kernel
theorem dX8_isRequested_13 : decode cX8_isRequested 13 = .ok (.dup, 1) := by decide +kernel
theorem dX8_isRequested_14 : decode cX8_isRequested 14 = .ok (.ldc 105, 2) := by decide +kernel
theorem dX8_isRequested_16 : decode cX8_isRequested 16 = .ok (.invokespecial 26, 3) := by decide +kernel
theorem dX8_isRequested_19 : decode cX8_isRequested 19 = .ok (.athrow, 1) := by decide +kernel
theorem dX8_isRequested_20 : decode cX8_isRequested 20 = .ok (.aload_n 0, 1) := by decide +kernel
theorem dX8_isRequested_21 : decode cX8_isRequested 21 = .ok (.getfield 10, 3) := by decide +kernel
theorem dX8_isRequested_24 : decode cX8_isRequested 24 = .ok (.getfield 109, 3) := by decide +kernel
theorem dX8_isRequested_27 : decode cX8_isRequested 27 = .ok (.getfield 168, 3) := by decide +kernel
theorem dX8_isRequested_30 : decode cX8_isRequested 30 = .ok (.iload_n 1, 1) := by decide +kernel
theorem dX8_isRequested_31 : decode cX8_isRequested 31 = .ok (.invokestatic 101, 3) := by decide +kernel
theorem dX8_isRequested_34 : decode cX8_isRequested 34 = .ok (.ireturn, 1) := by decide +kernel
theorem dX8_processor_0 : decode cX8_processor 0 = .ok (.aload_n 0, 1) := by decide +kernel
theorem dX8_processor_1 : decode cX8_processor 1 = .ok (.getfield 10, 3) := by decide +kernel
theorem dX8_processor_4 : decode cX8_processor 4 = .ok (.getfield 138, 3) := by decide +kernel
theorem dX8_processor_7 : decode cX8_processor 7 = .ok (.getfield 147, 3) := by decide +kernel
theorem dX8_processor_10 : decode cX8_processor 10 = .ok (.ireturn, 1) := by decide +kernel
theorem dX8_depth_0 : decode cX8_depth 0 = .ok (.aload_n 0, 1) := by decide +kernel
theorem dX8_depth_1 : decode cX8_depth 1 = .ok (.getfield 10, 3) := by decide +kernel
theorem dX8_depth_4 : decode cX8_depth 4 = .ok (.getfield 138, 3) := by decide +kernel
theorem dX8_depth_7 : decode cX8_depth 7 = .ok (.getfield 223, 3) := by decide +kernel
theorem dX8_depth_10 : decode cX8_depth 10 = .ok (.getfield 227, 3) := by decide +kernel
theorem dX8_depth_13 : decode cX8_depth 13 = .ok (.ireturn, 1) := by decide +kernel
set_option maxRecDepth 20000 in
theorem ggX8_onTop_X5_topLine : GoodIn wsX8_onTop wsX5_topLine := goodIn_ca (goodIn_r _ [10, 11, 12, 32, 33, 34] (by decide +kernel) (by decide +kernel)) (goodIn_sub (fun _ h => List.mem_cons_of_mem _ (List.mem_append_right _ h)) (by decide +kernel))
set_option maxRecDepth 20000 in
theorem gX8_onTop_X5_topLine : GoodIn wsX8_onTop (wsV RX8 232 RX5 yX5_topLine wsX5_topLine) := goodIn_app (goodIn_of _ (by decide +kernel)) ggX8_onTop_X5_topLine
theorem dX8_onTop_0 : decode cX8_onTop 0 = .ok (.aload_n 0, 1) := by decide +kernel
theorem dX8_onTop_1 : decode cX8_onTop 1 = .ok (.getfield 10, 3) := by decide +kernel
theorem dX8_onTop_4 : decode cX8_onTop 4 = .ok (.getfield 138, 3) := by decide +kernel
theorem dX8_onTop_7 : decode cX8_onTop 7 = .ok (.getfield 223, 3) := by decide +kernel
theorem dX8_onTop_10 : decode cX8_onTop 10 = .ok (.invokevirtual 232, 3) := by decide +kernel
theorem dX8_onTop_13 : decode cX8_onTop 13 = .ok (.istore_n 1, 1) := by decide +kernel
theorem dX8_onTop_14 : decode cX8_onTop 14 = .ok (.iload_n 1, 1) := by decide +kernel
theorem dX8_onTop_15 : decode cX8_onTop 15 = .ok (.iconst (-1), 1) := by decide +kernel
theorem dX8_onTop_16 : decode cX8_onTop 16 = .ok (.if_icmp .ne 13, 3) := by decide +kernel
theorem dX8_onTop_19 : decode cX8_onTop 19 = .ok (.new 190, 3) := by decide +kernel
theorem dX8_onTop_22 : decode cX8_onTop 22 = .ok (.dup, 1) := by decide +kernel
theorem dX8_onTop_23 : decode cX8_onTop 23 = .ok (.ldc 235, 2) := by decide +kernel
theorem dX8_onTop_25 : decode cX8_onTop 25 = .ok (.invokespecial 194, 3) := by decide +kernel
theorem dX8_onTop_28 : decode cX8_onTop 28 = .ok (.athrow, 1) := by decide +kernel
theorem dX8_onTop_29 : decode cX8_onTop 29 = .ok (.iload_n 1, 1) := by decide +kernel
theorem dX8_onTop_30 : decode cX8_onTop 30 = .ok (.ireturn, 1) := by decide +kernel
theorem dX8_handled_0 : decode cX8_handled 0 = .ok (.iload_n 1, 1) := by decide +kernel
theorem dX8_handled_1 : decode cX8_handled 1 = .ok (.ifCond .lt 9, 3) := by decide +kernel
theorem dX8_handled_4 : decode cX8_handled 4 = .ok (.iload_n 1, 1) := by decide +kernel
theorem dX8_handled_5 : decode cX8_handled 5 = .ok (.bipush 8, 2) := by decide +kernel
theorem dX8_handled_7 : decode cX8_handled 7 = .ok (.if_icmp .lt 13, 3) := by decide +kernel
theorem dX8_handled_10 : decode cX8_handled 10 = .ok (.new 22, 3) := by decide +kernel
theorem dX8_handled_13 : decode cX8_handled 13 = .ok (.dup, 1) := by decide +kernel
theorem dX8_handled_14 : decode cX8_handled 14 = .ok (.ldc 105, 2) := by decide +kernel
theorem dX8_handled_16 : decode cX8_handled 16 = .ok (.invokespecial 26, 3) := by decide +kernel
theorem dX8_handled_19 : decode cX8_handled 19 = .ok (.athrow, 1) := by decide +kernel
theorem dX8_handled_20 : decode cX8_handled 20 = .ok (.aload_n 0, 1) := by decide +kernel
theorem dX8_handled_21 : decode cX8_handled 21 = .ok (.getfield 10, 3) := by decide +kernel
theorem dX8_handled_24 : decode cX8_handled 24 = .ok (.getfield 109, 3) := by decide +kernel
theorem dX8_handled_27 : decode cX8_handled 27 = .ok (.getfield 237, 3) := by decide +kernel
theorem dX8_handled_30 : decode cX8_handled 30 = .ok (.iload_n 1, 1) := by decide +kernel
theorem dX8_handled_31 : decode cX8_handled 31 = .ok (.iaload, 1) := by decide +kernel
theorem dX8_handled_32 : decode cX8_handled 32 = .ok (.ireturn, 1) := by decide +kernel
theorem dX8_late_0 : decode cX8_late 0 = .ok (.aload_n 0, 1) := by decide +kernel
theorem dX8_late_1 : decode cX8_late 1 = .ok (.getfield 10, 3) := by decide +kernel
theorem dX8_late_4 : decode cX8_late 4 = .ok (.getfield 138, 3) := by decide +kernel
theorem dX8_late_7 : decode cX8_late 7 = .ok (.getfield 240, 3) := by decide +kernel
theorem dX8_late_10 : decode cX8_late 10 = .ok (.ireturn, 1) := by decide +kernel
theorem dX8_chained_0 : decode cX8_chained 0 = .ok (.aload_n 0, 1) := by decide +kernel
theorem dX8_chained_1 : decode cX8_chained 1 = .ok (.getfield 10, 3) := by decide +kernel
theorem dX8_chained_4 : decode cX8_chained 4 = .ok (.getfield 138, 3) := by decide +kernel
theorem dX8_chained_7 : decode cX8_chained 7 = .ok (.getfield 243, 3) := by decide +kernel
theorem dX8_chained_10 : decode cX8_chained 10 = .ok (.ireturn, 1) := by decide +kernel
theorem dX8_resets_0 : decode cX8_resets 0 = .ok (.aload_n 0, 1) := by decide +kernel
theorem dX8_resets_1 : decode cX8_resets 1 = .ok (.getfield 10, 3) := by decide +kernel
theorem dX8_resets_4 : decode cX8_resets 4 = .ok (.getfield 151, 3) := by decide +kernel
theorem dX8_resets_7 : decode cX8_resets 7 = .ok (.getfield 246, 3) := by decide +kernel
theorem dX8_resets_10 : decode cX8_resets 10 = .ok (.ireturn, 1) := by decide +kernel
theorem dX8_lastReset_0 : decode cX8_lastReset 0 = .ok (.aload_n 0, 1) := by decide +kernel
theorem dX8_lastReset_1 : decode cX8_lastReset 1 = .ok (.getfield 10, 3) := by decide +kernel
theorem dX8_lastReset_4 : decode cX8_lastReset 4 = .ok (.getfield 151, 3) := by decide +kernel
theorem dX8_lastReset_7 : decode cX8_lastReset 7 = .ok (.getfield 246, 3) := by decide +kernel
theorem dX8_lastReset_10 : decode cX8_lastReset 10 = .ok (.ifCond .ne 13, 3) := by decide +kernel
theorem dX8_lastReset_13 : decode cX8_lastReset 13 = .ok (.new 190, 3) := by decide +kernel
theorem dX8_lastReset_16 : decode cX8_lastReset 16 = .ok (.dup, 1) := by decide +kernel
theorem dX8_lastReset_17 : decode cX8_lastReset 17 = .ok (.ldc 249, 2) := by decide +kernel
theorem dX8_lastReset_19 : decode cX8_lastReset 19 = .ok (.invokespecial 194, 3) := by decide +kernel
theorem dX8_lastReset_22 : decode cX8_lastReset 22 = .ok (.athrow, 1) := by decide +kernel
theorem dX8_lastReset_23 : decode cX8_lastReset 23 = .ok (.aload_n 0, 1) := by decide +kernel
theorem dX8_lastReset_24 : decode cX8_lastReset 24 = .ok (.getfield 10, 3) := by decide +kernel
theorem dX8_lastReset_27 : decode cX8_lastReset 27 = .ok (.getfield 151, 3) := by decide +kernel
theorem dX8_lastReset_30 : decode cX8_lastReset 30 = .ok (.getfield 251, 3) := by decide +kernel
theorem dX8_lastReset_33 : decode cX8_lastReset 33 = .ok (.ireturn, 1) := by decide +kernel
theorem dX8_energy_0 : decode cX8_energy 0 = .ok (.aload_n 0, 1) := by decide +kernel
theorem dX8_energy_1 : decode cX8_energy 1 = .ok (.getfield 10, 3) := by decide +kernel
theorem dX8_energy_4 : decode cX8_energy 4 = .ok (.getfield 254, 3) := by decide +kernel
theorem dX8_energy_7 : decode cX8_energy 7 = .ok (.lreturn, 1) := by decide +kernel
theorem dX8_asleepShare_0 : decode cX8_asleepShare 0 = .ok (.aload_n 0, 1) := by decide +kernel
theorem dX8_asleepShare_1 : decode cX8_asleepShare 1 = .ok (.getfield 10, 3) := by decide +kernel
theorem dX8_asleepShare_4 : decode cX8_asleepShare 4 = .ok (.getfield 195, 3) := by decide +kernel
theorem dX8_asleepShare_7 : decode cX8_asleepShare 7 = .ok (.ifCond .ne 14, 3) := by decide +kernel
theorem dX8_asleepShare_10 : decode cX8_asleepShare 10 = .ok (.new 258, 3) := by decide +kernel
theorem dX8_asleepShare_13 : decode cX8_asleepShare 13 = .ok (.dup, 1) := by decide +kernel
theorem dX8_asleepShare_14 : decode cX8_asleepShare 14 = .ok (.ldc_w 260, 3) := by decide +kernel
theorem dX8_asleepShare_17 : decode cX8_asleepShare 17 = .ok (.invokespecial 262, 3) := by decide +kernel
theorem dX8_asleepShare_20 : decode cX8_asleepShare 20 = .ok (.athrow, 1) := by decide +kernel
theorem dX8_asleepShare_21 : decode cX8_asleepShare 21 = .ok (.aload_n 0, 1) := by decide +kernel
theorem dX8_asleepShare_22 : decode cX8_asleepShare 22 = .ok (.getfield 10, 3) := by decide +kernel
theorem dX8_asleepShare_25 : decode cX8_asleepShare 25 = .ok (.getfield 263, 3) := by decide +kernel
theorem dX8_asleepShare_28 : decode cX8_asleepShare 28 = .ok (.i2f, 1) := by decide +kernel
theorem dX8_asleepShare_29 : decode cX8_asleepShare 29 = .ok (.aload_n 0, 1) := by decide +kernel
theorem dX8_asleepShare_30 : decode cX8_asleepShare 30 = .ok (.getfield 10, 3) := by decide +kernel
theorem dX8_asleepShare_33 : decode cX8_asleepShare 33 = .ok (.getfield 195, 3) := by decide +kernel
theorem dX8_asleepShare_36 : decode cX8_asleepShare 36 = .ok (.i2f, 1) := by decide +kernel
theorem dX8_asleepShare_37 : decode cX8_asleepShare 37 = .ok (.fdiv, 1) := by decide +kernel
theorem dX8_asleepShare_38 : decode cX8_asleepShare 38 = .ok (.freturn, 1) := by decide +kernel
theorem dX8_meanEnergy_0 : decode cX8_meanEnergy 0 = .ok (.aload_n 0, 1) := by decide +kernel
theorem dX8_meanEnergy_1 : decode cX8_meanEnergy 1 = .ok (.getfield 10, 3) := by decide +kernel
theorem dX8_meanEnergy_4 : decode cX8_meanEnergy 4 = .ok (.getfield 195, 3) := by decide +kernel
theorem dX8_meanEnergy_7 : decode cX8_meanEnergy 7 = .ok (.ifCond .ne 14, 3) := by decide +kernel
theorem dX8_meanEnergy_10 : decode cX8_meanEnergy 10 = .ok (.new 258, 3) := by decide +kernel
theorem dX8_meanEnergy_13 : decode cX8_meanEnergy 13 = .ok (.dup, 1) := by decide +kernel
theorem dX8_meanEnergy_14 : decode cX8_meanEnergy 14 = .ok (.ldc_w 260, 3) := by decide +kernel
theorem dX8_meanEnergy_17 : decode cX8_meanEnergy 17 = .ok (.invokespecial 262, 3) := by decide +kernel
theorem dX8_meanEnergy_20 : decode cX8_meanEnergy 20 = .ok (.athrow, 1) := by decide +kernel
theorem dX8_meanEnergy_21 : decode cX8_meanEnergy 21 = .ok (.aload_n 0, 1) := by decide +kernel
theorem dX8_meanEnergy_22 : decode cX8_meanEnergy 22 = .ok (.getfield 10, 3) := by decide +kernel
theorem dX8_meanEnergy_25 : decode cX8_meanEnergy 25 = .ok (.getfield 254, 3) := by decide +kernel
theorem dX8_meanEnergy_28 : decode cX8_meanEnergy 28 = .ok (.l2d, 1) := by decide +kernel
theorem dX8_meanEnergy_29 : decode cX8_meanEnergy 29 = .ok (.aload_n 0, 1) := by decide +kernel
theorem dX8_meanEnergy_30 : decode cX8_meanEnergy 30 = .ok (.getfield 10, 3) := by decide +kernel
theorem dX8_meanEnergy_33 : decode cX8_meanEnergy 33 = .ok (.getfield 195, 3) := by decide +kernel
theorem dX8_meanEnergy_36 : decode cX8_meanEnergy 36 = .ok (.i2d, 1) := by decide +kernel
theorem dX8_meanEnergy_37 : decode cX8_meanEnergy 37 = .ok (.ddiv, 1) := by decide +kernel
theorem dX8_meanEnergy_38 : decode cX8_meanEnergy 38 = .ok (.dreturn, 1) := by decide +kernel
set_option maxRecDepth 20000 in
theorem ggX8_isConsistent_X0_copyFrom : GoodIn wsX8_isConsistent wsX0_copyFrom := goodIn_r _ [8, 9, 10, 11, 12, 13, 14, 15, 16, 17, 18, 19, 20, 21, 22, 23, 24, 25, 26, 27, 28, 29, 30, 31, 32, 33, 34, 35, 36, 37, 38, 39, 40, 41, 42, 43, 44, 45, 46, 47, 48, 49, 50, 51, 52, 53, 54, 55, 56, 57, 58, 59, 60, 61, 62, 63, 64, 65, 66, 67, 68, 69, 70, 71, 72, 73, 74, 75, 76, 77, 78, 79, 80, 81, 82, 83, 84, 85, 86, 87, 88, 89, 90, 91, 92, 93, 94, 95, 96, 97, 98, 99, 100, 101, 102, 103, 104, 105, 379, 380, 381, 382, 383, 384, 385, 386, 387, 388, 389, 390, 391, 392, 393, 394, 395, 396, 397, 398, 399, 400, 401, 402, 403, 404, 405, 406, 407, 408, 409, 410, 411, 412, 413, 414, 415, 416, 417, 418, 419, 420, 421, 422, 423, 424, 425, 426, 427, 428, 429] (by decide +kernel) (by decide +kernel)
set_option maxRecDepth 20000 in
theorem gX8_isConsistent_X0_copyFrom : GoodIn wsX8_isConsistent (wsV RX8 266 RX0 yX0_copyFrom wsX0_copyFrom) := goodIn_app (goodIn_of _ (by decide +kernel)) ggX8_isConsistent_X0_copyFrom
set_option maxRecDepth 20000 in
theorem ggX8_isConsistent_X0_goByEvents : GoodIn wsX8_isConsistent wsX0_goByEvents := goodIn_ca (goodIn_ca (goodIn_r _ [109, 11, 110, 111, 32, 33, 34, 112, 113, 114, 7, 115, 13, 12, 10, 9, 14, 116, 117, 118, 77, 119, 80, 83, 120, 121, 122, 123, 124, 82, 81, 79, 125, 126, 127, 65, 128, 72, 73, 67, 129, 29, 130, 131, 132, 133, 134, 135, 136, 137, 138, 139, 140, 141, 89, 142, 94, 91, 143, 144, 145, 146, 93, 147, 148, 149, 42, 150, 151, 45, 48, 152, 153, 154, 46, 155, 44, 156, 157, 158, 159, 52, 47, 160, 161, 162, 21, 163, 27, 164, 24, 25, 165, 23, 166, 167, 168, 98, 169, 100, 170, 102, 103, 171, 172, 173, 174, 175, 15, 176, 177, 178, 179, 180, 26, 181, 182, 183, 184, 185, 186, 187, 188, 189, 190, 191, 192, 193, 194, 195, 196, 197, 198, 199, 200, 201, 202, 203, 204, 205, 206, 207, 17, 208, 16, 209, 210, 211, 212, 213, 214, 215, 216, 217, 218, 219, 220, 221, 222, 223, 224, 225, 226, 227, 228, 229, 230, 231, 232, 51, 233, 234, 235, 236, 237, 238, 239, 240, 241, 242, 243, 56, 244, 60, 61, 58, 59, 245, 246, 247, 248, 249, 250, 251, 252, 253, 254, 255, 256, 257, 258, 259, 260, 261, 262, 263, 264, 265, 266, 267, 268, 269, 104, 105, 270, 271, 272, 273, 274, 275, 276, 277, 278, 279, 280, 281, 282, 283, 284, 285, 84, 286, 287, 288, 289, 290, 68, 291, 292, 293, 294, 295, 296, 297, 298, 299, 300, 301, 302, 303, 92, 304, 305, 36, 37, 38, 306, 307, 308, 309, 310, 311, 312, 313, 314, 315, 316, 317, 318, 319, 320, 321, 322, 323, 324, 325, 326, 327, 328, 101, 329, 330, 331, 332, 333, 334, 335, 336, 85, 379, 380, 381, 382, 383, 384, 385, 386, 387, 403, 404, 405, 406, 414, 415, 416, 417, 418, 419, 420, 407, 408, 409, 410, 411, 412, 413, 421, 422, 423, 394, 395, 396, 397, 398, 399, 400, 401, 402, 388, 389, 390, 391, 392, 393, 424, 425, 426, 427, 428, 429] (by decide +kernel) (by decide +kernel)) (goodIn_sub (fun _ h => List.mem_cons_of_mem _ (List.mem_append_left _ (List.mem_append_right _ h))) (by decide +kernel))) (goodIn_sub (fun _ h => List.mem_cons_of_mem _ (List.mem_append_right _ h)) (by decide +kernel))
set_option maxRecDepth 20000 in
theorem gX8_isConsistent_X0_goByEvents : GoodIn wsX8_isConsistent (wsV RX8 178 RX0 yX0_goByEvents wsX0_goByEvents) := goodIn_app (goodIn_of _ (by decide +kernel)) ggX8_isConsistent_X0_goByEvents
set_option maxRecDepth 20000 in
theorem ggX8_isConsistent_X0_goByBeats : GoodIn wsX8_isConsistent wsX0_goByBeats := goodIn_ca (goodIn_r _ [340, 11, 110, 220, 221, 222, 7, 223, 15, 9, 13, 10, 12, 224, 14, 116, 117, 118, 77, 119, 80, 83, 225, 226, 227, 21, 228, 180, 26, 27, 23, 25, 24, 129, 29, 130, 181, 182, 183, 184, 229, 230, 231, 42, 232, 47, 44, 52, 48, 46, 45, 51, 189, 233, 234, 235, 236, 237, 238, 239, 240, 241, 242, 243, 56, 244, 60, 61, 58, 59, 245, 246, 247, 98, 248, 100, 103, 102, 194, 249, 250, 251, 252, 253, 254, 255, 256, 257, 258, 259, 260, 261, 262, 263, 264, 79, 265, 81, 82, 266, 267, 268, 269, 104, 105, 270, 271, 272, 273, 125, 126, 127, 65, 128, 72, 73, 67, 274, 275, 276, 277, 278, 279, 280, 281, 282, 283, 284, 285, 84, 286, 131, 132, 133, 134, 135, 136, 137, 138, 287, 288, 289, 290, 68, 291, 292, 293, 89, 294, 94, 91, 93, 295, 296, 297, 298, 299, 300, 301, 302, 303, 92, 304, 32, 33, 34, 305, 36, 37, 38, 306, 307, 308, 309, 139, 140, 141, 142, 199, 200, 201, 202, 143, 144, 145, 146, 310, 311, 312, 313, 314, 315, 316, 317, 318, 319, 320, 321, 322, 323, 324, 325, 326, 327, 328, 101, 329, 330, 331, 332, 207, 333, 334, 335, 336, 85, 203, 204, 205, 206, 17, 208, 16, 209, 210, 211, 212, 213, 214, 215, 216, 217, 218, 219, 379, 380, 381, 382, 383, 384, 385, 386, 387, 403, 404, 405, 406, 407, 408, 409, 410, 411, 412, 413, 414, 415, 416, 417, 418, 419, 420, 388, 389, 390, 391, 392, 393, 394, 395, 396, 397, 398, 399, 400, 401, 402, 424, 425, 426, 427, 428, 429, 421, 422, 423] (by decide +kernel) (by decide +kernel)) (goodIn_sub (fun _ h => List.mem_cons_of_mem _ (List.mem_append_left _ (List.mem_append_right _ h))) (by decide +kernel))
set_option maxRecDepth 20000 in
theorem gX8_isConsistent_X0_goByBeats : GoodIn wsX8_isConsistent (wsV RX8 182 RX0 yX0_goByBeats wsX0_goByBeats) := goodIn_app (goodIn_of _ (by decide +kernel)) ggX8_isConsistent_X0_goByBeats
set_option maxRecDepth 20000 in
theorem ggX8_isConsistent_X0_isSameAs : GoodIn wsX8_isConsistent wsX0_isSameAs := goodIn_ca (goodIn_r _ [344, 9, 10, 11, 12, 13, 14, 15, 16, 17, 345, 346, 347, 21, 348, 27, 23, 24, 25, 26, 349, 29, 350, 351, 352, 353, 42, 354, 51, 52, 44, 45, 46, 47, 48, 49, 50, 355, 356, 357, 56, 358, 60, 61, 58, 359, 32, 33, 34, 59, 360, 361, 362, 65, 363, 72, 73, 67, 68, 69, 70, 71, 364, 365, 366, 77, 367, 79, 80, 81, 82, 83, 84, 85, 368, 369, 370, 89, 371, 94, 91, 93, 372, 373, 374, 98, 375, 100, 101, 102, 103, 104, 105, 379, 380, 381, 382, 383, 384, 385, 386, 387, 388, 389, 390, 391, 392, 393, 394, 395, 396, 397, 398, 399, 400, 401, 402, 403, 404, 405, 406, 407, 408, 409, 410, 411, 412, 413, 414, 415, 416, 417, 418, 419, 420, 421, 422, 423, 424, 425, 426, 427, 428, 429] (by decide +kernel) (by decide +kernel)) (goodIn_sub (fun _ h => List.mem_cons_of_mem _ (List.mem_append_left _ (List.mem_append_right _ h))) (by decide +kernel))
set_option maxRecDepth 20000 in
theorem gX8_isConsistent_X0_isSameAs : GoodIn wsX8_isConsistent (wsV RX8 270 RX0 yX0_isSameAs wsX0_isSameAs) := goodIn_app (goodIn_of _ (by decide +kernel)) ggX8_isConsistent_X0_isSameAs
theorem dX8_isConsistent_0 : decode cX8_isConsistent 0 = .ok (.aload_n 0, 1) := by decide +kernel
theorem dX8_isConsistent_1 : decode cX8_isConsistent 1 = .ok (.getfield 16, 3) := by decide +kernel
theorem dX8_isConsistent_4 : decode cX8_isConsistent 4 = .ok (.aload_n 0, 1) := by decide +kernel
theorem dX8_isConsistent_5 : decode cX8_isConsistent 5 = .ok (.getfield 10, 3) := by decide +kernel
theorem dX8_isConsistent_8 : decode cX8_isConsistent 8 = .ok (.invokevirtual 266, 3) := by decide +kernel
theorem dX8_isConsistent_11 : decode cX8_isConsistent 11 = .ok (.aload_n 0, 1) := by decide +kernel
theorem dX8_isConsistent_12 : decode cX8_isConsistent 12 = .ok (.getfield 19, 3) := by decide +kernel
theorem dX8_isConsistent_15 : decode cX8_isConsistent 15 = .ok (.aload_n 0, 1) := by decide +kernel
theorem dX8_isConsistent_16 : decode cX8_isConsistent 16 = .ok (.getfield 10, 3) := by decide +kernel
theorem dX8_isConsistent_19 : decode cX8_isConsistent 19 = .ok (.invokevirtual 266, 3) := by decide +kernel
theorem dX8_isConsistent_22 : decode cX8_isConsistent 22 = .ok (.aload_n 0, 1) := by decide +kernel
theorem dX8_isConsistent_23 : decode cX8_isConsistent 23 = .ok (.getfield 16, 3) := by decide +kernel
theorem dX8_isConsistent_26 : decode cX8_isConsistent 26 = .ok (.sipush 300, 3) := by decide +kernel
theorem dX8_isConsistent_29 : decode cX8_isConsistent 29 = .ok (.invokevirtual 178, 3) := by decide +kernel
theorem dX8_isConsistent_32 : decode cX8_isConsistent 32 = .ok (.pop, 1) := by decide +kernel
theorem dX8_isConsistent_33 : decode cX8_isConsistent 33 = .ok (.aload_n 0, 1) := by decide +kernel
theorem dX8_isConsistent_34 : decode cX8_isConsistent 34 = .ok (.getfield 19, 3) := by decide +kernel
theorem dX8_isConsistent_37 : decode cX8_isConsistent 37 = .ok (.sipush 300, 3) := by decide +kernel
theorem dX8_isConsistent_40 : decode cX8_isConsistent 40 = .ok (.invokevirtual 182, 3) := by decide +kernel
theorem dX8_isConsistent_43 : decode cX8_isConsistent 43 = .ok (.pop, 1) := by decide +kernel
theorem dX8_isConsistent_44 : decode cX8_isConsistent 44 = .ok (.aload_n 0, 1) := by decide +kernel
theorem dX8_isConsistent_45 : decode cX8_isConsistent 45 = .ok (.getfield 16, 3) := by decide +kernel
theorem dX8_isConsistent_48 : decode cX8_isConsistent 48 = .ok (.aload_n 0, 1) := by decide +kernel
theorem dX8_isConsistent_49 : decode cX8_isConsistent 49 = .ok (.getfield 19, 3) := by decide +kernel
theorem dX8_isConsistent_52 : decode cX8_isConsistent 52 = .ok (.invokevirtual 270, 3) := by decide +kernel
theorem dX8_isConsistent_55 : decode cX8_isConsistent 55 = .ok (.ireturn, 1) := by decide +kernel
theorem dX8_targetsOf_0 : decode cX8_targetsOf 0 = .ok (.iload_n 0, 1) := by decide +kernel
theorem dX8_targetsOf_1 : decode cX8_targetsOf 1 = .ok (.tableswitch 101 102 120 #[91, 101, 101, 101, 101, 101, 101, 101, 91, 101, 93, 98, 101, 96, 101, 101, 101, 101, 96], 91) := by decide +kernel
theorem dX8_targetsOf_92 : decode cX8_targetsOf 92 = .ok (.iconst 1, 1) := by decide +kernel
theorem dX8_targetsOf_93 : decode cX8_targetsOf 93 = .ok (.ireturn, 1) := by decide +kernel
theorem dX8_targetsOf_94 : decode cX8_targetsOf 94 = .ok (.bipush 8, 2) := by decide +kernel
theorem dX8_targetsOf_96 : decode cX8_targetsOf 96 = .ok (.ireturn, 1) := by decide +kernel
theorem dX8_targetsOf_97 : decode cX8_targetsOf 97 = .ok (.iconst 4, 1) := by decide +kernel
theorem dX8_targetsOf_98 : decode cX8_targetsOf 98 = .ok (.ireturn, 1) := by decide +kernel
theorem dX8_targetsOf_99 : decode cX8_targetsOf 99 = .ok (.bipush 8, 2) := by decide +kernel
theorem dX8_targetsOf_101 : decode cX8_targetsOf 101 = .ok (.ireturn, 1) := by decide +kernel
theorem dX8_targetsOf_102 : decode cX8_targetsOf 102 = .ok (.iconst 0, 1) := by decide +kernel
theorem dX8_targetsOf_103 : decode cX8_targetsOf 103 = .ok (.ireturn, 1) := by decide +kernel
theorem dX8_hasBit_0 : decode cX8_hasBit 0 = .ok (.iload_n 0, 1) := by decide +kernel
theorem dX8_hasBit_1 : decode cX8_hasBit 1 = .ok (.iload_n 1, 1) := by decide +kernel
theorem dX8_hasBit_2 : decode cX8_hasBit 2 = .ok (.ishr, 1) := by decide +kernel
theorem dX8_hasBit_3 : decode cX8_hasBit 3 = .ok (.iconst 1, 1) := by decide +kernel
theorem dX8_hasBit_4 : decode cX8_hasBit 4 = .ok (.iand, 1) := by decide +kernel
theorem dX8_hasBit_5 : decode cX8_hasBit 5 = .ok (.ifCond .eq 7, 3) := by decide +kernel
theorem dX8_hasBit_8 : decode cX8_hasBit 8 = .ok (.iconst 1, 1) := by decide +kernel
theorem dX8_hasBit_9 : decode cX8_hasBit 9 = .ok (.goto 4, 3) := by decide +kernel
theorem dX8_hasBit_12 : decode cX8_hasBit 12 = .ok (.iconst 0, 1) := by decide +kernel
theorem dX8_hasBit_13 : decode cX8_hasBit 13 = .ok (.ireturn, 1) := by decide +kernel
theorem dX8_withBit_0 : decode cX8_withBit 0 = .ok (.iload_n 2, 1) := by decide +kernel
theorem dX8_withBit_1 : decode cX8_withBit 1 = .ok (.ifCond .eq 11, 3) := by decide +kernel
theorem dX8_withBit_4 : decode cX8_withBit 4 = .ok (.iload_n 0, 1) := by decide +kernel
theorem dX8_withBit_5 : decode cX8_withBit 5 = .ok (.iconst 1, 1) := by decide +kernel
theorem dX8_withBit_6 : decode cX8_withBit 6 = .ok (.iload_n 1, 1) := by decide +kernel
theorem dX8_withBit_7 : decode cX8_withBit 7 = .ok (.ishl, 1) := by decide +kernel
theorem dX8_withBit_8 : decode cX8_withBit 8 = .ok (.ior, 1) := by decide +kernel
theorem dX8_withBit_9 : decode cX8_withBit 9 = .ok (.goto 10, 3) := by decide +kernel
theorem dX8_withBit_12 : decode cX8_withBit 12 = .ok (.iload_n 0, 1) := by decide +kernel
theorem dX8_withBit_13 : decode cX8_withBit 13 = .ok (.iconst 1, 1) := by decide +kernel
theorem dX8_withBit_14 : decode cX8_withBit 14 = .ok (.iload_n 1, 1) := by decide +kernel
theorem dX8_withBit_15 : decode cX8_withBit 15 = .ok (.ishl, 1) := by decide +kernel
theorem dX8_withBit_16 : decode cX8_withBit 16 = .ok (.iconst (-1), 1) := by decide +kernel
theorem dX8_withBit_17 : decode cX8_withBit 17 = .ok (.ixor, 1) := by decide +kernel
theorem dX8_withBit_18 : decode cX8_withBit 18 = .ok (.iand, 1) := by decide +kernel
theorem dX8_withBit_19 : decode cX8_withBit 19 = .ok (.ireturn, 1) := by decide +kernel
theorem dX8_copyInts_0 : decode cX8_copyInts 0 = .ok (.aload_n 0, 1) := by decide +kernel
theorem dX8_copyInts_1 : decode cX8_copyInts 1 = .ok (.iconst 0, 1) := by decide +kernel
theorem dX8_copyInts_2 : decode cX8_copyInts 2 = .ok (.aload_n 1, 1) := by decide +kernel
theorem dX8_copyInts_3 : decode cX8_copyInts 3 = .ok (.iconst 0, 1) := by decide +kernel
theorem dX8_copyInts_4 : decode cX8_copyInts 4 = .ok (.aload_n 0, 1) := by decide +kernel
theorem dX8_copyInts_5 : decode cX8_copyInts 5 = .ok (.arraylength, 1) := by decide +kernel
theorem dX8_copyInts_6 : decode cX8_copyInts 6 = .ok (.aload_n 1, 1) := by decide +kernel
theorem dX8_copyInts_7 : decode cX8_copyInts 7 = .ok (.arraylength, 1) := by decide +kernel
theorem dX8_copyInts_8 : decode cX8_copyInts 8 = .ok (.invokestatic 274, 3) := by decide +kernel
theorem dX8_copyInts_11 : decode cX8_copyInts 11 = .ok (.invokestatic 280, 3) := by decide +kernel
theorem dX8_copyInts_14 : decode cX8_copyInts 14 = .ok (.return_, 1) := by decide +kernel
theorem dX8_areSameInts_0 : decode cX8_areSameInts 0 = .ok (.iconst 0, 1) := by decide +kernel
theorem dX8_areSameInts_1 : decode cX8_areSameInts 1 = .ok (.istore_n 3, 1) := by decide +kernel
theorem dX8_areSameInts_2 : decode cX8_areSameInts 2 = .ok (.iload_n 3, 1) := by decide +kernel
theorem dX8_areSameInts_3 : decode cX8_areSameInts 3 = .ok (.iload_n 2, 1) := by decide +kernel
theorem dX8_areSameInts_4 : decode cX8_areSameInts 4 = .ok (.if_icmp .ge 32, 3) := by decide +kernel
theorem dX8_areSameInts_7 : decode cX8_areSameInts 7 = .ok (.iload_n 3, 1) := by decide +kernel
theorem dX8_areSameInts_8 : decode cX8_areSameInts 8 = .ok (.aload_n 0, 1) := by decide +kernel
theorem dX8_areSameInts_9 : decode cX8_areSameInts 9 = .ok (.arraylength, 1) := by decide +kernel
theorem dX8_areSameInts_10 : decode cX8_areSameInts 10 = .ok (.if_icmp .ge 26, 3) := by decide +kernel
theorem dX8_areSameInts_13 : decode cX8_areSameInts 13 = .ok (.iload_n 3, 1) := by decide +kernel
theorem dX8_areSameInts_14 : decode cX8_areSameInts 14 = .ok (.aload_n 1, 1) := by decide +kernel
theorem dX8_areSameInts_15 : decode cX8_areSameInts 15 = .ok (.arraylength, 1) := by decide +kernel
theorem dX8_areSameInts_16 : decode cX8_areSameInts 16 = .ok (.if_icmp .ge 20, 3) := by decide +kernel
theorem dX8_areSameInts_19 : decode cX8_areSameInts 19 = .ok (.aload_n 0, 1) := by decide +kernel
theorem dX8_areSameInts_20 : decode cX8_areSameInts 20 = .ok (.iload_n 3, 1) := by decide +kernel
theorem dX8_areSameInts_21 : decode cX8_areSameInts 21 = .ok (.iaload, 1) := by decide +kernel
theorem dX8_areSameInts_22 : decode cX8_areSameInts 22 = .ok (.aload_n 1, 1) := by decide +kernel
theorem dX8_areSameInts_23 : decode cX8_areSameInts 23 = .ok (.iload_n 3, 1) := by decide +kernel
theorem dX8_areSameInts_24 : decode cX8_areSameInts 24 = .ok (.iaload, 1) := by decide +kernel
theorem dX8_areSameInts_25 : decode cX8_areSameInts 25 = .ok (.if_icmp .eq 5, 3) := by decide +kernel
theorem dX8_areSameInts_28 : decode cX8_areSameInts 28 = .ok (.iconst 0, 1) := by decide +kernel
theorem dX8_areSameInts_29 : decode cX8_areSameInts 29 = .ok (.ireturn, 1) := by decide +kernel
theorem dX8_areSameInts_30 : decode cX8_areSameInts 30 = .ok (.iinc 3 1, 3) := by decide +kernel
theorem dX8_areSameInts_33 : decode cX8_areSameInts 33 = .ok (.goto (-31), 3) := by decide +kernel
theorem dX8_areSameInts_36 : decode cX8_areSameInts 36 = .ok (.iconst 1, 1) := by decide +kernel
theorem dX8_areSameInts_37 : decode cX8_areSameInts 37 = .ok (.ireturn, 1) := by decide +kernel
theorem dX9_init_0 : decode cX9_init 0 = .ok (.aload_n 0, 1) := by decide +kernel
theorem dX9_init_1 : decode cX9_init 1 = .ok (.invokespecial 1, 3) := by decide +kernel
theorem dX9_init_4 : decode cX9_init 4 = .ok (.aload_n 0, 1) := by decide +kernel
theorem dX9_init_5 : decode cX9_init 5 = .ok (.iconst 1, 1) := by decide +kernel
theorem dX9_init_6 : decode cX9_init 6 = .ok (.putfield 7, 3) := by decide +kernel
theorem dX9_init_9 : decode cX9_init 9 = .ok (.aload_n 0, 1) := by decide +kernel
theorem dX9_init_10 : decode cX9_init 10 = .ok (.iconst 1, 1) := by decide +kernel
theorem dX9_init_11 : decode cX9_init 11 = .ok (.putfield 13, 3) := by decide +kernel
theorem dX9_init_14 : decode cX9_init 14 = .ok (.return_, 1) := by decide +kernel
theorem dX10_init_0 : decode cX10_init 0 = .ok (.aload_n 0, 1) := by decide +kernel
theorem dX10_init_1 : decode cX10_init 1 = .ok (.invokespecial 1, 3) := by decide +kernel
theorem dX10_init_4 : decode cX10_init 4 = .ok (.aload_n 0, 1) := by decide +kernel
theorem dX10_init_5 : decode cX10_init 5 = .ok (.bipush 7, 2) := by decide +kernel
theorem dX10_init_7 : decode cX10_init 7 = .ok (.putfield 7, 3) := by decide +kernel
theorem dX10_init_10 : decode cX10_init 10 = .ok (.aload_n 0, 1) := by decide +kernel
theorem dX10_init_11 : decode cX10_init 11 = .ok (.iconst 1, 1) := by decide +kernel
theorem dX10_init_12 : decode cX10_init 12 = .ok (.putfield 13, 3) := by decide +kernel
theorem dX10_init_15 : decode cX10_init 15 = .ok (.aload_n 0, 1) := by decide +kernel
theorem dX10_init_16 : decode cX10_init 16 = .ok (.bipush 110, 2) := by decide +kernel
theorem dX10_init_18 : decode cX10_init 18 = .ok (.putfield 16, 3) := by decide +kernel
theorem dX10_init_21 : decode cX10_init 21 = .ok (.return_, 1) := by decide +kernel
theorem dX11_init_0 : decode cX11_init 0 = .ok (.aload_n 0, 1) := by decide +kernel
theorem dX11_init_1 : decode cX11_init 1 = .ok (.invokespecial 3, 3) := by decide +kernel
theorem dX11_init_4 : decode cX11_init 4 = .ok (.aload_n 0, 1) := by decide +kernel
theorem dX11_init_5 : decode cX11_init 5 = .ok (.bipush 10, 2) := by decide +kernel
theorem dX11_init_7 : decode cX11_init 7 = .ok (.putfield 9, 3) := by decide +kernel
theorem dX11_init_10 : decode cX11_init 10 = .ok (.aload_n 0, 1) := by decide +kernel
theorem dX11_init_11 : decode cX11_init 11 = .ok (.bipush 10, 2) := by decide +kernel
theorem dX11_init_13 : decode cX11_init 13 = .ok (.putfield 15, 3) := by decide +kernel
theorem dX11_init_16 : decode cX11_init 16 = .ok (.aload_n 0, 1) := by decide +kernel
theorem dX11_init_17 : decode cX11_init 17 = .ok (.bipush 114, 2) := by decide +kernel
theorem dX11_init_19 : decode cX11_init 19 = .ok (.putfield 18, 3) := by decide +kernel
theorem dX11_init_22 : decode cX11_init 22 = .ok (.aload_n 0, 1) := by decide +kernel
theorem dX11_init_23 : decode cX11_init 23 = .ok (.iconst (-1), 1) := by decide +kernel
theorem dX11_init_24 : decode cX11_init 24 = .ok (.putfield 22, 3) := by decide +kernel
theorem dX11_init_27 : decode cX11_init 27 = .ok (.aload_n 0, 1) := by decide +kernel
theorem dX11_init_28 : decode cX11_init 28 = .ok (.bipush 110, 2) := by decide +kernel
theorem dX11_init_30 : decode cX11_init 30 = .ok (.putfield 25, 3) := by decide +kernel
theorem dX11_init_33 : decode cX11_init 33 = .ok (.return_, 1) := by decide +kernel
