theorem dX12_handle_290 : decode cX12_handle 290 = .ok (.aload_n 0, 1) := by decide +kernel
theorem dX12_handle_291 : decode cX12_handle 291 = .ok (.iload 5, 2) := by decide +kernel
theorem dX12_handle_293 : decode cX12_handle 293 = .ok (.iconst 2, 1) := by decide +kernel
theorem dX12_handle_294 : decode cX12_handle 294 = .ok (.invokevirtual 252, 3) := by decide +kernel
theorem dX12_handle_297 : decode cX12_handle 297 = .ok (.aload_n 0, 1) := by decide +kernel
theorem dX12_handle_298 : decode cX12_handle 298 = .ok (.dup, 1) := by decide +kernel
theorem dX12_handle_299 : decode cX12_handle 299 = .ok (.getfield 276, 3) := by decide +kernel
theorem dX12_handle_302 : decode cX12_handle 302 = .ok (.iconst 1, 1) := by decide +kernel
theorem dX12_handle_303 : decode cX12_handle 303 = .ok (.iadd, 1) := by decide +kernel
theorem dX12_handle_304 : decode cX12_handle 304 = .ok (.putfield 276, 3) := by decide +kernel
theorem dX12_handle_307 : decode cX12_handle 307 = .ok (.goto 14, 3) := by decide +kernel
theorem dX12_handle_310 : decode cX12_handle 310 = .ok (.aload_n 0, 1) := by decide +kernel
theorem dX12_handle_311 : decode cX12_handle 311 = .ok (.bipush 120, 2) := by decide +kernel
theorem dX12_handle_313 : decode cX12_handle 313 = .ok (.putfield 30, 3) := by decide +kernel
theorem dX12_handle_316 : decode cX12_handle 316 = .ok (.aload_n 0, 1) := by decide +kernel
theorem dX12_handle_317 : decode cX12_handle 317 = .ok (.iconst 3, 1) := by decide +kernel
theorem dX12_handle_318 : decode cX12_handle 318 = .ok (.putfield 224, 3) := by decide +kernel
theorem dX12_handle_321 : decode cX12_handle 321 = .ok (.return_, 1) := by decide +kernel
set_option maxRecDepth 20000 in
theorem ggX12_going_X12_beat : GoodIn wsX12_going wsX12_beat := goodIn_ca (goodIn_r _ [6, 7, 8, 9, 10, 11, 12, 13, 14, 15, 16, 17, 18, 19, 20, 21, 22, 23, 24, 25, 26, 27, 28, 29, 30, 31, 32, 33, 34, 35, 36, 37, 38, 39, 40, 41, 42, 43, 5, 44, 45, 46, 47, 48, 49, 50, 51, 52, 53, 1, 54, 55, 56, 57, 58, 59, 60, 61, 62, 63, 64, 65, 66, 67, 68, 69, 70, 71, 72, 73, 74, 75, 76, 77, 78, 79, 80, 81, 82, 83, 84, 85, 86, 87, 88, 89, 90, 91, 92, 93, 94, 95, 96, 97, 98, 99, 100, 101, 102, 103, 104, 105, 106, 107, 108, 109, 110, 111, 112, 113, 114, 115, 116, 117, 118, 119, 120, 121, 122, 123, 124, 125, 126, 127, 128, 129, 130, 131, 132, 133, 134, 135, 136, 137, 138, 139, 140, 141, 142, 143, 144, 145, 146, 147, 148, 149, 150, 151, 152, 153, 154, 155, 156, 157, 158, 159, 160, 161, 162, 163, 164, 165, 166, 167, 168, 169, 170, 171, 172, 173, 174, 175, 176, 177, 178, 179, 180, 181, 182, 183, 184, 185, 186, 187, 188, 189, 190, 191, 192, 193, 194, 195, 196, 197, 198, 199, 200, 201, 202, 203, 204, 205, 206, 207, 208, 209, 210, 211, 212, 213, 214, 215, 216, 217, 218, 219, 220, 221, 222, 223, 224, 225, 226, 227, 228, 229, 230, 231, 232, 233, 234, 235, 236, 237, 238, 239, 240, 241, 242, 243, 244, 245, 246, 247, 248, 249, 250, 251] (by decide +kernel) (by decide +kernel)) (goodIn_sub (fun _ h => List.mem_cons_of_mem _ (List.mem_append_right _ h)) (by decide +kernel))
set_option maxRecDepth 20000 in
theorem gX12_going_X12_beat : GoodIn wsX12_going (wsV RX12 279 RX12 yX12_beat wsX12_beat) := goodIn_app (goodIn_of _ (by decide +kernel)) ggX12_going_X12_beat
theorem dX12_going_0 : decode cX12_going 0 = .ok (.aload_n 0, 1) := by decide +kernel
theorem dX12_going_1 : decode cX12_going 1 = .ok (.getfield 181, 3) := by decide +kernel
theorem dX12_going_4 : decode cX12_going 4 = .ok (.istore_n 2, 1) := by decide +kernel
theorem dX12_going_5 : decode cX12_going 5 = .ok (.iconst 0, 1) := by decide +kernel
theorem dX12_going_6 : decode cX12_going 6 = .ok (.istore_n 3, 1) := by decide +kernel
theorem dX12_going_7 : decode cX12_going 7 = .ok (.iload_n 3, 1) := by decide +kernel
theorem dX12_going_8 : decode cX12_going 8 = .ok (.iload_n 1, 1) := by decide +kernel
theorem dX12_going_9 : decode cX12_going 9 = .ok (.if_icmp .ge 13, 3) := by decide +kernel
theorem dX12_going_12 : decode cX12_going 12 = .ok (.aload_n 0, 1) := by decide +kernel
theorem dX12_going_13 : decode cX12_going 13 = .ok (.invokevirtual 279, 3) := by decide +kernel
theorem dX12_going_16 : decode cX12_going 16 = .ok (.iinc 3 1, 3) := by decide +kernel
theorem dX12_going_19 : decode cX12_going 19 = .ok (.goto (-12), 3) := by decide +kernel
theorem dX12_going_22 : decode cX12_going 22 = .ok (.aload_n 0, 1) := by decide +kernel
theorem dX12_going_23 : decode cX12_going 23 = .ok (.getfield 181, 3) := by decide +kernel
theorem dX12_going_26 : decode cX12_going 26 = .ok (.iload_n 2, 1) := by decide +kernel
theorem dX12_going_27 : decode cX12_going 27 = .ok (.isub, 1) := by decide +kernel
theorem dX12_going_28 : decode cX12_going 28 = .ok (.ireturn, 1) := by decide +kernel
set_option maxRecDepth 20000 in
theorem ggX12_run_X12_in : GoodIn wsX12_run wsX12_in := goodIn_r _ [6] (by decide +kernel) (by decide +kernel)
set_option maxRecDepth 20000 in
theorem gX12_run_X12_in : GoodIn wsX12_run (va_wsS RX12 58 yX12_in wsX12_in) := goodIn_app (goodIn_of _ (by decide +kernel)) ggX12_run_X12_in
set_option maxRecDepth 20000 in
theorem ggX12_run_X12_going : GoodIn wsX12_run wsX12_going := goodIn_ca (goodIn_r _ [10, 11, 12, 13, 14, 5, 15, 16, 17, 18, 19, 20, 21, 22, 23, 24, 25, 26, 27, 28, 29, 30, 31, 32, 33, 34, 35, 36, 37, 38, 39, 40, 41, 42, 43, 44, 45, 46, 47, 48, 49, 50, 51, 52, 53, 54, 55, 56, 57, 58, 59, 60, 61, 62, 63, 64, 65, 66, 67, 68, 69, 70, 71, 72, 73, 74, 75, 76, 77, 78, 79, 80, 81, 82, 83, 84, 85, 86, 87, 88, 89, 90, 91, 92, 93, 94, 95, 96, 97, 98, 99, 100, 101, 102, 103, 104, 105, 106, 107, 108, 109, 110, 111, 112, 113, 114, 115, 116, 117, 118, 119, 120, 121, 122, 123, 124, 125, 126, 127, 128, 129, 130, 131, 132, 133, 134, 135, 136, 137, 138, 139, 140, 141, 142, 143, 144, 145, 146, 147, 148, 149, 150, 151, 152, 153, 154, 155, 156, 157, 158, 159, 160, 161, 162, 163, 164, 165, 166, 167, 168, 169, 170, 171, 172, 173, 174, 175, 176, 177, 178, 179, 180, 181, 182, 183, 184, 185, 186, 187, 188, 189, 190, 191, 192, 193, 194, 195, 196, 197, 198, 199, 200, 201, 202, 203, 204, 205, 206, 207, 208, 209, 210, 211, 212, 213, 214, 215, 216, 217, 218, 219, 220, 221, 222, 223, 224, 225, 226, 227, 228, 229, 230, 231, 232, 233, 234, 235, 236, 237, 238, 239, 240, 241, 242, 243, 244, 245, 246, 247, 248, 249, 250, 251, 252, 253, 254, 255, 256, 257, 258, 259, 260] (by decide +kernel) (by decide +kernel)) (goodIn_sub (fun _ h => List.mem_cons_of_mem _ (List.mem_append_right _ h)) (by decide +kernel))
set_option maxRecDepth 20000 in
theorem gX12_run_X12_going : GoodIn wsX12_run (wsV RX12 284 RX12 yX12_going wsX12_going) := goodIn_app (goodIn_of _ (by decide +kernel)) ggX12_run_X12_going
theorem dX12_run_0 : decode cX12_run 0 = .ok (.aload_n 0, 1) := by decide +kernel
theorem dX12_run_1 : decode cX12_run 1 = .ok (.iload_n 1, 1) := by decide +kernel
theorem dX12_run_2 : decode cX12_run 2 = .ok (.i2l, 1) := by decide +kernel
theorem dX12_run_3 : decode cX12_run 3 = .ok (.lconst 1, 1) := by decide +kernel
theorem dX12_run_4 : decode cX12_run 4 = .ok (.ldc2_w 282, 3) := by decide +kernel
theorem dX12_run_7 : decode cX12_run 7 = .ok (.invokestatic 58, 3) := by decide +kernel
theorem dX12_run_10 : decode cX12_run 10 = .ok (.ifCond .eq 7, 3) := by decide +kernel
theorem dX12_run_13 : decode cX12_run 13 = .ok (.iconst 0, 1) := by decide +kernel
theorem dX12_run_14 : decode cX12_run 14 = .ok (.goto 4, 3) := by decide +kernel
theorem dX12_run_17 : decode cX12_run 17 = .ok (.iconst 1, 1) := by decide +kernel
theorem dX12_run_18 : decode cX12_run 18 = .ok (.putfield 53, 3) := by decide +kernel
theorem dX12_run_21 : decode cX12_run 21 = .ok (.aload_n 0, 1) := by decide +kernel
theorem dX12_run_22 : decode cX12_run 22 = .ok (.getfield 53, 3) := by decide +kernel
theorem dX12_run_25 : decode cX12_run 25 = .ok (.ifCond .ne 11, 3) := by decide +kernel
theorem dX12_run_28 : decode cX12_run 28 = .ok (.aload_n 0, 1) := by decide +kernel
theorem dX12_run_29 : decode cX12_run 29 = .ok (.iload_n 1, 1) := by decide +kernel
theorem dX12_run_30 : decode cX12_run 30 = .ok (.invokevirtual 284, 3) := by decide +kernel
theorem dX12_run_33 : decode cX12_run 33 = .ok (.goto 4, 3) := by decide +kernel
theorem dX12_run_36 : decode cX12_run 36 = .ok (.iconst (-1), 1) := by decide +kernel
theorem dX12_run_37 : decode cX12_run 37 = .ok (.ireturn, 1) := by decide +kernel
set_option maxRecDepth 20000 in
theorem ggX12_runByBeats_X12_in : GoodIn wsX12_runByBeats wsX12_in := goodIn_r _ [6] (by decide +kernel) (by decide +kernel)
set_option maxRecDepth 20000 in
theorem gX12_runByBeats_X12_in : GoodIn wsX12_runByBeats (va_wsS RX12 58 yX12_in wsX12_in) := goodIn_app (goodIn_of _ (by decide +kernel)) ggX12_runByBeats_X12_in
set_option maxRecDepth 20000 in
theorem ggX12_runByBeats_X12_going : GoodIn wsX12_runByBeats wsX12_going := goodIn_ca (goodIn_r _ [10, 11, 12, 13, 14, 5, 15, 16, 17, 18, 19, 20, 21, 22, 23, 24, 25, 26, 27, 28, 29, 30, 31, 32, 33, 34, 35, 36, 37, 38, 39, 40, 41, 42, 43, 44, 45, 46, 47, 48, 49, 50, 51, 52, 53, 54, 55, 56, 57, 58, 59, 60, 61, 62, 63, 64, 65, 66, 67, 68, 69, 70, 71, 72, 73, 74, 75, 76, 77, 78, 79, 80, 81, 82, 83, 84, 85, 86, 87, 88, 89, 90, 91, 92, 93, 94, 95, 96, 97, 98, 99, 100, 101, 102, 103, 104, 105, 106, 107, 108, 109, 110, 111, 112, 113, 114, 115, 116, 117, 118, 119, 120, 121, 122, 123, 124, 125, 126, 127, 128, 129, 130, 131, 132, 133, 134, 135, 136, 137, 138, 139, 140, 141, 142, 143, 144, 145, 146, 147, 148, 149, 150, 151, 152, 153, 154, 155, 156, 157, 158, 159, 160, 161, 162, 163, 164, 165, 166, 167, 168, 169, 170, 171, 172, 173, 174, 175, 176, 177, 178, 179, 180, 181, 182, 183, 184, 185, 186, 187, 188, 189, 190, 191, 192, 193, 194, 195, 196, 197, 198, 199, 200, 201, 202, 203, 204, 205, 206, 207, 208, 209, 210, 211, 212, 213, 214, 215, 216, 217, 218, 219, 220, 221, 222, 223, 224, 225, 226, 227, 228, 229, 230, 231, 232, 233, 234, 235, 236, 237, 238, 239, 240, 241, 242, 243, 244, 245, 246, 247, 248, 249, 250, 251, 252, 253, 254, 255, 256, 257, 258, 259, 260] (by decide +kernel) (by decide +kernel)) (goodIn_sub (fun _ h => List.mem_cons_of_mem _ (List.mem_append_right _ h)) (by decide +kernel))
set_option maxRecDepth 20000 in
theorem gX12_runByBeats_X12_going : GoodIn wsX12_runByBeats (wsV RX12 284 RX12 yX12_going wsX12_going) := goodIn_app (goodIn_of _ (by decide +kernel)) ggX12_runByBeats_X12_going
theorem dX12_runByBeats_0 : decode cX12_runByBeats 0 = .ok (.aload_n 0, 1) := by decide +kernel
theorem dX12_runByBeats_1 : decode cX12_runByBeats 1 = .ok (.iload_n 1, 1) := by decide +kernel
theorem dX12_runByBeats_2 : decode cX12_runByBeats 2 = .ok (.i2l, 1) := by decide +kernel
theorem dX12_runByBeats_3 : decode cX12_runByBeats 3 = .ok (.lconst 1, 1) := by decide +kernel
theorem dX12_runByBeats_4 : decode cX12_runByBeats 4 = .ok (.ldc2_w 287, 3) := by decide +kernel
theorem dX12_runByBeats_7 : decode cX12_runByBeats 7 = .ok (.invokestatic 58, 3) := by decide +kernel
theorem dX12_runByBeats_10 : decode cX12_runByBeats 10 = .ok (.ifCond .eq 7, 3) := by decide +kernel
theorem dX12_runByBeats_13 : decode cX12_runByBeats 13 = .ok (.iconst 0, 1) := by decide +kernel
theorem dX12_runByBeats_14 : decode cX12_runByBeats 14 = .ok (.goto 4, 3) := by decide +kernel
theorem dX12_runByBeats_17 : decode cX12_runByBeats 17 = .ok (.iconst 1, 1) := by decide +kernel
theorem dX12_runByBeats_18 : decode cX12_runByBeats 18 = .ok (.putfield 53, 3) := by decide +kernel
theorem dX12_runByBeats_21 : decode cX12_runByBeats 21 = .ok (.aload_n 0, 1) := by decide +kernel
theorem dX12_runByBeats_22 : decode cX12_runByBeats 22 = .ok (.getfield 53, 3) := by decide +kernel
theorem dX12_runByBeats_25 : decode cX12_runByBeats 25 = .ok (.ifCond .ne 11, 3) := by decide +kernel
theorem dX12_runByBeats_28 : decode cX12_runByBeats 28 = .ok (.aload_n 0, 1) := by decide +kernel
theorem dX12_runByBeats_29 : decode cX12_runByBeats 29 = .ok (.iload_n 1, 1) := by decide +kernel
theorem dX12_runByBeats_30 : decode cX12_runByBeats 30 = .ok (.invokevirtual 284, 3) := by decide +kernel
theorem dX12_runByBeats_33 : decode cX12_runByBeats 33 = .ok (.goto 4, 3) := by decide +kernel
theorem dX12_runByBeats_36 : decode cX12_runByBeats 36 = .ok (.iconst (-1), 1) := by decide +kernel
