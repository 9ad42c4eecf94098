set_option maxRecDepth 20000 in
theorem ggX11_forget_X11_bad : GoodIn wsX11_forget wsX11_bad := goodIn_r _ [10, 11, 12, 13, 14, 15, 16, 17, 18, 19, 20, 21, 22, 23, 24, 25, 26, 27, 28, 29] rfl (by decide +kernel)
set_option maxRecDepth 20000 in
theorem gX11_forget_X11_bad : GoodIn wsX11_forget (wsV RX11 68 RX11 yX11_bad wsX11_bad) := goodIn_app (goodIn_of _ (by decide +kernel)) ggX11_forget_X11_bad
set_option maxRecDepth 20000 in
theorem ggX11_forget_X11_in : GoodIn wsX11_forget wsX11_in := goodIn_r _ [6] rfl (by decide +kernel)
set_option maxRecDepth 20000 in
theorem gX11_forget_X11_in : GoodIn wsX11_forget (va_wsS RX11 56 yX11_in wsX11_in) := goodIn_app (goodIn_of _ (by decide +kernel)) ggX11_forget_X11_in
set_option maxRecDepth 20000 in
theorem ggX11_from_X11_bad : GoodIn wsX11_from wsX11_bad := goodIn_r _ [11, 12, 17, 18, 19, 20, 21, 22, 23, 24, 25, 26, 27, 28, 29, 30, 31, 32, 33, 34] rfl (by decide +kernel)
set_option maxRecDepth 20000 in
theorem gX11_from_X11_bad : GoodIn wsX11_from (wsV RX11 68 RX11 yX11_bad wsX11_bad) := goodIn_app (goodIn_of _ (by decide +kernel)) ggX11_from_X11_bad
set_option maxRecDepth 20000 in
theorem ggX11_from_X11_in : GoodIn wsX11_from wsX11_in := goodIn_r _ [7] rfl (by decide +kernel)
set_option maxRecDepth 20000 in
theorem gX11_from_X11_in : GoodIn wsX11_from (va_wsS RX11 56 yX11_in wsX11_in) := goodIn_app (goodIn_of _ (by decide +kernel)) ggX11_from_X11_in
set_option maxRecDepth 20000 in
theorem ggX11_from_X11_no : GoodIn wsX11_from wsX11_no := goodIn_r _ [16, 12, 17, 18, 19, 20, 21, 22, 23, 24, 25, 26, 27, 28, 29, 30, 31, 32, 33, 34] rfl (by decide +kernel)
set_option maxRecDepth 20000 in
theorem gX11_from_X11_no : GoodIn wsX11_from (wsV RX11 129 RX11 yX11_no wsX11_no) := goodIn_app (goodIn_of _ (by decide +kernel)) ggX11_from_X11_no
set_option maxRecDepth 20000 in
theorem ggX11_image_X11_bad : GoodIn wsX11_image wsX11_bad := goodIn_r _ [11, 12, 13, 14, 15, 16, 17, 18, 19, 20, 21, 22, 23, 24, 25, 26, 27, 28, 29, 30] rfl (by decide +kernel)
set_option maxRecDepth 20000 in
theorem gX11_image_X11_bad : GoodIn wsX11_image (wsV RX11 68 RX11 yX11_bad wsX11_bad) := goodIn_app (goodIn_of _ (by decide +kernel)) ggX11_image_X11_bad
set_option maxRecDepth 20000 in
theorem ggX11_image_X11_in : GoodIn wsX11_image wsX11_in := goodIn_r _ [7] rfl (by decide +kernel)
set_option maxRecDepth 20000 in
theorem gX11_image_X11_in : GoodIn wsX11_image (va_wsS RX11 56 yX11_in wsX11_in) := goodIn_app (goodIn_of _ (by decide +kernel)) ggX11_image_X11_in
set_option maxRecDepth 20000 in
theorem ggX11_mostAlike_X11_has : GoodIn wsX11_mostAlike wsX11_has := goodIn_r _ [5] rfl (by decide +kernel)
set_option maxRecDepth 20000 in
theorem gX11_mostAlike_X11_has : GoodIn wsX11_mostAlike (va_wsS RX11 161 yX11_has wsX11_has) := goodIn_app (goodIn_of _ (by decide +kernel)) ggX11_mostAlike_X11_has
set_option maxRecDepth 20000 in
theorem ggX11_one_X11_bad : GoodIn wsX11_one wsX11_bad := goodIn_r _ [17, 18, 30, 31, 32, 33, 34, 35, 36, 37, 38, 39, 40, 41, 42, 43, 44, 45, 46, 47] rfl (by decide +kernel)
set_option maxRecDepth 20000 in
theorem gX11_one_X11_bad : GoodIn wsX11_one (wsV RX11 68 RX11 yX11_bad wsX11_bad) := goodIn_app (goodIn_of _ (by decide +kernel)) ggX11_one_X11_bad
set_option maxRecDepth 20000 in
theorem ggX11_one_X11_full : GoodIn wsX11_one wsX11_full := goodIn_r _ [26, 18, 30, 31, 32, 33, 34, 35, 36, 37, 38, 39, 40, 41, 42, 43, 44, 45, 46, 47] rfl (by decide +kernel)
set_option maxRecDepth 20000 in
theorem gX11_one_X11_full : GoodIn wsX11_one (wsV RX11 79 RX11 yX11_full wsX11_full) := goodIn_app (goodIn_of _ (by decide +kernel)) ggX11_one_X11_full
set_option maxRecDepth 20000 in
theorem ggX11_one_X11_isKind : GoodIn wsX11_one wsX11_isKind := goodIn_r _ [5, 6, 7, 8, 4, 9] rfl (by decide +kernel)
set_option maxRecDepth 20000 in
theorem gX11_one_X11_isKind : GoodIn wsX11_one (va_wsS RX11 72 yX11_isKind wsX11_isKind) := goodIn_app (goodIn_of _ (by decide +kernel)) ggX11_one_X11_isKind
set_option maxRecDepth 20000 in
theorem ggX11_one_X11_isLegs : GoodIn wsX11_one wsX11_isLegs := goodIn_r _ [12, 13, 7, 8, 4, 9] rfl (by decide +kernel)
set_option maxRecDepth 20000 in
theorem gX11_one_X11_isLegs : GoodIn wsX11_one (va_wsS RX11 76 yX11_isLegs wsX11_isLegs) := goodIn_app (goodIn_of _ (by decide +kernel)) ggX11_one_X11_isLegs
set_option maxRecDepth 20000 in
theorem ggX11_one_X11_layOne : GoodIn wsX11_one wsX11_layOne := goodIn_r _ [29] rfl (by decide +kernel)
set_option maxRecDepth 20000 in
theorem gX11_one_X11_layOne : GoodIn wsX11_one (va_wsS RX11 82 yX11_layOne wsX11_layOne) := goodIn_app (goodIn_of _ (by decide +kernel)) ggX11_one_X11_layOne
set_option maxRecDepth 20000 in
theorem ggX11_one_X11_many : GoodIn wsX11_one wsX11_many := goodIn_r _ [22, 1, 30, 31, 32, 33, 34, 35, 36, 37, 38, 39, 40, 41, 42, 43, 44, 45, 46, 47] rfl (by decide +kernel)
set_option maxRecDepth 20000 in
theorem gX11_one_X11_many : GoodIn wsX11_one (wsV RX11 52 RX11 yX11_many wsX11_many) := goodIn_app (goodIn_of _ (by decide +kernel)) ggX11_one_X11_many
set_option maxRecDepth 20000 in
theorem ggX11_race_X11_bad : GoodIn wsX11_race wsX11_bad := goodIn_r _ [11, 12, 20, 21, 22, 23, 24, 25, 26, 27, 28, 29, 30, 31, 32, 33, 34, 35, 36, 37] rfl (by decide +kernel)
set_option maxRecDepth 20000 in
theorem gX11_race_X11_bad : GoodIn wsX11_race (wsV RX11 68 RX11 yX11_bad wsX11_bad) := goodIn_app (goodIn_of _ (by decide +kernel)) ggX11_race_X11_bad
set_option maxRecDepth 20000 in
theorem ggX11_race_X11_begin : GoodIn wsX11_race wsX11_begin := goodIn_r _ [19] rfl (by decide +kernel)
set_option maxRecDepth 20000 in
theorem gX11_race_X11_begin : GoodIn wsX11_race (va_wsS RX11 48 yX11_begin wsX11_begin) := goodIn_app (goodIn_of _ (by decide +kernel)) ggX11_race_X11_begin
set_option maxRecDepth 20000 in
theorem ggX11_race_X11_in : GoodIn wsX11_race wsX11_in := goodIn_r _ [7] rfl (by decide +kernel)
set_option maxRecDepth 20000 in
theorem gX11_race_X11_in : GoodIn wsX11_race (va_wsS RX11 56 yX11_in wsX11_in) := goodIn_app (goodIn_of _ (by decide +kernel)) ggX11_race_X11_in
set_option maxRecDepth 20000 in
theorem ggX11_race_X11_many : GoodIn wsX11_race wsX11_many := goodIn_r _ [16, 3, 20, 21, 22, 23, 24, 25, 26, 27, 28, 29, 30, 31, 32, 33, 34, 35, 36, 37] rfl (by decide +kernel)
set_option maxRecDepth 20000 in
theorem gX11_race_X11_many : GoodIn wsX11_race (wsV RX11 52 RX11 yX11_many wsX11_many) := goodIn_app (goodIn_of _ (by decide +kernel)) ggX11_race_X11_many
set_option maxRecDepth 20000 in
theorem ggX11_strong_X11_bad : GoodIn wsX11_strong wsX11_bad := goodIn_r _ [18, 19, 30, 31, 32, 33, 34, 35, 36, 37, 38, 39, 40, 41, 42, 43, 44, 45, 46, 47] rfl (by decide +kernel)
set_option maxRecDepth 20000 in
theorem gX11_strong_X11_bad : GoodIn wsX11_strong (wsV RX11 68 RX11 yX11_bad wsX11_bad) := goodIn_app (goodIn_of _ (by decide +kernel)) ggX11_strong_X11_bad
set_option maxRecDepth 20000 in
theorem ggX11_strong_X11_has : GoodIn wsX11_strong wsX11_has := goodIn_r _ [29] rfl (by decide +kernel)
set_option maxRecDepth 20000 in
theorem gX11_strong_X11_has : GoodIn wsX11_strong (va_wsS RX11 161 yX11_has wsX11_has) := goodIn_app (goodIn_of _ (by decide +kernel)) ggX11_strong_X11_has
set_option maxRecDepth 20000 in
theorem ggX11_strong_X11_in : GoodIn wsX11_strong wsX11_in := goodIn_r _ [14] rfl (by decide +kernel)
set_option maxRecDepth 20000 in
theorem gX11_strong_X11_in : GoodIn wsX11_strong (va_wsS RX11 56 yX11_in wsX11_in) := goodIn_app (goodIn_of _ (by decide +kernel)) ggX11_strong_X11_in
set_option maxRecDepth 20000 in
theorem ggX11_strong_X11_isOne : GoodIn wsX11_strong wsX11_isOne := goodIn_r _ [6, 7, 8, 9, 5, 10, 11, 12, 13, 14, 30, 31, 32, 33, 34, 35, 36, 37, 38, 39, 40, 41, 42, 43, 44, 45, 46, 47] rfl (by decide +kernel)
set_option maxRecDepth 20000 in
theorem gX11_strong_X11_isOne : GoodIn wsX11_strong (wsV RX11 123 RX11 yX11_isOne wsX11_isOne) := goodIn_app (goodIn_of _ (by decide +kernel)) ggX11_strong_X11_isOne
set_option maxRecDepth 20000 in
theorem ggX11_strong_X11_legsOf : GoodIn wsX11_strong wsX11_legsOf := goodIn_r _ [23, 11, 24, 25, 5, 26, 30, 31, 32, 33, 34, 35, 36, 37, 38, 39, 40, 41, 42, 43, 44, 45, 46, 47] rfl (by decide +kernel)
set_option maxRecDepth 20000 in
theorem gX11_strong_X11_legsOf : GoodIn wsX11_strong (wsV RX11 158 RX11 yX11_legsOf wsX11_legsOf) := goodIn_app (goodIn_of _ (by decide +kernel)) ggX11_strong_X11_legsOf
set_option maxRecDepth 20000 in
theorem ggX11_undo_X11_no : GoodIn wsX11_undo wsX11_no := goodIn_r _ [6, 7, 8, 9, 10, 11, 12, 13, 14, 15, 16, 17, 18, 19, 20, 21, 22, 23, 24, 25] rfl (by decide +kernel)
set_option maxRecDepth 20000 in
theorem gX11_undo_X11_no : GoodIn wsX11_undo (wsV RX11 129 RX11 yX11_no wsX11_no) := goodIn_app (goodIn_of _ (by decide +kernel)) ggX11_undo_X11_no
theorem dX11_forget_0 : decode cX11_forget 0 = .ok (.iload_n 1, 1) := by decide +kernel
theorem dX11_forget_1 : decode cX11_forget 1 = .ok (.i2l, 1) := by decide +kernel
theorem dX11_forget_12 : decode cX11_forget 12 = .ok (.aload_n 0, 1) := by decide +kernel
theorem dX11_forget_13 : decode cX11_forget 13 = .ok (.bipush (-2), 2) := by decide +kernel
theorem dX11_forget_15 : decode cX11_forget 15 = .ok (.invokevirtual 68, 3) := by decide +kernel
theorem dX11_forget_18 : decode cX11_forget 18 = .ok (.ireturn, 1) := by decide +kernel
theorem dX11_forget_19 : decode cX11_forget 19 = .ok (.aload_n 0, 1) := by decide +kernel
theorem dX11_forget_2 : decode cX11_forget 2 = .ok (.lconst 0, 1) := by decide +kernel
theorem dX11_forget_20 : decode cX11_forget 20 = .ok (.getfield 7, 3) := by decide +kernel
theorem dX11_forget_23 : decode cX11_forget 23 = .ok (.iconst 1, 1) := by decide +kernel
theorem dX11_forget_24 : decode cX11_forget 24 = .ok (.iload_n 1, 1) := by decide +kernel
theorem dX11_forget_25 : decode cX11_forget 25 = .ok (.iadd, 1) := by decide +kernel
theorem dX11_forget_26 : decode cX11_forget 26 = .ok (.iaload, 1) := by decide +kernel
theorem dX11_forget_27 : decode cX11_forget 27 = .ok (.istore_n 2, 1) := by decide +kernel
theorem dX11_forget_28 : decode cX11_forget 28 = .ok (.aload_n 0, 1) := by decide +kernel
theorem dX11_forget_29 : decode cX11_forget 29 = .ok (.getfield 7, 3) := by decide +kernel
theorem dX11_forget_3 : decode cX11_forget 3 = .ok (.ldc2_w 156, 3) := by decide +kernel
theorem dX11_forget_32 : decode cX11_forget 32 = .ok (.iconst 1, 1) := by decide +kernel
theorem dX11_forget_33 : decode cX11_forget 33 = .ok (.iload_n 1, 1) := by decide +kernel
theorem dX11_forget_34 : decode cX11_forget 34 = .ok (.iadd, 1) := by decide +kernel
theorem dX11_forget_35 : decode cX11_forget 35 = .ok (.iconst 0, 1) := by decide +kernel
theorem dX11_forget_36 : decode cX11_forget 36 = .ok (.iastore, 1) := by decide +kernel
theorem dX11_forget_37 : decode cX11_forget 37 = .ok (.iload_n 2, 1) := by decide +kernel
theorem dX11_forget_38 : decode cX11_forget 38 = .ok (.ireturn, 1) := by decide +kernel
theorem dX11_forget_6 : decode cX11_forget 6 = .ok (.invokestatic 56, 3) := by decide +kernel
theorem dX11_forget_9 : decode cX11_forget 9 = .ok (.ifCond .ne 10, 3) := by decide +kernel
theorem dX11_from_0 : decode cX11_from 0 = .ok (.iload_n 1, 1) := by decide +kernel
theorem dX11_from_1 : decode cX11_from 1 = .ok (.i2l, 1) := by decide +kernel
theorem dX11_from_10 : decode cX11_from 10 = .ok (.aload_n 0, 1) := by decide +kernel
theorem dX11_from_11 : decode cX11_from 11 = .ok (.bipush (-2), 2) := by decide +kernel
theorem dX11_from_13 : decode cX11_from 13 = .ok (.invokevirtual 68, 3) := by decide +kernel
theorem dX11_from_16 : decode cX11_from 16 = .ok (.ireturn, 1) := by decide +kernel
theorem dX11_from_17 : decode cX11_from 17 = .ok (.aload_n 0, 1) := by decide +kernel
theorem dX11_from_18 : decode cX11_from 18 = .ok (.getfield 16, 3) := by decide +kernel
theorem dX11_from_2 : decode cX11_from 2 = .ok (.lconst 0, 1) := by decide +kernel
theorem dX11_from_21 : decode cX11_from 21 = .ok (.iload_n 1, 1) := by decide +kernel
theorem dX11_from_22 : decode cX11_from 22 = .ok (.baload, 1) := by decide +kernel
theorem dX11_from_23 : decode cX11_from 23 = .ok (.ifCond .ne 8, 3) := by decide +kernel
theorem dX11_from_26 : decode cX11_from 26 = .ok (.aload_n 0, 1) := by decide +kernel
theorem dX11_from_27 : decode cX11_from 27 = .ok (.invokevirtual 129, 3) := by decide +kernel
theorem dX11_from_3 : decode cX11_from 3 = .ok (.lconst 1, 1) := by decide +kernel
theorem dX11_from_30 : decode cX11_from 30 = .ok (.ireturn, 1) := by decide +kernel
theorem dX11_from_31 : decode cX11_from 31 = .ok (.iconst 0, 1) := by decide +kernel
theorem dX11_from_32 : decode cX11_from 32 = .ok (.istore_n 2, 1) := by decide +kernel
theorem dX11_from_33 : decode cX11_from 33 = .ok (.iload_n 2, 1) := by decide +kernel
theorem dX11_from_34 : decode cX11_from 34 = .ok (.sipush 371, 3) := by decide +kernel
theorem dX11_from_37 : decode cX11_from 37 = .ok (.if_icmp .ge 27, 3) := by decide +kernel
theorem dX11_from_4 : decode cX11_from 4 = .ok (.invokestatic 56, 3) := by decide +kernel
theorem dX11_from_40 : decode cX11_from 40 = .ok (.aload_n 0, 1) := by decide +kernel
theorem dX11_from_41 : decode cX11_from 41 = .ok (.getfield 7, 3) := by decide +kernel
theorem dX11_from_44 : decode cX11_from 44 = .ok (.iload_n 2, 1) := by decide +kernel
theorem dX11_from_45 : decode cX11_from 45 = .ok (.aload_n 0, 1) := by decide +kernel
theorem dX11_from_46 : decode cX11_from 46 = .ok (.getfield 13, 3) := by decide +kernel
theorem dX11_from_49 : decode cX11_from 49 = .ok (.sipush 371, 3) := by decide +kernel
theorem dX11_from_52 : decode cX11_from 52 = .ok (.iload_n 1, 1) := by decide +kernel
theorem dX11_from_53 : decode cX11_from 53 = .ok (.imul, 1) := by decide +kernel
theorem dX11_from_54 : decode cX11_from 54 = .ok (.iload_n 2, 1) := by decide +kernel
theorem dX11_from_55 : decode cX11_from 55 = .ok (.iadd, 1) := by decide +kernel
theorem dX11_from_56 : decode cX11_from 56 = .ok (.iaload, 1) := by decide +kernel
theorem dX11_from_57 : decode cX11_from 57 = .ok (.iastore, 1) := by decide +kernel
theorem dX11_from_58 : decode cX11_from 58 = .ok (.iinc 2 1, 3) := by decide +kernel
theorem dX11_from_61 : decode cX11_from 61 = .ok (.goto (-28), 3) := by decide +kernel
theorem dX11_from_64 : decode cX11_from 64 = .ok (.iconst 1, 1) := by decide +kernel
theorem dX11_from_65 : decode cX11_from 65 = .ok (.ireturn, 1) := by decide +kernel
theorem dX11_from_7 : decode cX11_from 7 = .ok (.ifCond .ne 10, 3) := by decide +kernel
theorem dX11_image_0 : decode cX11_image 0 = .ok (.iload_n 1, 1) := by decide +kernel
theorem dX11_image_1 : decode cX11_image 1 = .ok (.i2l, 1) := by decide +kernel
theorem dX11_image_10 : decode cX11_image 10 = .ok (.aload_n 0, 1) := by decide +kernel
theorem dX11_image_11 : decode cX11_image 11 = .ok (.bipush (-2), 2) := by decide +kernel
theorem dX11_image_13 : decode cX11_image 13 = .ok (.invokevirtual 68, 3) := by decide +kernel
theorem dX11_image_16 : decode cX11_image 16 = .ok (.ireturn, 1) := by decide +kernel
theorem dX11_image_17 : decode cX11_image 17 = .ok (.iconst 0, 1) := by decide +kernel
theorem dX11_image_18 : decode cX11_image 18 = .ok (.istore_n 2, 1) := by decide +kernel
theorem dX11_image_19 : decode cX11_image 19 = .ok (.iload_n 2, 1) := by decide +kernel
theorem dX11_image_2 : decode cX11_image 2 = .ok (.lconst 0, 1) := by decide +kernel
theorem dX11_image_20 : decode cX11_image 20 = .ok (.sipush 371, 3) := by decide +kernel
theorem dX11_image_23 : decode cX11_image 23 = .ok (.if_icmp .ge 27, 3) := by decide +kernel
theorem dX11_image_26 : decode cX11_image 26 = .ok (.aload_n 0, 1) := by decide +kernel
theorem dX11_image_27 : decode cX11_image 27 = .ok (.getfield 13, 3) := by decide +kernel
theorem dX11_image_3 : decode cX11_image 3 = .ok (.lconst 1, 1) := by decide +kernel
theorem dX11_image_30 : decode cX11_image 30 = .ok (.sipush 371, 3) := by decide +kernel
theorem dX11_image_33 : decode cX11_image 33 = .ok (.iload_n 1, 1) := by decide +kernel
theorem dX11_image_34 : decode cX11_image 34 = .ok (.imul, 1) := by decide +kernel
theorem dX11_image_35 : decode cX11_image 35 = .ok (.iload_n 2, 1) := by decide +kernel
theorem dX11_image_36 : decode cX11_image 36 = .ok (.iadd, 1) := by decide +kernel
theorem dX11_image_37 : decode cX11_image 37 = .ok (.aload_n 0, 1) := by decide +kernel
theorem dX11_image_38 : decode cX11_image 38 = .ok (.getfield 7, 3) := by decide +kernel
theorem dX11_image_4 : decode cX11_image 4 = .ok (.invokestatic 56, 3) := by decide +kernel
theorem dX11_image_41 : decode cX11_image 41 = .ok (.iload_n 2, 1) := by decide +kernel
theorem dX11_image_42 : decode cX11_image 42 = .ok (.iaload, 1) := by decide +kernel
theorem dX11_image_43 : decode cX11_image 43 = .ok (.iastore, 1) := by decide +kernel
theorem dX11_image_44 : decode cX11_image 44 = .ok (.iinc 2 1, 3) := by decide +kernel
theorem dX11_image_47 : decode cX11_image 47 = .ok (.goto (-28), 3) := by decide +kernel
theorem dX11_image_50 : decode cX11_image 50 = .ok (.aload_n 0, 1) := by decide +kernel
theorem dX11_image_51 : decode cX11_image 51 = .ok (.getfield 16, 3) := by decide +kernel
theorem dX11_image_54 : decode cX11_image 54 = .ok (.iload_n 1, 1) := by decide +kernel
theorem dX11_image_55 : decode cX11_image 55 = .ok (.iconst 1, 1) := by decide +kernel
theorem dX11_image_56 : decode cX11_image 56 = .ok (.bastore, 1) := by decide +kernel
theorem dX11_image_57 : decode cX11_image 57 = .ok (.iconst 1, 1) := by decide +kernel
theorem dX11_image_58 : decode cX11_image 58 = .ok (.ireturn, 1) := by decide +kernel
theorem dX11_image_7 : decode cX11_image 7 = .ok (.ifCond .ne 10, 3) := by decide +kernel
theorem dX11_mostAlike_0 : decode cX11_mostAlike 0 = .ok (.iconst 0, 1) := by decide +kernel
theorem dX11_mostAlike_1 : decode cX11_mostAlike 1 = .ok (.istore_n 2, 1) := by decide +kernel
theorem dX11_mostAlike_10 : decode cX11_mostAlike 10 = .ok (.iconst 0, 1) := by decide +kernel
theorem dX11_mostAlike_11 : decode cX11_mostAlike 11 = .ok (.istore 4, 2) := by decide +kernel
theorem dX11_mostAlike_13 : decode cX11_mostAlike 13 = .ok (.iconst 0, 1) := by decide +kernel
theorem dX11_mostAlike_14 : decode cX11_mostAlike 14 = .ok (.istore 5, 2) := by decide +kernel
theorem dX11_mostAlike_16 : decode cX11_mostAlike 16 = .ok (.iload 5, 2) := by decide +kernel
theorem dX11_mostAlike_18 : decode cX11_mostAlike 18 = .ok (.bipush 10, 2) := by decide +kernel
theorem dX11_mostAlike_2 : decode cX11_mostAlike 2 = .ok (.iconst 0, 1) := by decide +kernel
theorem dX11_mostAlike_20 : decode cX11_mostAlike 20 = .ok (.if_icmp .ge 52, 3) := by decide +kernel
theorem dX11_mostAlike_23 : decode cX11_mostAlike 23 = .ok (.iload_n 1, 1) := by decide +kernel
theorem dX11_mostAlike_24 : decode cX11_mostAlike 24 = .ok (.iload_n 3, 1) := by decide +kernel
theorem dX11_mostAlike_25 : decode cX11_mostAlike 25 = .ok (.invokestatic 161, 3) := by decide +kernel
theorem dX11_mostAlike_28 : decode cX11_mostAlike 28 = .ok (.ifCond .eq 44, 3) := by decide +kernel
theorem dX11_mostAlike_3 : decode cX11_mostAlike 3 = .ok (.istore_n 3, 1) := by decide +kernel
theorem dX11_mostAlike_31 : decode cX11_mostAlike 31 = .ok (.iload 4, 2) := by decide +kernel
theorem dX11_mostAlike_33 : decode cX11_mostAlike 33 = .ok (.iload_n 1, 1) := by decide +kernel
theorem dX11_mostAlike_34 : decode cX11_mostAlike 34 = .ok (.iload 5, 2) := by decide +kernel
theorem dX11_mostAlike_36 : decode cX11_mostAlike 36 = .ok (.invokestatic 161, 3) := by decide +kernel
theorem dX11_mostAlike_39 : decode cX11_mostAlike 39 = .ok (.ifCond .eq 23, 3) := by decide +kernel
theorem dX11_mostAlike_4 : decode cX11_mostAlike 4 = .ok (.iload_n 3, 1) := by decide +kernel
theorem dX11_mostAlike_42 : decode cX11_mostAlike 42 = .ok (.aload_n 0, 1) := by decide +kernel
theorem dX11_mostAlike_43 : decode cX11_mostAlike 43 = .ok (.getfield 33, 3) := by decide +kernel
theorem dX11_mostAlike_46 : decode cX11_mostAlike 46 = .ok (.iload_n 3, 1) := by decide +kernel
theorem dX11_mostAlike_47 : decode cX11_mostAlike 47 = .ok (.iaload, 1) := by decide +kernel
theorem dX11_mostAlike_48 : decode cX11_mostAlike 48 = .ok (.aload_n 0, 1) := by decide +kernel
theorem dX11_mostAlike_49 : decode cX11_mostAlike 49 = .ok (.getfield 33, 3) := by decide +kernel
theorem dX11_mostAlike_5 : decode cX11_mostAlike 5 = .ok (.bipush 10, 2) := by decide +kernel
theorem dX11_mostAlike_52 : decode cX11_mostAlike 52 = .ok (.iload 5, 2) := by decide +kernel
theorem dX11_mostAlike_54 : decode cX11_mostAlike 54 = .ok (.iaload, 1) := by decide +kernel
theorem dX11_mostAlike_55 : decode cX11_mostAlike 55 = .ok (.if_icmp .ne 7, 3) := by decide +kernel
theorem dX11_mostAlike_58 : decode cX11_mostAlike 58 = .ok (.iconst 1, 1) := by decide +kernel
theorem dX11_mostAlike_59 : decode cX11_mostAlike 59 = .ok (.goto 4, 3) := by decide +kernel
theorem dX11_mostAlike_62 : decode cX11_mostAlike 62 = .ok (.iconst 0, 1) := by decide +kernel
theorem dX11_mostAlike_63 : decode cX11_mostAlike 63 = .ok (.iadd, 1) := by decide +kernel
theorem dX11_mostAlike_64 : decode cX11_mostAlike 64 = .ok (.istore 4, 2) := by decide +kernel
theorem dX11_mostAlike_66 : decode cX11_mostAlike 66 = .ok (.iinc 5 1, 3) := by decide +kernel
theorem dX11_mostAlike_69 : decode cX11_mostAlike 69 = .ok (.goto (-53), 3) := by decide +kernel
theorem dX11_mostAlike_7 : decode cX11_mostAlike 7 = .ok (.if_icmp .ge 84, 3) := by decide +kernel
theorem dX11_mostAlike_72 : decode cX11_mostAlike 72 = .ok (.iload 4, 2) := by decide +kernel
theorem dX11_mostAlike_74 : decode cX11_mostAlike 74 = .ok (.iload_n 2, 1) := by decide +kernel
theorem dX11_mostAlike_75 : decode cX11_mostAlike 75 = .ok (.if_icmp .le 8, 3) := by decide +kernel
theorem dX11_mostAlike_78 : decode cX11_mostAlike 78 = .ok (.iload 4, 2) := by decide +kernel
theorem dX11_mostAlike_80 : decode cX11_mostAlike 80 = .ok (.goto 4, 3) := by decide +kernel
theorem dX11_mostAlike_83 : decode cX11_mostAlike 83 = .ok (.iload_n 2, 1) := by decide +kernel
theorem dX11_mostAlike_84 : decode cX11_mostAlike 84 = .ok (.istore_n 2, 1) := by decide +kernel
theorem dX11_mostAlike_85 : decode cX11_mostAlike 85 = .ok (.iinc 3 1, 3) := by decide +kernel
theorem dX11_mostAlike_88 : decode cX11_mostAlike 88 = .ok (.goto (-84), 3) := by decide +kernel
theorem dX11_mostAlike_91 : decode cX11_mostAlike 91 = .ok (.iload_n 2, 1) := by decide +kernel
theorem dX11_mostAlike_92 : decode cX11_mostAlike 92 = .ok (.ireturn, 1) := by decide +kernel
theorem dX11_one_0 : decode cX11_one 0 = .ok (.iload_n 1, 1) := by decide +kernel
theorem dX11_one_1 : decode cX11_one 1 = .ok (.invokestatic 72, 3) := by decide +kernel
theorem dX11_one_11 : decode cX11_one 11 = .ok (.ifCond .eq 10, 3) := by decide +kernel
theorem dX11_one_14 : decode cX11_one 14 = .ok (.iload_n 3, 1) := by decide +kernel
theorem dX11_one_15 : decode cX11_one 15 = .ok (.invokestatic 72, 3) := by decide +kernel
theorem dX11_one_18 : decode cX11_one 18 = .ok (.ifCond .ne 10, 3) := by decide +kernel
theorem dX11_one_21 : decode cX11_one 21 = .ok (.aload_n 0, 1) := by decide +kernel
theorem dX11_one_22 : decode cX11_one 22 = .ok (.bipush (-2), 2) := by decide +kernel
theorem dX11_one_24 : decode cX11_one 24 = .ok (.invokevirtual 68, 3) := by decide +kernel
theorem dX11_one_27 : decode cX11_one 27 = .ok (.ireturn, 1) := by decide +kernel
theorem dX11_one_28 : decode cX11_one 28 = .ok (.aload_n 0, 1) := by decide +kernel
theorem dX11_one_29 : decode cX11_one 29 = .ok (.invokevirtual 52, 3) := by decide +kernel
theorem dX11_one_32 : decode cX11_one 32 = .ok (.bipush 6, 2) := by decide +kernel
theorem dX11_one_34 : decode cX11_one 34 = .ok (.if_icmp .ne 8, 3) := by decide +kernel
theorem dX11_one_37 : decode cX11_one 37 = .ok (.aload_n 0, 1) := by decide +kernel
theorem dX11_one_38 : decode cX11_one 38 = .ok (.invokevirtual 79, 3) := by decide +kernel
theorem dX11_one_4 : decode cX11_one 4 = .ok (.ifCond .eq 17, 3) := by decide +kernel
theorem dX11_one_41 : decode cX11_one 41 = .ok (.ireturn, 1) := by decide +kernel
theorem dX11_one_42 : decode cX11_one 42 = .ok (.aload_n 0, 1) := by decide +kernel
theorem dX11_one_43 : decode cX11_one 43 = .ok (.getfield 7, 3) := by decide +kernel
theorem dX11_one_46 : decode cX11_one 46 = .ok (.iload_n 1, 1) := by decide +kernel
theorem dX11_one_47 : decode cX11_one 47 = .ok (.iload_n 2, 1) := by decide +kernel
theorem dX11_one_48 : decode cX11_one 48 = .ok (.iload_n 3, 1) := by decide +kernel
theorem dX11_one_49 : decode cX11_one 49 = .ok (.invokestatic 82, 3) := by decide +kernel
theorem dX11_one_52 : decode cX11_one 52 = .ok (.aload_n 0, 1) := by decide +kernel
theorem dX11_one_53 : decode cX11_one 53 = .ok (.getfield 7, 3) := by decide +kernel
theorem dX11_one_56 : decode cX11_one 56 = .ok (.iconst 4, 1) := by decide +kernel
theorem dX11_one_57 : decode cX11_one 57 = .ok (.iconst 0, 1) := by decide +kernel
theorem dX11_one_58 : decode cX11_one 58 = .ok (.iastore, 1) := by decide +kernel
theorem dX11_one_59 : decode cX11_one 59 = .ok (.aload_n 0, 1) := by decide +kernel
theorem dX11_one_60 : decode cX11_one 60 = .ok (.invokevirtual 52, 3) := by decide +kernel
theorem dX11_one_63 : decode cX11_one 63 = .ok (.iconst 1, 1) := by decide +kernel
theorem dX11_one_64 : decode cX11_one 64 = .ok (.isub, 1) := by decide +kernel
theorem dX11_one_65 : decode cX11_one 65 = .ok (.ireturn, 1) := by decide +kernel
theorem dX11_one_7 : decode cX11_one 7 = .ok (.iload_n 2, 1) := by decide +kernel
theorem dX11_one_8 : decode cX11_one 8 = .ok (.invokestatic 76, 3) := by decide +kernel
theorem dX11_race_0 : decode cX11_race 0 = .ok (.iload_n 1, 1) := by decide +kernel
theorem dX11_race_1 : decode cX11_race 1 = .ok (.i2l, 1) := by decide +kernel
theorem dX11_race_11 : decode cX11_race 11 = .ok (.ifCond .ne 10, 3) := by decide +kernel
theorem dX11_race_14 : decode cX11_race 14 = .ok (.aload_n 0, 1) := by decide +kernel
theorem dX11_race_15 : decode cX11_race 15 = .ok (.bipush (-2), 2) := by decide +kernel
theorem dX11_race_17 : decode cX11_race 17 = .ok (.invokevirtual 68, 3) := by decide +kernel
theorem dX11_race_2 : decode cX11_race 2 = .ok (.ldc2_w 64, 3) := by decide +kernel
theorem dX11_race_20 : decode cX11_race 20 = .ok (.ireturn, 1) := by decide +kernel
theorem dX11_race_21 : decode cX11_race 21 = .ok (.aload_n 0, 1) := by decide +kernel
theorem dX11_race_22 : decode cX11_race 22 = .ok (.invokevirtual 52, 3) := by decide +kernel
theorem dX11_race_25 : decode cX11_race 25 = .ok (.istore_n 2, 1) := by decide +kernel
theorem dX11_race_26 : decode cX11_race 26 = .ok (.aload_n 0, 1) := by decide +kernel
theorem dX11_race_27 : decode cX11_race 27 = .ok (.getfield 7, 3) := by decide +kernel
theorem dX11_race_30 : decode cX11_race 30 = .ok (.iload_n 1, 1) := by decide +kernel
theorem dX11_race_31 : decode cX11_race 31 = .ok (.invokestatic 48, 3) := by decide +kernel
theorem dX11_race_34 : decode cX11_race 34 = .ok (.iload_n 2, 1) := by decide +kernel
theorem dX11_race_35 : decode cX11_race 35 = .ok (.ireturn, 1) := by decide +kernel
theorem dX11_race_5 : decode cX11_race 5 = .ok (.ldc2_w 66, 3) := by decide +kernel
theorem dX11_race_8 : decode cX11_race 8 = .ok (.invokestatic 56, 3) := by decide +kernel
theorem dX11_strong_0 : decode cX11_strong 0 = .ok (.aload_n 0, 1) := by decide +kernel
theorem dX11_strong_1 : decode cX11_strong 1 = .ok (.iload_n 1, 1) := by decide +kernel
theorem dX11_strong_10 : decode cX11_strong 10 = .ok (.lconst 0, 1) := by decide +kernel
theorem dX11_strong_102 : decode cX11_strong 102 = .ok (.iload 5, 2) := by decide +kernel
theorem dX11_strong_104 : decode cX11_strong 104 = .ok (.goto 5, 3) := by decide +kernel
theorem dX11_strong_107 : decode cX11_strong 107 = .ok (.iload 6, 2) := by decide +kernel
theorem dX11_strong_109 : decode cX11_strong 109 = .ok (.ireturn, 1) := by decide +kernel
theorem dX11_strong_11 : decode cX11_strong 11 = .ok (.ldc2_w 156, 3) := by decide +kernel
theorem dX11_strong_14 : decode cX11_strong 14 = .ok (.invokestatic 56, 3) := by decide +kernel
theorem dX11_strong_17 : decode cX11_strong 17 = .ok (.ifCond .ne 10, 3) := by decide +kernel
theorem dX11_strong_2 : decode cX11_strong 2 = .ok (.invokevirtual 123, 3) := by decide +kernel
theorem dX11_strong_20 : decode cX11_strong 20 = .ok (.aload_n 0, 1) := by decide +kernel
theorem dX11_strong_21 : decode cX11_strong 21 = .ok (.bipush (-2), 2) := by decide +kernel
theorem dX11_strong_23 : decode cX11_strong 23 = .ok (.invokevirtual 68, 3) := by decide +kernel
theorem dX11_strong_26 : decode cX11_strong 26 = .ok (.ireturn, 1) := by decide +kernel
theorem dX11_strong_27 : decode cX11_strong 27 = .ok (.aload_n 0, 1) := by decide +kernel
theorem dX11_strong_28 : decode cX11_strong 28 = .ok (.iload_n 1, 1) := by decide +kernel
theorem dX11_strong_29 : decode cX11_strong 29 = .ok (.invokevirtual 158, 3) := by decide +kernel
theorem dX11_strong_32 : decode cX11_strong 32 = .ok (.istore_n 3, 1) := by decide +kernel
theorem dX11_strong_33 : decode cX11_strong 33 = .ok (.iconst 0, 1) := by decide +kernel
theorem dX11_strong_34 : decode cX11_strong 34 = .ok (.istore 4, 2) := by decide +kernel
theorem dX11_strong_36 : decode cX11_strong 36 = .ok (.iconst (-1), 1) := by decide +kernel
theorem dX11_strong_37 : decode cX11_strong 37 = .ok (.istore 5, 2) := by decide +kernel
theorem dX11_strong_39 : decode cX11_strong 39 = .ok (.iconst (-1), 1) := by decide +kernel
theorem dX11_strong_40 : decode cX11_strong 40 = .ok (.istore 6, 2) := by decide +kernel
theorem dX11_strong_42 : decode cX11_strong 42 = .ok (.iconst 1, 1) := by decide +kernel
theorem dX11_strong_43 : decode cX11_strong 43 = .ok (.istore 7, 2) := by decide +kernel
theorem dX11_strong_45 : decode cX11_strong 45 = .ok (.iload 7, 2) := by decide +kernel
theorem dX11_strong_47 : decode cX11_strong 47 = .ok (.bipush 10, 2) := by decide +kernel
theorem dX11_strong_49 : decode cX11_strong 49 = .ok (.if_icmp .ge 39, 3) := by decide +kernel
theorem dX11_strong_5 : decode cX11_strong 5 = .ok (.ifCond .eq 15, 3) := by decide +kernel
theorem dX11_strong_52 : decode cX11_strong 52 = .ok (.iload_n 3, 1) := by decide +kernel
theorem dX11_strong_53 : decode cX11_strong 53 = .ok (.iload 7, 2) := by decide +kernel
theorem dX11_strong_55 : decode cX11_strong 55 = .ok (.invokestatic 161, 3) := by decide +kernel
theorem dX11_strong_58 : decode cX11_strong 58 = .ok (.ifCond .eq 24, 3) := by decide +kernel
theorem dX11_strong_61 : decode cX11_strong 61 = .ok (.iload 4, 2) := by decide +kernel
theorem dX11_strong_63 : decode cX11_strong 63 = .ok (.ifCond .ne 8, 3) := by decide +kernel
theorem dX11_strong_66 : decode cX11_strong 66 = .ok (.iload 7, 2) := by decide +kernel
theorem dX11_strong_68 : decode cX11_strong 68 = .ok (.goto 5, 3) := by decide +kernel
theorem dX11_strong_71 : decode cX11_strong 71 = .ok (.iload 5, 2) := by decide +kernel
theorem dX11_strong_73 : decode cX11_strong 73 = .ok (.istore 5, 2) := by decide +kernel
theorem dX11_strong_75 : decode cX11_strong 75 = .ok (.iload 7, 2) := by decide +kernel
theorem dX11_strong_77 : decode cX11_strong 77 = .ok (.istore 6, 2) := by decide +kernel
theorem dX11_strong_79 : decode cX11_strong 79 = .ok (.iinc 4 1, 3) := by decide +kernel
theorem dX11_strong_8 : decode cX11_strong 8 = .ok (.iload_n 2, 1) := by decide +kernel
theorem dX11_strong_82 : decode cX11_strong 82 = .ok (.iinc 7 1, 3) := by decide +kernel
theorem dX11_strong_85 : decode cX11_strong 85 = .ok (.goto (-40), 3) := by decide +kernel
theorem dX11_strong_88 : decode cX11_strong 88 = .ok (.iload_n 2, 1) := by decide +kernel
theorem dX11_strong_89 : decode cX11_strong 89 = .ok (.ifCond .ne 8, 3) := by decide +kernel
theorem dX11_strong_9 : decode cX11_strong 9 = .ok (.i2l, 1) := by decide +kernel
theorem dX11_strong_92 : decode cX11_strong 92 = .ok (.iload 4, 2) := by decide +kernel
theorem dX11_strong_94 : decode cX11_strong 94 = .ok (.goto 15, 3) := by decide +kernel
theorem dX11_strong_97 : decode cX11_strong 97 = .ok (.iload_n 2, 1) := by decide +kernel
theorem dX11_strong_98 : decode cX11_strong 98 = .ok (.iconst 1, 1) := by decide +kernel
theorem dX11_strong_99 : decode cX11_strong 99 = .ok (.if_icmp .ne 8, 3) := by decide +kernel
theorem dX11_undo_0 : decode cX11_undo 0 = .ok (.aload_n 0, 1) := by decide +kernel
theorem dX11_undo_1 : decode cX11_undo 1 = .ok (.getfield 7, 3) := by decide +kernel
theorem dX11_undo_10 : decode cX11_undo 10 = .ok (.invokevirtual 129, 3) := by decide +kernel
theorem dX11_undo_13 : decode cX11_undo 13 = .ok (.ireturn, 1) := by decide +kernel
theorem dX11_undo_14 : decode cX11_undo 14 = .ok (.aload_n 0, 1) := by decide +kernel
theorem dX11_undo_15 : decode cX11_undo 15 = .ok (.getfield 7, 3) := by decide +kernel
theorem dX11_undo_18 : decode cX11_undo 18 = .ok (.iconst 4, 1) := by decide +kernel
theorem dX11_undo_19 : decode cX11_undo 19 = .ok (.dup2, 1) := by decide +kernel
theorem dX11_undo_20 : decode cX11_undo 20 = .ok (.iaload, 1) := by decide +kernel
theorem dX11_undo_21 : decode cX11_undo 21 = .ok (.iconst 1, 1) := by decide +kernel
theorem dX11_undo_22 : decode cX11_undo 22 = .ok (.isub, 1) := by decide +kernel
theorem dX11_undo_23 : decode cX11_undo 23 = .ok (.iastore, 1) := by decide +kernel
theorem dX11_undo_24 : decode cX11_undo 24 = .ok (.iconst 0, 1) := by decide +kernel
theorem dX11_undo_25 : decode cX11_undo 25 = .ok (.istore_n 1, 1) := by decide +kernel
theorem dX11_undo_26 : decode cX11_undo 26 = .ok (.iload_n 1, 1) := by decide +kernel
theorem dX11_undo_27 : decode cX11_undo 27 = .ok (.bipush 31, 2) := by decide +kernel
theorem dX11_undo_29 : decode cX11_undo 29 = .ok (.if_icmp .ge 36, 3) := by decide +kernel
theorem dX11_undo_32 : decode cX11_undo 32 = .ok (.aload_n 0, 1) := by decide +kernel
theorem dX11_undo_33 : decode cX11_undo 33 = .ok (.getfield 7, 3) := by decide +kernel
theorem dX11_undo_36 : decode cX11_undo 36 = .ok (.iconst 5, 1) := by decide +kernel
theorem dX11_undo_37 : decode cX11_undo 37 = .ok (.iload_n 1, 1) := by decide +kernel
theorem dX11_undo_38 : decode cX11_undo 38 = .ok (.iadd, 1) := by decide +kernel
theorem dX11_undo_39 : decode cX11_undo 39 = .ok (.aload_n 0, 1) := by decide +kernel
theorem dX11_undo_4 : decode cX11_undo 4 = .ok (.iconst 4, 1) := by decide +kernel
theorem dX11_undo_40 : decode cX11_undo 40 = .ok (.getfield 7, 3) := by decide +kernel
theorem dX11_undo_43 : decode cX11_undo 43 = .ok (.bipush 123, 2) := by decide +kernel
theorem dX11_undo_45 : decode cX11_undo 45 = .ok (.bipush 31, 2) := by decide +kernel
theorem dX11_undo_47 : decode cX11_undo 47 = .ok (.aload_n 0, 1) := by decide +kernel
theorem dX11_undo_48 : decode cX11_undo 48 = .ok (.getfield 7, 3) := by decide +kernel
theorem dX11_undo_5 : decode cX11_undo 5 = .ok (.iaload, 1) := by decide +kernel
theorem dX11_undo_51 : decode cX11_undo 51 = .ok (.iconst 4, 1) := by decide +kernel
theorem dX11_undo_52 : decode cX11_undo 52 = .ok (.iaload, 1) := by decide +kernel
theorem dX11_undo_53 : decode cX11_undo 53 = .ok (.imul, 1) := by decide +kernel
theorem dX11_undo_54 : decode cX11_undo 54 = .ok (.iadd, 1) := by decide +kernel
theorem dX11_undo_55 : decode cX11_undo 55 = .ok (.iload_n 1, 1) := by decide +kernel
theorem dX11_undo_56 : decode cX11_undo 56 = .ok (.iadd, 1) := by decide +kernel
theorem dX11_undo_57 : decode cX11_undo 57 = .ok (.iaload, 1) := by decide +kernel
theorem dX11_undo_58 : decode cX11_undo 58 = .ok (.iastore, 1) := by decide +kernel
theorem dX11_undo_59 : decode cX11_undo 59 = .ok (.iinc 1 1, 3) := by decide +kernel
theorem dX11_undo_6 : decode cX11_undo 6 = .ok (.ifCond .ne 8, 3) := by decide +kernel
theorem dX11_undo_62 : decode cX11_undo 62 = .ok (.goto (-36), 3) := by decide +kernel
theorem dX11_undo_65 : decode cX11_undo 65 = .ok (.aload_n 0, 1) := by decide +kernel
theorem dX11_undo_66 : decode cX11_undo 66 = .ok (.getfield 7, 3) := by decide +kernel
theorem dX11_undo_69 : decode cX11_undo 69 = .ok (.bipush 35, 2) := by decide +kernel
theorem dX11_undo_71 : decode cX11_undo 71 = .ok (.iaload, 1) := by decide +kernel
theorem dX11_undo_72 : decode cX11_undo 72 = .ok (.ireturn, 1) := by decide +kernel
theorem dX11_undo_9 : decode cX11_undo 9 = .ok (.aload_n 0, 1) := by decide +kernel
set_option maxHeartbeats 4000000 in
set_option maxRecDepth 100000 in
theorem w_undo (l : Launch) (X : EX) (m0 : Nat) (ma : Nat → Nat) (la : Int64) (lb : Int64) (n : Nat) (t : Nat → Nat) (v : Nat → Int32) (fa : Nat → Int32) (c0 : Nat) (c1 : Nat) (c2 : Nat) (c3 : Nat) (c4 : Nat) (fr : Nat → Int32) (hI_n : n ≤ 150) (hI_t : InT t) (hI_fa : InA fa c0 c1 c2 c3 c4) (sz : Nat) : Met l yX11_undo wsX11_undo ({ frames := 1, cells := 0, slots := 0, locals := 20 } : Room) (pE X [.ref m0] (@HAppend.hAppend va_W va_W va_W _ (mW m0 ma la lb n t v) (@HAppend.hAppend va_W va_W va_W _ ([((ma 0), .inl (X.2.1, 371, .inl fa))]) ([((ma 3), .inl (X.2.1, 3, .inl fr))]))) sz) (qI (fun (r : Int32) (u : (Nat → Int32) × (Nat) × (Nat → Int32)) => InA u.1 c0 c1 c2 c3 u.2.1 ∧ (kpM fa u.1)) X (fun (u : (Nat → Int32) × (Nat) × (Nat → Int32)) => @HAppend.hAppend va_W va_W va_W _ (mW m0 ma la lb n t v) (@HAppend.hAppend va_W va_W va_W _ ([((ma 0), .inl (X.2.1, 371, .inl u.1))]) ([((ma 3), .inl (X.2.1, 3, .inl u.2.2))]))) (@HAppend.hAppend va_W va_W va_W _ (mW m0 ma la lb n t v) (@HAppend.hAppend va_W va_W va_W _ ([((ma 0), .inl (X.2.1, 371, .inl fa))]) ([((ma 3), .inl (X.2.1, 3, .inl fr))]))) sz) 0 0 (va_A (@HAppend.hAppend va_W va_W va_W _ (mW m0 ma la lb n t v) (@HAppend.hAppend va_W va_W va_W _ ([((ma 0), .inl (X.2.1, 371, .inl fa))]) ([((ma 3), .inl (X.2.1, 3, .inl fr))]))) sz) := by
  refine mk_met (B := (va_A (@HAppend.hAppend va_W va_W va_W _ (mW m0 ma la lb n t v) (@HAppend.hAppend va_W va_W va_W _ ([((ma 0), .inl (X.2.1, 371, .inl fa))]) ([((ma 3), .inl (X.2.1, 3, .inl fr))]))) sz)) (A := (va_A (@HAppend.hAppend va_W va_W va_W _ (mW m0 ma la lb n t v) (@HAppend.hAppend va_W va_W va_W _ ([((ma 0), .inl (X.2.1, 371, .inl fa))]) ([((ma 3), .inl (X.2.1, 3, .inl fr))]))) sz)) (cc := cX11_undo) (maxL := 2) (ret := (some .int)) (by decide) rfl (Nat.le_of_ble_eq_true rfl) k_w k_a (fun p e s m below meth c S zr zlk znm zsz G ls hl => ?_)
  have S : CallFix p m c cX11_undo 2 s _ wsX11_undo RX11 := S
  have zx := S.1
  have zb := S.2.1
  have hl : lv_has ls 2 [(0, .ref m0)] := hl
  have hO_t := hI_t
  obtain ⟨ht0_t, ht1_t⟩ := hO_t
  have hO_fa := hI_fa.2
  obtain ⟨hm0_fa, hm1_fa, hm2_fa, hm3_fa, hm4_fa⟩ := hO_fa
  refine lv_aload_n zx zb dX11_undo_0 rfl (lv_at hl 0 rfl) ?_
  refine r_get (C := RX11) (T := TX11) (N := 18) (ci := 9) (v := .ref (ma 0)) S in_X11_undo_X11 G 0 rfl rfl 0 (by decide) lk_X11_undo_7 rfl dX11_undo_1 ?_
  refine lv_iconst (v := 4) zx zb dX11_undo_4 (by decide) ?_
  refine r_iald (v := (nI c4)) S G 1 rfl (k_vp (by decide)) hI_fa.1.2.2.2.2 dX11_undo_5 ?_
  refine lv_if_ne (tgt := 14) zx zb dX11_undo_6 (by decide) (fun c_2 => ?_) (fun c_2 => ?_)
  · have fc_2 := j_ne (a := c4) (b := 0) c_2
    refine lv_aload_n zx zb dX11_undo_14 rfl (lv_at hl 0 rfl) ?_
    refine r_get (C := RX11) (T := TX11) (N := 18) (ci := 9) (v := .ref (ma 0)) S in_X11_undo_X11 G 0 rfl rfl 0 (by decide) lk_X11_undo_7 rfl dX11_undo_15 ?_
    refine lv_iconst (v := 4) zx zb dX11_undo_18 (by decide) ?_
    refine lv_dup2_11 zx zb dX11_undo_19 rfl rfl ?_
    refine r_iald (v := (nI c4)) S G 1 rfl (k_vp (by decide)) hI_fa.1.2.2.2.2 dX11_undo_20 ?_
    refine lv_iconst (v := 1) zx zb dX11_undo_21 (by decide) ?_
    refine r_isub (v := (nI (c4 - 1))) S (pk_sub (a := c4) (b := 1) (by omega)) dX11_undo_22 ?_
    refine r_iast S G 1 rfl (k_vp (by decide)) dX11_undo_23 (fun H locs G => ?_)
    obtain ⟨f_4, c_5, hI_f_4, hE_c_5, hE_f_4, G⟩ : ∃ (f_4 : Nat → Int32) (c_5 : Nat), InA f_4 c0 c1 c2 c3 c_5 ∧ c_5 = (c4 - 1) ∧ f_4 = upd fa 4 (nI (c4 - 1)) ∧ wd X (va_A (@HAppend.hAppend va_W va_W va_W _ (mW m0 ma la lb n t v) (@HAppend.hAppend va_W va_W va_W _ ([((ma 0), .inl (X.2.1, 371, .inl fa))]) ([((ma 3), .inl (X.2.1, 3, .inl fr))]))) sz) (va_A (@HAppend.hAppend va_W va_W va_W _ (mW m0 ma la lb n t v) (@HAppend.hAppend va_W va_W va_W _ ([((ma 0), .inl (X.2.1, 371, .inl fa))]) ([((ma 3), .inl (X.2.1, 3, .inl fr))]))) sz) s (@HAppend.hAppend va_W va_W va_W _ (mW m0 ma la lb n t v) (@HAppend.hAppend va_W va_W va_W _ ([((ma 0), .inl (X.2.1, 371, .inl f_4))]) ([((ma 3), .inl (X.2.1, 3, .inl fr))]))) H locs := ⟨_, (c4 - 1), InA_n4 (n := (c4 - 1)) hI_fa (by omega), rfl, rfl, G⟩
    have kp_f_4 : kpM fa f_4 := kp_u kp_r hE_f_4 (by decide)
    refine lv_iconst (v := 0) zx zb dX11_undo_24 (by decide) ?_
    refine lv_istore_n (lv' := [(1, .int 0), (0, .ref m0)]) zx zb dX11_undo_25 rfl hl (by decide) rfl (fun ls hl => ?_)
    refine k_loop (P := ∀ (zm : Nat) (n26_1 : Nat) (f26_1 : Nat → Int32) (H : Heap) (locs : List Loc) (ls : Array Slot), ((31 - n26_1) < zm) → (kpM fa f26_1) → InA f26_1 c0 c1 c2 c3 c_5 → (n26_1 ≤ 31) → wd X (va_A (@HAppend.hAppend va_W va_W va_W _ (mW m0 ma la lb n t v) (@HAppend.hAppend va_W va_W va_W _ ([((ma 0), .inl (X.2.1, 371, .inl fa))]) ([((ma 3), .inl (X.2.1, 3, .inl fr))]))) sz) (va_A (@HAppend.hAppend va_W va_W va_W _ (mW m0 ma la lb n t v) (@HAppend.hAppend va_W va_W va_W _ ([((ma 0), .inl (X.2.1, 371, .inl fa))]) ([((ma 3), .inl (X.2.1, 3, .inl fr))]))) sz) s (@HAppend.hAppend va_W va_W va_W _ (mW m0 ma la lb n t v) (@HAppend.hAppend va_W va_W va_W _ ([((ma 0), .inl (X.2.1, 371, .inl f26_1))]) ([((ma 3), .inl (X.2.1, 3, .inl fr))]))) H locs → lv_has ls 2 [(1, .int (nI n26_1)), (0, .ref m0)] → W p l e _ s m _ below meth c H locs _ _ _ (F0 m 26 ls [])) (fun loop => loop ((31 - 0) + 1) 0 f_4 _ _ _ (by omega) kp_f_4 hI_f_4 (by omega) G hl) ?_
    intro zm
    induction zm with
    | zero => intro n26_1 f26_1 H locs ls zz q_x0 q_hI_f26_1 q_hk_n26_1 _ _; exact absurd zz (by omega)
    | succ zm ih26 =>
      intro n26_1 f26_1 H locs ls zm_26 hx26_0 hI_f26_1 hk_n26_1 G hl
      have kp_f26_1 := hx26_0
      refine lv_iload_n zx zb dX11_undo_26 rfl (lv_at hl 0 rfl) ?_
      refine lv_bipush (v := 31) zx zb dX11_undo_27 (by decide) ?_
      refine lv_icmp_ge (tgt := 65) zx zb dX11_undo_29 (by decide) (fun c_6 => ?_) (fun c_6 => ?_)
      · have fc_6 := j_le (a := 31) (b := n26_1) (by omega) (by omega) c_6
        refine lv_aload_n zx zb dX11_undo_65 rfl (lv_at hl 1 rfl) ?_
        refine r_get (C := RX11) (T := TX11) (N := 18) (ci := 9) (v := .ref (ma 0)) S in_X11_undo_X11 G 0 rfl rfl 0 (by decide) lk_X11_undo_7 rfl dX11_undo_66 ?_
        refine lv_bipush (v := 35) zx zb dX11_undo_69 (by decide) ?_
        refine r_iald (v := (f26_1 35)) S G 1 rfl (k_vp (by decide)) rfl dX11_undo_71 ?_
        exact e_int S zr zlk (vp_nar_int _) G (f26_1, c_5, fr) [0, 1, 2] rfl rfl (Or.inr rfl) (⟨hI_f26_1, kp_f26_1⟩) dX11_undo_72
      · have fc_6 := j_nle (a := 31) (b := n26_1) (by omega) (by omega) c_6
        refine lv_aload_n zx zb dX11_undo_32 rfl (lv_at hl 1 rfl) ?_
        refine r_get (C := RX11) (T := TX11) (N := 18) (ci := 9) (v := .ref (ma 0)) S in_X11_undo_X11 G 0 rfl rfl 0 (by decide) lk_X11_undo_7 rfl dX11_undo_33 ?_
        refine lv_iconst (v := 5) zx zb dX11_undo_36 (by decide) ?_
        refine lv_iload_n zx zb dX11_undo_37 rfl (lv_at hl 0 rfl) ?_
        refine r_iadd (v := (nI (5 + n26_1))) S (nI_add 5 n26_1) dX11_undo_38 ?_
        refine lv_aload_n zx zb dX11_undo_39 rfl (lv_at hl 1 rfl) ?_
        refine r_get (C := RX11) (T := TX11) (N := 18) (ci := 9) (v := .ref (ma 0)) S in_X11_undo_X11 G 0 rfl rfl 0 (by decide) lk_X11_undo_7 rfl dX11_undo_40 ?_
        refine lv_bipush (v := 123) zx zb dX11_undo_43 (by decide) ?_
        refine lv_bipush (v := 31) zx zb dX11_undo_45 (by decide) ?_
        refine lv_aload_n zx zb dX11_undo_47 rfl (lv_at hl 1 rfl) ?_
        refine r_get (C := RX11) (T := TX11) (N := 18) (ci := 9) (v := .ref (ma 0)) S in_X11_undo_X11 G 0 rfl rfl 0 (by decide) lk_X11_undo_7 rfl dX11_undo_48 ?_
        refine lv_iconst (v := 4) zx zb dX11_undo_51 (by decide) ?_
        refine r_iald (v := (nI c_5)) S G 1 rfl (k_vp (by decide)) hI_f26_1.1.2.2.2.2 dX11_undo_52 ?_
        refine r_imul (v := (nI (31 * c_5))) S (pk_mul 31 c_5) dX11_undo_53 ?_
        refine r_iadd (v := (nI (123 + (31 * c_5)))) S (nI_add 123 (31 * c_5)) dX11_undo_54 ?_
        refine lv_iload_n zx zb dX11_undo_55 rfl (lv_at hl 0 rfl) ?_
        refine r_iadd (v := (nI ((123 + (31 * c_5)) + n26_1))) S (nI_add (123 + (31 * c_5)) n26_1) dX11_undo_56 ?_
        refine r_iald (v := (f26_1 ((123 + (31 * c_5)) + n26_1))) S G 1 rfl (vp_in_nI (by omega) (by decide)) (congrArg f26_1 (nI_clamp (by omega))) dX11_undo_57 ?_
        refine r_iast S G 1 rfl (vp_in_nI (by omega) (by decide)) dX11_undo_58 (fun H locs G => ?_)
        obtain ⟨f_10, hI_f_10, hE_f_10, G⟩ : ∃ f_10 : Nat → Int32, InA f_10 c0 c1 c2 c3 c_5 ∧ f_10 = upd f26_1 (nI (5 + n26_1)).toNatClampNeg (f26_1 ((123 + (31 * c_5)) + n26_1)) ∧ wd X (va_A (@HAppend.hAppend va_W va_W va_W _ (mW m0 ma la lb n t v) (@HAppend.hAppend va_W va_W va_W _ ([((ma 0), .inl (X.2.1, 371, .inl fa))]) ([((ma 3), .inl (X.2.1, 3, .inl fr))]))) sz) (va_A (@HAppend.hAppend va_W va_W va_W _ (mW m0 ma la lb n t v) (@HAppend.hAppend va_W va_W va_W _ ([((ma 0), .inl (X.2.1, 371, .inl fa))]) ([((ma 3), .inl (X.2.1, 3, .inl fr))]))) sz) s (@HAppend.hAppend va_W va_W va_W _ (mW m0 ma la lb n t v) (@HAppend.hAppend va_W va_W va_W _ ([((ma 0), .inl (X.2.1, 371, .inl f_10))]) ([((ma 3), .inl (X.2.1, 3, .inl fr))]))) H locs := ⟨_, InA_o hI_f26_1 (by rw [nI_clamp (by omega)]; omega), rfl, G⟩
        have kp_f_10 : kpM fa f_10 := kp_u kp_f26_1 hE_f_10 (by rw [nI_clamp (by omega)]; omega)
        refine lv_iinc (v := (nI (n26_1 + 1))) (lv' := [(1, .int (nI (n26_1 + 1))), (0, .ref m0)]) zx zb dX11_undo_59 hl (k := 0) rfl (nI_add n26_1 1) (by decide) rfl (fun ls hl => ?_)
        refine lv_goto (tgt := 26) zx zb dX11_undo_62 (by decide) ?_
        exact ih26 (n26_1 + 1) f_10 _ _ _ (by omega) kp_f_10 hI_f_10 (by omega) G hl
  · have fc_2 := j_eq (a := c4) (b := 0) (by omega) (by omega) c_2
    refine lv_aload_n zx zb dX11_undo_9 rfl (lv_at hl 0 rfl) ?_
    refine b_wi (cells' := 0) (slots' := 0) (wr := [((ma 0), .inl (X.2.1, 371, .inl fa))]) G rfl rfl [0, 2] [1] rfl rfl rfl rfl (n_V (As := []) (rest := []) (C := RX11) (T := TX11) (N := 18) (ci := 9) S G (m_no l X m0 ma la lb n t v fr hI_n hI_t s.heap.size) gX11_undo_X11_no rfl rfl rfl hdV_X11_no ⟨Nat.le_of_ble_eq_true rfl, Nat.le_of_ble_eq_true rfl⟩ [0, 2] rfl rfl 0 rfl rfl rfl hl.1 (Nat.le_of_ble_eq_true rfl) dX11_undo_10 ⟨Nat.le_of_ble_eq_true rfl, Nat.le_of_ble_eq_true rfl⟩) (fun r_11 u_11 H locs hp_11 G => ?_)
    obtain ⟨f_11, rfl⟩ : ∃ z, z = u_11 := ⟨_, rfl⟩
    have hq_11 := hp_11
    have G : wd X (va_A (@HAppend.hAppend va_W va_W va_W _ (mW m0 ma la lb n t v) (@HAppend.hAppend va_W va_W va_W _ ([((ma 0), .inl (X.2.1, 371, .inl fa))]) ([((ma 3), .inl (X.2.1, 3, .inl fr))]))) sz) (va_A (@HAppend.hAppend va_W va_W va_W _ (mW m0 ma la lb n t v) (@HAppend.hAppend va_W va_W va_W _ ([((ma 0), .inl (X.2.1, 371, .inl fa))]) ([((ma 3), .inl (X.2.1, 3, .inl fr))]))) sz) s (@HAppend.hAppend va_W va_W va_W _ ([((ma 0), .inl (X.2.1, 371, .inl fa))]) (@HAppend.hAppend va_W va_W va_W _ (mW m0 ma la lb n t v) ([((ma 3), .inl (X.2.1, 3, .inl f_11))]))) H locs := G
    obtain rfl := hq_11
    exact e_int S zr zlk (vp_nar_int _) G (fa, c4, f_11) [1, 0, 2] rfl rfl (Or.inr rfl) (⟨hI_fa, kp_r⟩) dX11_undo_13
set_option maxHeartbeats 4000000 in
set_option maxRecDepth 100000 in
theorem y_one (l : Launch) (X : EX) (m0 : Nat) (ma : Nat → Nat) (la : Int64) (lb : Int64) (n : Nat) (t : Nat → Nat) (v : Nat → Int32) (fa : Nat → Int32) (c0 : Nat) (c1 : Nat) (c2 : Nat) (c3 : Nat) (c4 : Nat) (fr : Nat → Int32) (x1 : Int32) (x2 : Int32) (x3 : Int32) (hI_n : n ≤ 150) (hI_t : InT t) (hI_fa : InA fa c0 c1 c2 c3 c4) (sz : Nat) : Met l yX11_one wsX11_one ({ frames := 2, cells := 0, slots := 0, locals := 45 } : Room) (pE X [.ref m0, .int x1, .int x2, .int x3] (@HAppend.hAppend va_W va_W va_W _ (mW m0 ma la lb n t v) (@HAppend.hAppend va_W va_W va_W _ ([((ma 0), .inl (X.2.1, 371, .inl fa))]) ([((ma 3), .inl (X.2.1, 3, .inl fr))]))) sz) (qI (fun (r : Int32) (u : (Nat → Int32) × (Nat) × (Nat) × (Nat → Int32)) => InA u.1 u.2.1 c1 c2 c3 u.2.2.1 ∧ ((r, (u.2.1, u.1)) = onxF (((0 : Int32) ≤ x1 ∧ x1 ≤ 5) ∧ ((1 : Int32) ≤ x2 ∧ x2 ≤ 9) ∧ ((0 : Int32) ≤ x3 ∧ x3 ≤ 5)) c0 fa (upd (layM fa c0 x1 x2 x3) 4 (nI 0)))) X (fun (u : (Nat → Int32) × (Nat) × (Nat) × (Nat → Int32)) => @HAppend.hAppend va_W va_W va_W _ (mW m0 ma la lb n t v) (@HAppend.hAppend va_W va_W va_W _ ([((ma 0), .inl (X.2.1, 371, .inl u.1))]) ([((ma 3), .inl (X.2.1, 3, .inl u.2.2.2))]))) (@HAppend.hAppend va_W va_W va_W _ (mW m0 ma la lb n t v) (@HAppend.hAppend va_W va_W va_W _ ([((ma 0), .inl (X.2.1, 371, .inl fa))]) ([((ma 3), .inl (X.2.1, 3, .inl fr))]))) sz) 0 0 (va_A (@HAppend.hAppend va_W va_W va_W _ (mW m0 ma la lb n t v) (@HAppend.hAppend va_W va_W va_W _ ([((ma 0), .inl (X.2.1, 371, .inl fa))]) ([((ma 3), .inl (X.2.1, 3, .inl fr))]))) sz) := by
  refine mk_met (B := (va_A (@HAppend.hAppend va_W va_W va_W _ (mW m0 ma la lb n t v) (@HAppend.hAppend va_W va_W va_W _ ([((ma 0), .inl (X.2.1, 371, .inl fa))]) ([((ma 3), .inl (X.2.1, 3, .inl fr))]))) sz)) (A := (va_A (@HAppend.hAppend va_W va_W va_W _ (mW m0 ma la lb n t v) (@HAppend.hAppend va_W va_W va_W _ ([((ma 0), .inl (X.2.1, 371, .inl fa))]) ([((ma 3), .inl (X.2.1, 3, .inl fr))]))) sz)) (cc := cX11_one) (maxL := 4) (ret := (some .int)) (by decide) rfl (Nat.le_of_ble_eq_true rfl) k_w k_a (fun p e s m below meth c S zr zlk znm zsz G ls hl => ?_)
  have S : CallFix p m c cX11_one 4 s _ wsX11_one RX11 := S
  have zx := S.1
  have zb := S.2.1
  have hl : lv_has ls 4 [(0, .ref m0), (1, .int x1), (2, .int x2), (3, .int x3)] := hl
  have hO_t := hI_t
  obtain ⟨ht0_t, ht1_t⟩ := hO_t
  have hO_fa := hI_fa.2
  obtain ⟨hm0_fa, hm1_fa, hm2_fa, hm3_fa, hm4_fa⟩ := hO_fa
  refine lv_iload_n zx zb dX11_one_0 rfl (lv_at hl 1 rfl) ?_
  refine o_ri (cells' := 0) (slots' := 0) G rfl rfl (n_S (As := [.int x1]) (rest := []) S G (m_isKind l X x1 s.heap.size) gX11_one_X11_isKind rfl rfl rfl hdS_X11_isKind ⟨Nat.le_of_ble_eq_true rfl, Nat.le_of_ble_eq_true rfl⟩ [] rfl rfl rfl hl.1 (Nat.le_of_ble_eq_true rfl) dX11_one_1 ⟨Nat.le_of_ble_eq_true rfl, Nat.le_of_ble_eq_true rfl⟩) (fun r_1 u_1 H locs hp_1 G => ?_)
  have G : wd X (va_A (@HAppend.hAppend va_W va_W va_W _ (mW m0 ma la lb n t v) (@HAppend.hAppend va_W va_W va_W _ ([((ma 0), .inl (X.2.1, 371, .inl fa))]) ([((ma 3), .inl (X.2.1, 3, .inl fr))]))) sz) (va_A (@HAppend.hAppend va_W va_W va_W _ (mW m0 ma la lb n t v) (@HAppend.hAppend va_W va_W va_W _ ([((ma 0), .inl (X.2.1, 371, .inl fa))]) ([((ma 3), .inl (X.2.1, 3, .inl fr))]))) sz) s (@HAppend.hAppend va_W va_W va_W _ (mW m0 ma la lb n t v) (@HAppend.hAppend va_W va_W va_W _ ([((ma 0), .inl (X.2.1, 371, .inl fa))]) ([((ma 3), .inl (X.2.1, 3, .inl fr))]))) H locs := G
  rcases hp_1 with ⟨rfl, hw_1⟩ | ⟨rfl, hw_1⟩
  · obtain ⟨j_1, ⟨ja_1, jb_1⟩, rfl⟩ := k_natR (a := 0) (b := 5) hw_1 rfl rfl (by decide) (by decide)
    refine lv_if_eq (tgt := 21) zx zb dX11_one_4 (by decide) (fun c_2 => absurd c_2 (by decide)) (fun c_2 => ?_)
    refine lv_iload_n zx zb dX11_one_7 rfl (lv_at hl 2 rfl) ?_
    refine o_ri (cells' := 0) (slots' := 0) G rfl rfl (n_S (As := [.int x2]) (rest := []) S G (m_isLegs l X x2 H.size) gX11_one_X11_isLegs rfl rfl rfl hdS_X11_isLegs ⟨Nat.le_of_ble_eq_true rfl, Nat.le_of_ble_eq_true rfl⟩ [] rfl rfl rfl hl.1 (Nat.le_of_ble_eq_true rfl) dX11_one_8 ⟨Nat.le_of_ble_eq_true rfl, Nat.le_of_ble_eq_true rfl⟩) (fun r_3 u_3 H locs hp_3 G => ?_)
    have G : wd X (va_A (@HAppend.hAppend va_W va_W va_W _ (mW m0 ma la lb n t v) (@HAppend.hAppend va_W va_W va_W _ ([((ma 0), .inl (X.2.1, 371, .inl fa))]) ([((ma 3), .inl (X.2.1, 3, .inl fr))]))) sz) (va_A (@HAppend.hAppend va_W va_W va_W _ (mW m0 ma la lb n t v) (@HAppend.hAppend va_W va_W va_W _ ([((ma 0), .inl (X.2.1, 371, .inl fa))]) ([((ma 3), .inl (X.2.1, 3, .inl fr))]))) sz) s (@HAppend.hAppend va_W va_W va_W _ (mW m0 ma la lb n t v) (@HAppend.hAppend va_W va_W va_W _ ([((ma 0), .inl (X.2.1, 371, .inl fa))]) ([((ma 3), .inl (X.2.1, 3, .inl fr))]))) H locs := G
    rcases hp_3 with ⟨rfl, hw_3⟩ | ⟨rfl, hw_3⟩
    · obtain ⟨j_3, ⟨ja_3, jb_3⟩, rfl⟩ := k_natR (a := 1) (b := 9) hw_3 rfl rfl (by decide) (by decide)
      refine lv_if_eq (tgt := 21) zx zb dX11_one_11 (by decide) (fun c_4 => absurd c_4 (by decide)) (fun c_4 => ?_)
      refine lv_iload_n zx zb dX11_one_14 rfl (lv_at hl 3 rfl) ?_
      refine o_ri (cells' := 0) (slots' := 0) G rfl rfl (n_S (As := [.int x3]) (rest := []) S G (m_isKind l X x3 H.size) gX11_one_X11_isKind rfl rfl rfl hdS_X11_isKind ⟨Nat.le_of_ble_eq_true rfl, Nat.le_of_ble_eq_true rfl⟩ [] rfl rfl rfl hl.1 (Nat.le_of_ble_eq_true rfl) dX11_one_15 ⟨Nat.le_of_ble_eq_true rfl, Nat.le_of_ble_eq_true rfl⟩) (fun r_5 u_5 H locs hp_5 G => ?_)
      have G : wd X (va_A (@HAppend.hAppend va_W va_W va_W _ (mW m0 ma la lb n t v) (@HAppend.hAppend va_W va_W va_W _ ([((ma 0), .inl (X.2.1, 371, .inl fa))]) ([((ma 3), .inl (X.2.1, 3, .inl fr))]))) sz) (va_A (@HAppend.hAppend va_W va_W va_W _ (mW m0 ma la lb n t v) (@HAppend.hAppend va_W va_W va_W _ ([((ma 0), .inl (X.2.1, 371, .inl fa))]) ([((ma 3), .inl (X.2.1, 3, .inl fr))]))) sz) s (@HAppend.hAppend va_W va_W va_W _ (mW m0 ma la lb n t v) (@HAppend.hAppend va_W va_W va_W _ ([((ma 0), .inl (X.2.1, 371, .inl fa))]) ([((ma 3), .inl (X.2.1, 3, .inl fr))]))) H locs := G
      rcases hp_5 with ⟨rfl, hw_5⟩ | ⟨rfl, hw_5⟩
      · obtain ⟨j_5, ⟨ja_5, jb_5⟩, rfl⟩ := k_natR (a := 0) (b := 5) hw_5 rfl rfl (by decide) (by decide)
        refine lv_if_ne (tgt := 28) zx zb dX11_one_18 (by decide) (fun c_6 => ?_) (fun c_6 => absurd c_6 (by decide))
        refine lv_aload_n zx zb dX11_one_28 rfl (lv_at hl 0 rfl) ?_
        refine o_ri (cells' := 0) (slots' := 0) G rfl rfl (n_V (As := []) (rest := []) (C := RX11) (T := TX11) (N := 18) (ci := 9) S G (m_many l X m0 ma la lb n t v fa c0 c1 c2 c3 c4 hI_n hI_t hI_fa H.size) gX11_one_X11_many rfl rfl rfl hdV_X11_many ⟨Nat.le_of_ble_eq_true rfl, Nat.le_of_ble_eq_true rfl⟩ [0, 1] rfl rfl 0 rfl rfl rfl hl.1 (Nat.le_of_ble_eq_true rfl) dX11_one_29 ⟨Nat.le_of_ble_eq_true rfl, Nat.le_of_ble_eq_true rfl⟩) (fun r_7 u_7 H locs hp_7 G => ?_)
        have G : wd X (va_A (@HAppend.hAppend va_W va_W va_W _ (mW m0 ma la lb n t v) (@HAppend.hAppend va_W va_W va_W _ ([((ma 0), .inl (X.2.1, 371, .inl fa))]) ([((ma 3), .inl (X.2.1, 3, .inl fr))]))) sz) (va_A (@HAppend.hAppend va_W va_W va_W _ (mW m0 ma la lb n t v) (@HAppend.hAppend va_W va_W va_W _ ([((ma 0), .inl (X.2.1, 371, .inl fa))]) ([((ma 3), .inl (X.2.1, 3, .inl fr))]))) sz) s (@HAppend.hAppend va_W va_W va_W _ (mW m0 ma la lb n t v) (@HAppend.hAppend va_W va_W va_W _ ([((ma 0), .inl (X.2.1, 371, .inl fa))]) ([((ma 3), .inl (X.2.1, 3, .inl fr))]))) H locs := G
        obtain rfl := hp_7
        refine lv_bipush (v := 6) zx zb dX11_one_32 (by decide) ?_
        refine lv_icmp_ne (tgt := 42) zx zb dX11_one_34 (by decide) (fun c_8 => ?_) (fun c_8 => ?_)
        · have fc_8 := j_ne (a := c0) (b := 6) c_8
          refine lv_aload_n zx zb dX11_one_42 rfl (lv_at hl 0 rfl) ?_
          refine r_get (C := RX11) (T := TX11) (N := 18) (ci := 9) (v := .ref (ma 0)) S in_X11_one_X11 G 0 rfl rfl 0 (by decide) lk_X11_one_7 rfl dX11_one_43 ?_
          refine lv_iload_n zx zb dX11_one_46 rfl (lv_at hl 1 rfl) ?_
          refine lv_iload_n zx zb dX11_one_47 rfl (lv_at hl 2 rfl) ?_
          refine lv_iload_n zx zb dX11_one_48 rfl (lv_at hl 3 rfl) ?_
          refine b_wv (cells' := 0) (slots' := 0) (wr := @HAppend.hAppend va_W va_W va_W _ (mW m0 ma la lb n t v) ([((ma 3), .inl (X.2.1, 3, .inl fr))])) G rfl rfl [1] [0, 2] rfl rfl rfl rfl (n_S (As := [.ref (ma 0), .int (nI j_1), .int (nI j_3), .int (nI j_5)]) (rest := []) S G (y_layOne l X (ma 0) 371 fa c0 c1 c2 c3 c4 (nI j_1) (nI j_3) (nI j_5) hI_fa (by omega) (by omega) (by omega) H.size) gX11_one_X11_layOne rfl rfl rfl hdS_X11_layOne ⟨Nat.le_of_ble_eq_true rfl, Nat.le_of_ble_eq_true rfl⟩ [1] rfl rfl rfl hl.1 (Nat.le_of_ble_eq_true rfl) dX11_one_49 ⟨Nat.le_of_ble_eq_true rfl, Nat.le_of_ble_eq_true rfl⟩) (fun u_9 H locs hp_9 G => ?_)
          obtain ⟨f_9a, c0_9b⟩ := u_9
          try dsimp only at hp_9
          obtain ⟨hI_f_9a, hq_9⟩ := hp_9
          have hO_f_9a := hI_f_9a.2
          obtain ⟨hm0_f_9a, hm1_f_9a, hm2_f_9a, hm3_f_9a, hm4_f_9a⟩ := hO_f_9a
          have G : wd X (va_A (@HAppend.hAppend va_W va_W va_W _ (mW m0 ma la lb n t v) (@HAppend.hAppend va_W va_W va_W _ ([((ma 0), .inl (X.2.1, 371, .inl fa))]) ([((ma 3), .inl (X.2.1, 3, .inl fr))]))) sz) (va_A (@HAppend.hAppend va_W va_W va_W _ (mW m0 ma la lb n t v) (@HAppend.hAppend va_W va_W va_W _ ([((ma 0), .inl (X.2.1, 371, .inl fa))]) ([((ma 3), .inl (X.2.1, 3, .inl fr))]))) sz) s (@HAppend.hAppend va_W va_W va_W _ (mW m0 ma la lb n t v) (@HAppend.hAppend va_W va_W va_W _ ([((ma 3), .inl (X.2.1, 3, .inl fr))]) ([((ma 0), .inl (X.2.1, 371, .inl f_9a))]))) H locs := G
          obtain ⟨hy0_9, hy1_9⟩ := hq_9
          refine lv_aload_n zx zb dX11_one_52 rfl (lv_at hl 0 rfl) ?_
          refine r_get (C := RX11) (T := TX11) (N := 18) (ci := 9) (v := .ref (ma 0)) S in_X11_one_X11 G 0 rfl rfl 0 (by decide) lk_X11_one_7 rfl dX11_one_53 ?_
          refine lv_iconst (v := 4) zx zb dX11_one_56 (by decide) ?_
          refine lv_iconst (v := 0) zx zb dX11_one_57 (by decide) ?_
          refine r_iast S G 2 rfl (k_vp (by decide)) dX11_one_58 (fun H locs G => ?_)
          obtain ⟨f_10, c_11, hI_f_10, hE_c_11, hE_f_10, G⟩ : ∃ (f_10 : Nat → Int32) (c_11 : Nat), InA f_10 c0_9b c1 c2 c3 c_11 ∧ c_11 = 0 ∧ f_10 = upd f_9a 4 (nI 0) ∧ wd X (va_A (@HAppend.hAppend va_W va_W va_W _ (mW m0 ma la lb n t v) (@HAppend.hAppend va_W va_W va_W _ ([((ma 0), .inl (X.2.1, 371, .inl fa))]) ([((ma 3), .inl (X.2.1, 3, .inl fr))]))) sz) (va_A (@HAppend.hAppend va_W va_W va_W _ (mW m0 ma la lb n t v) (@HAppend.hAppend va_W va_W va_W _ ([((ma 0), .inl (X.2.1, 371, .inl fa))]) ([((ma 3), .inl (X.2.1, 3, .inl fr))]))) sz) s (@HAppend.hAppend va_W va_W va_W _ (mW m0 ma la lb n t v) (@HAppend.hAppend va_W va_W va_W _ ([((ma 3), .inl (X.2.1, 3, .inl fr))]) ([((ma 0), .inl (X.2.1, 371, .inl f_10))]))) H locs := ⟨_, 0, InA_n4 (n := 0) hI_f_9a (by omega), rfl, rfl, G⟩
          refine lv_aload_n zx zb dX11_one_59 rfl (lv_at hl 0 rfl) ?_
          refine o_ri (cells' := 0) (slots' := 0) G rfl rfl (n_V (As := []) (rest := []) (C := RX11) (T := TX11) (N := 18) (ci := 9) S G (m_many l X m0 ma la lb n t v f_10 c0_9b c1 c2 c3 c_11 hI_n hI_t hI_f_10 H.size) gX11_one_X11_many rfl rfl rfl hdV_X11_many ⟨Nat.le_of_ble_eq_true rfl, Nat.le_of_ble_eq_true rfl⟩ [0, 2] rfl rfl 0 rfl rfl rfl hl.1 (Nat.le_of_ble_eq_true rfl) dX11_one_60 ⟨Nat.le_of_ble_eq_true rfl, Nat.le_of_ble_eq_true rfl⟩) (fun r_12 u_12 H locs hp_12 G => ?_)
          have G : wd X (va_A (@HAppend.hAppend va_W va_W va_W _ (mW m0 ma la lb n t v) (@HAppend.hAppend va_W va_W va_W _ ([((ma 0), .inl (X.2.1, 371, .inl fa))]) ([((ma 3), .inl (X.2.1, 3, .inl fr))]))) sz) (va_A (@HAppend.hAppend va_W va_W va_W _ (mW m0 ma la lb n t v) (@HAppend.hAppend va_W va_W va_W _ ([((ma 0), .inl (X.2.1, 371, .inl fa))]) ([((ma 3), .inl (X.2.1, 3, .inl fr))]))) sz) s (@HAppend.hAppend va_W va_W va_W _ (mW m0 ma la lb n t v) (@HAppend.hAppend va_W va_W va_W _ ([((ma 3), .inl (X.2.1, 3, .inl fr))]) ([((ma 0), .inl (X.2.1, 371, .inl f_10))]))) H locs := G
          obtain rfl := hp_12
          refine lv_iconst (v := 1) zx zb dX11_one_63 (by decide) ?_
          refine r_isub (v := (nI (c0_9b - 1))) S (pk_sub (a := c0_9b) (b := 1) (by omega)) dX11_one_64 ?_
          have hzF : ((nI (c0_9b - 1)), (c0_9b, f_10)) = onxF (((0 : Int32) ≤ (nI j_1) ∧ (nI j_1) ≤ 5) ∧ ((1 : Int32) ≤ (nI j_3) ∧ (nI j_3) ≤ 9) ∧ ((0 : Int32) ≤ (nI j_5) ∧ (nI j_5) ≤ 5)) c0 fa (upd (layM fa c0 (nI j_1) (nI j_3) (nI j_5)) 4 (nI 0)) := by rw [onxF_p ⟨hw_1, hw_3, hw_5⟩ (by omega), hE_f_10, hy0_9, show c0_9b = c0 + 1 from by omega]; rfl
          exact e_int S zr zlk (vp_nar_int _) G (f_10, c0_9b, c_11, fr) [0, 2, 1] rfl rfl (Or.inr rfl) (⟨hI_f_10, hzF⟩) dX11_one_65
        · have fc_8 := j_eq (a := c0) (b := 6) (by omega) (by omega) c_8
          refine lv_aload_n zx zb dX11_one_37 rfl (lv_at hl 0 rfl) ?_
          refine b_wi (cells' := 0) (slots' := 0) (wr := [((ma 0), .inl (X.2.1, 371, .inl fa))]) G rfl rfl [0, 2] [1] rfl rfl rfl rfl (n_V (As := []) (rest := []) (C := RX11) (T := TX11) (N := 18) (ci := 9) S G (m_full l X m0 ma la lb n t v fr hI_n hI_t H.size) gX11_one_X11_full rfl rfl rfl hdV_X11_full ⟨Nat.le_of_ble_eq_true rfl, Nat.le_of_ble_eq_true rfl⟩ [0, 2] rfl rfl 0 rfl rfl rfl hl.1 (Nat.le_of_ble_eq_true rfl) dX11_one_38 ⟨Nat.le_of_ble_eq_true rfl, Nat.le_of_ble_eq_true rfl⟩) (fun r_13 u_13 H locs hp_13 G => ?_)
          obtain ⟨f_13, rfl⟩ : ∃ z, z = u_13 := ⟨_, rfl⟩
          have hq_13 := hp_13
          have G : wd X (va_A (@HAppend.hAppend va_W va_W va_W _ (mW m0 ma la lb n t v) (@HAppend.hAppend va_W va_W va_W _ ([((ma 0), .inl (X.2.1, 371, .inl fa))]) ([((ma 3), .inl (X.2.1, 3, .inl fr))]))) sz) (va_A (@HAppend.hAppend va_W va_W va_W _ (mW m0 ma la lb n t v) (@HAppend.hAppend va_W va_W va_W _ ([((ma 0), .inl (X.2.1, 371, .inl fa))]) ([((ma 3), .inl (X.2.1, 3, .inl fr))]))) sz) s (@HAppend.hAppend va_W va_W va_W _ ([((ma 0), .inl (X.2.1, 371, .inl fa))]) (@HAppend.hAppend va_W va_W va_W _ (mW m0 ma la lb n t v) ([((ma 3), .inl (X.2.1, 3, .inl f_13))]))) H locs := G
          obtain rfl := hq_13
          have hzF : ((-4), (c0, fa)) = onxF (((0 : Int32) ≤ (nI j_1) ∧ (nI j_1) ≤ 5) ∧ ((1 : Int32) ≤ (nI j_3) ∧ (nI j_3) ≤ 9) ∧ ((0 : Int32) ≤ (nI j_5) ∧ (nI j_5) ≤ 5)) c0 fa (upd (layM fa c0 (nI j_1) (nI j_3) (nI j_5)) 4 (nI 0)) := (onxF_f ⟨hw_1, hw_3, hw_5⟩ (by omega)).symm
          exact e_int S zr zlk (vp_nar_int _) G (fa, c0, c4, f_13) [1, 0, 2] rfl rfl (Or.inr rfl) (⟨hI_fa, hzF⟩) dX11_one_41
      · refine lv_if_ne (tgt := 28) zx zb dX11_one_18 (by decide) (fun c_14 => absurd (by decide) c_14) (fun c_14 => ?_)
        refine lv_aload_n zx zb dX11_one_21 rfl (lv_at hl 0 rfl) ?_
        refine lv_bipush (v := (-2)) zx zb dX11_one_22 (by decide) ?_
        refine b_wi (cells' := 0) (slots' := 0) (wr := [((ma 0), .inl (X.2.1, 371, .inl fa))]) G rfl rfl [0, 2] [1] rfl rfl rfl rfl (n_V (As := [.int (-2)]) (rest := []) (C := RX11) (T := TX11) (N := 18) (ci := 9) S G (m_bad l X m0 ma la lb n t v fr (-2) hI_n hI_t H.size) gX11_one_X11_bad rfl rfl rfl hdV_X11_bad ⟨Nat.le_of_ble_eq_true rfl, Nat.le_of_ble_eq_true rfl⟩ [0, 2] rfl rfl 0 rfl rfl rfl hl.1 (Nat.le_of_ble_eq_true rfl) dX11_one_24 ⟨Nat.le_of_ble_eq_true rfl, Nat.le_of_ble_eq_true rfl⟩) (fun r_15 u_15 H locs hp_15 G => ?_)
        obtain ⟨f_15, rfl⟩ : ∃ z, z = u_15 := ⟨_, rfl⟩
        have hq_15 := hp_15
        have G : wd X (va_A (@HAppend.hAppend va_W va_W va_W _ (mW m0 ma la lb n t v) (@HAppend.hAppend va_W va_W va_W _ ([((ma 0), .inl (X.2.1, 371, .inl fa))]) ([((ma 3), .inl (X.2.1, 3, .inl fr))]))) sz) (va_A (@HAppend.hAppend va_W va_W va_W _ (mW m0 ma la lb n t v) (@HAppend.hAppend va_W va_W va_W _ ([((ma 0), .inl (X.2.1, 371, .inl fa))]) ([((ma 3), .inl (X.2.1, 3, .inl fr))]))) sz) s (@HAppend.hAppend va_W va_W va_W _ ([((ma 0), .inl (X.2.1, 371, .inl fa))]) (@HAppend.hAppend va_W va_W va_W _ (mW m0 ma la lb n t v) ([((ma 3), .inl (X.2.1, 3, .inl f_15))]))) H locs := G
        obtain rfl := hq_15
        have hzF : ((-2), (c0, fa)) = onxF (((0 : Int32) ≤ (nI j_1) ∧ (nI j_1) ≤ 5) ∧ ((1 : Int32) ≤ (nI j_3) ∧ (nI j_3) ≤ 9) ∧ ((0 : Int32) ≤ x3 ∧ x3 ≤ 5)) c0 fa (upd (layM fa c0 (nI j_1) (nI j_3) x3) 4 (nI 0)) := (onxF_n (fun h => hw_5 h.2.2)).symm
        exact e_int S zr zlk (vp_nar_int _) G (fa, c0, c4, f_15) [1, 0, 2] rfl rfl (Or.inr rfl) (⟨hI_fa, hzF⟩) dX11_one_27
    · refine lv_if_eq (tgt := 21) zx zb dX11_one_11 (by decide) (fun c_16 => ?_) (fun c_16 => absurd (by decide) c_16)
      refine lv_aload_n zx zb dX11_one_21 rfl (lv_at hl 0 rfl) ?_
      refine lv_bipush (v := (-2)) zx zb dX11_one_22 (by decide) ?_
      refine b_wi (cells' := 0) (slots' := 0) (wr := [((ma 0), .inl (X.2.1, 371, .inl fa))]) G rfl rfl [0, 2] [1] rfl rfl rfl rfl (n_V (As := [.int (-2)]) (rest := []) (C := RX11) (T := TX11) (N := 18) (ci := 9) S G (m_bad l X m0 ma la lb n t v fr (-2) hI_n hI_t H.size) gX11_one_X11_bad rfl rfl rfl hdV_X11_bad ⟨Nat.le_of_ble_eq_true rfl, Nat.le_of_ble_eq_true rfl⟩ [0, 2] rfl rfl 0 rfl rfl rfl hl.1 (Nat.le_of_ble_eq_true rfl) dX11_one_24 ⟨Nat.le_of_ble_eq_true rfl, Nat.le_of_ble_eq_true rfl⟩) (fun r_17 u_17 H locs hp_17 G => ?_)
      obtain ⟨f_17, rfl⟩ : ∃ z, z = u_17 := ⟨_, rfl⟩
      have hq_17 := hp_17
      have G : wd X (va_A (@HAppend.hAppend va_W va_W va_W _ (mW m0 ma la lb n t v) (@HAppend.hAppend va_W va_W va_W _ ([((ma 0), .inl (X.2.1, 371, .inl fa))]) ([((ma 3), .inl (X.2.1, 3, .inl fr))]))) sz) (va_A (@HAppend.hAppend va_W va_W va_W _ (mW m0 ma la lb n t v) (@HAppend.hAppend va_W va_W va_W _ ([((ma 0), .inl (X.2.1, 371, .inl fa))]) ([((ma 3), .inl (X.2.1, 3, .inl fr))]))) sz) s (@HAppend.hAppend va_W va_W va_W _ ([((ma 0), .inl (X.2.1, 371, .inl fa))]) (@HAppend.hAppend va_W va_W va_W _ (mW m0 ma la lb n t v) ([((ma 3), .inl (X.2.1, 3, .inl f_17))]))) H locs := G
      obtain rfl := hq_17
      have hzF : ((-2), (c0, fa)) = onxF (((0 : Int32) ≤ (nI j_1) ∧ (nI j_1) ≤ 5) ∧ ((1 : Int32) ≤ x2 ∧ x2 ≤ 9) ∧ ((0 : Int32) ≤ x3 ∧ x3 ≤ 5)) c0 fa (upd (layM fa c0 (nI j_1) x2 x3) 4 (nI 0)) := (onxF_n (fun h => hw_3 h.2.1)).symm
      exact e_int S zr zlk (vp_nar_int _) G (fa, c0, c4, f_17) [1, 0, 2] rfl rfl (Or.inr rfl) (⟨hI_fa, hzF⟩) dX11_one_27
  · refine lv_if_eq (tgt := 21) zx zb dX11_one_4 (by decide) (fun c_18 => ?_) (fun c_18 => absurd (by decide) c_18)
    refine lv_aload_n zx zb dX11_one_21 rfl (lv_at hl 0 rfl) ?_
    refine lv_bipush (v := (-2)) zx zb dX11_one_22 (by decide) ?_
    refine b_wi (cells' := 0) (slots' := 0) (wr := [((ma 0), .inl (X.2.1, 371, .inl fa))]) G rfl rfl [0, 2] [1] rfl rfl rfl rfl (n_V (As := [.int (-2)]) (rest := []) (C := RX11) (T := TX11) (N := 18) (ci := 9) S G (m_bad l X m0 ma la lb n t v fr (-2) hI_n hI_t H.size) gX11_one_X11_bad rfl rfl rfl hdV_X11_bad ⟨Nat.le_of_ble_eq_true rfl, Nat.le_of_ble_eq_true rfl⟩ [0, 2] rfl rfl 0 rfl rfl rfl hl.1 (Nat.le_of_ble_eq_true rfl) dX11_one_24 ⟨Nat.le_of_ble_eq_true rfl, Nat.le_of_ble_eq_true rfl⟩) (fun r_19 u_19 H locs hp_19 G => ?_)
    obtain ⟨f_19, rfl⟩ : ∃ z, z = u_19 := ⟨_, rfl⟩
    have hq_19 := hp_19
    have G : wd X (va_A (@HAppend.hAppend va_W va_W va_W _ (mW m0 ma la lb n t v) (@HAppend.hAppend va_W va_W va_W _ ([((ma 0), .inl (X.2.1, 371, .inl fa))]) ([((ma 3), .inl (X.2.1, 3, .inl fr))]))) sz) (va_A (@HAppend.hAppend va_W va_W va_W _ (mW m0 ma la lb n t v) (@HAppend.hAppend va_W va_W va_W _ ([((ma 0), .inl (X.2.1, 371, .inl fa))]) ([((ma 3), .inl (X.2.1, 3, .inl fr))]))) sz) s (@HAppend.hAppend va_W va_W va_W _ ([((ma 0), .inl (X.2.1, 371, .inl fa))]) (@HAppend.hAppend va_W va_W va_W _ (mW m0 ma la lb n t v) ([((ma 3), .inl (X.2.1, 3, .inl f_19))]))) H locs := G
    obtain rfl := hq_19
    have hzF : ((-2), (c0, fa)) = onxF (((0 : Int32) ≤ x1 ∧ x1 ≤ 5) ∧ ((1 : Int32) ≤ x2 ∧ x2 ≤ 9) ∧ ((0 : Int32) ≤ x3 ∧ x3 ≤ 5)) c0 fa (upd (layM fa c0 x1 x2 x3) 4 (nI 0)) := (onxF_n (fun h => hw_1 h.1)).symm
    exact e_int S zr zlk (vp_nar_int _) G (fa, c0, c4, f_19) [1, 0, 2] rfl rfl (Or.inr rfl) (⟨hI_fa, hzF⟩) dX11_one_27
set_option maxHeartbeats 4000000 in
set_option maxRecDepth 100000 in
theorem y_image (l : Launch) (X : EX) (m0 : Nat) (ma : Nat → Nat) (la : Int64) (lb : Int64) (n : Nat) (t : Nat → Nat) (v : Nat → Int32) (fa : Nat → Int32) (c0 : Nat) (c1 : Nat) (c2 : Nat) (c3 : Nat) (c4 : Nat) (fk : Nat → Int32) (e0 : Nat) (e1 : Nat) (e2 : Nat) (e3 : Nat) (e4 : Nat) (o0 : Nat) (o1 : Nat) (o2 : Nat) (o3 : Nat) (o4 : Nat) (fz : Nat → Int32) (fr : Nat → Int32) (x1 : Int32) (hI_n : n ≤ 150) (hI_t : InT t) (hI_fa : InA fa c0 c1 c2 c3 c4) (hI_fk : InK fk e0 e1 e2 e3 e4 o0 o1 o2 o3 o4) (sz : Nat) : Met l yX11_image wsX11_image ({ frames := 1, cells := 0, slots := 0, locals := 25 } : Room) (pE X [.ref m0, .int x1] (@HAppend.hAppend va_W va_W va_W _ (mW m0 ma la lb n t v) (@HAppend.hAppend va_W va_W va_W _ ([((ma 0), .inl (X.2.1, 371, .inl fa))]) (@HAppend.hAppend va_W va_W va_W _ ([((ma 1), .inl (X.2.1, 742, .inl fk))]) (@HAppend.hAppend va_W va_W va_W _ ([((ma 2), .inl (X.2.2.1, 2, .inl fz))]) ([((ma 3), .inl (X.2.1, 3, .inl fr))]))))) sz) (qI (fun (r : Int32) (u : (Nat → Int32) × (Nat) × (Nat) × (Nat) × (Nat) × (Nat) × (Nat) × (Nat) × (Nat) × (Nat) × (Nat) × (Nat → Int32) × (Nat → Int32)) => InK u.1 u.2.1 u.2.2.1 u.2.2.2.1 u.2.2.2.2.1 u.2.2.2.2.2.1 u.2.2.2.2.2.2.1 u.2.2.2.2.2.2.2.1 u.2.2.2.2.2.2.2.2.1 u.2.2.2.2.2.2.2.2.2.1 u.2.2.2.2.2.2.2.2.2.2.1 ∧ (((r, (u.2.2.2.2.2.2.2.2.2.2.2.1, ((u.2.1, u.2.2.1, u.2.2.2.1, u.2.2.2.2.1), (u.2.2.2.2.2.2.1, u.2.2.2.2.2.2.2.1, u.2.2.2.2.2.2.2.2.1, u.2.2.2.2.2.2.2.2.2.1)))) = imgF x1 fz (c0, c1, c2, c3) (e0, e1, e2, e3) (o0, o1, o2, o3)) ∧ kepM x1 fa fk u.1)) X (fun (u : (Nat → Int32) × (Nat) × (Nat) × (Nat) × (Nat) × (Nat) × (Nat) × (Nat) × (Nat) × (Nat) × (Nat) × (Nat → Int32) × (Nat → Int32)) => @HAppend.hAppend va_W va_W va_W _ (mW m0 ma la lb n t v) (@HAppend.hAppend va_W va_W va_W _ ([((ma 0), .inl (X.2.1, 371, .inl fa))]) (@HAppend.hAppend va_W va_W va_W _ ([((ma 1), .inl (X.2.1, 742, .inl u.1))]) (@HAppend.hAppend va_W va_W va_W _ ([((ma 2), .inl (X.2.2.1, 2, .inl u.2.2.2.2.2.2.2.2.2.2.2.1))]) ([((ma 3), .inl (X.2.1, 3, .inl u.2.2.2.2.2.2.2.2.2.2.2.2))]))))) (@HAppend.hAppend va_W va_W va_W _ (mW m0 ma la lb n t v) (@HAppend.hAppend va_W va_W va_W _ ([((ma 0), .inl (X.2.1, 371, .inl fa))]) (@HAppend.hAppend va_W va_W va_W _ ([((ma 1), .inl (X.2.1, 742, .inl fk))]) (@HAppend.hAppend va_W va_W va_W _ ([((ma 2), .inl (X.2.2.1, 2, .inl fz))]) ([((ma 3), .inl (X.2.1, 3, .inl fr))]))))) sz) 0 0 (va_A (@HAppend.hAppend va_W va_W va_W _ (mW m0 ma la lb n t v) (@HAppend.hAppend va_W va_W va_W _ ([((ma 0), .inl (X.2.1, 371, .inl fa))]) (@HAppend.hAppend va_W va_W va_W _ ([((ma 1), .inl (X.2.1, 742, .inl fk))]) (@HAppend.hAppend va_W va_W va_W _ ([((ma 2), .inl (X.2.2.1, 2, .inl fz))]) ([((ma 3), .inl (X.2.1, 3, .inl fr))]))))) sz) := by
  refine mk_met (B := (va_A (@HAppend.hAppend va_W va_W va_W _ (mW m0 ma la lb n t v) (@HAppend.hAppend va_W va_W va_W _ ([((ma 0), .inl (X.2.1, 371, .inl fa))]) (@HAppend.hAppend va_W va_W va_W _ ([((ma 1), .inl (X.2.1, 742, .inl fk))]) (@HAppend.hAppend va_W va_W va_W _ ([((ma 2), .inl (X.2.2.1, 2, .inl fz))]) ([((ma 3), .inl (X.2.1, 3, .inl fr))]))))) sz)) (A := (va_A (@HAppend.hAppend va_W va_W va_W _ (mW m0 ma la lb n t v) (@HAppend.hAppend va_W va_W va_W _ ([((ma 0), .inl (X.2.1, 371, .inl fa))]) (@HAppend.hAppend va_W va_W va_W _ ([((ma 1), .inl (X.2.1, 742, .inl fk))]) (@HAppend.hAppend va_W va_W va_W _ ([((ma 2), .inl (X.2.2.1, 2, .inl fz))]) ([((ma 3), .inl (X.2.1, 3, .inl fr))]))))) sz)) (cc := cX11_image) (maxL := 3) (ret := (some .int)) (by decide) rfl (Nat.le_of_ble_eq_true rfl) k_w k_a (fun p e s m below meth c S zr zlk znm zsz G ls hl => ?_)
  have S : CallFix p m c cX11_image 3 s _ wsX11_image RX11 := S
  have zx := S.1
  have zb := S.2.1
  have hl : lv_has ls 3 [(0, .ref m0), (1, .int x1)] := hl
  have hO_t := hI_t
  obtain ⟨ht0_t, ht1_t⟩ := hO_t
  have hO_fa := hI_fa.2
  obtain ⟨hm0_fa, hm1_fa, hm2_fa, hm3_fa, hm4_fa⟩ := hO_fa
  refine lv_iload_n zx zb dX11_image_0 rfl (lv_at hl 1 rfl) ?_
  refine lv_i2l (v := (Int32.toInt64 x1)) zx zb dX11_image_1 rfl ?_
  refine lv_lconst (v := (Int32.toInt64 0)) zx zb dX11_image_2 (by decide) ?_
  refine lv_lconst (v := (Int32.toInt64 1)) zx zb dX11_image_3 (by decide) ?_
  refine o_ri (cells' := 0) (slots' := 0) G rfl rfl (n_S (As := [.long (Int32.toInt64 x1), .long (Int32.toInt64 0), .long (Int32.toInt64 1)]) (rest := []) S G (m_in l X x1 0 1 s.heap.size) gX11_image_X11_in rfl rfl rfl hdS_X11_in ⟨Nat.le_of_ble_eq_true rfl, Nat.le_of_ble_eq_true rfl⟩ [] rfl rfl rfl hl.1 (Nat.le_of_ble_eq_true rfl) dX11_image_4 ⟨Nat.le_of_ble_eq_true rfl, Nat.le_of_ble_eq_true rfl⟩) (fun r_1 u_1 H locs hp_1 G => ?_)
  have G : wd X (va_A (@HAppend.hAppend va_W va_W va_W _ (mW m0 ma la lb n t v) (@HAppend.hAppend va_W va_W va_W _ ([((ma 0), .inl (X.2.1, 371, .inl fa))]) (@HAppend.hAppend va_W va_W va_W _ ([((ma 1), .inl (X.2.1, 742, .inl fk))]) (@HAppend.hAppend va_W va_W va_W _ ([((ma 2), .inl (X.2.2.1, 2, .inl fz))]) ([((ma 3), .inl (X.2.1, 3, .inl fr))]))))) sz) (va_A (@HAppend.hAppend va_W va_W va_W _ (mW m0 ma la lb n t v) (@HAppend.hAppend va_W va_W va_W _ ([((ma 0), .inl (X.2.1, 371, .inl fa))]) (@HAppend.hAppend va_W va_W va_W _ ([((ma 1), .inl (X.2.1, 742, .inl fk))]) (@HAppend.hAppend va_W va_W va_W _ ([((ma 2), .inl (X.2.2.1, 2, .inl fz))]) ([((ma 3), .inl (X.2.1, 3, .inl fr))]))))) sz) s (@HAppend.hAppend va_W va_W va_W _ (mW m0 ma la lb n t v) (@HAppend.hAppend va_W va_W va_W _ ([((ma 0), .inl (X.2.1, 371, .inl fa))]) (@HAppend.hAppend va_W va_W va_W _ ([((ma 1), .inl (X.2.1, 742, .inl fk))]) (@HAppend.hAppend va_W va_W va_W _ ([((ma 2), .inl (X.2.2.1, 2, .inl fz))]) ([((ma 3), .inl (X.2.1, 3, .inl fr))]))))) H locs := G
  rcases hp_1 with ⟨rfl, hw_1⟩ | ⟨rfl, hw_1⟩
  · obtain ⟨j_1, ⟨ja_1, jb_1⟩, rfl⟩ := k_natR (a := 0) (b := 1) hw_1 rfl rfl (by decide) (by decide)
    refine lv_if_ne (tgt := 17) zx zb dX11_image_7 (by decide) (fun c_2 => ?_) (fun c_2 => absurd c_2 (by decide))
    rcases k_2c (show j_1 < 2 by omega) with rfl | rfl
    · have hl : lv_has ls 3 [(0, .ref m0), (1, .int 0)] := hl
      refine lv_iconst (v := 0) zx zb dX11_image_17 (by decide) ?_
      refine lv_istore_n (lv' := [(2, .int 0), (0, .ref m0), (1, .int 0)]) zx zb dX11_image_18 rfl hl (by decide) rfl (fun ls hl => ?_)
      refine k_loop (P := ∀ (zm : Nat) (n19_2 : Nat) (f19_2 : Nat → Int32) (e019_2 : Nat) (e119_2 : Nat) (e219_2 : Nat) (e319_2 : Nat) (e419_2 : Nat) (H : Heap) (locs : List Loc) (ls : Array Slot), ((371 - n19_2) < zm) → (∀ q : Nat, q < n19_2 → f19_2 (0 + q) = fa q) → (∀ q : Nat, 371 ≤ q → f19_2 q = fk q) → InK f19_2 e019_2 e119_2 e219_2 e319_2 e419_2 o0 o1 o2 o3 o4 → (n19_2 ≤ 371) → wd X (va_A (@HAppend.hAppend va_W va_W va_W _ (mW m0 ma la lb n t v) (@HAppend.hAppend va_W va_W va_W _ ([((ma 0), .inl (X.2.1, 371, .inl fa))]) (@HAppend.hAppend va_W va_W va_W _ ([((ma 1), .inl (X.2.1, 742, .inl fk))]) (@HAppend.hAppend va_W va_W va_W _ ([((ma 2), .inl (X.2.2.1, 2, .inl fz))]) ([((ma 3), .inl (X.2.1, 3, .inl fr))]))))) sz) (va_A (@HAppend.hAppend va_W va_W va_W _ (mW m0 ma la lb n t v) (@HAppend.hAppend va_W va_W va_W _ ([((ma 0), .inl (X.2.1, 371, .inl fa))]) (@HAppend.hAppend va_W va_W va_W _ ([((ma 1), .inl (X.2.1, 742, .inl fk))]) (@HAppend.hAppend va_W va_W va_W _ ([((ma 2), .inl (X.2.2.1, 2, .inl fz))]) ([((ma 3), .inl (X.2.1, 3, .inl fr))]))))) sz) s (@HAppend.hAppend va_W va_W va_W _ (mW m0 ma la lb n t v) (@HAppend.hAppend va_W va_W va_W _ ([((ma 0), .inl (X.2.1, 371, .inl fa))]) (@HAppend.hAppend va_W va_W va_W _ ([((ma 1), .inl (X.2.1, 742, .inl f19_2))]) (@HAppend.hAppend va_W va_W va_W _ ([((ma 2), .inl (X.2.2.1, 2, .inl fz))]) ([((ma 3), .inl (X.2.1, 3, .inl fr))]))))) H locs → lv_has ls 3 [(2, .int (nI n19_2)), (0, .ref m0), (1, .int 0)] → W p l e _ s m _ below meth c H locs _ _ _ (F0 m 19 ls [])) (fun loop => loop ((371 - 0) + 1) 0 fk e0 e1 e2 e3 e4 _ _ _ (by omega) (fun q h => absurd h (Nat.not_lt_zero q)) (fun _ _ => rfl) hI_fk (by omega) G hl) ?_
      intro zm
      induction zm with
      | zero => intro n19_2 f19_2 e019_2 e119_2 e219_2 e319_2 e419_2 H locs ls zz q_x0 q_x1 q_hI_f19_2 q_hk_n19_2 _ _; exact absurd zz (by omega)
      | succ zm ih19 =>
        intro n19_2 f19_2 e019_2 e119_2 e219_2 e319_2 e419_2 H locs ls zm_19 hx19_0 hx19_1 hI_f19_2 hk_n19_2 G hl
        refine lv_iload_n zx zb dX11_image_19 rfl (lv_at hl 0 rfl) ?_
        refine lv_sipush (v := 371) zx zb dX11_image_20 (by decide) ?_
        refine lv_icmp_ge (tgt := 50) zx zb dX11_image_23 (by decide) (fun c_3 => ?_) (fun c_3 => ?_)
        · have fc_3 := j_le (a := 371) (b := n19_2) (by omega) (by omega) c_3
          refine lv_aload_n zx zb dX11_image_50 rfl (lv_at hl 1 rfl) ?_
          refine r_get (C := RX11) (T := TX11) (N := 18) (ci := 9) (v := .ref (ma 2)) S in_X11_image_X11 G 0 rfl rfl 2 (by decide) lk_X11_image_16 rfl dX11_image_51 ?_
          refine lv_iload_n zx zb dX11_image_54 rfl (lv_at hl 2 rfl) ?_
          refine lv_iconst (v := 1) zx zb dX11_image_55 (by decide) ?_
          refine r_zast S G 3 rfl (k_vp (by decide)) dX11_image_56 (fun H locs G => ?_)
          obtain ⟨f_4, hE_f_4, G⟩ : ∃ f_4 : Nat → Int32, f_4 = upd fz (0 : Int32).toNatClampNeg 1 ∧ wd X (va_A (@HAppend.hAppend va_W va_W va_W _ (mW m0 ma la lb n t v) (@HAppend.hAppend va_W va_W va_W _ ([((ma 0), .inl (X.2.1, 371, .inl fa))]) (@HAppend.hAppend va_W va_W va_W _ ([((ma 1), .inl (X.2.1, 742, .inl fk))]) (@HAppend.hAppend va_W va_W va_W _ ([((ma 2), .inl (X.2.2.1, 2, .inl fz))]) ([((ma 3), .inl (X.2.1, 3, .inl fr))]))))) sz) (va_A (@HAppend.hAppend va_W va_W va_W _ (mW m0 ma la lb n t v) (@HAppend.hAppend va_W va_W va_W _ ([((ma 0), .inl (X.2.1, 371, .inl fa))]) (@HAppend.hAppend va_W va_W va_W _ ([((ma 1), .inl (X.2.1, 742, .inl fk))]) (@HAppend.hAppend va_W va_W va_W _ ([((ma 2), .inl (X.2.2.1, 2, .inl fz))]) ([((ma 3), .inl (X.2.1, 3, .inl fr))]))))) sz) s (@HAppend.hAppend va_W va_W va_W _ (mW m0 ma la lb n t v) (@HAppend.hAppend va_W va_W va_W _ ([((ma 0), .inl (X.2.1, 371, .inl fa))]) (@HAppend.hAppend va_W va_W va_W _ ([((ma 1), .inl (X.2.1, 742, .inl f19_2))]) (@HAppend.hAppend va_W va_W va_W _ ([((ma 2), .inl (X.2.2.1, 2, .inl f_4))]) ([((ma 3), .inl (X.2.1, 3, .inl fr))]))))) H locs := ⟨_, rfl, G⟩
          refine lv_iconst (v := 1) zx zb dX11_image_57 (by decide) ?_
          have hcc := InA_eq hI_fa hI_f19_2.1 (fun q hq => by have z := hx19_0 q (by omega); rw [Nat.zero_add] at z; exact z)
          have hzA : (1, (f_4, ((e019_2, e119_2, e219_2, e319_2), (o0, o1, o2, o3)))) = imgF 0 fz (c0, c1, c2, c3) (e0, e1, e2, e3) (o0, o1, o2, o3) := by rw [hE_f_4, hcc.1, hcc.2.1, hcc.2.2.1, hcc.2.2.2.1]; rfl
          have hzB : kepM 0 fa fk f19_2 := kep_0 (fun q hq => hx19_0 q (by omega)) (fun q hq => hx19_1 (371 + q) (by omega))
          exact e_int S zr zlk (vp_nar_int _) G (f19_2, e019_2, e119_2, e219_2, e319_2, e419_2, o0, o1, o2, o3, o4, f_4, fr) [0, 1, 2, 3, 4] rfl rfl (Or.inr rfl) (⟨hI_f19_2, ⟨hzA, hzB⟩⟩) dX11_image_58
        · have fc_3 := j_nle (a := 371) (b := n19_2) (by omega) (by omega) c_3
          refine lv_aload_n zx zb dX11_image_26 rfl (lv_at hl 1 rfl) ?_
          refine r_get (C := RX11) (T := TX11) (N := 18) (ci := 9) (v := .ref (ma 1)) S in_X11_image_X11 G 0 rfl rfl 1 (by decide) lk_X11_image_13 rfl dX11_image_27 ?_
          refine lv_sipush (v := 371) zx zb dX11_image_30 (by decide) ?_
          refine lv_iload_n zx zb dX11_image_33 rfl (lv_at hl 2 rfl) ?_
          refine r_imul (v := 0) S (by decide) dX11_image_34 ?_
          refine lv_iload_n zx zb dX11_image_35 rfl (lv_at hl 0 rfl) ?_
          refine r_iadd (v := (nI (0 + n19_2))) S (nI_add 0 n19_2) dX11_image_36 ?_
          refine lv_aload_n zx zb dX11_image_37 rfl (lv_at hl 1 rfl) ?_
          refine r_get (C := RX11) (T := TX11) (N := 18) (ci := 9) (v := .ref (ma 0)) S in_X11_image_X11 G 0 rfl rfl 0 (by decide) lk_X11_image_7 rfl dX11_image_38 ?_
          refine lv_iload_n zx zb dX11_image_41 rfl (lv_at hl 0 rfl) ?_
          refine r_iald (v := (fa n19_2)) S G 1 rfl (vp_in_nI (by omega) (by decide)) (congrArg fa (nI_clamp (by omega))) dX11_image_42 ?_
          refine r_iast S G 2 rfl (vp_in_nI (by omega) (by decide)) dX11_image_43 (fun H locs G => ?_)
          obtain ⟨c_7, c_8, c_9, c_10, c_11, hI_f_6⟩ := InK_0 (j := (nI (0 + n19_2)).toNatClampNeg) (k := n19_2) hI_f19_2 hI_fa (nI_clamp (by omega)) (by omega)
          obtain ⟨f_6, hI_f_6, hE_f_6, G⟩ : ∃ f_6 : Nat → Int32, InK f_6 c_7 c_8 c_9 c_10 c_11 o0 o1 o2 o3 o4 ∧ f_6 = upd f19_2 (nI (0 + n19_2)).toNatClampNeg (fa n19_2) ∧ wd X (va_A (@HAppend.hAppend va_W va_W va_W _ (mW m0 ma la lb n t v) (@HAppend.hAppend va_W va_W va_W _ ([((ma 0), .inl (X.2.1, 371, .inl fa))]) (@HAppend.hAppend va_W va_W va_W _ ([((ma 1), .inl (X.2.1, 742, .inl fk))]) (@HAppend.hAppend va_W va_W va_W _ ([((ma 2), .inl (X.2.2.1, 2, .inl fz))]) ([((ma 3), .inl (X.2.1, 3, .inl fr))]))))) sz) (va_A (@HAppend.hAppend va_W va_W va_W _ (mW m0 ma la lb n t v) (@HAppend.hAppend va_W va_W va_W _ ([((ma 0), .inl (X.2.1, 371, .inl fa))]) (@HAppend.hAppend va_W va_W va_W _ ([((ma 1), .inl (X.2.1, 742, .inl fk))]) (@HAppend.hAppend va_W va_W va_W _ ([((ma 2), .inl (X.2.2.1, 2, .inl fz))]) ([((ma 3), .inl (X.2.1, 3, .inl fr))]))))) sz) s (@HAppend.hAppend va_W va_W va_W _ (mW m0 ma la lb n t v) (@HAppend.hAppend va_W va_W va_W _ ([((ma 0), .inl (X.2.1, 371, .inl fa))]) (@HAppend.hAppend va_W va_W va_W _ ([((ma 1), .inl (X.2.1, 742, .inl f_6))]) (@HAppend.hAppend va_W va_W va_W _ ([((ma 2), .inl (X.2.2.1, 2, .inl fz))]) ([((ma 3), .inl (X.2.1, 3, .inl fr))]))))) H locs := ⟨_, hI_f_6, rfl, G⟩
          refine lv_iinc (v := (nI (n19_2 + 1))) (lv' := [(2, .int (nI (n19_2 + 1))), (0, .ref m0), (1, .int 0)]) zx zb dX11_image_44 hl (k := 0) rfl (nI_add n19_2 1) (by decide) rfl (fun ls hl => ?_)
          refine lv_goto (tgt := 19) zx zb dX11_image_47 (by decide) ?_
          exact ih19 (n19_2 + 1) f_6 c_7 c_8 c_9 c_10 c_11 _ _ _ (by omega) (k_cpo hE_f_6 (nI_clamp (by omega)) hx19_0) (k_oth hE_f_6 hx19_1 (fun i hi => by rw [nI_clamp (by omega)]; omega)) hI_f_6 (by omega) G hl
    · have hl : lv_has ls 3 [(0, .ref m0), (1, .int 1)] := hl
      refine lv_iconst (v := 0) zx zb dX11_image_17 (by decide) ?_
      refine lv_istore_n (lv' := [(2, .int 0), (0, .ref m0), (1, .int 1)]) zx zb dX11_image_18 rfl hl (by decide) rfl (fun ls hl => ?_)
      refine k_loop (P := ∀ (zm : Nat) (n19_2 : Nat) (f19_2 : Nat → Int32) (o019_2 : Nat) (o119_2 : Nat) (o219_2 : Nat) (o319_2 : Nat) (o419_2 : Nat) (H : Heap) (locs : List Loc) (ls : Array Slot), ((371 - n19_2) < zm) → (∀ q : Nat, q < n19_2 → f19_2 (371 + q) = fa q) → (∀ q : Nat, q < 371 → f19_2 q = fk q) → InK f19_2 e0 e1 e2 e3 e4 o019_2 o119_2 o219_2 o319_2 o419_2 → (n19_2 ≤ 371) → wd X (va_A (@HAppend.hAppend va_W va_W va_W _ (mW m0 ma la lb n t v) (@HAppend.hAppend va_W va_W va_W _ ([((ma 0), .inl (X.2.1, 371, .inl fa))]) (@HAppend.hAppend va_W va_W va_W _ ([((ma 1), .inl (X.2.1, 742, .inl fk))]) (@HAppend.hAppend va_W va_W va_W _ ([((ma 2), .inl (X.2.2.1, 2, .inl fz))]) ([((ma 3), .inl (X.2.1, 3, .inl fr))]))))) sz) (va_A (@HAppend.hAppend va_W va_W va_W _ (mW m0 ma la lb n t v) (@HAppend.hAppend va_W va_W va_W _ ([((ma 0), .inl (X.2.1, 371, .inl fa))]) (@HAppend.hAppend va_W va_W va_W _ ([((ma 1), .inl (X.2.1, 742, .inl fk))]) (@HAppend.hAppend va_W va_W va_W _ ([((ma 2), .inl (X.2.2.1, 2, .inl fz))]) ([((ma 3), .inl (X.2.1, 3, .inl fr))]))))) sz) s (@HAppend.hAppend va_W va_W va_W _ (mW m0 ma la lb n t v) (@HAppend.hAppend va_W va_W va_W _ ([((ma 0), .inl (X.2.1, 371, .inl fa))]) (@HAppend.hAppend va_W va_W va_W _ ([((ma 1), .inl (X.2.1, 742, .inl f19_2))]) (@HAppend.hAppend va_W va_W va_W _ ([((ma 2), .inl (X.2.2.1, 2, .inl fz))]) ([((ma 3), .inl (X.2.1, 3, .inl fr))]))))) H locs → lv_has ls 3 [(2, .int (nI n19_2)), (0, .ref m0), (1, .int 1)] → W p l e _ s m _ below meth c H locs _ _ _ (F0 m 19 ls [])) (fun loop => loop ((371 - 0) + 1) 0 fk o0 o1 o2 o3 o4 _ _ _ (by omega) (fun q h => absurd h (Nat.not_lt_zero q)) (fun _ _ => rfl) hI_fk (by omega) G hl) ?_
      intro zm
      induction zm with
      | zero => intro n19_2 f19_2 o019_2 o119_2 o219_2 o319_2 o419_2 H locs ls zz q_x0 q_x1 q_hI_f19_2 q_hk_n19_2 _ _; exact absurd zz (by omega)
      | succ zm ih19 =>
        intro n19_2 f19_2 o019_2 o119_2 o219_2 o319_2 o419_2 H locs ls zm_19 hx19_0 hx19_1 hI_f19_2 hk_n19_2 G hl
        refine lv_iload_n zx zb dX11_image_19 rfl (lv_at hl 0 rfl) ?_
        refine lv_sipush (v := 371) zx zb dX11_image_20 (by decide) ?_
        refine lv_icmp_ge (tgt := 50) zx zb dX11_image_23 (by decide) (fun c_12 => ?_) (fun c_12 => ?_)
        · have fc_12 := j_le (a := 371) (b := n19_2) (by omega) (by omega) c_12
          refine lv_aload_n zx zb dX11_image_50 rfl (lv_at hl 1 rfl) ?_
          refine r_get (C := RX11) (T := TX11) (N := 18) (ci := 9) (v := .ref (ma 2)) S in_X11_image_X11 G 0 rfl rfl 2 (by decide) lk_X11_image_16 rfl dX11_image_51 ?_
          refine lv_iload_n zx zb dX11_image_54 rfl (lv_at hl 2 rfl) ?_
          refine lv_iconst (v := 1) zx zb dX11_image_55 (by decide) ?_
          refine r_zast S G 3 rfl (k_vp (by decide)) dX11_image_56 (fun H locs G => ?_)
          obtain ⟨f_13, hE_f_13, G⟩ : ∃ f_13 : Nat → Int32, f_13 = upd fz (1 : Int32).toNatClampNeg 1 ∧ wd X (va_A (@HAppend.hAppend va_W va_W va_W _ (mW m0 ma la lb n t v) (@HAppend.hAppend va_W va_W va_W _ ([((ma 0), .inl (X.2.1, 371, .inl fa))]) (@HAppend.hAppend va_W va_W va_W _ ([((ma 1), .inl (X.2.1, 742, .inl fk))]) (@HAppend.hAppend va_W va_W va_W _ ([((ma 2), .inl (X.2.2.1, 2, .inl fz))]) ([((ma 3), .inl (X.2.1, 3, .inl fr))]))))) sz) (va_A (@HAppend.hAppend va_W va_W va_W _ (mW m0 ma la lb n t v) (@HAppend.hAppend va_W va_W va_W _ ([((ma 0), .inl (X.2.1, 371, .inl fa))]) (@HAppend.hAppend va_W va_W va_W _ ([((ma 1), .inl (X.2.1, 742, .inl fk))]) (@HAppend.hAppend va_W va_W va_W _ ([((ma 2), .inl (X.2.2.1, 2, .inl fz))]) ([((ma 3), .inl (X.2.1, 3, .inl fr))]))))) sz) s (@HAppend.hAppend va_W va_W va_W _ (mW m0 ma la lb n t v) (@HAppend.hAppend va_W va_W va_W _ ([((ma 0), .inl (X.2.1, 371, .inl fa))]) (@HAppend.hAppend va_W va_W va_W _ ([((ma 1), .inl (X.2.1, 742, .inl f19_2))]) (@HAppend.hAppend va_W va_W va_W _ ([((ma 2), .inl (X.2.2.1, 2, .inl f_13))]) ([((ma 3), .inl (X.2.1, 3, .inl fr))]))))) H locs := ⟨_, rfl, G⟩
          refine lv_iconst (v := 1) zx zb dX11_image_57 (by decide) ?_
          have hcc := InA_eq hI_fa hI_f19_2.2 (fun q hq => hx19_0 q (by omega))
          have hzA : (1, (f_13, ((e0, e1, e2, e3), (o019_2, o119_2, o219_2, o319_2)))) = imgF 1 fz (c0, c1, c2, c3) (e0, e1, e2, e3) (o0, o1, o2, o3) := by rw [hE_f_13, hcc.1, hcc.2.1, hcc.2.2.1, hcc.2.2.2.1]; rfl
          have hzB : kepM 1 fa fk f19_2 := kep_1 (fun q hq => hx19_0 q (by omega)) (fun q hq => hx19_1 q (by omega))
          exact e_int S zr zlk (vp_nar_int _) G (f19_2, e0, e1, e2, e3, e4, o019_2, o119_2, o219_2, o319_2, o419_2, f_13, fr) [0, 1, 2, 3, 4] rfl rfl (Or.inr rfl) (⟨hI_f19_2, ⟨hzA, hzB⟩⟩) dX11_image_58
        · have fc_12 := j_nle (a := 371) (b := n19_2) (by omega) (by omega) c_12
          refine lv_aload_n zx zb dX11_image_26 rfl (lv_at hl 1 rfl) ?_
          refine r_get (C := RX11) (T := TX11) (N := 18) (ci := 9) (v := .ref (ma 1)) S in_X11_image_X11 G 0 rfl rfl 1 (by decide) lk_X11_image_13 rfl dX11_image_27 ?_
          refine lv_sipush (v := 371) zx zb dX11_image_30 (by decide) ?_
          refine lv_iload_n zx zb dX11_image_33 rfl (lv_at hl 2 rfl) ?_
          refine r_imul (v := 371) S (by decide) dX11_image_34 ?_
          refine lv_iload_n zx zb dX11_image_35 rfl (lv_at hl 0 rfl) ?_
          refine r_iadd (v := (nI (371 + n19_2))) S (nI_add 371 n19_2) dX11_image_36 ?_
          refine lv_aload_n zx zb dX11_image_37 rfl (lv_at hl 1 rfl) ?_
          refine r_get (C := RX11) (T := TX11) (N := 18) (ci := 9) (v := .ref (ma 0)) S in_X11_image_X11 G 0 rfl rfl 0 (by decide) lk_X11_image_7 rfl dX11_image_38 ?_
          refine lv_iload_n zx zb dX11_image_41 rfl (lv_at hl 0 rfl) ?_
          refine r_iald (v := (fa n19_2)) S G 1 rfl (vp_in_nI (by omega) (by decide)) (congrArg fa (nI_clamp (by omega))) dX11_image_42 ?_
          refine r_iast S G 2 rfl (vp_in_nI (by omega) (by decide)) dX11_image_43 (fun H locs G => ?_)
          obtain ⟨c_16, c_17, c_18, c_19, c_20, hI_f_15⟩ := InK_1 (j := (nI (371 + n19_2)).toNatClampNeg) (k := n19_2) hI_f19_2 hI_fa (nI_clamp (by omega)) (by omega)
          obtain ⟨f_15, hI_f_15, hE_f_15, G⟩ : ∃ f_15 : Nat → Int32, InK f_15 e0 e1 e2 e3 e4 c_16 c_17 c_18 c_19 c_20 ∧ f_15 = upd f19_2 (nI (371 + n19_2)).toNatClampNeg (fa n19_2) ∧ wd X (va_A (@HAppend.hAppend va_W va_W va_W _ (mW m0 ma la lb n t v) (@HAppend.hAppend va_W va_W va_W _ ([((ma 0), .inl (X.2.1, 371, .inl fa))]) (@HAppend.hAppend va_W va_W va_W _ ([((ma 1), .inl (X.2.1, 742, .inl fk))]) (@HAppend.hAppend va_W va_W va_W _ ([((ma 2), .inl (X.2.2.1, 2, .inl fz))]) ([((ma 3), .inl (X.2.1, 3, .inl fr))]))))) sz) (va_A (@HAppend.hAppend va_W va_W va_W _ (mW m0 ma la lb n t v) (@HAppend.hAppend va_W va_W va_W _ ([((ma 0), .inl (X.2.1, 371, .inl fa))]) (@HAppend.hAppend va_W va_W va_W _ ([((ma 1), .inl (X.2.1, 742, .inl fk))]) (@HAppend.hAppend va_W va_W va_W _ ([((ma 2), .inl (X.2.2.1, 2, .inl fz))]) ([((ma 3), .inl (X.2.1, 3, .inl fr))]))))) sz) s (@HAppend.hAppend va_W va_W va_W _ (mW m0 ma la lb n t v) (@HAppend.hAppend va_W va_W va_W _ ([((ma 0), .inl (X.2.1, 371, .inl fa))]) (@HAppend.hAppend va_W va_W va_W _ ([((ma 1), .inl (X.2.1, 742, .inl f_15))]) (@HAppend.hAppend va_W va_W va_W _ ([((ma 2), .inl (X.2.2.1, 2, .inl fz))]) ([((ma 3), .inl (X.2.1, 3, .inl fr))]))))) H locs := ⟨_, hI_f_15, rfl, G⟩
          refine lv_iinc (v := (nI (n19_2 + 1))) (lv' := [(2, .int (nI (n19_2 + 1))), (0, .ref m0), (1, .int 1)]) zx zb dX11_image_44 hl (k := 0) rfl (nI_add n19_2 1) (by decide) rfl (fun ls hl => ?_)
          refine lv_goto (tgt := 19) zx zb dX11_image_47 (by decide) ?_
          exact ih19 (n19_2 + 1) f_15 c_16 c_17 c_18 c_19 c_20 _ _ _ (by omega) (k_cpo hE_f_15 (nI_clamp (by omega)) hx19_0) (k_oth hE_f_15 hx19_1 (fun i hi => by rw [nI_clamp (by omega)]; omega)) hI_f_15 (by omega) G hl
  · refine lv_if_ne (tgt := 17) zx zb dX11_image_7 (by decide) (fun c_21 => absurd (by decide) c_21) (fun c_21 => ?_)
    refine lv_aload_n zx zb dX11_image_10 rfl (lv_at hl 0 rfl) ?_
    refine lv_bipush (v := (-2)) zx zb dX11_image_11 (by decide) ?_
    refine b_wi (cells' := 0) (slots' := 0) (wr := @HAppend.hAppend va_W va_W va_W _ ([((ma 0), .inl (X.2.1, 371, .inl fa))]) (@HAppend.hAppend va_W va_W va_W _ ([((ma 1), .inl (X.2.1, 742, .inl fk))]) ([((ma 2), .inl (X.2.2.1, 2, .inl fz))]))) G rfl rfl [0, 4] [1, 2, 3] rfl rfl rfl rfl (n_V (As := [.int (-2)]) (rest := []) (C := RX11) (T := TX11) (N := 18) (ci := 9) S G (m_bad l X m0 ma la lb n t v fr (-2) hI_n hI_t H.size) gX11_image_X11_bad rfl rfl rfl hdV_X11_bad ⟨Nat.le_of_ble_eq_true rfl, Nat.le_of_ble_eq_true rfl⟩ [0, 4] rfl rfl 0 rfl rfl rfl hl.1 (Nat.le_of_ble_eq_true rfl) dX11_image_13 ⟨Nat.le_of_ble_eq_true rfl, Nat.le_of_ble_eq_true rfl⟩) (fun r_22 u_22 H locs hp_22 G => ?_)
    obtain ⟨f_22, rfl⟩ : ∃ z, z = u_22 := ⟨_, rfl⟩
    have hq_22 := hp_22
    have G : wd X (va_A (@HAppend.hAppend va_W va_W va_W _ (mW m0 ma la lb n t v) (@HAppend.hAppend va_W va_W va_W _ ([((ma 0), .inl (X.2.1, 371, .inl fa))]) (@HAppend.hAppend va_W va_W va_W _ ([((ma 1), .inl (X.2.1, 742, .inl fk))]) (@HAppend.hAppend va_W va_W va_W _ ([((ma 2), .inl (X.2.2.1, 2, .inl fz))]) ([((ma 3), .inl (X.2.1, 3, .inl fr))]))))) sz) (va_A (@HAppend.hAppend va_W va_W va_W _ (mW m0 ma la lb n t v) (@HAppend.hAppend va_W va_W va_W _ ([((ma 0), .inl (X.2.1, 371, .inl fa))]) (@HAppend.hAppend va_W va_W va_W _ ([((ma 1), .inl (X.2.1, 742, .inl fk))]) (@HAppend.hAppend va_W va_W va_W _ ([((ma 2), .inl (X.2.2.1, 2, .inl fz))]) ([((ma 3), .inl (X.2.1, 3, .inl fr))]))))) sz) s (@HAppend.hAppend va_W va_W va_W _ ([((ma 0), .inl (X.2.1, 371, .inl fa))]) (@HAppend.hAppend va_W va_W va_W _ ([((ma 1), .inl (X.2.1, 742, .inl fk))]) (@HAppend.hAppend va_W va_W va_W _ ([((ma 2), .inl (X.2.2.1, 2, .inl fz))]) (@HAppend.hAppend va_W va_W va_W _ (mW m0 ma la lb n t v) ([((ma 3), .inl (X.2.1, 3, .inl f_22))]))))) H locs := G
    obtain rfl := hq_22
    have hzA : ((-2), (fz, ((e0, e1, e2, e3), (o0, o1, o2, o3)))) = imgF x1 fz (c0, c1, c2, c3) (e0, e1, e2, e3) (o0, o1, o2, o3) := (imgF_n (fun h => hw_1 h)).symm
    exact e_int S zr zlk (vp_nar_int _) G (fk, e0, e1, e2, e3, e4, o0, o1, o2, o3, o4, fz, f_22) [3, 0, 1, 2, 4] rfl rfl (Or.inr rfl) (⟨hI_fk, ⟨hzA, kep_n (fun h => hw_1 h)⟩⟩) dX11_image_16
set_option maxHeartbeats 4000000 in
set_option maxRecDepth 100000 in
theorem y_from (l : Launch) (X : EX) (m0 : Nat) (ma : Nat → Nat) (la : Int64) (lb : Int64) (n : Nat) (t : Nat → Nat) (v : Nat → Int32) (fa : Nat → Int32) (c0 : Nat) (c1 : Nat) (c2 : Nat) (c3 : Nat) (c4 : Nat) (fk : Nat → Int32) (e0 : Nat) (e1 : Nat) (e2 : Nat) (e3 : Nat) (e4 : Nat) (o0 : Nat) (o1 : Nat) (o2 : Nat) (o3 : Nat) (o4 : Nat) (fz : Nat → Int32) (fr : Nat → Int32) (x1 : Int32) (hI_n : n ≤ 150) (hI_t : InT t) (hI_fa : InA fa c0 c1 c2 c3 c4) (hI_fk : InK fk e0 e1 e2 e3 e4 o0 o1 o2 o3 o4) (sz : Nat) : Met l yX11_from wsX11_from ({ frames := 1, cells := 0, slots := 0, locals := 25 } : Room) (pE X [.ref m0, .int x1] (@HAppend.hAppend va_W va_W va_W _ (mW m0 ma la lb n t v) (@HAppend.hAppend va_W va_W va_W _ ([((ma 0), .inl (X.2.1, 371, .inl fa))]) (@HAppend.hAppend va_W va_W va_W _ ([((ma 1), .inl (X.2.1, 742, .inl fk))]) (@HAppend.hAppend va_W va_W va_W _ ([((ma 2), .inl (X.2.2.1, 2, .inl fz))]) ([((ma 3), .inl (X.2.1, 3, .inl fr))]))))) sz) (qI (fun (r : Int32) (u : (Nat → Int32) × (Nat) × (Nat) × (Nat) × (Nat) × (Nat) × (Nat → Int32)) => InA u.1 u.2.1 u.2.2.1 u.2.2.2.1 u.2.2.2.2.1 u.2.2.2.2.2.1 ∧ (((r, (u.2.1, u.2.2.1, u.2.2.2.1, u.2.2.2.2.1)) = frmF x1 fz (c0, c1, c2, c3) (e0, e1, e2, e3) (o0, o1, o2, o3)) ∧ takM x1 fz fk fa u.1)) X (fun (u : (Nat → Int32) × (Nat) × (Nat) × (Nat) × (Nat) × (Nat) × (Nat → Int32)) => @HAppend.hAppend va_W va_W va_W _ (mW m0 ma la lb n t v) (@HAppend.hAppend va_W va_W va_W _ ([((ma 0), .inl (X.2.1, 371, .inl u.1))]) (@HAppend.hAppend va_W va_W va_W _ ([((ma 1), .inl (X.2.1, 742, .inl fk))]) (@HAppend.hAppend va_W va_W va_W _ ([((ma 2), .inl (X.2.2.1, 2, .inl fz))]) ([((ma 3), .inl (X.2.1, 3, .inl u.2.2.2.2.2.2))]))))) (@HAppend.hAppend va_W va_W va_W _ (mW m0 ma la lb n t v) (@HAppend.hAppend va_W va_W va_W _ ([((ma 0), .inl (X.2.1, 371, .inl fa))]) (@HAppend.hAppend va_W va_W va_W _ ([((ma 1), .inl (X.2.1, 742, .inl fk))]) (@HAppend.hAppend va_W va_W va_W _ ([((ma 2), .inl (X.2.2.1, 2, .inl fz))]) ([((ma 3), .inl (X.2.1, 3, .inl fr))]))))) sz) 0 0 (va_A (@HAppend.hAppend va_W va_W va_W _ (mW m0 ma la lb n t v) (@HAppend.hAppend va_W va_W va_W _ ([((ma 0), .inl (X.2.1, 371, .inl fa))]) (@HAppend.hAppend va_W va_W va_W _ ([((ma 1), .inl (X.2.1, 742, .inl fk))]) (@HAppend.hAppend va_W va_W va_W _ ([((ma 2), .inl (X.2.2.1, 2, .inl fz))]) ([((ma 3), .inl (X.2.1, 3, .inl fr))]))))) sz) := by
  refine mk_met (B := (va_A (@HAppend.hAppend va_W va_W va_W _ (mW m0 ma la lb n t v) (@HAppend.hAppend va_W va_W va_W _ ([((ma 0), .inl (X.2.1, 371, .inl fa))]) (@HAppend.hAppend va_W va_W va_W _ ([((ma 1), .inl (X.2.1, 742, .inl fk))]) (@HAppend.hAppend va_W va_W va_W _ ([((ma 2), .inl (X.2.2.1, 2, .inl fz))]) ([((ma 3), .inl (X.2.1, 3, .inl fr))]))))) sz)) (A := (va_A (@HAppend.hAppend va_W va_W va_W _ (mW m0 ma la lb n t v) (@HAppend.hAppend va_W va_W va_W _ ([((ma 0), .inl (X.2.1, 371, .inl fa))]) (@HAppend.hAppend va_W va_W va_W _ ([((ma 1), .inl (X.2.1, 742, .inl fk))]) (@HAppend.hAppend va_W va_W va_W _ ([((ma 2), .inl (X.2.2.1, 2, .inl fz))]) ([((ma 3), .inl (X.2.1, 3, .inl fr))]))))) sz)) (cc := cX11_from) (maxL := 3) (ret := (some .int)) (by decide) rfl (Nat.le_of_ble_eq_true rfl) k_w k_a (fun p e s m below meth c S zr zlk znm zsz G ls hl => ?_)
  have S : CallFix p m c cX11_from 3 s _ wsX11_from RX11 := S
  have zx := S.1
  have zb := S.2.1
  have hl : lv_has ls 3 [(0, .ref m0), (1, .int x1)] := hl
  have hO_t := hI_t
  obtain ⟨ht0_t, ht1_t⟩ := hO_t
  have hO_fa := hI_fa.2
  obtain ⟨hm0_fa, hm1_fa, hm2_fa, hm3_fa, hm4_fa⟩ := hO_fa
  refine lv_iload_n zx zb dX11_from_0 rfl (lv_at hl 1 rfl) ?_
  refine lv_i2l (v := (Int32.toInt64 x1)) zx zb dX11_from_1 rfl ?_
  refine lv_lconst (v := (Int32.toInt64 0)) zx zb dX11_from_2 (by decide) ?_
  refine lv_lconst (v := (Int32.toInt64 1)) zx zb dX11_from_3 (by decide) ?_
  refine o_ri (cells' := 0) (slots' := 0) G rfl rfl (n_S (As := [.long (Int32.toInt64 x1), .long (Int32.toInt64 0), .long (Int32.toInt64 1)]) (rest := []) S G (m_in l X x1 0 1 s.heap.size) gX11_from_X11_in rfl rfl rfl hdS_X11_in ⟨Nat.le_of_ble_eq_true rfl, Nat.le_of_ble_eq_true rfl⟩ [] rfl rfl rfl hl.1 (Nat.le_of_ble_eq_true rfl) dX11_from_4 ⟨Nat.le_of_ble_eq_true rfl, Nat.le_of_ble_eq_true rfl⟩) (fun r_1 u_1 H locs hp_1 G => ?_)
  have G : wd X (va_A (@HAppend.hAppend va_W va_W va_W _ (mW m0 ma la lb n t v) (@HAppend.hAppend va_W va_W va_W _ ([((ma 0), .inl (X.2.1, 371, .inl fa))]) (@HAppend.hAppend va_W va_W va_W _ ([((ma 1), .inl (X.2.1, 742, .inl fk))]) (@HAppend.hAppend va_W va_W va_W _ ([((ma 2), .inl (X.2.2.1, 2, .inl fz))]) ([((ma 3), .inl (X.2.1, 3, .inl fr))]))))) sz) (va_A (@HAppend.hAppend va_W va_W va_W _ (mW m0 ma la lb n t v) (@HAppend.hAppend va_W va_W va_W _ ([((ma 0), .inl (X.2.1, 371, .inl fa))]) (@HAppend.hAppend va_W va_W va_W _ ([((ma 1), .inl (X.2.1, 742, .inl fk))]) (@HAppend.hAppend va_W va_W va_W _ ([((ma 2), .inl (X.2.2.1, 2, .inl fz))]) ([((ma 3), .inl (X.2.1, 3, .inl fr))]))))) sz) s (@HAppend.hAppend va_W va_W va_W _ (mW m0 ma la lb n t v) (@HAppend.hAppend va_W va_W va_W _ ([((ma 0), .inl (X.2.1, 371, .inl fa))]) (@HAppend.hAppend va_W va_W va_W _ ([((ma 1), .inl (X.2.1, 742, .inl fk))]) (@HAppend.hAppend va_W va_W va_W _ ([((ma 2), .inl (X.2.2.1, 2, .inl fz))]) ([((ma 3), .inl (X.2.1, 3, .inl fr))]))))) H locs := G
  rcases hp_1 with ⟨rfl, hw_1⟩ | ⟨rfl, hw_1⟩
  · obtain ⟨j_1, ⟨ja_1, jb_1⟩, rfl⟩ := k_natR (a := 0) (b := 1) hw_1 rfl rfl (by decide) (by decide)
    refine lv_if_ne (tgt := 17) zx zb dX11_from_7 (by decide) (fun c_2 => ?_) (fun c_2 => absurd c_2 (by decide))
    rcases k_2c (show j_1 < 2 by omega) with rfl | rfl
    · have hl : lv_has ls 3 [(0, .ref m0), (1, .int 0)] := hl
      refine lv_aload_n zx zb dX11_from_17 rfl (lv_at hl 0 rfl) ?_
      refine r_get (C := RX11) (T := TX11) (N := 18) (ci := 9) (v := .ref (ma 2)) S in_X11_from_X11 G 0 rfl rfl 2 (by decide) lk_X11_from_16 rfl dX11_from_18 ?_
      refine lv_iload_n zx zb dX11_from_21 rfl (lv_at hl 1 rfl) ?_
      refine r_zald (v := (fz (0 : Int32).toNatClampNeg)) S G 3 rfl (k_vp (by decide)) rfl dX11_from_22 ?_
      refine lv_if_ne (tgt := 31) zx zb dX11_from_23 (by decide) (fun c_4 => ?_) (fun c_4 => ?_)
      · refine lv_iconst (v := 0) zx zb dX11_from_31 (by decide) ?_
        refine lv_istore_n (lv' := [(2, .int 0), (0, .ref m0), (1, .int 0)]) zx zb dX11_from_32 rfl hl (by decide) rfl (fun ls hl => ?_)
        refine k_loop (P := ∀ (zm : Nat) (n33_2 : Nat) (f33_1 : Nat → Int32) (c033_1 : Nat) (c133_1 : Nat) (c233_1 : Nat) (c333_1 : Nat) (c433_1 : Nat) (H : Heap) (locs : List Loc) (ls : Array Slot), ((371 - n33_2) < zm) → ((∀ q : Nat, q < n33_2 → f33_1 q = fk (0 + q)) ∧ ∀ q : Nat, n33_2 ≤ q → f33_1 q = fa q) → InA f33_1 c033_1 c133_1 c233_1 c333_1 c433_1 → (n33_2 ≤ 371) → wd X (va_A (@HAppend.hAppend va_W va_W va_W _ (mW m0 ma la lb n t v) (@HAppend.hAppend va_W va_W va_W _ ([((ma 0), .inl (X.2.1, 371, .inl fa))]) (@HAppend.hAppend va_W va_W va_W _ ([((ma 1), .inl (X.2.1, 742, .inl fk))]) (@HAppend.hAppend va_W va_W va_W _ ([((ma 2), .inl (X.2.2.1, 2, .inl fz))]) ([((ma 3), .inl (X.2.1, 3, .inl fr))]))))) sz) (va_A (@HAppend.hAppend va_W va_W va_W _ (mW m0 ma la lb n t v) (@HAppend.hAppend va_W va_W va_W _ ([((ma 0), .inl (X.2.1, 371, .inl fa))]) (@HAppend.hAppend va_W va_W va_W _ ([((ma 1), .inl (X.2.1, 742, .inl fk))]) (@HAppend.hAppend va_W va_W va_W _ ([((ma 2), .inl (X.2.2.1, 2, .inl fz))]) ([((ma 3), .inl (X.2.1, 3, .inl fr))]))))) sz) s (@HAppend.hAppend va_W va_W va_W _ (mW m0 ma la lb n t v) (@HAppend.hAppend va_W va_W va_W _ ([((ma 0), .inl (X.2.1, 371, .inl f33_1))]) (@HAppend.hAppend va_W va_W va_W _ ([((ma 1), .inl (X.2.1, 742, .inl fk))]) (@HAppend.hAppend va_W va_W va_W _ ([((ma 2), .inl (X.2.2.1, 2, .inl fz))]) ([((ma 3), .inl (X.2.1, 3, .inl fr))]))))) H locs → lv_has ls 3 [(2, .int (nI n33_2)), (0, .ref m0), (1, .int 0)] → W p l e _ s m _ below meth c H locs _ _ _ (F0 m 33 ls [])) (fun loop => loop ((371 - 0) + 1) 0 fa c0 c1 c2 c3 c4 _ _ _ (by omega) ⟨fun q h => absurd h (Nat.not_lt_zero q), fun q _ => rfl⟩ hI_fa (by omega) G hl) ?_
        intro zm
        induction zm with
        | zero => intro n33_2 f33_1 c033_1 c133_1 c233_1 c333_1 c433_1 H locs ls zz q_x0 q_hI_f33_1 q_hk_n33_2 _ _; exact absurd zz (by omega)
        | succ zm ih33 =>
          intro n33_2 f33_1 c033_1 c133_1 c233_1 c333_1 c433_1 H locs ls zm_33 hx33_0 hI_f33_1 hk_n33_2 G hl
          have hO_f33_1 := hI_f33_1.2
          obtain ⟨hm0_f33_1, hm1_f33_1, hm2_f33_1, hm3_f33_1, hm4_f33_1⟩ := hO_f33_1
          refine lv_iload_n zx zb dX11_from_33 rfl (lv_at hl 0 rfl) ?_
          refine lv_sipush (v := 371) zx zb dX11_from_34 (by decide) ?_
          refine lv_icmp_ge (tgt := 64) zx zb dX11_from_37 (by decide) (fun c_5 => ?_) (fun c_5 => ?_)
          · have fc_5 := j_le (a := 371) (b := n33_2) (by omega) (by omega) c_5
            refine lv_iconst (v := 1) zx zb dX11_from_64 (by decide) ?_
            have hcc := InA_eq hI_fk.1 hI_f33_1 (fun q hq => by have z := hx33_0.1 q (by omega); rw [Nat.zero_add] at z; exact z)
            have hzA : (1, (c033_1, c133_1, c233_1, c333_1)) = frmF 0 fz (c0, c1, c2, c3) (e0, e1, e2, e3) (o0, o1, o2, o3) := by rw [hcc.1, hcc.2.1, hcc.2.2.1, hcc.2.2.2.1]; exact (frmF_0p c_4).symm
            have hzB : takM 0 fz fk fa f33_1 := tak_0p c_4 (fun q hq => hx33_0.1 q (by omega))
            exact e_int S zr zlk (vp_nar_int _) G (f33_1, c033_1, c133_1, c233_1, c333_1, c433_1, fr) [0, 1, 2, 3, 4] rfl rfl (Or.inr rfl) (⟨hI_f33_1, ⟨hzA, hzB⟩⟩) dX11_from_65
          · have fc_5 := j_nle (a := 371) (b := n33_2) (by omega) (by omega) c_5
            refine lv_aload_n zx zb dX11_from_40 rfl (lv_at hl 1 rfl) ?_
            refine r_get (C := RX11) (T := TX11) (N := 18) (ci := 9) (v := .ref (ma 0)) S in_X11_from_X11 G 0 rfl rfl 0 (by decide) lk_X11_from_7 rfl dX11_from_41 ?_
            refine lv_iload_n zx zb dX11_from_44 rfl (lv_at hl 0 rfl) ?_
            refine lv_aload_n zx zb dX11_from_45 rfl (lv_at hl 1 rfl) ?_
            refine r_get (C := RX11) (T := TX11) (N := 18) (ci := 9) (v := .ref (ma 1)) S in_X11_from_X11 G 0 rfl rfl 1 (by decide) lk_X11_from_13 rfl dX11_from_46 ?_
            refine lv_sipush (v := 371) zx zb dX11_from_49 (by decide) ?_
            refine lv_iload_n zx zb dX11_from_52 rfl (lv_at hl 2 rfl) ?_
            refine r_imul (v := 0) S (by decide) dX11_from_53 ?_
            refine lv_iload_n zx zb dX11_from_54 rfl (lv_at hl 0 rfl) ?_
            refine r_iadd (v := (nI (0 + n33_2))) S (nI_add 0 n33_2) dX11_from_55 ?_
            refine r_iald (v := (fk (0 + n33_2))) S G 2 rfl (vp_in_nI (by omega) (by decide)) (congrArg fk (nI_clamp (by omega))) dX11_from_56 ?_
            refine r_iast S G 1 rfl (vp_in_nI (by omega) (by decide)) dX11_from_57 (fun H locs G => ?_)
            obtain ⟨c_8, c_9, c_10, c_11, c_12, hI_f_7⟩ := InA_k0 (j := (nI n33_2).toNatClampNeg) (k := n33_2) hI_f33_1 hI_fk (nI_clamp (by omega))
            obtain ⟨f_7, hI_f_7, hE_f_7, G⟩ : ∃ f_7 : Nat → Int32, InA f_7 c_8 c_9 c_10 c_11 c_12 ∧ f_7 = upd f33_1 (nI n33_2).toNatClampNeg (fk (0 + n33_2)) ∧ wd X (va_A (@HAppend.hAppend va_W va_W va_W _ (mW m0 ma la lb n t v) (@HAppend.hAppend va_W va_W va_W _ ([((ma 0), .inl (X.2.1, 371, .inl fa))]) (@HAppend.hAppend va_W va_W va_W _ ([((ma 1), .inl (X.2.1, 742, .inl fk))]) (@HAppend.hAppend va_W va_W va_W _ ([((ma 2), .inl (X.2.2.1, 2, .inl fz))]) ([((ma 3), .inl (X.2.1, 3, .inl fr))]))))) sz) (va_A (@HAppend.hAppend va_W va_W va_W _ (mW m0 ma la lb n t v) (@HAppend.hAppend va_W va_W va_W _ ([((ma 0), .inl (X.2.1, 371, .inl fa))]) (@HAppend.hAppend va_W va_W va_W _ ([((ma 1), .inl (X.2.1, 742, .inl fk))]) (@HAppend.hAppend va_W va_W va_W _ ([((ma 2), .inl (X.2.2.1, 2, .inl fz))]) ([((ma 3), .inl (X.2.1, 3, .inl fr))]))))) sz) s (@HAppend.hAppend va_W va_W va_W _ (mW m0 ma la lb n t v) (@HAppend.hAppend va_W va_W va_W _ ([((ma 0), .inl (X.2.1, 371, .inl f_7))]) (@HAppend.hAppend va_W va_W va_W _ ([((ma 1), .inl (X.2.1, 742, .inl fk))]) (@HAppend.hAppend va_W va_W va_W _ ([((ma 2), .inl (X.2.2.1, 2, .inl fz))]) ([((ma 3), .inl (X.2.1, 3, .inl fr))]))))) H locs := ⟨_, hI_f_7, rfl, G⟩
            have hO_f_7 := hI_f_7.2
            obtain ⟨hm0_f_7, hm1_f_7, hm2_f_7, hm3_f_7, hm4_f_7⟩ := hO_f_7
            refine lv_iinc (v := (nI (n33_2 + 1))) (lv' := [(2, .int (nI (n33_2 + 1))), (0, .ref m0), (1, .int 0)]) zx zb dX11_from_58 hl (k := 0) rfl (nI_add n33_2 1) (by decide) rfl (fun ls hl => ?_)
            refine lv_goto (tgt := 33) zx zb dX11_from_61 (by decide) ?_
            exact ih33 (n33_2 + 1) f_7 c_8 c_9 c_10 c_11 c_12 _ _ _ (by omega) (k_cpy (w := fun q => fk (0 + q)) hE_f_7 (nI_clamp (by omega)) hx33_0) hI_f_7 (by omega) G hl
      · refine lv_aload_n zx zb dX11_from_26 rfl (lv_at hl 0 rfl) ?_
        refine b_wi (cells' := 0) (slots' := 0) (wr := @HAppend.hAppend va_W va_W va_W _ ([((ma 0), .inl (X.2.1, 371, .inl fa))]) (@HAppend.hAppend va_W va_W va_W _ ([((ma 1), .inl (X.2.1, 742, .inl fk))]) ([((ma 2), .inl (X.2.2.1, 2, .inl fz))]))) G rfl rfl [0, 4] [1, 2, 3] rfl rfl rfl rfl (n_V (As := []) (rest := []) (C := RX11) (T := TX11) (N := 18) (ci := 9) S G (m_no l X m0 ma la lb n t v fr hI_n hI_t H.size) gX11_from_X11_no rfl rfl rfl hdV_X11_no ⟨Nat.le_of_ble_eq_true rfl, Nat.le_of_ble_eq_true rfl⟩ [0, 4] rfl rfl 0 rfl rfl rfl hl.1 (Nat.le_of_ble_eq_true rfl) dX11_from_27 ⟨Nat.le_of_ble_eq_true rfl, Nat.le_of_ble_eq_true rfl⟩) (fun r_13 u_13 H locs hp_13 G => ?_)
        obtain ⟨f_13, rfl⟩ : ∃ z, z = u_13 := ⟨_, rfl⟩
        have hq_13 := hp_13
        have G : wd X (va_A (@HAppend.hAppend va_W va_W va_W _ (mW m0 ma la lb n t v) (@HAppend.hAppend va_W va_W va_W _ ([((ma 0), .inl (X.2.1, 371, .inl fa))]) (@HAppend.hAppend va_W va_W va_W _ ([((ma 1), .inl (X.2.1, 742, .inl fk))]) (@HAppend.hAppend va_W va_W va_W _ ([((ma 2), .inl (X.2.2.1, 2, .inl fz))]) ([((ma 3), .inl (X.2.1, 3, .inl fr))]))))) sz) (va_A (@HAppend.hAppend va_W va_W va_W _ (mW m0 ma la lb n t v) (@HAppend.hAppend va_W va_W va_W _ ([((ma 0), .inl (X.2.1, 371, .inl fa))]) (@HAppend.hAppend va_W va_W va_W _ ([((ma 1), .inl (X.2.1, 742, .inl fk))]) (@HAppend.hAppend va_W va_W va_W _ ([((ma 2), .inl (X.2.2.1, 2, .inl fz))]) ([((ma 3), .inl (X.2.1, 3, .inl fr))]))))) sz) s (@HAppend.hAppend va_W va_W va_W _ ([((ma 0), .inl (X.2.1, 371, .inl fa))]) (@HAppend.hAppend va_W va_W va_W _ ([((ma 1), .inl (X.2.1, 742, .inl fk))]) (@HAppend.hAppend va_W va_W va_W _ ([((ma 2), .inl (X.2.2.1, 2, .inl fz))]) (@HAppend.hAppend va_W va_W va_W _ (mW m0 ma la lb n t v) ([((ma 3), .inl (X.2.1, 3, .inl f_13))]))))) H locs := G
        obtain rfl := hq_13
        have hzA : ((-3), (c0, c1, c2, c3)) = frmF 0 fz (c0, c1, c2, c3) (e0, e1, e2, e3) (o0, o1, o2, o3) := (frmF_0n c_4).symm
        exact e_int S zr zlk (vp_nar_int _) G (fa, c0, c1, c2, c3, c4, f_13) [3, 0, 1, 2, 4] rfl rfl (Or.inr rfl) (⟨hI_fa, ⟨hzA, tak_0n c_4⟩⟩) dX11_from_30
    · have hl : lv_has ls 3 [(0, .ref m0), (1, .int 1)] := hl
      refine lv_aload_n zx zb dX11_from_17 rfl (lv_at hl 0 rfl) ?_
      refine r_get (C := RX11) (T := TX11) (N := 18) (ci := 9) (v := .ref (ma 2)) S in_X11_from_X11 G 0 rfl rfl 2 (by decide) lk_X11_from_16 rfl dX11_from_18 ?_
      refine lv_iload_n zx zb dX11_from_21 rfl (lv_at hl 1 rfl) ?_
      refine r_zald (v := (fz (1 : Int32).toNatClampNeg)) S G 3 rfl (k_vp (by decide)) rfl dX11_from_22 ?_
      refine lv_if_ne (tgt := 31) zx zb dX11_from_23 (by decide) (fun c_15 => ?_) (fun c_15 => ?_)
      · refine lv_iconst (v := 0) zx zb dX11_from_31 (by decide) ?_
        refine lv_istore_n (lv' := [(2, .int 0), (0, .ref m0), (1, .int 1)]) zx zb dX11_from_32 rfl hl (by decide) rfl (fun ls hl => ?_)
        refine k_loop (P := ∀ (zm : Nat) (n33_2 : Nat) (f33_1 : Nat → Int32) (c033_1 : Nat) (c133_1 : Nat) (c233_1 : Nat) (c333_1 : Nat) (c433_1 : Nat) (H : Heap) (locs : List Loc) (ls : Array Slot), ((371 - n33_2) < zm) → ((∀ q : Nat, q < n33_2 → f33_1 q = fk (371 + q)) ∧ ∀ q : Nat, n33_2 ≤ q → f33_1 q = fa q) → InA f33_1 c033_1 c133_1 c233_1 c333_1 c433_1 → (n33_2 ≤ 371) → wd X (va_A (@HAppend.hAppend va_W va_W va_W _ (mW m0 ma la lb n t v) (@HAppend.hAppend va_W va_W va_W _ ([((ma 0), .inl (X.2.1, 371, .inl fa))]) (@HAppend.hAppend va_W va_W va_W _ ([((ma 1), .inl (X.2.1, 742, .inl fk))]) (@HAppend.hAppend va_W va_W va_W _ ([((ma 2), .inl (X.2.2.1, 2, .inl fz))]) ([((ma 3), .inl (X.2.1, 3, .inl fr))]))))) sz) (va_A (@HAppend.hAppend va_W va_W va_W _ (mW m0 ma la lb n t v) (@HAppend.hAppend va_W va_W va_W _ ([((ma 0), .inl (X.2.1, 371, .inl fa))]) (@HAppend.hAppend va_W va_W va_W _ ([((ma 1), .inl (X.2.1, 742, .inl fk))]) (@HAppend.hAppend va_W va_W va_W _ ([((ma 2), .inl (X.2.2.1, 2, .inl fz))]) ([((ma 3), .inl (X.2.1, 3, .inl fr))]))))) sz) s (@HAppend.hAppend va_W va_W va_W _ (mW m0 ma la lb n t v) (@HAppend.hAppend va_W va_W va_W _ ([((ma 0), .inl (X.2.1, 371, .inl f33_1))]) (@HAppend.hAppend va_W va_W va_W _ ([((ma 1), .inl (X.2.1, 742, .inl fk))]) (@HAppend.hAppend va_W va_W va_W _ ([((ma 2), .inl (X.2.2.1, 2, .inl fz))]) ([((ma 3), .inl (X.2.1, 3, .inl fr))]))))) H locs → lv_has ls 3 [(2, .int (nI n33_2)), (0, .ref m0), (1, .int 1)] → W p l e _ s m _ below meth c H locs _ _ _ (F0 m 33 ls [])) (fun loop => loop ((371 - 0) + 1) 0 fa c0 c1 c2 c3 c4 _ _ _ (by omega) ⟨fun q h => absurd h (Nat.not_lt_zero q), fun q _ => rfl⟩ hI_fa (by omega) G hl) ?_
        intro zm
        induction zm with
        | zero => intro n33_2 f33_1 c033_1 c133_1 c233_1 c333_1 c433_1 H locs ls zz q_x0 q_hI_f33_1 q_hk_n33_2 _ _; exact absurd zz (by omega)
        | succ zm ih33 =>
          intro n33_2 f33_1 c033_1 c133_1 c233_1 c333_1 c433_1 H locs ls zm_33 hx33_0 hI_f33_1 hk_n33_2 G hl
          have hO_f33_1 := hI_f33_1.2
          obtain ⟨hm0_f33_1, hm1_f33_1, hm2_f33_1, hm3_f33_1, hm4_f33_1⟩ := hO_f33_1
          refine lv_iload_n zx zb dX11_from_33 rfl (lv_at hl 0 rfl) ?_
          refine lv_sipush (v := 371) zx zb dX11_from_34 (by decide) ?_
          refine lv_icmp_ge (tgt := 64) zx zb dX11_from_37 (by decide) (fun c_16 => ?_) (fun c_16 => ?_)
          · have fc_16 := j_le (a := 371) (b := n33_2) (by omega) (by omega) c_16
            refine lv_iconst (v := 1) zx zb dX11_from_64 (by decide) ?_
            have hcc := InA_eq hI_fk.2 hI_f33_1 (fun q hq => hx33_0.1 q (by omega))
            have hzA : (1, (c033_1, c133_1, c233_1, c333_1)) = frmF 1 fz (c0, c1, c2, c3) (e0, e1, e2, e3) (o0, o1, o2, o3) := by rw [hcc.1, hcc.2.1, hcc.2.2.1, hcc.2.2.2.1]; exact (frmF_1p c_15).symm
            have hzB : takM 1 fz fk fa f33_1 := tak_1p c_15 (fun q hq => hx33_0.1 q (by omega))
            exact e_int S zr zlk (vp_nar_int _) G (f33_1, c033_1, c133_1, c233_1, c333_1, c433_1, fr) [0, 1, 2, 3, 4] rfl rfl (Or.inr rfl) (⟨hI_f33_1, ⟨hzA, hzB⟩⟩) dX11_from_65
          · have fc_16 := j_nle (a := 371) (b := n33_2) (by omega) (by omega) c_16
            refine lv_aload_n zx zb dX11_from_40 rfl (lv_at hl 1 rfl) ?_
            refine r_get (C := RX11) (T := TX11) (N := 18) (ci := 9) (v := .ref (ma 0)) S in_X11_from_X11 G 0 rfl rfl 0 (by decide) lk_X11_from_7 rfl dX11_from_41 ?_
            refine lv_iload_n zx zb dX11_from_44 rfl (lv_at hl 0 rfl) ?_
            refine lv_aload_n zx zb dX11_from_45 rfl (lv_at hl 1 rfl) ?_
            refine r_get (C := RX11) (T := TX11) (N := 18) (ci := 9) (v := .ref (ma 1)) S in_X11_from_X11 G 0 rfl rfl 1 (by decide) lk_X11_from_13 rfl dX11_from_46 ?_
            refine lv_sipush (v := 371) zx zb dX11_from_49 (by decide) ?_
            refine lv_iload_n zx zb dX11_from_52 rfl (lv_at hl 2 rfl) ?_
            refine r_imul (v := 371) S (by decide) dX11_from_53 ?_
            refine lv_iload_n zx zb dX11_from_54 rfl (lv_at hl 0 rfl) ?_
            refine r_iadd (v := (nI (371 + n33_2))) S (nI_add 371 n33_2) dX11_from_55 ?_
            refine r_iald (v := (fk (371 + n33_2))) S G 2 rfl (vp_in_nI (by omega) (by decide)) (congrArg fk (nI_clamp (by omega))) dX11_from_56 ?_
            refine r_iast S G 1 rfl (vp_in_nI (by omega) (by decide)) dX11_from_57 (fun H locs G => ?_)
            obtain ⟨c_19, c_20, c_21, c_22, c_23, hI_f_18⟩ := InA_k1 (j := (nI n33_2).toNatClampNeg) (k := n33_2) hI_f33_1 hI_fk (nI_clamp (by omega))
            obtain ⟨f_18, hI_f_18, hE_f_18, G⟩ : ∃ f_18 : Nat → Int32, InA f_18 c_19 c_20 c_21 c_22 c_23 ∧ f_18 = upd f33_1 (nI n33_2).toNatClampNeg (fk (371 + n33_2)) ∧ wd X (va_A (@HAppend.hAppend va_W va_W va_W _ (mW m0 ma la lb n t v) (@HAppend.hAppend va_W va_W va_W _ ([((ma 0), .inl (X.2.1, 371, .inl fa))]) (@HAppend.hAppend va_W va_W va_W _ ([((ma 1), .inl (X.2.1, 742, .inl fk))]) (@HAppend.hAppend va_W va_W va_W _ ([((ma 2), .inl (X.2.2.1, 2, .inl fz))]) ([((ma 3), .inl (X.2.1, 3, .inl fr))]))))) sz) (va_A (@HAppend.hAppend va_W va_W va_W _ (mW m0 ma la lb n t v) (@HAppend.hAppend va_W va_W va_W _ ([((ma 0), .inl (X.2.1, 371, .inl fa))]) (@HAppend.hAppend va_W va_W va_W _ ([((ma 1), .inl (X.2.1, 742, .inl fk))]) (@HAppend.hAppend va_W va_W va_W _ ([((ma 2), .inl (X.2.2.1, 2, .inl fz))]) ([((ma 3), .inl (X.2.1, 3, .inl fr))]))))) sz) s (@HAppend.hAppend va_W va_W va_W _ (mW m0 ma la lb n t v) (@HAppend.hAppend va_W va_W va_W _ ([((ma 0), .inl (X.2.1, 371, .inl f_18))]) (@HAppend.hAppend va_W va_W va_W _ ([((ma 1), .inl (X.2.1, 742, .inl fk))]) (@HAppend.hAppend va_W va_W va_W _ ([((ma 2), .inl (X.2.2.1, 2, .inl fz))]) ([((ma 3), .inl (X.2.1, 3, .inl fr))]))))) H locs := ⟨_, hI_f_18, rfl, G⟩
            have hO_f_18 := hI_f_18.2
            obtain ⟨hm0_f_18, hm1_f_18, hm2_f_18, hm3_f_18, hm4_f_18⟩ := hO_f_18
            refine lv_iinc (v := (nI (n33_2 + 1))) (lv' := [(2, .int (nI (n33_2 + 1))), (0, .ref m0), (1, .int 1)]) zx zb dX11_from_58 hl (k := 0) rfl (nI_add n33_2 1) (by decide) rfl (fun ls hl => ?_)
            refine lv_goto (tgt := 33) zx zb dX11_from_61 (by decide) ?_
            exact ih33 (n33_2 + 1) f_18 c_19 c_20 c_21 c_22 c_23 _ _ _ (by omega) (k_cpy (w := fun q => fk (371 + q)) hE_f_18 (nI_clamp (by omega)) hx33_0) hI_f_18 (by omega) G hl
      · refine lv_aload_n zx zb dX11_from_26 rfl (lv_at hl 0 rfl) ?_
        refine b_wi (cells' := 0) (slots' := 0) (wr := @HAppend.hAppend va_W va_W va_W _ ([((ma 0), .inl (X.2.1, 371, .inl fa))]) (@HAppend.hAppend va_W va_W va_W _ ([((ma 1), .inl (X.2.1, 742, .inl fk))]) ([((ma 2), .inl (X.2.2.1, 2, .inl fz))]))) G rfl rfl [0, 4] [1, 2, 3] rfl rfl rfl rfl (n_V (As := []) (rest := []) (C := RX11) (T := TX11) (N := 18) (ci := 9) S G (m_no l X m0 ma la lb n t v fr hI_n hI_t H.size) gX11_from_X11_no rfl rfl rfl hdV_X11_no ⟨Nat.le_of_ble_eq_true rfl, Nat.le_of_ble_eq_true rfl⟩ [0, 4] rfl rfl 0 rfl rfl rfl hl.1 (Nat.le_of_ble_eq_true rfl) dX11_from_27 ⟨Nat.le_of_ble_eq_true rfl, Nat.le_of_ble_eq_true rfl⟩) (fun r_24 u_24 H locs hp_24 G => ?_)
        obtain ⟨f_24, rfl⟩ : ∃ z, z = u_24 := ⟨_, rfl⟩
        have hq_24 := hp_24
        have G : wd X (va_A (@HAppend.hAppend va_W va_W va_W _ (mW m0 ma la lb n t v) (@HAppend.hAppend va_W va_W va_W _ ([((ma 0), .inl (X.2.1, 371, .inl fa))]) (@HAppend.hAppend va_W va_W va_W _ ([((ma 1), .inl (X.2.1, 742, .inl fk))]) (@HAppend.hAppend va_W va_W va_W _ ([((ma 2), .inl (X.2.2.1, 2, .inl fz))]) ([((ma 3), .inl (X.2.1, 3, .inl fr))]))))) sz) (va_A (@HAppend.hAppend va_W va_W va_W _ (mW m0 ma la lb n t v) (@HAppend.hAppend va_W va_W va_W _ ([((ma 0), .inl (X.2.1, 371, .inl fa))]) (@HAppend.hAppend va_W va_W va_W _ ([((ma 1), .inl (X.2.1, 742, .inl fk))]) (@HAppend.hAppend va_W va_W va_W _ ([((ma 2), .inl (X.2.2.1, 2, .inl fz))]) ([((ma 3), .inl (X.2.1, 3, .inl fr))]))))) sz) s (@HAppend.hAppend va_W va_W va_W _ ([((ma 0), .inl (X.2.1, 371, .inl fa))]) (@HAppend.hAppend va_W va_W va_W _ ([((ma 1), .inl (X.2.1, 742, .inl fk))]) (@HAppend.hAppend va_W va_W va_W _ ([((ma 2), .inl (X.2.2.1, 2, .inl fz))]) (@HAppend.hAppend va_W va_W va_W _ (mW m0 ma la lb n t v) ([((ma 3), .inl (X.2.1, 3, .inl f_24))]))))) H locs := G
        obtain rfl := hq_24
        have hzA : ((-3), (c0, c1, c2, c3)) = frmF 1 fz (c0, c1, c2, c3) (e0, e1, e2, e3) (o0, o1, o2, o3) := (frmF_1n c_15).symm
        exact e_int S zr zlk (vp_nar_int _) G (fa, c0, c1, c2, c3, c4, f_24) [3, 0, 1, 2, 4] rfl rfl (Or.inr rfl) (⟨hI_fa, ⟨hzA, tak_1n c_15⟩⟩) dX11_from_30
  · refine lv_if_ne (tgt := 17) zx zb dX11_from_7 (by decide) (fun c_25 => absurd (by decide) c_25) (fun c_25 => ?_)
    refine lv_aload_n zx zb dX11_from_10 rfl (lv_at hl 0 rfl) ?_
    refine lv_bipush (v := (-2)) zx zb dX11_from_11 (by decide) ?_
    refine b_wi (cells' := 0) (slots' := 0) (wr := @HAppend.hAppend va_W va_W va_W _ ([((ma 0), .inl (X.2.1, 371, .inl fa))]) (@HAppend.hAppend va_W va_W va_W _ ([((ma 1), .inl (X.2.1, 742, .inl fk))]) ([((ma 2), .inl (X.2.2.1, 2, .inl fz))]))) G rfl rfl [0, 4] [1, 2, 3] rfl rfl rfl rfl (n_V (As := [.int (-2)]) (rest := []) (C := RX11) (T := TX11) (N := 18) (ci := 9) S G (m_bad l X m0 ma la lb n t v fr (-2) hI_n hI_t H.size) gX11_from_X11_bad rfl rfl rfl hdV_X11_bad ⟨Nat.le_of_ble_eq_true rfl, Nat.le_of_ble_eq_true rfl⟩ [0, 4] rfl rfl 0 rfl rfl rfl hl.1 (Nat.le_of_ble_eq_true rfl) dX11_from_13 ⟨Nat.le_of_ble_eq_true rfl, Nat.le_of_ble_eq_true rfl⟩) (fun r_26 u_26 H locs hp_26 G => ?_)
    obtain ⟨f_26, rfl⟩ : ∃ z, z = u_26 := ⟨_, rfl⟩
    have hq_26 := hp_26
    have G : wd X (va_A (@HAppend.hAppend va_W va_W va_W _ (mW m0 ma la lb n t v) (@HAppend.hAppend va_W va_W va_W _ ([((ma 0), .inl (X.2.1, 371, .inl fa))]) (@HAppend.hAppend va_W va_W va_W _ ([((ma 1), .inl (X.2.1, 742, .inl fk))]) (@HAppend.hAppend va_W va_W va_W _ ([((ma 2), .inl (X.2.2.1, 2, .inl fz))]) ([((ma 3), .inl (X.2.1, 3, .inl fr))]))))) sz) (va_A (@HAppend.hAppend va_W va_W va_W _ (mW m0 ma la lb n t v) (@HAppend.hAppend va_W va_W va_W _ ([((ma 0), .inl (X.2.1, 371, .inl fa))]) (@HAppend.hAppend va_W va_W va_W _ ([((ma 1), .inl (X.2.1, 742, .inl fk))]) (@HAppend.hAppend va_W va_W va_W _ ([((ma 2), .inl (X.2.2.1, 2, .inl fz))]) ([((ma 3), .inl (X.2.1, 3, .inl fr))]))))) sz) s (@HAppend.hAppend va_W va_W va_W _ ([((ma 0), .inl (X.2.1, 371, .inl fa))]) (@HAppend.hAppend va_W va_W va_W _ ([((ma 1), .inl (X.2.1, 742, .inl fk))]) (@HAppend.hAppend va_W va_W va_W _ ([((ma 2), .inl (X.2.2.1, 2, .inl fz))]) (@HAppend.hAppend va_W va_W va_W _ (mW m0 ma la lb n t v) ([((ma 3), .inl (X.2.1, 3, .inl f_26))]))))) H locs := G
    obtain rfl := hq_26
    have hzA : ((-2), (c0, c1, c2, c3)) = frmF x1 fz (c0, c1, c2, c3) (e0, e1, e2, e3) (o0, o1, o2, o3) := (frmF_n (fun h => hw_1 h)).symm
    exact e_int S zr zlk (vp_nar_int _) G (fa, c0, c1, c2, c3, c4, f_26) [3, 0, 1, 2, 4] rfl rfl (Or.inr rfl) (⟨hI_fa, ⟨hzA, tak_n (fun h => hw_1 h)⟩⟩) dX11_from_16
set_option maxHeartbeats 4000000 in
set_option maxRecDepth 100000 in
theorem y_race (l : Launch) (X : EX) (m0 : Nat) (ma : Nat → Nat) (la : Int64) (lb : Int64) (n : Nat) (t : Nat → Nat) (v : Nat → Int32) (fa : Nat → Int32) (c0 : Nat) (c1 : Nat) (c2 : Nat) (c3 : Nat) (c4 : Nat) (fr : Nat → Int32) (x1 : Int32) (hI_n : n ≤ 150) (hI_t : InT t) (hI_fa : InA fa c0 c1 c2 c3 c4) (sz : Nat) : Met l yX11_race wsX11_race ({ frames := 1, cells := 0, slots := 0, locals := 25 } : Room) (pE X [.ref m0, .int x1] (@HAppend.hAppend va_W va_W va_W _ (mW m0 ma la lb n t v) (@HAppend.hAppend va_W va_W va_W _ ([((ma 0), .inl (X.2.1, 371, .inl fa))]) ([((ma 3), .inl (X.2.1, 3, .inl fr))]))) sz) (qI (fun (r : Int32) (u : (Nat → Int32) × (Nat) × (Nat) × (Nat) × (Nat) × (Nat) × (Nat → Int32)) => InA u.1 u.2.1 u.2.2.1 u.2.2.2.1 u.2.2.2.2.1 u.2.2.2.2.2.1 ∧ (((r, (u.2.1, u.2.2.1, u.2.2.2.1, u.2.2.2.2.1)) = raceF x1 (c0, c1, c2, c3)) ∧ (¬ ((10 : Int32) ≤ x1 ∧ x1 ≤ 60) → u.1 = fa))) X (fun (u : (Nat → Int32) × (Nat) × (Nat) × (Nat) × (Nat) × (Nat) × (Nat → Int32)) => @HAppend.hAppend va_W va_W va_W _ (mW m0 ma la lb n t v) (@HAppend.hAppend va_W va_W va_W _ ([((ma 0), .inl (X.2.1, 371, .inl u.1))]) ([((ma 3), .inl (X.2.1, 3, .inl u.2.2.2.2.2.2))]))) (@HAppend.hAppend va_W va_W va_W _ (mW m0 ma la lb n t v) (@HAppend.hAppend va_W va_W va_W _ ([((ma 0), .inl (X.2.1, 371, .inl fa))]) ([((ma 3), .inl (X.2.1, 3, .inl fr))]))) sz) 0 0 (va_A (@HAppend.hAppend va_W va_W va_W _ (mW m0 ma la lb n t v) (@HAppend.hAppend va_W va_W va_W _ ([((ma 0), .inl (X.2.1, 371, .inl fa))]) ([((ma 3), .inl (X.2.1, 3, .inl fr))]))) sz) := by
  refine mk_met (B := (va_A (@HAppend.hAppend va_W va_W va_W _ (mW m0 ma la lb n t v) (@HAppend.hAppend va_W va_W va_W _ ([((ma 0), .inl (X.2.1, 371, .inl fa))]) ([((ma 3), .inl (X.2.1, 3, .inl fr))]))) sz)) (A := (va_A (@HAppend.hAppend va_W va_W va_W _ (mW m0 ma la lb n t v) (@HAppend.hAppend va_W va_W va_W _ ([((ma 0), .inl (X.2.1, 371, .inl fa))]) ([((ma 3), .inl (X.2.1, 3, .inl fr))]))) sz)) (cc := cX11_race) (maxL := 3) (ret := (some .int)) (by decide) rfl (Nat.le_of_ble_eq_true rfl) k_w k_a (fun p e s m below meth c S zr zlk znm zsz G ls hl => ?_)
  have S : CallFix p m c cX11_race 3 s _ wsX11_race RX11 := S
  have zx := S.1
  have zb := S.2.1
  have hl : lv_has ls 3 [(0, .ref m0), (1, .int x1)] := hl
  have hO_t := hI_t
  obtain ⟨ht0_t, ht1_t⟩ := hO_t
  have hO_fa := hI_fa.2
  obtain ⟨hm0_fa, hm1_fa, hm2_fa, hm3_fa, hm4_fa⟩ := hO_fa
  refine lv_iload_n zx zb dX11_race_0 rfl (lv_at hl 1 rfl) ?_
  refine lv_i2l (v := (Int32.toInt64 x1)) zx zb dX11_race_1 rfl ?_
  refine lv_ldc2 zx zb S.2.2.2.1 (S.2.2.2.2 _ mm_X11_race_c64) dX11_race_2 ?_
  refine k_ld (v := (Int32.toInt64 10)) (by decide) ?_
  refine lv_ldc2 zx zb S.2.2.2.1 (S.2.2.2.2 _ mm_X11_race_c66) dX11_race_5 ?_
  refine k_ld (v := (Int32.toInt64 60)) (by decide) ?_
  refine o_ri (cells' := 0) (slots' := 0) G rfl rfl (n_S (As := [.long (Int32.toInt64 x1), .long (Int32.toInt64 10), .long (Int32.toInt64 60)]) (rest := []) S G (m_in l X x1 10 60 s.heap.size) gX11_race_X11_in rfl rfl rfl hdS_X11_in ⟨Nat.le_of_ble_eq_true rfl, Nat.le_of_ble_eq_true rfl⟩ [] rfl rfl rfl hl.1 (Nat.le_of_ble_eq_true rfl) dX11_race_8 ⟨Nat.le_of_ble_eq_true rfl, Nat.le_of_ble_eq_true rfl⟩) (fun r_1 u_1 H locs hp_1 G => ?_)
  have G : wd X (va_A (@HAppend.hAppend va_W va_W va_W _ (mW m0 ma la lb n t v) (@HAppend.hAppend va_W va_W va_W _ ([((ma 0), .inl (X.2.1, 371, .inl fa))]) ([((ma 3), .inl (X.2.1, 3, .inl fr))]))) sz) (va_A (@HAppend.hAppend va_W va_W va_W _ (mW m0 ma la lb n t v) (@HAppend.hAppend va_W va_W va_W _ ([((ma 0), .inl (X.2.1, 371, .inl fa))]) ([((ma 3), .inl (X.2.1, 3, .inl fr))]))) sz) s (@HAppend.hAppend va_W va_W va_W _ (mW m0 ma la lb n t v) (@HAppend.hAppend va_W va_W va_W _ ([((ma 0), .inl (X.2.1, 371, .inl fa))]) ([((ma 3), .inl (X.2.1, 3, .inl fr))]))) H locs := G
  rcases hp_1 with ⟨rfl, hw_1⟩ | ⟨rfl, hw_1⟩
  · obtain ⟨j_1, ⟨ja_1, jb_1⟩, rfl⟩ := k_natR (a := 10) (b := 60) hw_1 rfl rfl (by decide) (by decide)
    refine lv_if_ne (tgt := 21) zx zb dX11_race_11 (by decide) (fun c_2 => ?_) (fun c_2 => absurd c_2 (by decide))
    refine lv_aload_n zx zb dX11_race_21 rfl (lv_at hl 0 rfl) ?_
    refine o_ri (cells' := 0) (slots' := 0) G rfl rfl (n_V (As := []) (rest := []) (C := RX11) (T := TX11) (N := 18) (ci := 9) S G (m_many l X m0 ma la lb n t v fa c0 c1 c2 c3 c4 hI_n hI_t hI_fa H.size) gX11_race_X11_many rfl rfl rfl hdV_X11_many ⟨Nat.le_of_ble_eq_true rfl, Nat.le_of_ble_eq_true rfl⟩ [0, 1] rfl rfl 0 rfl rfl rfl hl.1 (Nat.le_of_ble_eq_true rfl) dX11_race_22 ⟨Nat.le_of_ble_eq_true rfl, Nat.le_of_ble_eq_true rfl⟩) (fun r_3 u_3 H locs hp_3 G => ?_)
    have G : wd X (va_A (@HAppend.hAppend va_W va_W va_W _ (mW m0 ma la lb n t v) (@HAppend.hAppend va_W va_W va_W _ ([((ma 0), .inl (X.2.1, 371, .inl fa))]) ([((ma 3), .inl (X.2.1, 3, .inl fr))]))) sz) (va_A (@HAppend.hAppend va_W va_W va_W _ (mW m0 ma la lb n t v) (@HAppend.hAppend va_W va_W va_W _ ([((ma 0), .inl (X.2.1, 371, .inl fa))]) ([((ma 3), .inl (X.2.1, 3, .inl fr))]))) sz) s (@HAppend.hAppend va_W va_W va_W _ (mW m0 ma la lb n t v) (@HAppend.hAppend va_W va_W va_W _ ([((ma 0), .inl (X.2.1, 371, .inl fa))]) ([((ma 3), .inl (X.2.1, 3, .inl fr))]))) H locs := G
    obtain rfl := hp_3
    refine lv_istore_n (lv' := [(2, .int (nI c0)), (0, .ref m0), (1, .int (nI j_1))]) zx zb dX11_race_25 rfl hl (by decide) rfl (fun ls hl => ?_)
    refine lv_aload_n zx zb dX11_race_26 rfl (lv_at hl 1 rfl) ?_
    refine r_get (C := RX11) (T := TX11) (N := 18) (ci := 9) (v := .ref (ma 0)) S in_X11_race_X11 G 0 rfl rfl 0 (by decide) lk_X11_race_7 rfl dX11_race_27 ?_
    refine lv_iload_n zx zb dX11_race_30 rfl (lv_at hl 2 rfl) ?_
    refine b_wv (cells' := 0) (slots' := 0) (wr := @HAppend.hAppend va_W va_W va_W _ (mW m0 ma la lb n t v) ([((ma 3), .inl (X.2.1, 3, .inl fr))])) G rfl rfl [1] [0, 2] rfl rfl rfl rfl (n_S (As := [.ref (ma 0), .int (nI j_1)]) (rest := []) S G (m_begin l X (ma 0) 371 fa c0 c1 c2 c3 c4 (nI j_1) hI_fa (by omega) (by omega) H.size) gX11_race_X11_begin rfl rfl rfl hdS_X11_begin ⟨Nat.le_of_ble_eq_true rfl, Nat.le_of_ble_eq_true rfl⟩ [1] rfl rfl rfl hl.1 (Nat.le_of_ble_eq_true rfl) dX11_race_31 ⟨Nat.le_of_ble_eq_true rfl, Nat.le_of_ble_eq_true rfl⟩) (fun u_4 H locs hp_4 G => ?_)
    obtain ⟨f_4a, c0_4b, c1_4c, c2_4d, c3_4e, c4_4f⟩ := u_4
    try dsimp only at hp_4
    obtain ⟨hI_f_4a, hq_4⟩ := hp_4
    have hO_f_4a := hI_f_4a.2
    obtain ⟨hm0_f_4a, hm1_f_4a, hm2_f_4a, hm3_f_4a, hm4_f_4a⟩ := hO_f_4a
    have G : wd X (va_A (@HAppend.hAppend va_W va_W va_W _ (mW m0 ma la lb n t v) (@HAppend.hAppend va_W va_W va_W _ ([((ma 0), .inl (X.2.1, 371, .inl fa))]) ([((ma 3), .inl (X.2.1, 3, .inl fr))]))) sz) (va_A (@HAppend.hAppend va_W va_W va_W _ (mW m0 ma la lb n t v) (@HAppend.hAppend va_W va_W va_W _ ([((ma 0), .inl (X.2.1, 371, .inl fa))]) ([((ma 3), .inl (X.2.1, 3, .inl fr))]))) sz) s (@HAppend.hAppend va_W va_W va_W _ (mW m0 ma la lb n t v) (@HAppend.hAppend va_W va_W va_W _ ([((ma 3), .inl (X.2.1, 3, .inl fr))]) ([((ma 0), .inl (X.2.1, 371, .inl f_4a))]))) H locs := G
    obtain ⟨hb0_4, hb1_4, hb2_4, hb3_4, hb4_4, hb5_4, hb6_4, hb7_4⟩ := hq_4
    refine lv_iload_n zx zb dX11_race_34 rfl (lv_at hl 0 rfl) ?_
    have hzA : ((nI c0), (c0_4b, c1_4c, c2_4d, c3_4e)) = raceF (nI j_1) (c0, c1, c2, c3) := by rw [raceF_p hw_1, hb3_4, hb4_4, hb5_4, hb6_4]
    exact e_int S zr zlk (vp_nar_int _) G (f_4a, c0_4b, c1_4c, c2_4d, c3_4e, c4_4f, fr) [0, 2, 1] rfl rfl (Or.inr rfl) (⟨hI_f_4a, ⟨hzA, fun z => absurd hw_1 z⟩⟩) dX11_race_35
  · refine lv_if_ne (tgt := 21) zx zb dX11_race_11 (by decide) (fun c_5 => absurd (by decide) c_5) (fun c_5 => ?_)
    refine lv_aload_n zx zb dX11_race_14 rfl (lv_at hl 0 rfl) ?_
    refine lv_bipush (v := (-2)) zx zb dX11_race_15 (by decide) ?_
    refine b_wi (cells' := 0) (slots' := 0) (wr := [((ma 0), .inl (X.2.1, 371, .inl fa))]) G rfl rfl [0, 2] [1] rfl rfl rfl rfl (n_V (As := [.int (-2)]) (rest := []) (C := RX11) (T := TX11) (N := 18) (ci := 9) S G (m_bad l X m0 ma la lb n t v fr (-2) hI_n hI_t H.size) gX11_race_X11_bad rfl rfl rfl hdV_X11_bad ⟨Nat.le_of_ble_eq_true rfl, Nat.le_of_ble_eq_true rfl⟩ [0, 2] rfl rfl 0 rfl rfl rfl hl.1 (Nat.le_of_ble_eq_true rfl) dX11_race_17 ⟨Nat.le_of_ble_eq_true rfl, Nat.le_of_ble_eq_true rfl⟩) (fun r_6 u_6 H locs hp_6 G => ?_)
    obtain ⟨f_6, rfl⟩ : ∃ z, z = u_6 := ⟨_, rfl⟩
    have hq_6 := hp_6
    have G : wd X (va_A (@HAppend.hAppend va_W va_W va_W _ (mW m0 ma la lb n t v) (@HAppend.hAppend va_W va_W va_W _ ([((ma 0), .inl (X.2.1, 371, .inl fa))]) ([((ma 3), .inl (X.2.1, 3, .inl fr))]))) sz) (va_A (@HAppend.hAppend va_W va_W va_W _ (mW m0 ma la lb n t v) (@HAppend.hAppend va_W va_W va_W _ ([((ma 0), .inl (X.2.1, 371, .inl fa))]) ([((ma 3), .inl (X.2.1, 3, .inl fr))]))) sz) s (@HAppend.hAppend va_W va_W va_W _ ([((ma 0), .inl (X.2.1, 371, .inl fa))]) (@HAppend.hAppend va_W va_W va_W _ (mW m0 ma la lb n t v) ([((ma 3), .inl (X.2.1, 3, .inl f_6))]))) H locs := G
    obtain rfl := hq_6
    have hzA : ((-2), (c0, c1, c2, c3)) = raceF x1 (c0, c1, c2, c3) := (raceF_n (fun h => hw_1 h)).symm
    exact e_int S zr zlk (vp_nar_int _) G (fa, c0, c1, c2, c3, c4, f_6) [1, 0, 2] rfl rfl (Or.inr rfl) (⟨hI_fa, ⟨hzA, fun _ => rfl⟩⟩) dX11_race_20
set_option maxHeartbeats 4000000 in
set_option maxRecDepth 100000 in
theorem y_forget (l : Launch) (X : EX) (m0 : Nat) (ma : Nat → Nat) (la : Int64) (lb : Int64) (n : Nat) (t : Nat → Nat) (v : Nat → Int32) (fa : Nat → Int32) (c0 : Nat) (c1 : Nat) (c2 : Nat) (c3 : Nat) (c4 : Nat) (fr : Nat → Int32) (x1 : Int32) (hI_n : n ≤ 150) (hI_t : InT t) (hI_fa : InA fa c0 c1 c2 c3 c4) (sz : Nat) : Met l yX11_forget wsX11_forget ({ frames := 1, cells := 0, slots := 0, locals := 25 } : Room) (pE X [.ref m0, .int x1] (@HAppend.hAppend va_W va_W va_W _ (mW m0 ma la lb n t v) (@HAppend.hAppend va_W va_W va_W _ ([((ma 0), .inl (X.2.1, 371, .inl fa))]) ([((ma 3), .inl (X.2.1, 3, .inl fr))]))) sz) (qI (fun (r : Int32) (u : (Nat → Int32) × (Nat) × (Nat) × (Nat) × (Nat → Int32)) => InA u.1 c0 u.2.1 u.2.2.1 u.2.2.2.1 c4 ∧ (((r, (u.2.1, u.2.2.1, u.2.2.2.1)) = forF x1 c1 c2 c3) ∧ kpM fa u.1)) X (fun (u : (Nat → Int32) × (Nat) × (Nat) × (Nat) × (Nat → Int32)) => @HAppend.hAppend va_W va_W va_W _ (mW m0 ma la lb n t v) (@HAppend.hAppend va_W va_W va_W _ ([((ma 0), .inl (X.2.1, 371, .inl u.1))]) ([((ma 3), .inl (X.2.1, 3, .inl u.2.2.2.2))]))) (@HAppend.hAppend va_W va_W va_W _ (mW m0 ma la lb n t v) (@HAppend.hAppend va_W va_W va_W _ ([((ma 0), .inl (X.2.1, 371, .inl fa))]) ([((ma 3), .inl (X.2.1, 3, .inl fr))]))) sz) 0 0 (va_A (@HAppend.hAppend va_W va_W va_W _ (mW m0 ma la lb n t v) (@HAppend.hAppend va_W va_W va_W _ ([((ma 0), .inl (X.2.1, 371, .inl fa))]) ([((ma 3), .inl (X.2.1, 3, .inl fr))]))) sz) := by
  refine mk_met (B := (va_A (@HAppend.hAppend va_W va_W va_W _ (mW m0 ma la lb n t v) (@HAppend.hAppend va_W va_W va_W _ ([((ma 0), .inl (X.2.1, 371, .inl fa))]) ([((ma 3), .inl (X.2.1, 3, .inl fr))]))) sz)) (A := (va_A (@HAppend.hAppend va_W va_W va_W _ (mW m0 ma la lb n t v) (@HAppend.hAppend va_W va_W va_W _ ([((ma 0), .inl (X.2.1, 371, .inl fa))]) ([((ma 3), .inl (X.2.1, 3, .inl fr))]))) sz)) (cc := cX11_forget) (maxL := 3) (ret := (some .int)) (by decide) rfl (Nat.le_of_ble_eq_true rfl) k_w k_a (fun p e s m below meth c S zr zlk znm zsz G ls hl => ?_)
  have S : CallFix p m c cX11_forget 3 s _ wsX11_forget RX11 := S
  have zx := S.1
  have zb := S.2.1
  have hl : lv_has ls 3 [(0, .ref m0), (1, .int x1)] := hl
  have hO_t := hI_t
  obtain ⟨ht0_t, ht1_t⟩ := hO_t
  have hO_fa := hI_fa.2
  obtain ⟨hm0_fa, hm1_fa, hm2_fa, hm3_fa, hm4_fa⟩ := hO_fa
  refine lv_iload_n zx zb dX11_forget_0 rfl (lv_at hl 1 rfl) ?_
  refine lv_i2l (v := (Int32.toInt64 x1)) zx zb dX11_forget_1 rfl ?_
  refine lv_lconst (v := (Int32.toInt64 0)) zx zb dX11_forget_2 (by decide) ?_
  refine lv_ldc2 zx zb S.2.2.2.1 (S.2.2.2.2 _ mm_X11_forget_c156) dX11_forget_3 ?_
  refine k_ld (v := (Int32.toInt64 2)) (by decide) ?_
  refine o_ri (cells' := 0) (slots' := 0) G rfl rfl (n_S (As := [.long (Int32.toInt64 x1), .long (Int32.toInt64 0), .long (Int32.toInt64 2)]) (rest := []) S G (m_in l X x1 0 2 s.heap.size) gX11_forget_X11_in rfl rfl rfl hdS_X11_in ⟨Nat.le_of_ble_eq_true rfl, Nat.le_of_ble_eq_true rfl⟩ [] rfl rfl rfl hl.1 (Nat.le_of_ble_eq_true rfl) dX11_forget_6 ⟨Nat.le_of_ble_eq_true rfl, Nat.le_of_ble_eq_true rfl⟩) (fun r_1 u_1 H locs hp_1 G => ?_)
  have G : wd X (va_A (@HAppend.hAppend va_W va_W va_W _ (mW m0 ma la lb n t v) (@HAppend.hAppend va_W va_W va_W _ ([((ma 0), .inl (X.2.1, 371, .inl fa))]) ([((ma 3), .inl (X.2.1, 3, .inl fr))]))) sz) (va_A (@HAppend.hAppend va_W va_W va_W _ (mW m0 ma la lb n t v) (@HAppend.hAppend va_W va_W va_W _ ([((ma 0), .inl (X.2.1, 371, .inl fa))]) ([((ma 3), .inl (X.2.1, 3, .inl fr))]))) sz) s (@HAppend.hAppend va_W va_W va_W _ (mW m0 ma la lb n t v) (@HAppend.hAppend va_W va_W va_W _ ([((ma 0), .inl (X.2.1, 371, .inl fa))]) ([((ma 3), .inl (X.2.1, 3, .inl fr))]))) H locs := G
  rcases hp_1 with ⟨rfl, hw_1⟩ | ⟨rfl, hw_1⟩
  · obtain ⟨j_1, ⟨ja_1, jb_1⟩, rfl⟩ := k_natR (a := 0) (b := 2) hw_1 rfl rfl (by decide) (by decide)
    refine lv_if_ne (tgt := 19) zx zb dX11_forget_9 (by decide) (fun c_2 => ?_) (fun c_2 => absurd c_2 (by decide))
    rcases k_3c (show j_1 < 3 by omega) with rfl | rfl | rfl
    · have hl : lv_has ls 3 [(0, .ref m0), (1, .int 0)] := hl
      refine lv_aload_n zx zb dX11_forget_19 rfl (lv_at hl 0 rfl) ?_
      refine r_get (C := RX11) (T := TX11) (N := 18) (ci := 9) (v := .ref (ma 0)) S in_X11_forget_X11 G 0 rfl rfl 0 (by decide) lk_X11_forget_7 rfl dX11_forget_20 ?_
      refine lv_iconst (v := 1) zx zb dX11_forget_23 (by decide) ?_
      refine lv_iload_n zx zb dX11_forget_24 rfl (lv_at hl 1 rfl) ?_
      refine r_iadd (v := 1) S (by decide) dX11_forget_25 ?_
      refine r_iald (v := (nI c1)) S G 1 rfl (k_vp (by decide)) hI_fa.1.2.1 dX11_forget_26 ?_
      refine lv_istore_n (lv' := [(2, .int (nI c1)), (0, .ref m0), (1, .int 0)]) zx zb dX11_forget_27 rfl hl (by decide) rfl (fun ls hl => ?_)
      refine lv_aload_n zx zb dX11_forget_28 rfl (lv_at hl 1 rfl) ?_
      refine r_get (C := RX11) (T := TX11) (N := 18) (ci := 9) (v := .ref (ma 0)) S in_X11_forget_X11 G 0 rfl rfl 0 (by decide) lk_X11_forget_7 rfl dX11_forget_29 ?_
      refine lv_iconst (v := 1) zx zb dX11_forget_32 (by decide) ?_
      refine lv_iload_n zx zb dX11_forget_33 rfl (lv_at hl 2 rfl) ?_
      refine r_iadd (v := 1) S (by decide) dX11_forget_34 ?_
      refine lv_iconst (v := 0) zx zb dX11_forget_35 (by decide) ?_
      refine r_iast S G 1 rfl (k_vp (by decide)) dX11_forget_36 (fun H locs G => ?_)
      obtain ⟨f_4, c_5, hI_f_4, hE_c_5, hE_f_4, G⟩ : ∃ (f_4 : Nat → Int32) (c_5 : Nat), InA f_4 c0 c_5 c2 c3 c4 ∧ c_5 = 0 ∧ f_4 = upd fa 1 (nI 0) ∧ wd X (va_A (@HAppend.hAppend va_W va_W va_W _ (mW m0 ma la lb n t v) (@HAppend.hAppend va_W va_W va_W _ ([((ma 0), .inl (X.2.1, 371, .inl fa))]) ([((ma 3), .inl (X.2.1, 3, .inl fr))]))) sz) (va_A (@HAppend.hAppend va_W va_W va_W _ (mW m0 ma la lb n t v) (@HAppend.hAppend va_W va_W va_W _ ([((ma 0), .inl (X.2.1, 371, .inl fa))]) ([((ma 3), .inl (X.2.1, 3, .inl fr))]))) sz) s (@HAppend.hAppend va_W va_W va_W _ (mW m0 ma la lb n t v) (@HAppend.hAppend va_W va_W va_W _ ([((ma 0), .inl (X.2.1, 371, .inl f_4))]) ([((ma 3), .inl (X.2.1, 3, .inl fr))]))) H locs := ⟨_, 0, InA_n1 (n := 0) hI_fa (by omega), rfl, rfl, G⟩
      have kp_f_4 : kpM fa f_4 := kp_u kp_r hE_f_4 (by decide)
      refine lv_iload_n zx zb dX11_forget_37 rfl (lv_at hl 0 rfl) ?_
      have hzA : ((nI c1), (c_5, c2, c3)) = forF 0 c1 c2 c3 := by rw [forF_0 rfl, show c_5 = 0 from by omega]
      exact e_int S zr zlk (vp_nar_int _) G (f_4, c_5, c2, c3, fr) [0, 1, 2] rfl rfl (Or.inr rfl) (⟨hI_f_4, ⟨hzA, kp_f_4⟩⟩) dX11_forget_38
    · have hl : lv_has ls 3 [(0, .ref m0), (1, .int 1)] := hl
      refine lv_aload_n zx zb dX11_forget_19 rfl (lv_at hl 0 rfl) ?_
      refine r_get (C := RX11) (T := TX11) (N := 18) (ci := 9) (v := .ref (ma 0)) S in_X11_forget_X11 G 0 rfl rfl 0 (by decide) lk_X11_forget_7 rfl dX11_forget_20 ?_
      refine lv_iconst (v := 1) zx zb dX11_forget_23 (by decide) ?_
      refine lv_iload_n zx zb dX11_forget_24 rfl (lv_at hl 1 rfl) ?_
      refine r_iadd (v := 2) S (by decide) dX11_forget_25 ?_
      refine r_iald (v := (nI c2)) S G 1 rfl (k_vp (by decide)) hI_fa.1.2.2.1 dX11_forget_26 ?_
      refine lv_istore_n (lv' := [(2, .int (nI c2)), (0, .ref m0), (1, .int 1)]) zx zb dX11_forget_27 rfl hl (by decide) rfl (fun ls hl => ?_)
      refine lv_aload_n zx zb dX11_forget_28 rfl (lv_at hl 1 rfl) ?_
      refine r_get (C := RX11) (T := TX11) (N := 18) (ci := 9) (v := .ref (ma 0)) S in_X11_forget_X11 G 0 rfl rfl 0 (by decide) lk_X11_forget_7 rfl dX11_forget_29 ?_
      refine lv_iconst (v := 1) zx zb dX11_forget_32 (by decide) ?_
      refine lv_iload_n zx zb dX11_forget_33 rfl (lv_at hl 2 rfl) ?_
      refine r_iadd (v := 2) S (by decide) dX11_forget_34 ?_
      refine lv_iconst (v := 0) zx zb dX11_forget_35 (by decide) ?_
      refine r_iast S G 1 rfl (k_vp (by decide)) dX11_forget_36 (fun H locs G => ?_)
      obtain ⟨f_7, c_8, hI_f_7, hE_c_8, hE_f_7, G⟩ : ∃ (f_7 : Nat → Int32) (c_8 : Nat), InA f_7 c0 c1 c_8 c3 c4 ∧ c_8 = 0 ∧ f_7 = upd fa 2 (nI 0) ∧ wd X (va_A (@HAppend.hAppend va_W va_W va_W _ (mW m0 ma la lb n t v) (@HAppend.hAppend va_W va_W va_W _ ([((ma 0), .inl (X.2.1, 371, .inl fa))]) ([((ma 3), .inl (X.2.1, 3, .inl fr))]))) sz) (va_A (@HAppend.hAppend va_W va_W va_W _ (mW m0 ma la lb n t v) (@HAppend.hAppend va_W va_W va_W _ ([((ma 0), .inl (X.2.1, 371, .inl fa))]) ([((ma 3), .inl (X.2.1, 3, .inl fr))]))) sz) s (@HAppend.hAppend va_W va_W va_W _ (mW m0 ma la lb n t v) (@HAppend.hAppend va_W va_W va_W _ ([((ma 0), .inl (X.2.1, 371, .inl f_7))]) ([((ma 3), .inl (X.2.1, 3, .inl fr))]))) H locs := ⟨_, 0, InA_n2 (n := 0) hI_fa (by omega), rfl, rfl, G⟩
      have kp_f_7 : kpM fa f_7 := kp_u kp_r hE_f_7 (by decide)
      refine lv_iload_n zx zb dX11_forget_37 rfl (lv_at hl 0 rfl) ?_
      have hzA : ((nI c2), (c1, c_8, c3)) = forF 1 c1 c2 c3 := by rw [forF_1 rfl, show c_8 = 0 from by omega]
      exact e_int S zr zlk (vp_nar_int _) G (f_7, c1, c_8, c3, fr) [0, 1, 2] rfl rfl (Or.inr rfl) (⟨hI_f_7, ⟨hzA, kp_f_7⟩⟩) dX11_forget_38
    · have hl : lv_has ls 3 [(0, .ref m0), (1, .int 2)] := hl
      refine lv_aload_n zx zb dX11_forget_19 rfl (lv_at hl 0 rfl) ?_
      refine r_get (C := RX11) (T := TX11) (N := 18) (ci := 9) (v := .ref (ma 0)) S in_X11_forget_X11 G 0 rfl rfl 0 (by decide) lk_X11_forget_7 rfl dX11_forget_20 ?_
      refine lv_iconst (v := 1) zx zb dX11_forget_23 (by decide) ?_
      refine lv_iload_n zx zb dX11_forget_24 rfl (lv_at hl 1 rfl) ?_
      refine r_iadd (v := 3) S (by decide) dX11_forget_25 ?_
      refine r_iald (v := (nI c3)) S G 1 rfl (k_vp (by decide)) hI_fa.1.2.2.2.1 dX11_forget_26 ?_
      refine lv_istore_n (lv' := [(2, .int (nI c3)), (0, .ref m0), (1, .int 2)]) zx zb dX11_forget_27 rfl hl (by decide) rfl (fun ls hl => ?_)
      refine lv_aload_n zx zb dX11_forget_28 rfl (lv_at hl 1 rfl) ?_
      refine r_get (C := RX11) (T := TX11) (N := 18) (ci := 9) (v := .ref (ma 0)) S in_X11_forget_X11 G 0 rfl rfl 0 (by decide) lk_X11_forget_7 rfl dX11_forget_29 ?_
      refine lv_iconst (v := 1) zx zb dX11_forget_32 (by decide) ?_
      refine lv_iload_n zx zb dX11_forget_33 rfl (lv_at hl 2 rfl) ?_
      refine r_iadd (v := 3) S (by decide) dX11_forget_34 ?_
      refine lv_iconst (v := 0) zx zb dX11_forget_35 (by decide) ?_
      refine r_iast S G 1 rfl (k_vp (by decide)) dX11_forget_36 (fun H locs G => ?_)
      obtain ⟨f_10, c_11, hI_f_10, hE_c_11, hE_f_10, G⟩ : ∃ (f_10 : Nat → Int32) (c_11 : Nat), InA f_10 c0 c1 c2 c_11 c4 ∧ c_11 = 0 ∧ f_10 = upd fa 3 (nI 0) ∧ wd X (va_A (@HAppend.hAppend va_W va_W va_W _ (mW m0 ma la lb n t v) (@HAppend.hAppend va_W va_W va_W _ ([((ma 0), .inl (X.2.1, 371, .inl fa))]) ([((ma 3), .inl (X.2.1, 3, .inl fr))]))) sz) (va_A (@HAppend.hAppend va_W va_W va_W _ (mW m0 ma la lb n t v) (@HAppend.hAppend va_W va_W va_W _ ([((ma 0), .inl (X.2.1, 371, .inl fa))]) ([((ma 3), .inl (X.2.1, 3, .inl fr))]))) sz) s (@HAppend.hAppend va_W va_W va_W _ (mW m0 ma la lb n t v) (@HAppend.hAppend va_W va_W va_W _ ([((ma 0), .inl (X.2.1, 371, .inl f_10))]) ([((ma 3), .inl (X.2.1, 3, .inl fr))]))) H locs := ⟨_, 0, InA_n3 (n := 0) hI_fa (by omega), rfl, rfl, G⟩
      have kp_f_10 : kpM fa f_10 := kp_u kp_r hE_f_10 (by decide)
      refine lv_iload_n zx zb dX11_forget_37 rfl (lv_at hl 0 rfl) ?_
      have hzA : ((nI c3), (c1, c2, c_11)) = forF 2 c1 c2 c3 := by rw [forF_2 rfl, show c_11 = 0 from by omega]
      exact e_int S zr zlk (vp_nar_int _) G (f_10, c1, c2, c_11, fr) [0, 1, 2] rfl rfl (Or.inr rfl) (⟨hI_f_10, ⟨hzA, kp_f_10⟩⟩) dX11_forget_38
  · refine lv_if_ne (tgt := 19) zx zb dX11_forget_9 (by decide) (fun c_12 => absurd (by decide) c_12) (fun c_12 => ?_)
    refine lv_aload_n zx zb dX11_forget_12 rfl (lv_at hl 0 rfl) ?_
    refine lv_bipush (v := (-2)) zx zb dX11_forget_13 (by decide) ?_
    refine b_wi (cells' := 0) (slots' := 0) (wr := [((ma 0), .inl (X.2.1, 371, .inl fa))]) G rfl rfl [0, 2] [1] rfl rfl rfl rfl (n_V (As := [.int (-2)]) (rest := []) (C := RX11) (T := TX11) (N := 18) (ci := 9) S G (m_bad l X m0 ma la lb n t v fr (-2) hI_n hI_t H.size) gX11_forget_X11_bad rfl rfl rfl hdV_X11_bad ⟨Nat.le_of_ble_eq_true rfl, Nat.le_of_ble_eq_true rfl⟩ [0, 2] rfl rfl 0 rfl rfl rfl hl.1 (Nat.le_of_ble_eq_true rfl) dX11_forget_15 ⟨Nat.le_of_ble_eq_true rfl, Nat.le_of_ble_eq_true rfl⟩) (fun r_13 u_13 H locs hp_13 G => ?_)
    obtain ⟨f_13, rfl⟩ : ∃ z, z = u_13 := ⟨_, rfl⟩
    have hq_13 := hp_13
    have G : wd X (va_A (@HAppend.hAppend va_W va_W va_W _ (mW m0 ma la lb n t v) (@HAppend.hAppend va_W va_W va_W _ ([((ma 0), .inl (X.2.1, 371, .inl fa))]) ([((ma 3), .inl (X.2.1, 3, .inl fr))]))) sz) (va_A (@HAppend.hAppend va_W va_W va_W _ (mW m0 ma la lb n t v) (@HAppend.hAppend va_W va_W va_W _ ([((ma 0), .inl (X.2.1, 371, .inl fa))]) ([((ma 3), .inl (X.2.1, 3, .inl fr))]))) sz) s (@HAppend.hAppend va_W va_W va_W _ ([((ma 0), .inl (X.2.1, 371, .inl fa))]) (@HAppend.hAppend va_W va_W va_W _ (mW m0 ma la lb n t v) ([((ma 3), .inl (X.2.1, 3, .inl f_13))]))) H locs := G
    obtain rfl := hq_13
    have hzA : ((-2), (c1, c2, c3)) = forF x1 c1 c2 c3 := (forF_n (fun h => hw_1 h)).symm
    exact e_int S zr zlk (vp_nar_int _) G (fa, c1, c2, c3, f_13) [1, 0, 2] rfl rfl (Or.inr rfl) (⟨hI_fa, ⟨hzA, kp_r⟩⟩) dX11_forget_18
set_option maxHeartbeats 4000000 in
set_option maxRecDepth 100000 in
theorem y_has (l : Launch) (X : EX) (B : Int32) (k : Nat) (sz : Nat) : Met l yX11_has wsX11_has ({ frames := 0, cells := 0, slots := 0, locals := 0 } : Room) (pE X [.int B, .int (nI k)] ([]) sz) (qI (fun (r : Int32) (u : Unit) => (r = 1 ∧ hasB B k) ∨ (r = 0 ∧ ¬ hasB B k)) X (fun (u : Unit) => []) [] sz) 0 0 (va_A [] sz) := by
  refine mk_met (B := (fun _ => True)) (A := (va_A [] sz)) (cc := cX11_has) (maxL := 2) (ret := (some .boolean)) (by decide) rfl (Nat.le_of_ble_eq_true rfl) k_ro k_a (fun p e s m below meth c S zr zlk znm zsz G ls hl => ?_)
  have S : CallFix p m c cX11_has 2 s _ wsX11_has RX11 := S
  have zx := S.1
  have zb := S.2.1
  have hl : lv_has ls 2 [(0, .int B), (1, .int (nI k))] := hl
  refine lv_iload_n zx zb dX11_has_0 rfl (lv_at hl 0 rfl) ?_
  refine lv_iload_n zx zb dX11_has_1 rfl (lv_at hl 1 rfl) ?_
  refine lv_ishr zx zb dX11_has_2 ?_
  refine lv_iconst (v := 1) zx zb dX11_has_3 (by decide) ?_
  refine lv_iand zx zb dX11_has_4 ?_
  refine lv_iconst (v := 1) zx zb dX11_has_5 (by decide) ?_
  refine lv_icmp_ne (tgt := 13) zx zb dX11_has_6 (by decide) (fun c_1 => ?_) (fun c_1 => ?_)
  · refine lv_iconst (v := 0) zx zb dX11_has_13 (by decide) ?_
    exact e_int S zr zlk (by decide) G () [] rfl rfl (Or.inl rfl) (Or.inr ⟨rfl, c_1⟩) dX11_has_14
  · refine lv_iconst (v := 1) zx zb dX11_has_9 (by decide) ?_
    refine lv_goto (tgt := 14) zx zb dX11_has_10 (by decide) ?_
    exact e_int S zr zlk (by decide) G () [] rfl rfl (Or.inl rfl) (Or.inl ⟨rfl, c_1⟩) dX11_has_14
set_option maxHeartbeats 4000000 in
set_option maxRecDepth 100000 in
theorem y_strong (l : Launch) (X : EX) (m0 : Nat) (ma : Nat → Nat) (la : Int64) (lb : Int64) (n : Nat) (t : Nat → Nat) (v : Nat → Int32) (fa : Nat → Int32) (c0 : Nat) (c1 : Nat) (c2 : Nat) (c3 : Nat) (c4 : Nat) (fr : Nat → Int32) (x1 : Int32) (x2 : Int32) (hI_n : n ≤ 150) (hI_t : InT t) (hI_fa : InA fa c0 c1 c2 c3 c4) (sz : Nat) : Met l yX11_strong wsX11_strong ({ frames := 2, cells := 0, slots := 0, locals := 52 } : Room) (pE X [.ref m0, .int x1, .int x2] (@HAppend.hAppend va_W va_W va_W _ (mW m0 ma la lb n t v) (@HAppend.hAppend va_W va_W va_W _ ([((ma 0), .inl (X.2.1, 371, .inl fa))]) ([((ma 3), .inl (X.2.1, 3, .inl fr))]))) sz) (qI (fun (r : Int32) (u : (Nat → Int32)) => (r = ansF (thP c0 x1 ∧ ((0 : Int32) ≤ x2 ∧ x2 ≤ 2)) (strF (setF (fun l => fitP c1 (fun k => fa (55 + (4 * k))) (fun _ => nI l) (fun k => fa ((55 + (4 * k)) + 1)) (fun k => fa ((55 + (4 * k)) + 2)) (fun k => fa ((55 + (4 * k)) + 3)) x1 (fa (37 + x1.toNatClampNeg))) 1 9) x2))) X (fun (u : (Nat → Int32)) => @HAppend.hAppend va_W va_W va_W _ (mW m0 ma la lb n t v) (@HAppend.hAppend va_W va_W va_W _ ([((ma 0), .inl (X.2.1, 371, .inl fa))]) ([((ma 3), .inl (X.2.1, 3, .inl u))]))) (@HAppend.hAppend va_W va_W va_W _ (mW m0 ma la lb n t v) (@HAppend.hAppend va_W va_W va_W _ ([((ma 0), .inl (X.2.1, 371, .inl fa))]) ([((ma 3), .inl (X.2.1, 3, .inl fr))]))) sz) 0 0 (va_A (@HAppend.hAppend va_W va_W va_W _ (mW m0 ma la lb n t v) (@HAppend.hAppend va_W va_W va_W _ ([((ma 0), .inl (X.2.1, 371, .inl fa))]) ([((ma 3), .inl (X.2.1, 3, .inl fr))]))) sz) := by
  refine mk_met (B := (va_A (@HAppend.hAppend va_W va_W va_W _ (mW m0 ma la lb n t v) (@HAppend.hAppend va_W va_W va_W _ ([((ma 0), .inl (X.2.1, 371, .inl fa))]) ([((ma 3), .inl (X.2.1, 3, .inl fr))]))) sz)) (A := (va_A (@HAppend.hAppend va_W va_W va_W _ (mW m0 ma la lb n t v) (@HAppend.hAppend va_W va_W va_W _ ([((ma 0), .inl (X.2.1, 371, .inl fa))]) ([((ma 3), .inl (X.2.1, 3, .inl fr))]))) sz)) (cc := cX11_strong) (maxL := 8) (ret := (some .int)) (by decide) rfl (Nat.le_of_ble_eq_true rfl) k_w k_a (fun p e s m below meth c S zr zlk znm zsz G ls hl => ?_)
  have S : CallFix p m c cX11_strong 8 s _ wsX11_strong RX11 := S
  have zx := S.1
  have zb := S.2.1
  have hl : lv_has ls 8 [(0, .ref m0), (1, .int x1), (2, .int x2)] := hl
  have hO_t := hI_t
  obtain ⟨ht0_t, ht1_t⟩ := hO_t
  have hO_fa := hI_fa.2
  obtain ⟨hm0_fa, hm1_fa, hm2_fa, hm3_fa, hm4_fa⟩ := hO_fa
  refine lv_aload_n zx zb dX11_strong_0 rfl (lv_at hl 0 rfl) ?_
  refine lv_iload_n zx zb dX11_strong_1 rfl (lv_at hl 1 rfl) ?_
  refine o_ri (cells' := 0) (slots' := 0) G rfl rfl (n_V (As := [.int x1]) (rest := []) (C := RX11) (T := TX11) (N := 18) (ci := 9) S G (m_isOne l X m0 ma la lb n t v fa c0 c1 c2 c3 c4 x1 hI_n hI_t hI_fa s.heap.size) gX11_strong_X11_isOne rfl rfl rfl hdV_X11_isOne ⟨Nat.le_of_ble_eq_true rfl, Nat.le_of_ble_eq_true rfl⟩ [0, 1] rfl rfl 0 rfl rfl rfl hl.1 (Nat.le_of_ble_eq_true rfl) dX11_strong_2 ⟨Nat.le_of_ble_eq_true rfl, Nat.le_of_ble_eq_true rfl⟩) (fun r_1 u_1 H locs hp_1 G => ?_)
  have G : wd X (va_A (@HAppend.hAppend va_W va_W va_W _ (mW m0 ma la lb n t v) (@HAppend.hAppend va_W va_W va_W _ ([((ma 0), .inl (X.2.1, 371, .inl fa))]) ([((ma 3), .inl (X.2.1, 3, .inl fr))]))) sz) (va_A (@HAppend.hAppend va_W va_W va_W _ (mW m0 ma la lb n t v) (@HAppend.hAppend va_W va_W va_W _ ([((ma 0), .inl (X.2.1, 371, .inl fa))]) ([((ma 3), .inl (X.2.1, 3, .inl fr))]))) sz) s (@HAppend.hAppend va_W va_W va_W _ (mW m0 ma la lb n t v) (@HAppend.hAppend va_W va_W va_W _ ([((ma 0), .inl (X.2.1, 371, .inl fa))]) ([((ma 3), .inl (X.2.1, 3, .inl fr))]))) H locs := G
  rcases hp_1 with ⟨rfl, hj_1⟩ | ⟨rfl, hj_1⟩
  · obtain ⟨j_1, hj_1, rfl⟩ := hj_1
    refine lv_if_eq (tgt := 20) zx zb dX11_strong_5 (by decide) (fun c_2 => absurd c_2 (by decide)) (fun c_2 => ?_)
    refine lv_iload_n zx zb dX11_strong_8 rfl (lv_at hl 2 rfl) ?_
    refine lv_i2l (v := (Int32.toInt64 x2)) zx zb dX11_strong_9 rfl ?_
    refine lv_lconst (v := (Int32.toInt64 0)) zx zb dX11_strong_10 (by decide) ?_
    refine lv_ldc2 zx zb S.2.2.2.1 (S.2.2.2.2 _ mm_X11_strong_c156) dX11_strong_11 ?_
    refine k_ld (v := (Int32.toInt64 2)) (by decide) ?_
    refine o_ri (cells' := 0) (slots' := 0) G rfl rfl (n_S (As := [.long (Int32.toInt64 x2), .long (Int32.toInt64 0), .long (Int32.toInt64 2)]) (rest := []) S G (m_in l X x2 0 2 H.size) gX11_strong_X11_in rfl rfl rfl hdS_X11_in ⟨Nat.le_of_ble_eq_true rfl, Nat.le_of_ble_eq_true rfl⟩ [] rfl rfl rfl hl.1 (Nat.le_of_ble_eq_true rfl) dX11_strong_14 ⟨Nat.le_of_ble_eq_true rfl, Nat.le_of_ble_eq_true rfl⟩) (fun r_3 u_3 H locs hp_3 G => ?_)
    have G : wd X (va_A (@HAppend.hAppend va_W va_W va_W _ (mW m0 ma la lb n t v) (@HAppend.hAppend va_W va_W va_W _ ([((ma 0), .inl (X.2.1, 371, .inl fa))]) ([((ma 3), .inl (X.2.1, 3, .inl fr))]))) sz) (va_A (@HAppend.hAppend va_W va_W va_W _ (mW m0 ma la lb n t v) (@HAppend.hAppend va_W va_W va_W _ ([((ma 0), .inl (X.2.1, 371, .inl fa))]) ([((ma 3), .inl (X.2.1, 3, .inl fr))]))) sz) s (@HAppend.hAppend va_W va_W va_W _ (mW m0 ma la lb n t v) (@HAppend.hAppend va_W va_W va_W _ ([((ma 0), .inl (X.2.1, 371, .inl fa))]) ([((ma 3), .inl (X.2.1, 3, .inl fr))]))) H locs := G
    rcases hp_3 with ⟨rfl, hw_3⟩ | ⟨rfl, hw_3⟩
    · obtain ⟨j_3, ⟨ja_3, jb_3⟩, rfl⟩ := k_natR (a := 0) (b := 2) hw_3 rfl rfl (by decide) (by decide)
      refine lv_if_ne (tgt := 27) zx zb dX11_strong_17 (by decide) (fun c_4 => ?_) (fun c_4 => absurd c_4 (by decide))
      rcases k_3c (show j_3 < 3 by omega) with rfl | rfl | rfl
      · have hl : lv_has ls 8 [(0, .ref m0), (1, .int (nI j_1)), (2, .int 0)] := hl
        refine lv_aload_n zx zb dX11_strong_27 rfl (lv_at hl 0 rfl) ?_
        refine lv_iload_n zx zb dX11_strong_28 rfl (lv_at hl 1 rfl) ?_
        refine o_ri (cells' := 0) (slots' := 0) G rfl rfl (n_V (As := [.int (nI j_1)]) (rest := []) (C := RX11) (T := TX11) (N := 18) (ci := 9) S G (y_legsOf l X m0 ma la lb n t v fa c0 c1 c2 c3 c4 j_1 hI_n hI_t hI_fa (by omega) H.size) gX11_strong_X11_legsOf rfl rfl rfl hdV_X11_legsOf ⟨Nat.le_of_ble_eq_true rfl, Nat.le_of_ble_eq_true rfl⟩ [0, 1] rfl rfl 0 rfl rfl rfl hl.1 (Nat.le_of_ble_eq_true rfl) dX11_strong_29 ⟨Nat.le_of_ble_eq_true rfl, Nat.le_of_ble_eq_true rfl⟩) (fun r_5 u_5 H locs hp_5 G => ?_)
        have G : wd X (va_A (@HAppend.hAppend va_W va_W va_W _ (mW m0 ma la lb n t v) (@HAppend.hAppend va_W va_W va_W _ ([((ma 0), .inl (X.2.1, 371, .inl fa))]) ([((ma 3), .inl (X.2.1, 3, .inl fr))]))) sz) (va_A (@HAppend.hAppend va_W va_W va_W _ (mW m0 ma la lb n t v) (@HAppend.hAppend va_W va_W va_W _ ([((ma 0), .inl (X.2.1, 371, .inl fa))]) ([((ma 3), .inl (X.2.1, 3, .inl fr))]))) sz) s (@HAppend.hAppend va_W va_W va_W _ (mW m0 ma la lb n t v) (@HAppend.hAppend va_W va_W va_W _ ([((ma 0), .inl (X.2.1, 371, .inl fa))]) ([((ma 3), .inl (X.2.1, 3, .inl fr))]))) H locs := G
        refine lv_istore_n (lv' := [(3, .int r_5), (0, .ref m0), (1, .int (nI j_1)), (2, .int 0)]) zx zb dX11_strong_32 rfl hl (by decide) rfl (fun ls hl => ?_)
        refine lv_iconst (v := 0) zx zb dX11_strong_33 (by decide) ?_
        refine lv_istore (lv' := [(4, .int 0), (3, .int r_5), (0, .ref m0), (1, .int (nI j_1)), (2, .int 0)]) zx zb dX11_strong_34 hl (by decide) rfl (fun ls hl => ?_)
        refine lv_iconst (v := (-1)) zx zb dX11_strong_36 (by decide) ?_
        refine lv_istore (lv' := [(5, .int (-1)), (4, .int 0), (3, .int r_5), (0, .ref m0), (1, .int (nI j_1)), (2, .int 0)]) zx zb dX11_strong_37 hl (by decide) rfl (fun ls hl => ?_)
        refine lv_iconst (v := (-1)) zx zb dX11_strong_39 (by decide) ?_
        refine lv_istore (lv' := [(6, .int (-1)), (5, .int (-1)), (4, .int 0), (3, .int r_5), (0, .ref m0), (1, .int (nI j_1)), (2, .int 0)]) zx zb dX11_strong_40 hl (by decide) rfl (fun ls hl => ?_)
        refine lv_iconst (v := 1) zx zb dX11_strong_42 (by decide) ?_
        refine lv_istore (lv' := [(7, .int 1), (6, .int (-1)), (5, .int (-1)), (4, .int 0), (3, .int r_5), (0, .ref m0), (1, .int (nI j_1)), (2, .int 0)]) zx zb dX11_strong_43 hl (by decide) rfl (fun ls hl => ?_)
        refine k_loop (P := ∀ (zm : Nat) (n45_7 : Nat) (x45_6 : Int32) (x45_5 : Int32) (n45_4 : Nat) (H : Heap) (locs : List Loc) (ls : Array Slot), ((10 - n45_7) < zm) → ((1 ≤ n45_7 ∧ n45_7 ≤ 10 ∧ n45_4 + 1 ≤ n45_7) ∧ n45_4 = cntB r_5 (n45_7 - 1) ∧ x45_5 = leaF r_5 (n45_7 - 1) ∧ x45_6 = greF r_5 (n45_7 - 1)) → (n45_7 ≤ 10) → (n45_4 ≤ 100) → wd X (va_A (@HAppend.hAppend va_W va_W va_W _ (mW m0 ma la lb n t v) (@HAppend.hAppend va_W va_W va_W _ ([((ma 0), .inl (X.2.1, 371, .inl fa))]) ([((ma 3), .inl (X.2.1, 3, .inl fr))]))) sz) (va_A (@HAppend.hAppend va_W va_W va_W _ (mW m0 ma la lb n t v) (@HAppend.hAppend va_W va_W va_W _ ([((ma 0), .inl (X.2.1, 371, .inl fa))]) ([((ma 3), .inl (X.2.1, 3, .inl fr))]))) sz) s (@HAppend.hAppend va_W va_W va_W _ (mW m0 ma la lb n t v) (@HAppend.hAppend va_W va_W va_W _ ([((ma 0), .inl (X.2.1, 371, .inl fa))]) ([((ma 3), .inl (X.2.1, 3, .inl fr))]))) H locs → lv_has ls 8 [(7, .int (nI n45_7)), (6, .int x45_6), (5, .int x45_5), (4, .int (nI n45_4)), (3, .int r_5), (0, .ref m0), (1, .int (nI j_1)), (2, .int 0)] → W p l e _ s m _ below meth c H locs _ _ _ (F0 m 45 ls [])) (fun loop => loop ((10 - 1) + 1) 1 (-1) (-1) 0 _ _ _ (by omega) ⟨by omega, rfl, rfl, rfl⟩ (by omega) (by omega) G hl) ?_
        intro zm
        induction zm with
        | zero => intro n45_7 x45_6 x45_5 n45_4 H locs ls zz q_x0 q_hk_n45_7 q_hk_n45_4 _ _; exact absurd zz (by omega)
        | succ zm ih45 =>
          intro n45_7 x45_6 x45_5 n45_4 H locs ls zm_45 hx45_0 hk_n45_7 hk_n45_4 G hl
          refine lv_iload zx zb dX11_strong_45 (lv_at hl 0 rfl) ?_
          refine lv_bipush (v := 10) zx zb dX11_strong_47 (by decide) ?_
          refine lv_icmp_ge (tgt := 88) zx zb dX11_strong_49 (by decide) (fun c_6 => ?_) (fun c_6 => ?_)
          · have fc_6 := j_le (a := 10) (b := n45_7) (by omega) (by omega) c_6
            refine lv_iload_n zx zb dX11_strong_88 rfl (lv_at hl 7 rfl) ?_
            refine lv_if_ne (tgt := 97) zx zb dX11_strong_89 (by decide) (fun c_7 => absurd (by decide) c_7) (fun c_7 => ?_)
            refine lv_iload zx zb dX11_strong_92 (lv_at hl 3 rfl) ?_
            refine lv_goto (tgt := 109) zx zb dX11_strong_94 (by decide) ?_
            have hST : (nI n45_4) = strF r_5 (0 : Int32) := (congrArg nI hx45_0.2.1).trans (by rw [show n45_7 = 10 from by omega]; rfl)
            exact e_int S zr zlk (vp_nar_int _) G (fr) [0, 1, 2] rfl rfl (Or.inr rfl) (hST.trans ((congrArg (fun z => strF z _) (hp_5.trans (by rw [nI_clamp (by first | omega | (dsimp only; omega))]))).trans (ansF_t ⟨⟨_, hj_1, rfl⟩, hw_3⟩).symm)) dX11_strong_109
          · have fc_6 := j_nle (a := 10) (b := n45_7) (by omega) (by omega) c_6
            refine lv_iload_n zx zb dX11_strong_52 rfl (lv_at hl 4 rfl) ?_
            refine lv_iload zx zb dX11_strong_53 (lv_at hl 0 rfl) ?_
            refine o_ri (cells' := 0) (slots' := 0) G rfl rfl (n_S (As := [.int r_5, .int (nI n45_7)]) (rest := []) S G (y_has l X r_5 n45_7 H.size) gX11_strong_X11_has rfl rfl rfl hdS_X11_has ⟨Nat.le_of_ble_eq_true rfl, Nat.le_of_ble_eq_true rfl⟩ [] rfl rfl rfl hl.1 (Nat.le_of_ble_eq_true rfl) dX11_strong_55 ⟨Nat.le_of_ble_eq_true rfl, Nat.le_of_ble_eq_true rfl⟩) (fun r_8 u_8 H locs hp_8 G => ?_)
            have G : wd X (va_A (@HAppend.hAppend va_W va_W va_W _ (mW m0 ma la lb n t v) (@HAppend.hAppend va_W va_W va_W _ ([((ma 0), .inl (X.2.1, 371, .inl fa))]) ([((ma 3), .inl (X.2.1, 3, .inl fr))]))) sz) (va_A (@HAppend.hAppend va_W va_W va_W _ (mW m0 ma la lb n t v) (@HAppend.hAppend va_W va_W va_W _ ([((ma 0), .inl (X.2.1, 371, .inl fa))]) ([((ma 3), .inl (X.2.1, 3, .inl fr))]))) sz) s (@HAppend.hAppend va_W va_W va_W _ (mW m0 ma la lb n t v) (@HAppend.hAppend va_W va_W va_W _ ([((ma 0), .inl (X.2.1, 371, .inl fa))]) ([((ma 3), .inl (X.2.1, 3, .inl fr))]))) H locs := G
            rcases hp_8 with ⟨rfl, hb_8⟩ | ⟨rfl, hb_8⟩
            · refine lv_if_eq (tgt := 82) zx zb dX11_strong_58 (by decide) (fun c_9 => absurd c_9 (by decide)) (fun c_9 => ?_)
              refine lv_iload zx zb dX11_strong_61 (lv_at hl 3 rfl) ?_
              refine lv_if_ne (tgt := 71) zx zb dX11_strong_63 (by decide) (fun c_10 => ?_) (fun c_10 => ?_)
              · have fc_10 := j_ne (a := n45_4) (b := 0) c_10
                refine lv_iload zx zb dX11_strong_71 (lv_at hl 2 rfl) ?_
                refine lv_istore (lv' := [(5, .int x45_5), (7, .int (nI n45_7)), (6, .int x45_6), (4, .int (nI n45_4)), (3, .int r_5), (0, .ref m0), (1, .int (nI j_1)), (2, .int 0)]) zx zb dX11_strong_73 hl (by decide) rfl (fun ls hl => ?_)
                refine lv_iload zx zb dX11_strong_75 (lv_at hl 1 rfl) ?_
                refine lv_istore (lv' := [(6, .int (nI n45_7)), (5, .int x45_5), (7, .int (nI n45_7)), (4, .int (nI n45_4)), (3, .int r_5), (0, .ref m0), (1, .int (nI j_1)), (2, .int 0)]) zx zb dX11_strong_77 hl (by decide) rfl (fun ls hl => ?_)
                refine lv_iinc (v := (nI (n45_4 + 1))) (lv' := [(4, .int (nI (n45_4 + 1))), (6, .int (nI n45_7)), (5, .int x45_5), (7, .int (nI n45_7)), (3, .int r_5), (0, .ref m0), (1, .int (nI j_1)), (2, .int 0)]) zx zb dX11_strong_79 hl (k := 3) rfl (nI_add n45_4 1) (by decide) rfl (fun ls hl => ?_)
                refine lv_iinc (v := (nI (n45_7 + 1))) (lv' := [(7, .int (nI (n45_7 + 1))), (4, .int (nI (n45_4 + 1))), (6, .int (nI n45_7)), (5, .int x45_5), (3, .int r_5), (0, .ref m0), (1, .int (nI j_1)), (2, .int 0)]) zx zb dX11_strong_82 hl (k := 3) rfl (nI_add n45_7 1) (by decide) rfl (fun ls hl => ?_)
                refine lv_goto (tgt := 45) zx zb dX11_strong_85 (by decide) ?_
                have hl := lv_sub hl (l' := [(7, .int (nI (n45_7 + 1))), (6, .int (nI n45_7)), (5, .int x45_5), (4, .int (nI (n45_4 + 1))), (3, .int r_5), (0, .ref m0), (1, .int (nI j_1)), (2, .int 0)]) [0, 2, 3, 1, 4, 5, 6, 7] rfl
                exact ih45 (n45_7 + 1) (nI n45_7) x45_5 (n45_4 + 1) _ _ _ (by omega) ⟨by omega, by rw [show n45_7 + 1 - 1 = (n45_7 - 1) + 1 from by omega, cntB, show n45_7 - 1 + 1 = n45_7 from by omega, if_pos hb_8, ← hx45_0.2.1], by rw [show n45_7 + 1 - 1 = (n45_7 - 1) + 1 from by omega, leaF, show n45_7 - 1 + 1 = n45_7 from by omega, if_neg (fun z => absurd (hx45_0.2.1.trans ((cnt_lea (n45_7 - 1) (by omega)).mpr z.2)) (by omega))]; exact hx45_0.2.2.1, by rw [show n45_7 + 1 - 1 = (n45_7 - 1) + 1 from by omega, greF, show n45_7 - 1 + 1 = n45_7 from by omega, if_pos hb_8]⟩ (by omega) (by omega) G hl
              · have fc_10 := j_eq (a := n45_4) (b := 0) (by omega) (by omega) c_10
                refine lv_iload zx zb dX11_strong_66 (lv_at hl 0 rfl) ?_
                refine lv_goto (tgt := 73) zx zb dX11_strong_68 (by decide) ?_
                refine lv_istore (lv' := [(5, .int (nI n45_7)), (7, .int (nI n45_7)), (6, .int x45_6), (4, .int (nI n45_4)), (3, .int r_5), (0, .ref m0), (1, .int (nI j_1)), (2, .int 0)]) zx zb dX11_strong_73 hl (by decide) rfl (fun ls hl => ?_)
                refine lv_iload zx zb dX11_strong_75 (lv_at hl 1 rfl) ?_
                refine lv_istore (lv' := [(6, .int (nI n45_7)), (5, .int (nI n45_7)), (7, .int (nI n45_7)), (4, .int (nI n45_4)), (3, .int r_5), (0, .ref m0), (1, .int (nI j_1)), (2, .int 0)]) zx zb dX11_strong_77 hl (by decide) rfl (fun ls hl => ?_)
                refine lv_iinc (v := (nI (n45_4 + 1))) (lv' := [(4, .int (nI (n45_4 + 1))), (6, .int (nI n45_7)), (5, .int (nI n45_7)), (7, .int (nI n45_7)), (3, .int r_5), (0, .ref m0), (1, .int (nI j_1)), (2, .int 0)]) zx zb dX11_strong_79 hl (k := 3) rfl (nI_add n45_4 1) (by decide) rfl (fun ls hl => ?_)
                refine lv_iinc (v := (nI (n45_7 + 1))) (lv' := [(7, .int (nI (n45_7 + 1))), (4, .int (nI (n45_4 + 1))), (6, .int (nI n45_7)), (5, .int (nI n45_7)), (3, .int r_5), (0, .ref m0), (1, .int (nI j_1)), (2, .int 0)]) zx zb dX11_strong_82 hl (k := 3) rfl (nI_add n45_7 1) (by decide) rfl (fun ls hl => ?_)
                refine lv_goto (tgt := 45) zx zb dX11_strong_85 (by decide) ?_
                have hl := lv_sub hl (l' := [(7, .int (nI (n45_7 + 1))), (6, .int (nI n45_7)), (5, .int (nI n45_7)), (4, .int (nI (n45_4 + 1))), (3, .int r_5), (0, .ref m0), (1, .int (nI j_1)), (2, .int 0)]) [0, 2, 3, 1, 4, 5, 6, 7] rfl
                exact ih45 (n45_7 + 1) (nI n45_7) (nI n45_7) (n45_4 + 1) _ _ _ (by omega) ⟨by omega, by rw [show n45_7 + 1 - 1 = (n45_7 - 1) + 1 from by omega, cntB, show n45_7 - 1 + 1 = n45_7 from by omega, if_pos hb_8, ← hx45_0.2.1], by rw [show n45_7 + 1 - 1 = (n45_7 - 1) + 1 from by omega, leaF, show n45_7 - 1 + 1 = n45_7 from by omega, if_pos ⟨hb_8, (cnt_lea (n45_7 - 1) (by omega)).mp (hx45_0.2.1.symm.trans (by omega))⟩], by rw [show n45_7 + 1 - 1 = (n45_7 - 1) + 1 from by omega, greF, show n45_7 - 1 + 1 = n45_7 from by omega, if_pos hb_8]⟩ (by omega) (by omega) G hl
            · refine lv_if_eq (tgt := 82) zx zb dX11_strong_58 (by decide) (fun c_11 => ?_) (fun c_11 => absurd (by decide) c_11)
              refine lv_iinc (v := (nI (n45_7 + 1))) (lv' := [(7, .int (nI (n45_7 + 1))), (6, .int x45_6), (5, .int x45_5), (4, .int (nI n45_4)), (3, .int r_5), (0, .ref m0), (1, .int (nI j_1)), (2, .int 0)]) zx zb dX11_strong_82 hl (k := 0) rfl (nI_add n45_7 1) (by decide) rfl (fun ls hl => ?_)
              refine lv_goto (tgt := 45) zx zb dX11_strong_85 (by decide) ?_
              exact ih45 (n45_7 + 1) x45_6 x45_5 n45_4 _ _ _ (by omega) ⟨by omega, by rw [show n45_7 + 1 - 1 = (n45_7 - 1) + 1 from by omega, cntB, show n45_7 - 1 + 1 = n45_7 from by omega, if_neg hb_8]; exact hx45_0.2.1, by rw [show n45_7 + 1 - 1 = (n45_7 - 1) + 1 from by omega, leaF, show n45_7 - 1 + 1 = n45_7 from by omega, if_neg (fun z => hb_8 z.1)]; exact hx45_0.2.2.1, by rw [show n45_7 + 1 - 1 = (n45_7 - 1) + 1 from by omega, greF, show n45_7 - 1 + 1 = n45_7 from by omega, if_neg hb_8]; exact hx45_0.2.2.2⟩ (by omega) (by omega) G hl
      · have hl : lv_has ls 8 [(0, .ref m0), (1, .int (nI j_1)), (2, .int 1)] := hl
        refine lv_aload_n zx zb dX11_strong_27 rfl (lv_at hl 0 rfl) ?_
        refine lv_iload_n zx zb dX11_strong_28 rfl (lv_at hl 1 rfl) ?_
        refine o_ri (cells' := 0) (slots' := 0) G rfl rfl (n_V (As := [.int (nI j_1)]) (rest := []) (C := RX11) (T := TX11) (N := 18) (ci := 9) S G (y_legsOf l X m0 ma la lb n t v fa c0 c1 c2 c3 c4 j_1 hI_n hI_t hI_fa (by omega) H.size) gX11_strong_X11_legsOf rfl rfl rfl hdV_X11_legsOf ⟨Nat.le_of_ble_eq_true rfl, Nat.le_of_ble_eq_true rfl⟩ [0, 1] rfl rfl 0 rfl rfl rfl hl.1 (Nat.le_of_ble_eq_true rfl) dX11_strong_29 ⟨Nat.le_of_ble_eq_true rfl, Nat.le_of_ble_eq_true rfl⟩) (fun r_12 u_12 H locs hp_12 G => ?_)
        have G : wd X (va_A (@HAppend.hAppend va_W va_W va_W _ (mW m0 ma la lb n t v) (@HAppend.hAppend va_W va_W va_W _ ([((ma 0), .inl (X.2.1, 371, .inl fa))]) ([((ma 3), .inl (X.2.1, 3, .inl fr))]))) sz) (va_A (@HAppend.hAppend va_W va_W va_W _ (mW m0 ma la lb n t v) (@HAppend.hAppend va_W va_W va_W _ ([((ma 0), .inl (X.2.1, 371, .inl fa))]) ([((ma 3), .inl (X.2.1, 3, .inl fr))]))) sz) s (@HAppend.hAppend va_W va_W va_W _ (mW m0 ma la lb n t v) (@HAppend.hAppend va_W va_W va_W _ ([((ma 0), .inl (X.2.1, 371, .inl fa))]) ([((ma 3), .inl (X.2.1, 3, .inl fr))]))) H locs := G
        refine lv_istore_n (lv' := [(3, .int r_12), (0, .ref m0), (1, .int (nI j_1)), (2, .int 1)]) zx zb dX11_strong_32 rfl hl (by decide) rfl (fun ls hl => ?_)
        refine lv_iconst (v := 0) zx zb dX11_strong_33 (by decide) ?_
        refine lv_istore (lv' := [(4, .int 0), (3, .int r_12), (0, .ref m0), (1, .int (nI j_1)), (2, .int 1)]) zx zb dX11_strong_34 hl (by decide) rfl (fun ls hl => ?_)
        refine lv_iconst (v := (-1)) zx zb dX11_strong_36 (by decide) ?_
        refine lv_istore (lv' := [(5, .int (-1)), (4, .int 0), (3, .int r_12), (0, .ref m0), (1, .int (nI j_1)), (2, .int 1)]) zx zb dX11_strong_37 hl (by decide) rfl (fun ls hl => ?_)
        refine lv_iconst (v := (-1)) zx zb dX11_strong_39 (by decide) ?_
        refine lv_istore (lv' := [(6, .int (-1)), (5, .int (-1)), (4, .int 0), (3, .int r_12), (0, .ref m0), (1, .int (nI j_1)), (2, .int 1)]) zx zb dX11_strong_40 hl (by decide) rfl (fun ls hl => ?_)
        refine lv_iconst (v := 1) zx zb dX11_strong_42 (by decide) ?_
        refine lv_istore (lv' := [(7, .int 1), (6, .int (-1)), (5, .int (-1)), (4, .int 0), (3, .int r_12), (0, .ref m0), (1, .int (nI j_1)), (2, .int 1)]) zx zb dX11_strong_43 hl (by decide) rfl (fun ls hl => ?_)
        refine k_loop (P := ∀ (zm : Nat) (n45_7 : Nat) (x45_6 : Int32) (x45_5 : Int32) (n45_4 : Nat) (H : Heap) (locs : List Loc) (ls : Array Slot), ((10 - n45_7) < zm) → ((1 ≤ n45_7 ∧ n45_7 ≤ 10 ∧ n45_4 + 1 ≤ n45_7) ∧ n45_4 = cntB r_12 (n45_7 - 1) ∧ x45_5 = leaF r_12 (n45_7 - 1) ∧ x45_6 = greF r_12 (n45_7 - 1)) → (n45_7 ≤ 10) → (n45_4 ≤ 100) → wd X (va_A (@HAppend.hAppend va_W va_W va_W _ (mW m0 ma la lb n t v) (@HAppend.hAppend va_W va_W va_W _ ([((ma 0), .inl (X.2.1, 371, .inl fa))]) ([((ma 3), .inl (X.2.1, 3, .inl fr))]))) sz) (va_A (@HAppend.hAppend va_W va_W va_W _ (mW m0 ma la lb n t v) (@HAppend.hAppend va_W va_W va_W _ ([((ma 0), .inl (X.2.1, 371, .inl fa))]) ([((ma 3), .inl (X.2.1, 3, .inl fr))]))) sz) s (@HAppend.hAppend va_W va_W va_W _ (mW m0 ma la lb n t v) (@HAppend.hAppend va_W va_W va_W _ ([((ma 0), .inl (X.2.1, 371, .inl fa))]) ([((ma 3), .inl (X.2.1, 3, .inl fr))]))) H locs → lv_has ls 8 [(7, .int (nI n45_7)), (6, .int x45_6), (5, .int x45_5), (4, .int (nI n45_4)), (3, .int r_12), (0, .ref m0), (1, .int (nI j_1)), (2, .int 1)] → W p l e _ s m _ below meth c H locs _ _ _ (F0 m 45 ls [])) (fun loop => loop ((10 - 1) + 1) 1 (-1) (-1) 0 _ _ _ (by omega) ⟨by omega, rfl, rfl, rfl⟩ (by omega) (by omega) G hl) ?_
        intro zm
        induction zm with
        | zero => intro n45_7 x45_6 x45_5 n45_4 H locs ls zz q_x0 q_hk_n45_7 q_hk_n45_4 _ _; exact absurd zz (by omega)
        | succ zm ih45 =>
          intro n45_7 x45_6 x45_5 n45_4 H locs ls zm_45 hx45_0 hk_n45_7 hk_n45_4 G hl
          refine lv_iload zx zb dX11_strong_45 (lv_at hl 0 rfl) ?_
          refine lv_bipush (v := 10) zx zb dX11_strong_47 (by decide) ?_
          refine lv_icmp_ge (tgt := 88) zx zb dX11_strong_49 (by decide) (fun c_13 => ?_) (fun c_13 => ?_)
          · have fc_13 := j_le (a := 10) (b := n45_7) (by omega) (by omega) c_13
            refine lv_iload_n zx zb dX11_strong_88 rfl (lv_at hl 7 rfl) ?_
            refine lv_if_ne (tgt := 97) zx zb dX11_strong_89 (by decide) (fun c_14 => ?_) (fun c_14 => absurd c_14 (by decide))
            refine lv_iload_n zx zb dX11_strong_97 rfl (lv_at hl 7 rfl) ?_
            refine lv_iconst (v := 1) zx zb dX11_strong_98 (by decide) ?_
            refine lv_icmp_ne (tgt := 107) zx zb dX11_strong_99 (by decide) (fun c_15 => absurd (by decide) c_15) (fun c_15 => ?_)
            refine lv_iload zx zb dX11_strong_102 (lv_at hl 2 rfl) ?_
            refine lv_goto (tgt := 109) zx zb dX11_strong_104 (by decide) ?_
            have hST : x45_5 = strF r_12 (1 : Int32) := (hx45_0.2.2.1).trans (by rw [show n45_7 = 10 from by omega]; rfl)
            exact e_int S zr zlk (vp_nar_int _) G (fr) [0, 1, 2] rfl rfl (Or.inr rfl) (hST.trans ((congrArg (fun z => strF z _) (hp_12.trans (by rw [nI_clamp (by first | omega | (dsimp only; omega))]))).trans (ansF_t ⟨⟨_, hj_1, rfl⟩, hw_3⟩).symm)) dX11_strong_109
          · have fc_13 := j_nle (a := 10) (b := n45_7) (by omega) (by omega) c_13
            refine lv_iload_n zx zb dX11_strong_52 rfl (lv_at hl 4 rfl) ?_
            refine lv_iload zx zb dX11_strong_53 (lv_at hl 0 rfl) ?_
            refine o_ri (cells' := 0) (slots' := 0) G rfl rfl (n_S (As := [.int r_12, .int (nI n45_7)]) (rest := []) S G (y_has l X r_12 n45_7 H.size) gX11_strong_X11_has rfl rfl rfl hdS_X11_has ⟨Nat.le_of_ble_eq_true rfl, Nat.le_of_ble_eq_true rfl⟩ [] rfl rfl rfl hl.1 (Nat.le_of_ble_eq_true rfl) dX11_strong_55 ⟨Nat.le_of_ble_eq_true rfl, Nat.le_of_ble_eq_true rfl⟩) (fun r_16 u_16 H locs hp_16 G => ?_)
            have G : wd X (va_A (@HAppend.hAppend va_W va_W va_W _ (mW m0 ma la lb n t v) (@HAppend.hAppend va_W va_W va_W _ ([((ma 0), .inl (X.2.1, 371, .inl fa))]) ([((ma 3), .inl (X.2.1, 3, .inl fr))]))) sz) (va_A (@HAppend.hAppend va_W va_W va_W _ (mW m0 ma la lb n t v) (@HAppend.hAppend va_W va_W va_W _ ([((ma 0), .inl (X.2.1, 371, .inl fa))]) ([((ma 3), .inl (X.2.1, 3, .inl fr))]))) sz) s (@HAppend.hAppend va_W va_W va_W _ (mW m0 ma la lb n t v) (@HAppend.hAppend va_W va_W va_W _ ([((ma 0), .inl (X.2.1, 371, .inl fa))]) ([((ma 3), .inl (X.2.1, 3, .inl fr))]))) H locs := G
            rcases hp_16 with ⟨rfl, hb_16⟩ | ⟨rfl, hb_16⟩
            · refine lv_if_eq (tgt := 82) zx zb dX11_strong_58 (by decide) (fun c_17 => absurd c_17 (by decide)) (fun c_17 => ?_)
              refine lv_iload zx zb dX11_strong_61 (lv_at hl 3 rfl) ?_
              refine lv_if_ne (tgt := 71) zx zb dX11_strong_63 (by decide) (fun c_18 => ?_) (fun c_18 => ?_)
              · have fc_18 := j_ne (a := n45_4) (b := 0) c_18
                refine lv_iload zx zb dX11_strong_71 (lv_at hl 2 rfl) ?_
                refine lv_istore (lv' := [(5, .int x45_5), (7, .int (nI n45_7)), (6, .int x45_6), (4, .int (nI n45_4)), (3, .int r_12), (0, .ref m0), (1, .int (nI j_1)), (2, .int 1)]) zx zb dX11_strong_73 hl (by decide) rfl (fun ls hl => ?_)
                refine lv_iload zx zb dX11_strong_75 (lv_at hl 1 rfl) ?_
                refine lv_istore (lv' := [(6, .int (nI n45_7)), (5, .int x45_5), (7, .int (nI n45_7)), (4, .int (nI n45_4)), (3, .int r_12), (0, .ref m0), (1, .int (nI j_1)), (2, .int 1)]) zx zb dX11_strong_77 hl (by decide) rfl (fun ls hl => ?_)
                refine lv_iinc (v := (nI (n45_4 + 1))) (lv' := [(4, .int (nI (n45_4 + 1))), (6, .int (nI n45_7)), (5, .int x45_5), (7, .int (nI n45_7)), (3, .int r_12), (0, .ref m0), (1, .int (nI j_1)), (2, .int 1)]) zx zb dX11_strong_79 hl (k := 3) rfl (nI_add n45_4 1) (by decide) rfl (fun ls hl => ?_)
                refine lv_iinc (v := (nI (n45_7 + 1))) (lv' := [(7, .int (nI (n45_7 + 1))), (4, .int (nI (n45_4 + 1))), (6, .int (nI n45_7)), (5, .int x45_5), (3, .int r_12), (0, .ref m0), (1, .int (nI j_1)), (2, .int 1)]) zx zb dX11_strong_82 hl (k := 3) rfl (nI_add n45_7 1) (by decide) rfl (fun ls hl => ?_)
                refine lv_goto (tgt := 45) zx zb dX11_strong_85 (by decide) ?_
                have hl := lv_sub hl (l' := [(7, .int (nI (n45_7 + 1))), (6, .int (nI n45_7)), (5, .int x45_5), (4, .int (nI (n45_4 + 1))), (3, .int r_12), (0, .ref m0), (1, .int (nI j_1)), (2, .int 1)]) [0, 2, 3, 1, 4, 5, 6, 7] rfl
                exact ih45 (n45_7 + 1) (nI n45_7) x45_5 (n45_4 + 1) _ _ _ (by omega) ⟨by omega, by rw [show n45_7 + 1 - 1 = (n45_7 - 1) + 1 from by omega, cntB, show n45_7 - 1 + 1 = n45_7 from by omega, if_pos hb_16, ← hx45_0.2.1], by rw [show n45_7 + 1 - 1 = (n45_7 - 1) + 1 from by omega, leaF, show n45_7 - 1 + 1 = n45_7 from by omega, if_neg (fun z => absurd (hx45_0.2.1.trans ((cnt_lea (n45_7 - 1) (by omega)).mpr z.2)) (by omega))]; exact hx45_0.2.2.1, by rw [show n45_7 + 1 - 1 = (n45_7 - 1) + 1 from by omega, greF, show n45_7 - 1 + 1 = n45_7 from by omega, if_pos hb_16]⟩ (by omega) (by omega) G hl
              · have fc_18 := j_eq (a := n45_4) (b := 0) (by omega) (by omega) c_18
                refine lv_iload zx zb dX11_strong_66 (lv_at hl 0 rfl) ?_
                refine lv_goto (tgt := 73) zx zb dX11_strong_68 (by decide) ?_
                refine lv_istore (lv' := [(5, .int (nI n45_7)), (7, .int (nI n45_7)), (6, .int x45_6), (4, .int (nI n45_4)), (3, .int r_12), (0, .ref m0), (1, .int (nI j_1)), (2, .int 1)]) zx zb dX11_strong_73 hl (by decide) rfl (fun ls hl => ?_)
                refine lv_iload zx zb dX11_strong_75 (lv_at hl 1 rfl) ?_
                refine lv_istore (lv' := [(6, .int (nI n45_7)), (5, .int (nI n45_7)), (7, .int (nI n45_7)), (4, .int (nI n45_4)), (3, .int r_12), (0, .ref m0), (1, .int (nI j_1)), (2, .int 1)]) zx zb dX11_strong_77 hl (by decide) rfl (fun ls hl => ?_)
                refine lv_iinc (v := (nI (n45_4 + 1))) (lv' := [(4, .int (nI (n45_4 + 1))), (6, .int (nI n45_7)), (5, .int (nI n45_7)), (7, .int (nI n45_7)), (3, .int r_12), (0, .ref m0), (1, .int (nI j_1)), (2, .int 1)]) zx zb dX11_strong_79 hl (k := 3) rfl (nI_add n45_4 1) (by decide) rfl (fun ls hl => ?_)
                refine lv_iinc (v := (nI (n45_7 + 1))) (lv' := [(7, .int (nI (n45_7 + 1))), (4, .int (nI (n45_4 + 1))), (6, .int (nI n45_7)), (5, .int (nI n45_7)), (3, .int r_12), (0, .ref m0), (1, .int (nI j_1)), (2, .int 1)]) zx zb dX11_strong_82 hl (k := 3) rfl (nI_add n45_7 1) (by decide) rfl (fun ls hl => ?_)
                refine lv_goto (tgt := 45) zx zb dX11_strong_85 (by decide) ?_
                have hl := lv_sub hl (l' := [(7, .int (nI (n45_7 + 1))), (6, .int (nI n45_7)), (5, .int (nI n45_7)), (4, .int (nI (n45_4 + 1))), (3, .int r_12), (0, .ref m0), (1, .int (nI j_1)), (2, .int 1)]) [0, 2, 3, 1, 4, 5, 6, 7] rfl
                exact ih45 (n45_7 + 1) (nI n45_7) (nI n45_7) (n45_4 + 1) _ _ _ (by omega) ⟨by omega, by rw [show n45_7 + 1 - 1 = (n45_7 - 1) + 1 from by omega, cntB, show n45_7 - 1 + 1 = n45_7 from by omega, if_pos hb_16, ← hx45_0.2.1], by rw [show n45_7 + 1 - 1 = (n45_7 - 1) + 1 from by omega, leaF, show n45_7 - 1 + 1 = n45_7 from by omega, if_pos ⟨hb_16, (cnt_lea (n45_7 - 1) (by omega)).mp (hx45_0.2.1.symm.trans (by omega))⟩], by rw [show n45_7 + 1 - 1 = (n45_7 - 1) + 1 from by omega, greF, show n45_7 - 1 + 1 = n45_7 from by omega, if_pos hb_16]⟩ (by omega) (by omega) G hl
            · refine lv_if_eq (tgt := 82) zx zb dX11_strong_58 (by decide) (fun c_19 => ?_) (fun c_19 => absurd (by decide) c_19)
              refine lv_iinc (v := (nI (n45_7 + 1))) (lv' := [(7, .int (nI (n45_7 + 1))), (6, .int x45_6), (5, .int x45_5), (4, .int (nI n45_4)), (3, .int r_12), (0, .ref m0), (1, .int (nI j_1)), (2, .int 1)]) zx zb dX11_strong_82 hl (k := 0) rfl (nI_add n45_7 1) (by decide) rfl (fun ls hl => ?_)
              refine lv_goto (tgt := 45) zx zb dX11_strong_85 (by decide) ?_
              exact ih45 (n45_7 + 1) x45_6 x45_5 n45_4 _ _ _ (by omega) ⟨by omega, by rw [show n45_7 + 1 - 1 = (n45_7 - 1) + 1 from by omega, cntB, show n45_7 - 1 + 1 = n45_7 from by omega, if_neg hb_16]; exact hx45_0.2.1, by rw [show n45_7 + 1 - 1 = (n45_7 - 1) + 1 from by omega, leaF, show n45_7 - 1 + 1 = n45_7 from by omega, if_neg (fun z => hb_16 z.1)]; exact hx45_0.2.2.1, by rw [show n45_7 + 1 - 1 = (n45_7 - 1) + 1 from by omega, greF, show n45_7 - 1 + 1 = n45_7 from by omega, if_neg hb_16]; exact hx45_0.2.2.2⟩ (by omega) (by omega) G hl
      · have hl : lv_has ls 8 [(0, .ref m0), (1, .int (nI j_1)), (2, .int 2)] := hl
        refine lv_aload_n zx zb dX11_strong_27 rfl (lv_at hl 0 rfl) ?_
        refine lv_iload_n zx zb dX11_strong_28 rfl (lv_at hl 1 rfl) ?_
        refine o_ri (cells' := 0) (slots' := 0) G rfl rfl (n_V (As := [.int (nI j_1)]) (rest := []) (C := RX11) (T := TX11) (N := 18) (ci := 9) S G (y_legsOf l X m0 ma la lb n t v fa c0 c1 c2 c3 c4 j_1 hI_n hI_t hI_fa (by omega) H.size) gX11_strong_X11_legsOf rfl rfl rfl hdV_X11_legsOf ⟨Nat.le_of_ble_eq_true rfl, Nat.le_of_ble_eq_true rfl⟩ [0, 1] rfl rfl 0 rfl rfl rfl hl.1 (Nat.le_of_ble_eq_true rfl) dX11_strong_29 ⟨Nat.le_of_ble_eq_true rfl, Nat.le_of_ble_eq_true rfl⟩) (fun r_20 u_20 H locs hp_20 G => ?_)
        have G : wd X (va_A (@HAppend.hAppend va_W va_W va_W _ (mW m0 ma la lb n t v) (@HAppend.hAppend va_W va_W va_W _ ([((ma 0), .inl (X.2.1, 371, .inl fa))]) ([((ma 3), .inl (X.2.1, 3, .inl fr))]))) sz) (va_A (@HAppend.hAppend va_W va_W va_W _ (mW m0 ma la lb n t v) (@HAppend.hAppend va_W va_W va_W _ ([((ma 0), .inl (X.2.1, 371, .inl fa))]) ([((ma 3), .inl (X.2.1, 3, .inl fr))]))) sz) s (@HAppend.hAppend va_W va_W va_W _ (mW m0 ma la lb n t v) (@HAppend.hAppend va_W va_W va_W _ ([((ma 0), .inl (X.2.1, 371, .inl fa))]) ([((ma 3), .inl (X.2.1, 3, .inl fr))]))) H locs := G
        refine lv_istore_n (lv' := [(3, .int r_20), (0, .ref m0), (1, .int (nI j_1)), (2, .int 2)]) zx zb dX11_strong_32 rfl hl (by decide) rfl (fun ls hl => ?_)
        refine lv_iconst (v := 0) zx zb dX11_strong_33 (by decide) ?_
        refine lv_istore (lv' := [(4, .int 0), (3, .int r_20), (0, .ref m0), (1, .int (nI j_1)), (2, .int 2)]) zx zb dX11_strong_34 hl (by decide) rfl (fun ls hl => ?_)
        refine lv_iconst (v := (-1)) zx zb dX11_strong_36 (by decide) ?_
        refine lv_istore (lv' := [(5, .int (-1)), (4, .int 0), (3, .int r_20), (0, .ref m0), (1, .int (nI j_1)), (2, .int 2)]) zx zb dX11_strong_37 hl (by decide) rfl (fun ls hl => ?_)
        refine lv_iconst (v := (-1)) zx zb dX11_strong_39 (by decide) ?_
        refine lv_istore (lv' := [(6, .int (-1)), (5, .int (-1)), (4, .int 0), (3, .int r_20), (0, .ref m0), (1, .int (nI j_1)), (2, .int 2)]) zx zb dX11_strong_40 hl (by decide) rfl (fun ls hl => ?_)
        refine lv_iconst (v := 1) zx zb dX11_strong_42 (by decide) ?_
        refine lv_istore (lv' := [(7, .int 1), (6, .int (-1)), (5, .int (-1)), (4, .int 0), (3, .int r_20), (0, .ref m0), (1, .int (nI j_1)), (2, .int 2)]) zx zb dX11_strong_43 hl (by decide) rfl (fun ls hl => ?_)
        refine k_loop (P := ∀ (zm : Nat) (n45_7 : Nat) (x45_6 : Int32) (x45_5 : Int32) (n45_4 : Nat) (H : Heap) (locs : List Loc) (ls : Array Slot), ((10 - n45_7) < zm) → ((1 ≤ n45_7 ∧ n45_7 ≤ 10 ∧ n45_4 + 1 ≤ n45_7) ∧ n45_4 = cntB r_20 (n45_7 - 1) ∧ x45_5 = leaF r_20 (n45_7 - 1) ∧ x45_6 = greF r_20 (n45_7 - 1)) → (n45_7 ≤ 10) → (n45_4 ≤ 100) → wd X (va_A (@HAppend.hAppend va_W va_W va_W _ (mW m0 ma la lb n t v) (@HAppend.hAppend va_W va_W va_W _ ([((ma 0), .inl (X.2.1, 371, .inl fa))]) ([((ma 3), .inl (X.2.1, 3, .inl fr))]))) sz) (va_A (@HAppend.hAppend va_W va_W va_W _ (mW m0 ma la lb n t v) (@HAppend.hAppend va_W va_W va_W _ ([((ma 0), .inl (X.2.1, 371, .inl fa))]) ([((ma 3), .inl (X.2.1, 3, .inl fr))]))) sz) s (@HAppend.hAppend va_W va_W va_W _ (mW m0 ma la lb n t v) (@HAppend.hAppend va_W va_W va_W _ ([((ma 0), .inl (X.2.1, 371, .inl fa))]) ([((ma 3), .inl (X.2.1, 3, .inl fr))]))) H locs → lv_has ls 8 [(7, .int (nI n45_7)), (6, .int x45_6), (5, .int x45_5), (4, .int (nI n45_4)), (3, .int r_20), (0, .ref m0), (1, .int (nI j_1)), (2, .int 2)] → W p l e _ s m _ below meth c H locs _ _ _ (F0 m 45 ls [])) (fun loop => loop ((10 - 1) + 1) 1 (-1) (-1) 0 _ _ _ (by omega) ⟨by omega, rfl, rfl, rfl⟩ (by omega) (by omega) G hl) ?_
        intro zm
        induction zm with
        | zero => intro n45_7 x45_6 x45_5 n45_4 H locs ls zz q_x0 q_hk_n45_7 q_hk_n45_4 _ _; exact absurd zz (by omega)
        | succ zm ih45 =>
          intro n45_7 x45_6 x45_5 n45_4 H locs ls zm_45 hx45_0 hk_n45_7 hk_n45_4 G hl
          refine lv_iload zx zb dX11_strong_45 (lv_at hl 0 rfl) ?_
          refine lv_bipush (v := 10) zx zb dX11_strong_47 (by decide) ?_
          refine lv_icmp_ge (tgt := 88) zx zb dX11_strong_49 (by decide) (fun c_21 => ?_) (fun c_21 => ?_)
          · have fc_21 := j_le (a := 10) (b := n45_7) (by omega) (by omega) c_21
            refine lv_iload_n zx zb dX11_strong_88 rfl (lv_at hl 7 rfl) ?_
            refine lv_if_ne (tgt := 97) zx zb dX11_strong_89 (by decide) (fun c_22 => ?_) (fun c_22 => absurd c_22 (by decide))
            refine lv_iload_n zx zb dX11_strong_97 rfl (lv_at hl 7 rfl) ?_
            refine lv_iconst (v := 1) zx zb dX11_strong_98 (by decide) ?_
            refine lv_icmp_ne (tgt := 107) zx zb dX11_strong_99 (by decide) (fun c_23 => ?_) (fun c_23 => absurd c_23 (by decide))
            refine lv_iload zx zb dX11_strong_107 (lv_at hl 1 rfl) ?_
            have hST : x45_6 = strF r_20 (2 : Int32) := (hx45_0.2.2.2).trans (by rw [show n45_7 = 10 from by omega]; rfl)
            exact e_int S zr zlk (vp_nar_int _) G (fr) [0, 1, 2] rfl rfl (Or.inr rfl) (hST.trans ((congrArg (fun z => strF z _) (hp_20.trans (by rw [nI_clamp (by first | omega | (dsimp only; omega))]))).trans (ansF_t ⟨⟨_, hj_1, rfl⟩, hw_3⟩).symm)) dX11_strong_109
          · have fc_21 := j_nle (a := 10) (b := n45_7) (by omega) (by omega) c_21
            refine lv_iload_n zx zb dX11_strong_52 rfl (lv_at hl 4 rfl) ?_
            refine lv_iload zx zb dX11_strong_53 (lv_at hl 0 rfl) ?_
            refine o_ri (cells' := 0) (slots' := 0) G rfl rfl (n_S (As := [.int r_20, .int (nI n45_7)]) (rest := []) S G (y_has l X r_20 n45_7 H.size) gX11_strong_X11_has rfl rfl rfl hdS_X11_has ⟨Nat.le_of_ble_eq_true rfl, Nat.le_of_ble_eq_true rfl⟩ [] rfl rfl rfl hl.1 (Nat.le_of_ble_eq_true rfl) dX11_strong_55 ⟨Nat.le_of_ble_eq_true rfl, Nat.le_of_ble_eq_true rfl⟩) (fun r_24 u_24 H locs hp_24 G => ?_)
            have G : wd X (va_A (@HAppend.hAppend va_W va_W va_W _ (mW m0 ma la lb n t v) (@HAppend.hAppend va_W va_W va_W _ ([((ma 0), .inl (X.2.1, 371, .inl fa))]) ([((ma 3), .inl (X.2.1, 3, .inl fr))]))) sz) (va_A (@HAppend.hAppend va_W va_W va_W _ (mW m0 ma la lb n t v) (@HAppend.hAppend va_W va_W va_W _ ([((ma 0), .inl (X.2.1, 371, .inl fa))]) ([((ma 3), .inl (X.2.1, 3, .inl fr))]))) sz) s (@HAppend.hAppend va_W va_W va_W _ (mW m0 ma la lb n t v) (@HAppend.hAppend va_W va_W va_W _ ([((ma 0), .inl (X.2.1, 371, .inl fa))]) ([((ma 3), .inl (X.2.1, 3, .inl fr))]))) H locs := G
            rcases hp_24 with ⟨rfl, hb_24⟩ | ⟨rfl, hb_24⟩
            · refine lv_if_eq (tgt := 82) zx zb dX11_strong_58 (by decide) (fun c_25 => absurd c_25 (by decide)) (fun c_25 => ?_)
              refine lv_iload zx zb dX11_strong_61 (lv_at hl 3 rfl) ?_
              refine lv_if_ne (tgt := 71) zx zb dX11_strong_63 (by decide) (fun c_26 => ?_) (fun c_26 => ?_)
              · have fc_26 := j_ne (a := n45_4) (b := 0) c_26
                refine lv_iload zx zb dX11_strong_71 (lv_at hl 2 rfl) ?_
                refine lv_istore (lv' := [(5, .int x45_5), (7, .int (nI n45_7)), (6, .int x45_6), (4, .int (nI n45_4)), (3, .int r_20), (0, .ref m0), (1, .int (nI j_1)), (2, .int 2)]) zx zb dX11_strong_73 hl (by decide) rfl (fun ls hl => ?_)
                refine lv_iload zx zb dX11_strong_75 (lv_at hl 1 rfl) ?_
                refine lv_istore (lv' := [(6, .int (nI n45_7)), (5, .int x45_5), (7, .int (nI n45_7)), (4, .int (nI n45_4)), (3, .int r_20), (0, .ref m0), (1, .int (nI j_1)), (2, .int 2)]) zx zb dX11_strong_77 hl (by decide) rfl (fun ls hl => ?_)
                refine lv_iinc (v := (nI (n45_4 + 1))) (lv' := [(4, .int (nI (n45_4 + 1))), (6, .int (nI n45_7)), (5, .int x45_5), (7, .int (nI n45_7)), (3, .int r_20), (0, .ref m0), (1, .int (nI j_1)), (2, .int 2)]) zx zb dX11_strong_79 hl (k := 3) rfl (nI_add n45_4 1) (by decide) rfl (fun ls hl => ?_)
                refine lv_iinc (v := (nI (n45_7 + 1))) (lv' := [(7, .int (nI (n45_7 + 1))), (4, .int (nI (n45_4 + 1))), (6, .int (nI n45_7)), (5, .int x45_5), (3, .int r_20), (0, .ref m0), (1, .int (nI j_1)), (2, .int 2)]) zx zb dX11_strong_82 hl (k := 3) rfl (nI_add n45_7 1) (by decide) rfl (fun ls hl => ?_)
                refine lv_goto (tgt := 45) zx zb dX11_strong_85 (by decide) ?_
                have hl := lv_sub hl (l' := [(7, .int (nI (n45_7 + 1))), (6, .int (nI n45_7)), (5, .int x45_5), (4, .int (nI (n45_4 + 1))), (3, .int r_20), (0, .ref m0), (1, .int (nI j_1)), (2, .int 2)]) [0, 2, 3, 1, 4, 5, 6, 7] rfl
                exact ih45 (n45_7 + 1) (nI n45_7) x45_5 (n45_4 + 1) _ _ _ (by omega) ⟨by omega, by rw [show n45_7 + 1 - 1 = (n45_7 - 1) + 1 from by omega, cntB, show n45_7 - 1 + 1 = n45_7 from by omega, if_pos hb_24, ← hx45_0.2.1], by rw [show n45_7 + 1 - 1 = (n45_7 - 1) + 1 from by omega, leaF, show n45_7 - 1 + 1 = n45_7 from by omega, if_neg (fun z => absurd (hx45_0.2.1.trans ((cnt_lea (n45_7 - 1) (by omega)).mpr z.2)) (by omega))]; exact hx45_0.2.2.1, by rw [show n45_7 + 1 - 1 = (n45_7 - 1) + 1 from by omega, greF, show n45_7 - 1 + 1 = n45_7 from by omega, if_pos hb_24]⟩ (by omega) (by omega) G hl
              · have fc_26 := j_eq (a := n45_4) (b := 0) (by omega) (by omega) c_26
                refine lv_iload zx zb dX11_strong_66 (lv_at hl 0 rfl) ?_
                refine lv_goto (tgt := 73) zx zb dX11_strong_68 (by decide) ?_
                refine lv_istore (lv' := [(5, .int (nI n45_7)), (7, .int (nI n45_7)), (6, .int x45_6), (4, .int (nI n45_4)), (3, .int r_20), (0, .ref m0), (1, .int (nI j_1)), (2, .int 2)]) zx zb dX11_strong_73 hl (by decide) rfl (fun ls hl => ?_)
                refine lv_iload zx zb dX11_strong_75 (lv_at hl 1 rfl) ?_
                refine lv_istore (lv' := [(6, .int (nI n45_7)), (5, .int (nI n45_7)), (7, .int (nI n45_7)), (4, .int (nI n45_4)), (3, .int r_20), (0, .ref m0), (1, .int (nI j_1)), (2, .int 2)]) zx zb dX11_strong_77 hl (by decide) rfl (fun ls hl => ?_)
                refine lv_iinc (v := (nI (n45_4 + 1))) (lv' := [(4, .int (nI (n45_4 + 1))), (6, .int (nI n45_7)), (5, .int (nI n45_7)), (7, .int (nI n45_7)), (3, .int r_20), (0, .ref m0), (1, .int (nI j_1)), (2, .int 2)]) zx zb dX11_strong_79 hl (k := 3) rfl (nI_add n45_4 1) (by decide) rfl (fun ls hl => ?_)
                refine lv_iinc (v := (nI (n45_7 + 1))) (lv' := [(7, .int (nI (n45_7 + 1))), (4, .int (nI (n45_4 + 1))), (6, .int (nI n45_7)), (5, .int (nI n45_7)), (3, .int r_20), (0, .ref m0), (1, .int (nI j_1)), (2, .int 2)]) zx zb dX11_strong_82 hl (k := 3) rfl (nI_add n45_7 1) (by decide) rfl (fun ls hl => ?_)
                refine lv_goto (tgt := 45) zx zb dX11_strong_85 (by decide) ?_
                have hl := lv_sub hl (l' := [(7, .int (nI (n45_7 + 1))), (6, .int (nI n45_7)), (5, .int (nI n45_7)), (4, .int (nI (n45_4 + 1))), (3, .int r_20), (0, .ref m0), (1, .int (nI j_1)), (2, .int 2)]) [0, 2, 3, 1, 4, 5, 6, 7] rfl
                exact ih45 (n45_7 + 1) (nI n45_7) (nI n45_7) (n45_4 + 1) _ _ _ (by omega) ⟨by omega, by rw [show n45_7 + 1 - 1 = (n45_7 - 1) + 1 from by omega, cntB, show n45_7 - 1 + 1 = n45_7 from by omega, if_pos hb_24, ← hx45_0.2.1], by rw [show n45_7 + 1 - 1 = (n45_7 - 1) + 1 from by omega, leaF, show n45_7 - 1 + 1 = n45_7 from by omega, if_pos ⟨hb_24, (cnt_lea (n45_7 - 1) (by omega)).mp (hx45_0.2.1.symm.trans (by omega))⟩], by rw [show n45_7 + 1 - 1 = (n45_7 - 1) + 1 from by omega, greF, show n45_7 - 1 + 1 = n45_7 from by omega, if_pos hb_24]⟩ (by omega) (by omega) G hl
            · refine lv_if_eq (tgt := 82) zx zb dX11_strong_58 (by decide) (fun c_27 => ?_) (fun c_27 => absurd (by decide) c_27)
              refine lv_iinc (v := (nI (n45_7 + 1))) (lv' := [(7, .int (nI (n45_7 + 1))), (6, .int x45_6), (5, .int x45_5), (4, .int (nI n45_4)), (3, .int r_20), (0, .ref m0), (1, .int (nI j_1)), (2, .int 2)]) zx zb dX11_strong_82 hl (k := 0) rfl (nI_add n45_7 1) (by decide) rfl (fun ls hl => ?_)
              refine lv_goto (tgt := 45) zx zb dX11_strong_85 (by decide) ?_
              exact ih45 (n45_7 + 1) x45_6 x45_5 n45_4 _ _ _ (by omega) ⟨by omega, by rw [show n45_7 + 1 - 1 = (n45_7 - 1) + 1 from by omega, cntB, show n45_7 - 1 + 1 = n45_7 from by omega, if_neg hb_24]; exact hx45_0.2.1, by rw [show n45_7 + 1 - 1 = (n45_7 - 1) + 1 from by omega, leaF, show n45_7 - 1 + 1 = n45_7 from by omega, if_neg (fun z => hb_24 z.1)]; exact hx45_0.2.2.1, by rw [show n45_7 + 1 - 1 = (n45_7 - 1) + 1 from by omega, greF, show n45_7 - 1 + 1 = n45_7 from by omega, if_neg hb_24]; exact hx45_0.2.2.2⟩ (by omega) (by omega) G hl
    · refine lv_if_ne (tgt := 27) zx zb dX11_strong_17 (by decide) (fun c_28 => absurd (by decide) c_28) (fun c_28 => ?_)
      refine lv_aload_n zx zb dX11_strong_20 rfl (lv_at hl 0 rfl) ?_
      refine lv_bipush (v := (-2)) zx zb dX11_strong_21 (by decide) ?_
      refine b_wi (cells' := 0) (slots' := 0) (wr := [((ma 0), .inl (X.2.1, 371, .inl fa))]) G rfl rfl [0, 2] [1] rfl rfl rfl rfl (n_V (As := [.int (-2)]) (rest := []) (C := RX11) (T := TX11) (N := 18) (ci := 9) S G (m_bad l X m0 ma la lb n t v fr (-2) hI_n hI_t H.size) gX11_strong_X11_bad rfl rfl rfl hdV_X11_bad ⟨Nat.le_of_ble_eq_true rfl, Nat.le_of_ble_eq_true rfl⟩ [0, 2] rfl rfl 0 rfl rfl rfl hl.1 (Nat.le_of_ble_eq_true rfl) dX11_strong_23 ⟨Nat.le_of_ble_eq_true rfl, Nat.le_of_ble_eq_true rfl⟩) (fun r_29 u_29 H locs hp_29 G => ?_)
      obtain ⟨f_29, rfl⟩ : ∃ z, z = u_29 := ⟨_, rfl⟩
      have hq_29 := hp_29
      have G : wd X (va_A (@HAppend.hAppend va_W va_W va_W _ (mW m0 ma la lb n t v) (@HAppend.hAppend va_W va_W va_W _ ([((ma 0), .inl (X.2.1, 371, .inl fa))]) ([((ma 3), .inl (X.2.1, 3, .inl fr))]))) sz) (va_A (@HAppend.hAppend va_W va_W va_W _ (mW m0 ma la lb n t v) (@HAppend.hAppend va_W va_W va_W _ ([((ma 0), .inl (X.2.1, 371, .inl fa))]) ([((ma 3), .inl (X.2.1, 3, .inl fr))]))) sz) s (@HAppend.hAppend va_W va_W va_W _ ([((ma 0), .inl (X.2.1, 371, .inl fa))]) (@HAppend.hAppend va_W va_W va_W _ (mW m0 ma la lb n t v) ([((ma 3), .inl (X.2.1, 3, .inl f_29))]))) H locs := G
      obtain rfl := hq_29
      exact e_int S zr zlk (vp_nar_int _) G (f_29) [1, 0, 2] rfl rfl (Or.inr rfl) ((ansF_f (fun h => hw_3 h.2)).symm) dX11_strong_26
  · refine lv_if_eq (tgt := 20) zx zb dX11_strong_5 (by decide) (fun c_30 => ?_) (fun c_30 => absurd (by decide) c_30)
    refine lv_aload_n zx zb dX11_strong_20 rfl (lv_at hl 0 rfl) ?_
    refine lv_bipush (v := (-2)) zx zb dX11_strong_21 (by decide) ?_
    refine b_wi (cells' := 0) (slots' := 0) (wr := [((ma 0), .inl (X.2.1, 371, .inl fa))]) G rfl rfl [0, 2] [1] rfl rfl rfl rfl (n_V (As := [.int (-2)]) (rest := []) (C := RX11) (T := TX11) (N := 18) (ci := 9) S G (m_bad l X m0 ma la lb n t v fr (-2) hI_n hI_t H.size) gX11_strong_X11_bad rfl rfl rfl hdV_X11_bad ⟨Nat.le_of_ble_eq_true rfl, Nat.le_of_ble_eq_true rfl⟩ [0, 2] rfl rfl 0 rfl rfl rfl hl.1 (Nat.le_of_ble_eq_true rfl) dX11_strong_23 ⟨Nat.le_of_ble_eq_true rfl, Nat.le_of_ble_eq_true rfl⟩) (fun r_31 u_31 H locs hp_31 G => ?_)
    obtain ⟨f_31, rfl⟩ : ∃ z, z = u_31 := ⟨_, rfl⟩
    have hq_31 := hp_31
    have G : wd X (va_A (@HAppend.hAppend va_W va_W va_W _ (mW m0 ma la lb n t v) (@HAppend.hAppend va_W va_W va_W _ ([((ma 0), .inl (X.2.1, 371, .inl fa))]) ([((ma 3), .inl (X.2.1, 3, .inl fr))]))) sz) (va_A (@HAppend.hAppend va_W va_W va_W _ (mW m0 ma la lb n t v) (@HAppend.hAppend va_W va_W va_W _ ([((ma 0), .inl (X.2.1, 371, .inl fa))]) ([((ma 3), .inl (X.2.1, 3, .inl fr))]))) sz) s (@HAppend.hAppend va_W va_W va_W _ ([((ma 0), .inl (X.2.1, 371, .inl fa))]) (@HAppend.hAppend va_W va_W va_W _ (mW m0 ma la lb n t v) ([((ma 3), .inl (X.2.1, 3, .inl f_31))]))) H locs := G
    obtain rfl := hq_31
    exact e_int S zr zlk (vp_nar_int _) G (f_31) [1, 0, 2] rfl rfl (Or.inr rfl) ((ansF_f (fun h => hj_1 h.1)).symm) dX11_strong_26
set_option maxHeartbeats 4000000 in
set_option maxRecDepth 100000 in
theorem y_mostAlike (l : Launch) (X : EX) (m0 : Nat) (ma : Nat → Nat) (la : Int64) (lb : Int64) (n : Nat) (t : Nat → Nat) (v : Nat → Int32) (ft : Nat → Int32) (x1 : Int32) (hI_n : n ≤ 150) (hI_t : InT t) (sz : Nat) : Met l yX11_mostAlike wsX11_mostAlike ({ frames := 1, cells := 0, slots := 0, locals := 21 } : Room) (pE X [.ref m0, .int x1] (@HAppend.hAppend va_W va_W va_W _ (mW m0 ma la lb n t v) ([((ma 8), .inl (X.2.1, 10, .inl ft))])) sz) (qI (fun (r : Int32) (u : Unit) => r = nI (topM x1 ft 10)) X (fun (u : Unit) => []) [] sz) 0 0 (va_A [] sz) := by
  refine mk_met (B := (fun _ => True)) (A := (va_A [] sz)) (cc := cX11_mostAlike) (maxL := 6) (ret := (some .int)) (by decide) rfl (Nat.le_of_ble_eq_true rfl) k_ro k_a (fun p e s m below meth c S zr zlk znm zsz G ls hl => ?_)
  have S : CallFix p m c cX11_mostAlike 6 s _ wsX11_mostAlike RX11 := S
  have zx := S.1
  have zb := S.2.1
  have hl : lv_has ls 6 [(0, .ref m0), (1, .int x1)] := hl
  have hO_t := hI_t
  obtain ⟨ht0_t, ht1_t⟩ := hO_t
  refine lv_iconst (v := 0) zx zb dX11_mostAlike_0 (by decide) ?_
  refine lv_istore_n (lv' := [(2, .int 0), (0, .ref m0), (1, .int x1)]) zx zb dX11_mostAlike_1 rfl hl (by decide) rfl (fun ls hl => ?_)
  refine lv_iconst (v := 0) zx zb dX11_mostAlike_2 (by decide) ?_
  refine lv_istore_n (lv' := [(3, .int 0), (2, .int 0), (0, .ref m0), (1, .int x1)]) zx zb dX11_mostAlike_3 rfl hl (by decide) rfl (fun ls hl => ?_)
  refine k_loop (P := ∀ (zm : Nat) (n4_3 : Nat) (n4_2 : Nat) (H : Heap) (locs : List Loc) (ls : Array Slot), ((10 - n4_3) < zm) → (n4_3 ≤ 10 ∧ n4_2 = topM x1 ft n4_3) → (n4_3 ≤ 10) → (n4_2 ≤ 10) → wd X (fun _ => True) (va_A [] sz) s (@HAppend.hAppend va_W va_W va_W _ (mW m0 ma la lb n t v) ([((ma 8), .inl (X.2.1, 10, .inl ft))])) H locs → lv_has ls 6 [(3, .int (nI n4_3)), (2, .int (nI n4_2)), (0, .ref m0), (1, .int x1)] → W p l e _ s m _ below meth c H locs _ _ _ (F0 m 4 ls [])) (fun loop => loop ((10 - 0) + 1) 0 0 _ _ _ (by omega) ⟨by omega, rfl⟩ (by omega) (by omega) G hl) ?_
  intro zm
  induction zm with
  | zero => intro n4_3 n4_2 H locs ls zz q_x0 q_hk_n4_3 q_hk_n4_2 _ _; exact absurd zz (by omega)
  | succ zm ih4 =>
    intro n4_3 n4_2 H locs ls zm_4 hx4_0 hk_n4_3 hk_n4_2 G hl
    refine lv_iload_n zx zb dX11_mostAlike_4 rfl (lv_at hl 0 rfl) ?_
    refine lv_bipush (v := 10) zx zb dX11_mostAlike_5 (by decide) ?_
    refine lv_icmp_ge (tgt := 91) zx zb dX11_mostAlike_7 (by decide) (fun c_1 => ?_) (fun c_1 => ?_)
    · have fc_1 := j_le (a := 10) (b := n4_3) (by omega) (by omega) c_1
      refine lv_iload_n zx zb dX11_mostAlike_91 rfl (lv_at hl 1 rfl) ?_
      exact e_int S zr zlk (vp_nar_int _) G () [] rfl rfl (Or.inl rfl) (congrArg nI (hx4_0.2.trans (by rw [show n4_3 = 10 from by omega]))) dX11_mostAlike_92
    · have fc_1 := j_nle (a := 10) (b := n4_3) (by omega) (by omega) c_1
      refine lv_iconst (v := 0) zx zb dX11_mostAlike_10 (by decide) ?_
      refine lv_istore (lv' := [(4, .int 0), (3, .int (nI n4_3)), (2, .int (nI n4_2)), (0, .ref m0), (1, .int x1)]) zx zb dX11_mostAlike_11 hl (by decide) rfl (fun ls hl => ?_)
      refine lv_iconst (v := 0) zx zb dX11_mostAlike_13 (by decide) ?_
      refine lv_istore (lv' := [(5, .int 0), (4, .int 0), (3, .int (nI n4_3)), (2, .int (nI n4_2)), (0, .ref m0), (1, .int x1)]) zx zb dX11_mostAlike_14 hl (by decide) rfl (fun ls hl => ?_)
      refine k_loop (P := ∀ (zm : Nat) (n16_5 : Nat) (n16_4 : Nat) (H : Heap) (locs : List Loc) (ls : Array Slot), ((10 - n16_5) < zm) → ((n16_5 ≤ 10 ∧ n16_4 ≤ n16_5) ∧ n16_4 = likF x1 ft n4_3 n16_5) → (n16_5 ≤ 10) → (n16_4 ≤ 10) → wd X (fun _ => True) (va_A [] sz) s (@HAppend.hAppend va_W va_W va_W _ (mW m0 ma la lb n t v) ([((ma 8), .inl (X.2.1, 10, .inl ft))])) H locs → lv_has ls 6 [(5, .int (nI n16_5)), (4, .int (nI n16_4)), (3, .int (nI n4_3)), (2, .int (nI n4_2)), (0, .ref m0), (1, .int x1)] → W p l e _ s m _ below meth c H locs _ _ _ (F0 m 16 ls [])) (fun loop => loop ((10 - 0) + 1) 0 0 _ _ _ (by omega) ⟨by omega, lik_0⟩ (by omega) (by omega) G hl) ?_
      intro zm
      induction zm with
      | zero => intro n16_5 n16_4 H locs ls zz q_x0 q_hk_n16_5 q_hk_n16_4 _ _; exact absurd zz (by omega)
      | succ zm ih16 =>
        intro n16_5 n16_4 H locs ls zm_16 hx16_0 hk_n16_5 hk_n16_4 G hl
        refine lv_iload zx zb dX11_mostAlike_16 (lv_at hl 0 rfl) ?_
        refine lv_bipush (v := 10) zx zb dX11_mostAlike_18 (by decide) ?_
        refine lv_icmp_ge (tgt := 72) zx zb dX11_mostAlike_20 (by decide) (fun c_2 => ?_) (fun c_2 => ?_)
        · have fc_2 := j_le (a := 10) (b := n16_5) (by omega) (by omega) c_2
          have hlk : n16_4 = likF x1 ft n4_3 10 := by rw [hx16_0.2, show n16_5 = 10 from by omega]
          have hl10 : n16_4 ≤ 10 := by rw [hlk]; exact lik10 10
          refine lv_iload zx zb dX11_mostAlike_72 (lv_at hl 1 rfl) ?_
          refine lv_iload_n zx zb dX11_mostAlike_74 rfl (lv_at hl 3 rfl) ?_
          refine lv_icmp_le (tgt := 83) zx zb dX11_mostAlike_75 (by decide) (fun c_3 => ?_) (fun c_3 => ?_)
          · have fc_3 := j_le (a := n16_4) (b := n4_2) (by omega) (by omega) c_3
            refine lv_iload_n zx zb dX11_mostAlike_83 rfl (lv_at hl 3 rfl) ?_
            refine lv_istore_n (lv' := [(2, .int (nI n4_2)), (5, .int (nI n16_5)), (4, .int (nI n16_4)), (3, .int (nI n4_3)), (0, .ref m0), (1, .int x1)]) zx zb dX11_mostAlike_84 rfl hl (by decide) rfl (fun ls hl => ?_)
            refine lv_iinc (v := (nI (n4_3 + 1))) (lv' := [(3, .int (nI (n4_3 + 1))), (2, .int (nI n4_2)), (5, .int (nI n16_5)), (4, .int (nI n16_4)), (0, .ref m0), (1, .int x1)]) zx zb dX11_mostAlike_85 hl (k := 3) rfl (nI_add n4_3 1) (by decide) rfl (fun ls hl => ?_)
            refine lv_goto (tgt := 4) zx zb dX11_mostAlike_88 (by decide) ?_
            have hl := lv_sub hl (l' := [(3, .int (nI (n4_3 + 1))), (2, .int (nI n4_2)), (0, .ref m0), (1, .int x1)]) [0, 1, 4, 5] rfl
            exact ih4 (n4_3 + 1) n4_2 _ _ _ (by omega) ⟨by omega, by rw [topM, ← hlk, ← hx4_0.2, if_pos (by omega)]⟩ (by omega) (by omega) G hl
          · have fc_3 := j_nle (a := n16_4) (b := n4_2) (by omega) (by omega) c_3
            refine lv_iload zx zb dX11_mostAlike_78 (lv_at hl 1 rfl) ?_
            refine lv_goto (tgt := 84) zx zb dX11_mostAlike_80 (by decide) ?_
            refine lv_istore_n (lv' := [(2, .int (nI n16_4)), (5, .int (nI n16_5)), (4, .int (nI n16_4)), (3, .int (nI n4_3)), (0, .ref m0), (1, .int x1)]) zx zb dX11_mostAlike_84 rfl hl (by decide) rfl (fun ls hl => ?_)
            refine lv_iinc (v := (nI (n4_3 + 1))) (lv' := [(3, .int (nI (n4_3 + 1))), (2, .int (nI n16_4)), (5, .int (nI n16_5)), (4, .int (nI n16_4)), (0, .ref m0), (1, .int x1)]) zx zb dX11_mostAlike_85 hl (k := 3) rfl (nI_add n4_3 1) (by decide) rfl (fun ls hl => ?_)
            refine lv_goto (tgt := 4) zx zb dX11_mostAlike_88 (by decide) ?_
            have hl := lv_sub hl (l' := [(3, .int (nI (n4_3 + 1))), (2, .int (nI n16_4)), (0, .ref m0), (1, .int x1)]) [0, 1, 4, 5] rfl
            exact ih4 (n4_3 + 1) n16_4 _ _ _ (by omega) ⟨by omega, by rw [topM, ← hlk, ← hx4_0.2, if_neg (by omega)]⟩ (by omega) (by omega) G hl
        · have fc_2 := j_nle (a := 10) (b := n16_5) (by omega) (by omega) c_2
          refine lv_iload_n zx zb dX11_mostAlike_23 rfl (lv_at hl 5 rfl) ?_
          refine lv_iload_n zx zb dX11_mostAlike_24 rfl (lv_at hl 2 rfl) ?_
          refine o_ri (cells' := 0) (slots' := 0) G rfl rfl (n_S (As := [.int x1, .int (nI n4_3)]) (rest := []) S G (y_has l X x1 n4_3 H.size) gX11_mostAlike_X11_has rfl rfl rfl hdS_X11_has ⟨Nat.le_of_ble_eq_true rfl, Nat.le_of_ble_eq_true rfl⟩ [] rfl rfl rfl hl.1 (Nat.le_of_ble_eq_true rfl) dX11_mostAlike_25 ⟨Nat.le_of_ble_eq_true rfl, Nat.le_of_ble_eq_true rfl⟩) (fun r_4 u_4 H locs hp_4 G => ?_)
          have G : wd X (fun _ => True) (va_A [] sz) s (@HAppend.hAppend va_W va_W va_W _ (mW m0 ma la lb n t v) ([((ma 8), .inl (X.2.1, 10, .inl ft))])) H locs := G
          rcases hp_4 with ⟨rfl, hb_4⟩ | ⟨rfl, hb_4⟩
          · refine lv_if_eq (tgt := 72) zx zb dX11_mostAlike_28 (by decide) (fun c_5 => absurd c_5 (by decide)) (fun c_5 => ?_)
            refine lv_iload zx zb dX11_mostAlike_31 (lv_at hl 1 rfl) ?_
            refine lv_iload_n zx zb dX11_mostAlike_33 rfl (lv_at hl 5 rfl) ?_
            refine lv_iload zx zb dX11_mostAlike_34 (lv_at hl 0 rfl) ?_
            refine o_ri (cells' := 0) (slots' := 0) G rfl rfl (n_S (As := [.int x1, .int (nI n16_5)]) (rest := [.int (nI n16_4)]) S G (y_has l X x1 n16_5 H.size) gX11_mostAlike_X11_has rfl rfl rfl hdS_X11_has ⟨Nat.le_of_ble_eq_true rfl, Nat.le_of_ble_eq_true rfl⟩ [] rfl rfl rfl hl.1 (Nat.le_of_ble_eq_true rfl) dX11_mostAlike_36 ⟨Nat.le_of_ble_eq_true rfl, Nat.le_of_ble_eq_true rfl⟩) (fun r_6 u_6 H locs hp_6 G => ?_)
            have G : wd X (fun _ => True) (va_A [] sz) s (@HAppend.hAppend va_W va_W va_W _ (mW m0 ma la lb n t v) ([((ma 8), .inl (X.2.1, 10, .inl ft))])) H locs := G
            rcases hp_6 with ⟨rfl, hb_6⟩ | ⟨rfl, hb_6⟩
            · refine lv_if_eq (tgt := 62) zx zb dX11_mostAlike_39 (by decide) (fun c_7 => absurd c_7 (by decide)) (fun c_7 => ?_)
              refine lv_aload_n zx zb dX11_mostAlike_42 rfl (lv_at hl 4 rfl) ?_
              refine r_get (C := RX11) (T := TX11) (N := 18) (ci := 9) (v := .ref (ma 8)) S in_X11_mostAlike_X11 G 0 rfl rfl 8 (by decide) lk_X11_mostAlike_33 rfl dX11_mostAlike_43 ?_
              refine lv_iload_n zx zb dX11_mostAlike_46 rfl (lv_at hl 2 rfl) ?_
              refine r_iald (v := (ft n4_3)) S G 1 rfl (vp_in_nI (by omega) (by decide)) (congrArg ft (nI_clamp (by omega))) dX11_mostAlike_47 ?_
              refine lv_aload_n zx zb dX11_mostAlike_48 rfl (lv_at hl 4 rfl) ?_
              refine r_get (C := RX11) (T := TX11) (N := 18) (ci := 9) (v := .ref (ma 8)) S in_X11_mostAlike_X11 G 0 rfl rfl 8 (by decide) lk_X11_mostAlike_33 rfl dX11_mostAlike_49 ?_
              refine lv_iload zx zb dX11_mostAlike_52 (lv_at hl 0 rfl) ?_
              refine r_iald (v := (ft n16_5)) S G 1 rfl (vp_in_nI (by omega) (by decide)) (congrArg ft (nI_clamp (by omega))) dX11_mostAlike_54 ?_
              refine lv_icmp_ne (tgt := 62) zx zb dX11_mostAlike_55 (by decide) (fun c_10 => ?_) (fun c_10 => ?_)
              · refine lv_iconst (v := 0) zx zb dX11_mostAlike_62 (by decide) ?_
                refine r_iadd (v := (nI (n16_4 + 0))) S (nI_add n16_4 0) dX11_mostAlike_63 ?_
                refine lv_istore (lv' := [(4, .int (nI (n16_4 + 0))), (5, .int (nI n16_5)), (3, .int (nI n4_3)), (2, .int (nI n4_2)), (0, .ref m0), (1, .int x1)]) zx zb dX11_mostAlike_64 hl (by decide) rfl (fun ls hl => ?_)
                refine lv_iinc (v := (nI (n16_5 + 1))) (lv' := [(5, .int (nI (n16_5 + 1))), (4, .int (nI (n16_4 + 0))), (3, .int (nI n4_3)), (2, .int (nI n4_2)), (0, .ref m0), (1, .int x1)]) zx zb dX11_mostAlike_66 hl (k := 1) rfl (nI_add n16_5 1) (by decide) rfl (fun ls hl => ?_)
                refine lv_goto (tgt := 16) zx zb dX11_mostAlike_69 (by decide) ?_
                exact ih16 (n16_5 + 1) (n16_4 + 0) _ _ _ (by omega) ⟨by omega, by have := hx16_0.2; rw [lik_n hb_4 (fun z => c_10 z.2.symm)]; omega⟩ (by omega) (by omega) G hl
              · refine lv_iconst (v := 1) zx zb dX11_mostAlike_58 (by decide) ?_
                refine lv_goto (tgt := 63) zx zb dX11_mostAlike_59 (by decide) ?_
                refine r_iadd (v := (nI (n16_4 + 1))) S (nI_add n16_4 1) dX11_mostAlike_63 ?_
                refine lv_istore (lv' := [(4, .int (nI (n16_4 + 1))), (5, .int (nI n16_5)), (3, .int (nI n4_3)), (2, .int (nI n4_2)), (0, .ref m0), (1, .int x1)]) zx zb dX11_mostAlike_64 hl (by decide) rfl (fun ls hl => ?_)
                refine lv_iinc (v := (nI (n16_5 + 1))) (lv' := [(5, .int (nI (n16_5 + 1))), (4, .int (nI (n16_4 + 1))), (3, .int (nI n4_3)), (2, .int (nI n4_2)), (0, .ref m0), (1, .int x1)]) zx zb dX11_mostAlike_66 hl (k := 1) rfl (nI_add n16_5 1) (by decide) rfl (fun ls hl => ?_)
                refine lv_goto (tgt := 16) zx zb dX11_mostAlike_69 (by decide) ?_
                exact ih16 (n16_5 + 1) (n16_4 + 1) _ _ _ (by omega) ⟨by omega, by have := hx16_0.2; rw [lik_p hb_4 ⟨hb_6, (c_10).symm⟩]; omega⟩ (by omega) (by omega) G hl
            · refine lv_if_eq (tgt := 62) zx zb dX11_mostAlike_39 (by decide) (fun c_11 => ?_) (fun c_11 => absurd (by decide) c_11)
              refine lv_iconst (v := 0) zx zb dX11_mostAlike_62 (by decide) ?_
              refine r_iadd (v := (nI (n16_4 + 0))) S (nI_add n16_4 0) dX11_mostAlike_63 ?_
              refine lv_istore (lv' := [(4, .int (nI (n16_4 + 0))), (5, .int (nI n16_5)), (3, .int (nI n4_3)), (2, .int (nI n4_2)), (0, .ref m0), (1, .int x1)]) zx zb dX11_mostAlike_64 hl (by decide) rfl (fun ls hl => ?_)
              refine lv_iinc (v := (nI (n16_5 + 1))) (lv' := [(5, .int (nI (n16_5 + 1))), (4, .int (nI (n16_4 + 0))), (3, .int (nI n4_3)), (2, .int (nI n4_2)), (0, .ref m0), (1, .int x1)]) zx zb dX11_mostAlike_66 hl (k := 1) rfl (nI_add n16_5 1) (by decide) rfl (fun ls hl => ?_)
              refine lv_goto (tgt := 16) zx zb dX11_mostAlike_69 (by decide) ?_
              exact ih16 (n16_5 + 1) (n16_4 + 0) _ _ _ (by omega) ⟨by omega, by have := hx16_0.2; rw [lik_n hb_4 (fun z => hb_6 z.1)]; omega⟩ (by omega) (by omega) G hl
          · refine lv_if_eq (tgt := 72) zx zb dX11_mostAlike_28 (by decide) (fun c_12 => ?_) (fun c_12 => absurd (by decide) c_12)
            have hlk : n16_4 = likF x1 ft n4_3 10 := by rw [hx16_0.2]; exact lik_x hb_4
            have hl10 : n16_4 ≤ 10 := by rw [hlk]; exact lik10 10
            refine lv_iload zx zb dX11_mostAlike_72 (lv_at hl 1 rfl) ?_
            refine lv_iload_n zx zb dX11_mostAlike_74 rfl (lv_at hl 3 rfl) ?_
            refine lv_icmp_le (tgt := 83) zx zb dX11_mostAlike_75 (by decide) (fun c_13 => ?_) (fun c_13 => ?_)
            · have fc_13 := j_le (a := n16_4) (b := n4_2) (by omega) (by omega) c_13
              refine lv_iload_n zx zb dX11_mostAlike_83 rfl (lv_at hl 3 rfl) ?_
              refine lv_istore_n (lv' := [(2, .int (nI n4_2)), (5, .int (nI n16_5)), (4, .int (nI n16_4)), (3, .int (nI n4_3)), (0, .ref m0), (1, .int x1)]) zx zb dX11_mostAlike_84 rfl hl (by decide) rfl (fun ls hl => ?_)
              refine lv_iinc (v := (nI (n4_3 + 1))) (lv' := [(3, .int (nI (n4_3 + 1))), (2, .int (nI n4_2)), (5, .int (nI n16_5)), (4, .int (nI n16_4)), (0, .ref m0), (1, .int x1)]) zx zb dX11_mostAlike_85 hl (k := 3) rfl (nI_add n4_3 1) (by decide) rfl (fun ls hl => ?_)
              refine lv_goto (tgt := 4) zx zb dX11_mostAlike_88 (by decide) ?_
              have hl := lv_sub hl (l' := [(3, .int (nI (n4_3 + 1))), (2, .int (nI n4_2)), (0, .ref m0), (1, .int x1)]) [0, 1, 4, 5] rfl
              exact ih4 (n4_3 + 1) n4_2 _ _ _ (by omega) ⟨by omega, by rw [topM, ← hlk, ← hx4_0.2, if_pos (by omega)]⟩ (by omega) (by omega) G hl
            · have fc_13 := j_nle (a := n16_4) (b := n4_2) (by omega) (by omega) c_13
              refine lv_iload zx zb dX11_mostAlike_78 (lv_at hl 1 rfl) ?_
              refine lv_goto (tgt := 84) zx zb dX11_mostAlike_80 (by decide) ?_
              refine lv_istore_n (lv' := [(2, .int (nI n16_4)), (5, .int (nI n16_5)), (4, .int (nI n16_4)), (3, .int (nI n4_3)), (0, .ref m0), (1, .int x1)]) zx zb dX11_mostAlike_84 rfl hl (by decide) rfl (fun ls hl => ?_)
              refine lv_iinc (v := (nI (n4_3 + 1))) (lv' := [(3, .int (nI (n4_3 + 1))), (2, .int (nI n16_4)), (5, .int (nI n16_5)), (4, .int (nI n16_4)), (0, .ref m0), (1, .int x1)]) zx zb dX11_mostAlike_85 hl (k := 3) rfl (nI_add n4_3 1) (by decide) rfl (fun ls hl => ?_)
              refine lv_goto (tgt := 4) zx zb dX11_mostAlike_88 (by decide) ?_
              have hl := lv_sub hl (l' := [(3, .int (nI (n4_3 + 1))), (2, .int (nI n16_4)), (0, .ref m0), (1, .int x1)]) [0, 1, 4, 5] rfl
              exact ih4 (n4_3 + 1) n16_4 _ _ _ (by omega) ⟨by omega, by rw [topM, ← hlk, ← hx4_0.2, if_neg (by omega)]⟩ (by omega) (by omega) G hl
