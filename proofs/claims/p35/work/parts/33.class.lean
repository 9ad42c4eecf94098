set_option maxRecDepth 20000 in
theorem ggX10_read_X6_takeRace : GoodIn wsX10_read wsX6_takeRace := goodIn_r _ [8, 9, 10, 11, 12, 13, 14, 7, 15, 16, 17, 18, 19, 20, 21, 22, 23, 24, 25, 26, 27, 28, 29, 30, 31, 32, 33, 34, 35, 36, 37, 38, 39, 40, 41, 42, 43, 44, 45, 46, 47, 48, 49, 50, 51, 52, 53, 54, 55, 56, 57, 58, 59, 60, 61, 62, 63, 64, 65, 66, 67, 68, 69, 70, 71, 72, 73, 74, 75, 76, 77, 78, 79, 80, 81, 82, 83, 84, 85, 86, 87, 88, 89, 90, 91, 92, 93, 94, 95, 96, 97, 98, 99, 100, 101, 102, 103, 104, 105, 106, 107, 108, 109, 110, 111, 112, 113, 114, 115, 116, 117, 118, 119, 120, 121, 122, 123, 124, 125, 126, 127, 128, 129, 130, 131, 132, 133, 134, 135, 136, 137, 138, 139, 140, 141, 142, 143, 144, 145, 146, 147, 148, 149, 150, 151, 152, 153, 154, 155, 156, 157, 158, 159, 160, 161, 162, 163, 164, 165, 166, 167, 168, 169, 170, 171, 172, 173, 174, 175, 176, 177, 178, 179, 180, 181, 182, 183, 184, 199, 200, 201, 202, 203, 204, 205, 206, 207, 208, 209, 210, 211, 212, 213, 214, 215, 216, 217, 218, 219, 220, 221, 222, 223, 224, 225, 226, 227, 228] rfl (by decide +kernel)
set_option maxRecDepth 20000 in
theorem gX10_read_X6_takeRace : GoodIn wsX10_read (wsV RX10 106 RX6 yX6_takeRace wsX6_takeRace) := goodIn_app (goodIn_of _ (by decide +kernel)) ggX10_read_X6_takeRace
set_option maxRecDepth 20000 in
theorem ggX10_type_X10_refuse : GoodIn wsX10_type wsX10_refuse := goodIn_r _ [9, 10, 18, 19, 20, 21, 22, 23, 24, 25, 26, 27, 28, 29, 30, 31] rfl (by decide +kernel)
set_option maxRecDepth 20000 in
theorem gX10_type_X10_refuse : GoodIn wsX10_type (wsV RX10 83 RX10 yX10_refuse wsX10_refuse) := goodIn_app (goodIn_of _ (by decide +kernel)) ggX10_type_X10_refuse
set_option maxRecDepth 20000 in
theorem ggX10_type_X10_within : GoodIn wsX10_type wsX10_within := goodIn_r _ [5] rfl (by decide +kernel)
set_option maxRecDepth 20000 in
theorem gX10_type_X10_within : GoodIn wsX10_type (va_wsS RX10 79 yX10_within wsX10_within) := goodIn_app (goodIn_of _ (by decide +kernel)) ggX10_type_X10_within
set_option maxRecDepth 20000 in
theorem ggX10_type_X6_append : GoodIn wsX10_type wsX6_append := goodIn_r _ [15, 16, 17, 32, 33, 34, 35, 36, 37, 38] rfl (by decide +kernel)
set_option maxRecDepth 20000 in
theorem gX10_type_X6_append : GoodIn wsX10_type (wsV RX10 99 RX6 yX6_append wsX6_append) := goodIn_app (goodIn_of _ (by decide +kernel)) ggX10_type_X6_append
set_option maxRecDepth 20000 in
theorem ggX6_takeRace_X6_skipBlanks : GoodIn wsX6_takeRace wsX6_skipBlanks := goodIn_r _ [20, 1, 3, 16, 178, 179, 180, 181, 182, 183, 184] rfl (by decide +kernel)
set_option maxRecDepth 20000 in
theorem gX6_takeRace_X6_skipBlanks : GoodIn wsX6_takeRace (wsV RX6 38 RX6 yX6_skipBlanks wsX6_skipBlanks) := goodIn_app (goodIn_of _ (by decide +kernel)) ggX6_takeRace_X6_skipBlanks
set_option maxRecDepth 20000 in
theorem ggX6_takeRace_X6_takeItem : GoodIn wsX6_takeRace wsX6_takeItem := goodIn_r _ [8, 9, 10, 2, 11, 12, 13, 14, 7, 15, 1, 3, 16, 17, 18, 19, 20, 21, 22, 23, 24, 25, 26, 27, 28, 29, 30, 31, 32, 33, 34, 35, 36, 37, 38, 39, 40, 41, 42, 43, 44, 45, 46, 47, 48, 49, 50, 51, 52, 53, 54, 55, 56, 57, 58, 59, 60, 61, 62, 63, 64, 65, 66, 67, 68, 69, 70, 71, 72, 73, 74, 75, 76, 77, 78, 79, 80, 81, 82, 83, 84, 85, 86, 87, 88, 89, 90, 91, 92, 93, 94, 95, 96, 97, 98, 99, 100, 101, 102, 103, 104, 105, 106, 107, 108, 109, 110, 111, 112, 113, 114, 115, 116, 117, 118, 119, 120, 121, 122, 123, 124, 125, 126, 127, 128, 129, 130, 131, 132, 133, 134, 135, 136, 137, 138, 139, 140, 141, 142, 143, 144, 145, 146, 147, 148, 149, 150, 151, 152, 153, 154, 155, 156, 157, 158, 159, 160, 161, 162, 163, 164, 165, 166, 167, 168, 169, 170, 171, 172, 173, 174, 175, 176, 177, 178, 179, 180, 181, 182, 183, 184, 185, 186, 187, 188, 189, 190, 191, 192, 193, 194, 195, 196, 197, 198, 199, 200, 201, 202, 203, 204, 205, 206, 207] rfl (by decide +kernel)
set_option maxRecDepth 20000 in
theorem gX6_takeRace_X6_takeItem : GoodIn wsX6_takeRace (wsV RX6 34 RX6 yX6_takeItem wsX6_takeItem) := goodIn_app (goodIn_of _ (by decide +kernel)) ggX6_takeRace_X6_takeItem
theorem dX10_clear_0 : decode cX10_clear 0 = .ok (.aload_n 0, 1) := by decide +kernel
theorem dX10_clear_1 : decode cX10_clear 1 = .ok (.getfield 30, 3) := by decide +kernel
theorem dX10_clear_12 : decode cX10_clear 12 = .ok (.iconst 0, 1) := by decide +kernel
theorem dX10_clear_13 : decode cX10_clear 13 = .ok (.putfield 103, 3) := by decide +kernel
theorem dX10_clear_16 : decode cX10_clear 16 = .ok (.iload_n 1, 1) := by decide +kernel
theorem dX10_clear_17 : decode cX10_clear 17 = .ok (.ireturn, 1) := by decide +kernel
theorem dX10_clear_4 : decode cX10_clear 4 = .ok (.getfield 103, 3) := by decide +kernel
theorem dX10_clear_7 : decode cX10_clear 7 = .ok (.istore_n 1, 1) := by decide +kernel
theorem dX10_clear_8 : decode cX10_clear 8 = .ok (.aload_n 0, 1) := by decide +kernel
theorem dX10_clear_9 : decode cX10_clear 9 = .ok (.getfield 30, 3) := by decide +kernel
theorem dX10_read_0 : decode cX10_read 0 = .ok (.aload_n 0, 1) := by decide +kernel
theorem dX10_read_1 : decode cX10_read 1 = .ok (.getfield 30, 3) := by decide +kernel
theorem dX10_read_11 : decode cX10_read 11 = .ok (.istore_n 1, 1) := by decide +kernel
theorem dX10_read_12 : decode cX10_read 12 = .ok (.iload_n 1, 1) := by decide +kernel
theorem dX10_read_13 : decode cX10_read 13 = .ok (.ifCond .lt 21, 3) := by decide +kernel
theorem dX10_read_16 : decode cX10_read 16 = .ok (.aload_n 0, 1) := by decide +kernel
theorem dX10_read_17 : decode cX10_read 17 = .ok (.getfield 10, 3) := by decide +kernel
theorem dX10_read_20 : decode cX10_read 20 = .ok (.astore_n 2, 1) := by decide +kernel
theorem dX10_read_21 : decode cX10_read 21 = .ok (.aload_n 0, 1) := by decide +kernel
theorem dX10_read_22 : decode cX10_read 22 = .ok (.aload_n 0, 1) := by decide +kernel
theorem dX10_read_23 : decode cX10_read 23 = .ok (.getfield 16, 3) := by decide +kernel
theorem dX10_read_26 : decode cX10_read 26 = .ok (.putfield 10, 3) := by decide +kernel
theorem dX10_read_29 : decode cX10_read 29 = .ok (.aload_n 0, 1) := by decide +kernel
theorem dX10_read_30 : decode cX10_read 30 = .ok (.aload_n 2, 1) := by decide +kernel
theorem dX10_read_31 : decode cX10_read 31 = .ok (.putfield 16, 3) := by decide +kernel
theorem dX10_read_34 : decode cX10_read 34 = .ok (.iload_n 1, 1) := by decide +kernel
theorem dX10_read_35 : decode cX10_read 35 = .ok (.ireturn, 1) := by decide +kernel
theorem dX10_read_4 : decode cX10_read 4 = .ok (.aload_n 0, 1) := by decide +kernel
theorem dX10_read_5 : decode cX10_read 5 = .ok (.getfield 16, 3) := by decide +kernel
theorem dX10_read_8 : decode cX10_read 8 = .ok (.invokevirtual 106, 3) := by decide +kernel
theorem dX10_type_0 : decode cX10_type 0 = .ok (.iload_n 1, 1) := by decide +kernel
theorem dX10_type_1 : decode cX10_type 1 = .ok (.iconst 0, 1) := by decide +kernel
theorem dX10_type_10 : decode cX10_type 10 = .ok (.aload_n 0, 1) := by decide +kernel
theorem dX10_type_11 : decode cX10_type 11 = .ok (.bipush (-2), 2) := by decide +kernel
theorem dX10_type_13 : decode cX10_type 13 = .ok (.invokevirtual 83, 3) := by decide +kernel
theorem dX10_type_16 : decode cX10_type 16 = .ok (.ireturn, 1) := by decide +kernel
theorem dX10_type_17 : decode cX10_type 17 = .ok (.aload_n 0, 1) := by decide +kernel
theorem dX10_type_18 : decode cX10_type 18 = .ok (.getfield 30, 3) := by decide +kernel
theorem dX10_type_2 : decode cX10_type 2 = .ok (.bipush 127, 2) := by decide +kernel
theorem dX10_type_21 : decode cX10_type 21 = .ok (.iload_n 1, 1) := by decide +kernel
theorem dX10_type_22 : decode cX10_type 22 = .ok (.invokevirtual 99, 3) := by decide +kernel
theorem dX10_type_25 : decode cX10_type 25 = .ok (.ifCond .eq 13, 3) := by decide +kernel
theorem dX10_type_28 : decode cX10_type 28 = .ok (.aload_n 0, 1) := by decide +kernel
theorem dX10_type_29 : decode cX10_type 29 = .ok (.getfield 30, 3) := by decide +kernel
theorem dX10_type_32 : decode cX10_type 32 = .ok (.getfield 103, 3) := by decide +kernel
theorem dX10_type_35 : decode cX10_type 35 = .ok (.goto 9, 3) := by decide +kernel
theorem dX10_type_38 : decode cX10_type 38 = .ok (.aload_n 0, 1) := by decide +kernel
theorem dX10_type_39 : decode cX10_type 39 = .ok (.bipush (-4), 2) := by decide +kernel
theorem dX10_type_4 : decode cX10_type 4 = .ok (.invokestatic 79, 3) := by decide +kernel
theorem dX10_type_41 : decode cX10_type 41 = .ok (.invokevirtual 83, 3) := by decide +kernel
theorem dX10_type_44 : decode cX10_type 44 = .ok (.ireturn, 1) := by decide +kernel
theorem dX10_type_7 : decode cX10_type 7 = .ok (.ifCond .ne 10, 3) := by decide +kernel
theorem dX6_append_0 : decode cX6_append 0 = .ok (.aload_n 0, 1) := by decide +kernel
theorem dX6_append_1 : decode cX6_append 1 = .ok (.getfield 15, 3) := by decide +kernel
theorem dX6_append_10 : decode cX6_append 10 = .ok (.iconst 0, 1) := by decide +kernel
theorem dX6_append_11 : decode cX6_append 11 = .ok (.ireturn, 1) := by decide +kernel
theorem dX6_append_12 : decode cX6_append 12 = .ok (.aload_n 0, 1) := by decide +kernel
theorem dX6_append_13 : decode cX6_append 13 = .ok (.getfield 11, 3) := by decide +kernel
theorem dX6_append_16 : decode cX6_append 16 = .ok (.aload_n 0, 1) := by decide +kernel
theorem dX6_append_17 : decode cX6_append 17 = .ok (.getfield 15, 3) := by decide +kernel
theorem dX6_append_20 : decode cX6_append 20 = .ok (.iload_n 1, 1) := by decide +kernel
theorem dX6_append_21 : decode cX6_append 21 = .ok (.iastore, 1) := by decide +kernel
theorem dX6_append_22 : decode cX6_append 22 = .ok (.aload_n 0, 1) := by decide +kernel
theorem dX6_append_23 : decode cX6_append 23 = .ok (.dup, 1) := by decide +kernel
theorem dX6_append_24 : decode cX6_append 24 = .ok (.getfield 15, 3) := by decide +kernel
theorem dX6_append_27 : decode cX6_append 27 = .ok (.iconst 1, 1) := by decide +kernel
theorem dX6_append_28 : decode cX6_append 28 = .ok (.iadd, 1) := by decide +kernel
theorem dX6_append_29 : decode cX6_append 29 = .ok (.putfield 15, 3) := by decide +kernel
theorem dX6_append_32 : decode cX6_append 32 = .ok (.iconst 1, 1) := by decide +kernel
theorem dX6_append_33 : decode cX6_append 33 = .ok (.ireturn, 1) := by decide +kernel
theorem dX6_append_4 : decode cX6_append 4 = .ok (.sipush 150, 3) := by decide +kernel
theorem dX6_append_7 : decode cX6_append 7 = .ok (.if_icmp .lt 5, 3) := by decide +kernel
theorem dX6_takeRace_0 : decode cX6_takeRace 0 = .ok (.aload_n 0, 1) := by decide +kernel
theorem dX6_takeRace_1 : decode cX6_takeRace 1 = .ok (.iconst 0, 1) := by decide +kernel
theorem dX6_takeRace_10 : decode cX6_takeRace 10 = .ok (.iconst 0, 1) := by decide +kernel
theorem dX6_takeRace_11 : decode cX6_takeRace 11 = .ok (.istore_n 2, 1) := by decide +kernel
theorem dX6_takeRace_12 : decode cX6_takeRace 12 = .ok (.aload_n 0, 1) := by decide +kernel
theorem dX6_takeRace_13 : decode cX6_takeRace 13 = .ok (.aload_n 1, 1) := by decide +kernel
theorem dX6_takeRace_14 : decode cX6_takeRace 14 = .ok (.iload_n 2, 1) := by decide +kernel
theorem dX6_takeRace_15 : decode cX6_takeRace 15 = .ok (.ifCond .ne 7, 3) := by decide +kernel
theorem dX6_takeRace_18 : decode cX6_takeRace 18 = .ok (.iconst 1, 1) := by decide +kernel
theorem dX6_takeRace_19 : decode cX6_takeRace 19 = .ok (.goto 4, 3) := by decide +kernel
theorem dX6_takeRace_2 : decode cX6_takeRace 2 = .ok (.putfield 19, 3) := by decide +kernel
theorem dX6_takeRace_22 : decode cX6_takeRace 22 = .ok (.iconst 0, 1) := by decide +kernel
theorem dX6_takeRace_23 : decode cX6_takeRace 23 = .ok (.invokevirtual 34, 3) := by decide +kernel
theorem dX6_takeRace_26 : decode cX6_takeRace 26 = .ok (.iinc 2 1, 3) := by decide +kernel
theorem dX6_takeRace_29 : decode cX6_takeRace 29 = .ok (.aload_n 0, 1) := by decide +kernel
theorem dX6_takeRace_30 : decode cX6_takeRace 30 = .ok (.invokevirtual 38, 3) := by decide +kernel
theorem dX6_takeRace_33 : decode cX6_takeRace 33 = .ok (.aload_n 0, 1) := by decide +kernel
theorem dX6_takeRace_34 : decode cX6_takeRace 34 = .ok (.getfield 31, 3) := by decide +kernel
theorem dX6_takeRace_37 : decode cX6_takeRace 37 = .ok (.iconst (-1), 1) := by decide +kernel
theorem dX6_takeRace_38 : decode cX6_takeRace 38 = .ok (.if_icmp .ne 21, 3) := by decide +kernel
theorem dX6_takeRace_41 : decode cX6_takeRace 41 = .ok (.aload_n 0, 1) := by decide +kernel
theorem dX6_takeRace_42 : decode cX6_takeRace 42 = .ok (.getfield 19, 3) := by decide +kernel
theorem dX6_takeRace_45 : decode cX6_takeRace 45 = .ok (.aload_n 0, 1) := by decide +kernel
theorem dX6_takeRace_46 : decode cX6_takeRace 46 = .ok (.getfield 15, 3) := by decide +kernel
theorem dX6_takeRace_49 : decode cX6_takeRace 49 = .ok (.if_icmp .ge 10, 3) := by decide +kernel
theorem dX6_takeRace_5 : decode cX6_takeRace 5 = .ok (.aload_n 0, 1) := by decide +kernel
theorem dX6_takeRace_52 : decode cX6_takeRace 52 = .ok (.iload_n 2, 1) := by decide +kernel
theorem dX6_takeRace_53 : decode cX6_takeRace 53 = .ok (.sipush 150, 3) := by decide +kernel
theorem dX6_takeRace_56 : decode cX6_takeRace 56 = .ok (.if_icmp .lt (-44), 3) := by decide +kernel
theorem dX6_takeRace_59 : decode cX6_takeRace 59 = .ok (.aload_n 0, 1) := by decide +kernel
theorem dX6_takeRace_6 : decode cX6_takeRace 6 = .ok (.iconst (-1), 1) := by decide +kernel
theorem dX6_takeRace_60 : decode cX6_takeRace 60 = .ok (.getfield 31, 3) := by decide +kernel
theorem dX6_takeRace_63 : decode cX6_takeRace 63 = .ok (.iconst (-1), 1) := by decide +kernel
theorem dX6_takeRace_64 : decode cX6_takeRace 64 = .ok (.if_icmp .ne 7, 3) := by decide +kernel
theorem dX6_takeRace_67 : decode cX6_takeRace 67 = .ok (.iload_n 2, 1) := by decide +kernel
theorem dX6_takeRace_68 : decode cX6_takeRace 68 = .ok (.goto 10, 3) := by decide +kernel
theorem dX6_takeRace_7 : decode cX6_takeRace 7 = .ok (.putfield 31, 3) := by decide +kernel
theorem dX6_takeRace_71 : decode cX6_takeRace 71 = .ok (.bipush (-10), 2) := by decide +kernel
theorem dX6_takeRace_73 : decode cX6_takeRace 73 = .ok (.aload_n 0, 1) := by decide +kernel
theorem dX6_takeRace_74 : decode cX6_takeRace 74 = .ok (.getfield 31, 3) := by decide +kernel
theorem dX6_takeRace_77 : decode cX6_takeRace 77 = .ok (.isub, 1) := by decide +kernel
theorem dX6_takeRace_78 : decode cX6_takeRace 78 = .ok (.ireturn, 1) := by decide +kernel
theorem in_X6_takeRace_X6 : ∀ w ∈ wsX60, w ∈ wsX6_takeRace := by decide +kernel
theorem lk_X6_takeRace_19 : Cond.fieldLink RX6 19 "EggSpoons$Reader" "at" "I" ∈ wsX6_takeRace := by decide +kernel
theorem lk_X6_takeRace_31 : Cond.fieldLink RX6 31 "EggSpoons$Reader" "fault" "I" ∈ wsX6_takeRace := by decide +kernel
theorem hdV_X6_takeItem : yX6_takeItem.cls = RX6 ∧ yX6_takeItem.cls ≠ "java/lang/invoke/MethodHandle" ∧ yX6_takeItem.cls ≠ "java/lang/invoke/VarHandle" ∧ (parseMethodDescriptor yX6_takeItem.desc).map (fun d => d.parameters.length) = some 2 := by decide +kernel
theorem lk_X6_takeRace_15 : Cond.fieldLink RX6 15 "EggSpoons$Reader" "length" "I" ∈ wsX6_takeRace := by decide +kernel
set_option maxHeartbeats 4000000 in
set_option maxRecDepth 100000 in
/-- takeRace -/
theorem s_takeRace (l : Launch) (X : EX) (K : SK) (h0 : Nat) (hb : Nat) (n : Nat) (bd : Nat → Nat) (vd : Nat → Int32) (fd : Nat → Int32) (hn : Nat) (an : Nat → Nat) (v : Nat → Int32) (b : Nat → Nat) (g : Nat → Nat → Int32) (hI_n : n ≤ 150) (hI_bd : InP bd) (hI_b : InR b) (sz : Nat) : Met l yX6_takeRace wsX6_takeRace ({ frames := 6, cells := 0, slots := 0, locals := 129 } : Room) (pS X K [.ref h0, .ref hn] (@HAppend.hAppend va_W va_W va_W _ (rdV X h0 hb n bd vd fd) (rcW X hn an v b g)) sz) (qI (fun (r : Int32) (u : (Nat → Nat) × (Nat → Int32) × (Nat → Int32) × (Nat → Nat) × (Nat → Nat → Int32)) => InP u.1 ∧ InR u.2.2.2.1 ∧ (True)) X (fun (u : (Nat → Nat) × (Nat → Int32) × (Nat → Int32) × (Nat → Nat) × (Nat → Nat → Int32)) => @HAppend.hAppend va_W va_W va_W _ (rdV X h0 hb n u.1 u.2.1 fd) (rcW X hn an u.2.2.1 u.2.2.2.1 u.2.2.2.2)) (@HAppend.hAppend va_W va_W va_W _ (rdV X h0 hb n bd vd fd) (rcW X hn an v b g)) sz) 0 0 (va_A (@HAppend.hAppend va_W va_W va_W _ (rdV X h0 hb n bd vd fd) (rcW X hn an v b g)) sz) := by
  refine mk_metS (B := (va_A (@HAppend.hAppend va_W va_W va_W _ (rdV X h0 hb n bd vd fd) (rcW X hn an v b g)) sz)) (A := (va_A (@HAppend.hAppend va_W va_W va_W _ (rdV X h0 hb n bd vd fd) (rcW X hn an v b g)) sz)) (cc := cX6_takeRace) (maxL := 3) (ret := (some .int)) (by decide) rfl (Nat.le_of_ble_eq_true rfl) k_w k_a (fun p e s m below meth c S zr zlk znm zsz G hZ ls hl => ?_)
  have S : CallFix p m c cX6_takeRace 3 s _ wsX6_takeRace RX6 := S
  have zx := S.1
  have zb := S.2.1
  have hl : lv_has ls 3 [(0, .ref h0), (1, .ref hn)] := hl
  have hO_bd := hI_bd
  obtain ⟨hd0_bd, hd1_bd⟩ := hO_bd
  have hO_b := hI_b
  obtain ⟨hb0_b, hb1_b, hb2_b, hb3_b, hb4_b⟩ := hO_b
  refine lv_aload_n zx zb dX6_takeRace_0 rfl (lv_at hl 0 rfl) ?_
  refine lv_iconst (v := 0) zx zb dX6_takeRace_1 (by decide) ?_
  refine r_put (C := RX6) (T := TX6) (N := 7) (ci := 4) (v := .int 0) S in_X6_takeRace_X6 tyX6_ok nmX6 G 0 rfl rfl 2 (by decide) lk_X6_takeRace_19 rfl (vp_nar_int _) rfl (Nat.le_of_ble_eq_true rfl) dX6_takeRace_2 (fun H locs G => ?_)
  obtain ⟨b_1, hI_b_1, ⟨hE_b_1_0, hE_b_1_1⟩, G⟩ : ∃ b_1 : Nat → Nat, InP b_1 ∧ (b_1 0 = 0 ∧ b_1 1 = bd 1) ∧ wd X (va_A (@HAppend.hAppend va_W va_W va_W _ (rdV X h0 hb n bd vd fd) (rcW X hn an v b g)) sz) (va_A (@HAppend.hAppend va_W va_W va_W _ (rdV X h0 hb n bd vd fd) (rcW X hn an v b g)) sz) s (@HAppend.hAppend va_W va_W va_W _ (rdV X h0 hb n b_1 vd fd) (rcW X hn an v b g)) H locs := ⟨upN bd 0 0, ⟨(by show 0 ≤ 150; omega), hd1_bd⟩, ⟨rfl, rfl⟩, G⟩
  have hO_b_1 := hI_b_1
  obtain ⟨hd0_b_1, hd1_b_1⟩ := hO_b_1
  refine lv_aload_n zx zb dX6_takeRace_5 rfl (lv_at hl 0 rfl) ?_
  refine lv_iconst (v := (-1)) zx zb dX6_takeRace_6 (by decide) ?_
  refine r_put (C := RX6) (T := TX6) (N := 7) (ci := 4) (v := .int (-1)) S in_X6_takeRace_X6 tyX6_ok nmX6 G 0 rfl rfl 6 (by decide) lk_X6_takeRace_31 rfl (vp_nar_int _) rfl (Nat.le_of_ble_eq_true rfl) dX6_takeRace_7 (fun H locs G => ?_)
  obtain ⟨v_2, ⟨hE_v_2_2, hE_v_2_0, hE_v_2_1⟩, G⟩ : ∃ v_2 : Nat → Int32, (v_2 2 = (-1) ∧ v_2 0 = vd 0 ∧ v_2 1 = vd 1) ∧ wd X (va_A (@HAppend.hAppend va_W va_W va_W _ (rdV X h0 hb n bd vd fd) (rcW X hn an v b g)) sz) (va_A (@HAppend.hAppend va_W va_W va_W _ (rdV X h0 hb n bd vd fd) (rcW X hn an v b g)) sz) s (@HAppend.hAppend va_W va_W va_W _ (rdV X h0 hb n b_1 v_2 fd) (rcW X hn an v b g)) H locs := ⟨upd vd 2 (-1), ⟨rfl, rfl, rfl⟩, G⟩
  refine lv_iconst (v := 0) zx zb dX6_takeRace_10 (by decide) ?_
  refine lv_istore_n (lv' := [(2, .int 0), (0, .ref h0), (1, .ref hn)]) zx zb dX6_takeRace_11 rfl hl (by decide) rfl (fun ls hl => ?_)
  refine k_loop (P := ∀ (zm : Nat) (n12_2 : Nat) (b12_0 : Nat → Nat) (v12_0 : Nat → Int32) (v12_1 : Nat → Int32) (b12_1 : Nat → Nat) (g12_1 : Nat → Nat → Int32) (H : Heap) (locs : List Loc) (ls : Array Slot), ((150 - n12_2) < zm) → (b12_0 0 ≤ n) → InP b12_0 → InR b12_1 → (n12_2 ≤ 150) → wd X (va_A (@HAppend.hAppend va_W va_W va_W _ (rdV X h0 hb n bd vd fd) (rcW X hn an v b g)) sz) (va_A (@HAppend.hAppend va_W va_W va_W _ (rdV X h0 hb n bd vd fd) (rcW X hn an v b g)) sz) s (@HAppend.hAppend va_W va_W va_W _ (rdV X h0 hb n b12_0 v12_0 fd) (rcW X hn an v12_1 b12_1 g12_1)) H locs → lv_has ls 3 [(2, .int (nI n12_2)), (0, .ref h0), (1, .ref hn)] → W p l e _ s m _ below meth c H locs _ _ _ (F0 m 12 ls [])) (fun loop => loop ((150 - 0) + 1) 0 b_1 v_2 v b g _ _ _ (by omega) (by omega) hI_b_1 hI_b (by omega) G hl) ?_
  intro zm
  induction zm with
  | zero => intro n12_2 b12_0 v12_0 v12_1 b12_1 g12_1 H locs ls zz q_x0 q_hI_b12_0 q_hI_b12_1 q_hk_n12_2 _ _; exact absurd zz (by omega)
  | succ zm ih12 =>
    intro n12_2 b12_0 v12_0 v12_1 b12_1 g12_1 H locs ls zm_12 hx12_0 hI_b12_0 hI_b12_1 hk_n12_2 G hl
    have hO_b12_0 := hI_b12_0
    obtain ⟨hd0_b12_0, hd1_b12_0⟩ := hO_b12_0
    have hO_b12_1 := hI_b12_1
    obtain ⟨hb0_b12_1, hb1_b12_1, hb2_b12_1, hb3_b12_1, hb4_b12_1⟩ := hO_b12_1
    refine lv_aload_n zx zb dX6_takeRace_12 rfl (lv_at hl 1 rfl) ?_
    refine lv_aload_n zx zb dX6_takeRace_13 rfl (lv_at hl 2 rfl) ?_
    refine lv_iload_n zx zb dX6_takeRace_14 rfl (lv_at hl 0 rfl) ?_
    refine k_cutW (PP := fun Wx => ∀ (x_4 : Int32) (H : Heap) (locs : List Loc) (ls : Array Slot), (x_4 = 0 ∨ x_4 = 1) → wd X (va_A (@HAppend.hAppend va_W va_W va_W _ (rdV X h0 hb n bd vd fd) (rcW X hn an v b g)) sz) (va_A (@HAppend.hAppend va_W va_W va_W _ (rdV X h0 hb n bd vd fd) (rcW X hn an v b g)) sz) s (@HAppend.hAppend va_W va_W va_W _ (rdV X h0 hb n b12_0 v12_0 fd) (rcW X hn an v12_1 b12_1 g12_1)) H locs → lv_has ls 3 [(2, .int (nI n12_2)), (0, .ref h0), (1, .ref hn)] → Wx (F0 m 23 ls [.int x_4, .ref hn, .ref h0]) H locs) ?_ ?_
    · intro join_15
      refine lv_if_ne (tgt := 22) zx zb dX6_takeRace_15 (by decide) (fun c_3 => ?_) (fun c_3 => ?_)
      · have fc_3 := j_ne (a := n12_2) (b := 0) c_3
        refine lv_iconst (v := 0) zx zb dX6_takeRace_22 (by decide) ?_
        exact join_15 0 _ _ _ (by first | assumption | exact Or.inl rfl | exact Or.inr rfl) G hl
      · have fc_3 := j_eq (a := n12_2) (b := 0) (by omega) (by omega) c_3
        refine lv_iconst (v := 1) zx zb dX6_takeRace_18 (by decide) ?_
        refine lv_goto (tgt := 23) zx zb dX6_takeRace_19 (by decide) ?_
        exact join_15 1 _ _ _ (by first | assumption | exact Or.inl rfl | exact Or.inr rfl) G hl
    · intro x_4 H locs ls hk_x_4 G hl
      refine b_wv (cells' := 0) (slots' := 0) (wr := []) G rfl rfl [0, 1, 2, 3, 4, 5, 6, 7, 8, 9, 10, 11, 12, 13, 14, 15, 16, 17] [] rfl rfl rfl rfl (n_VS (As := [.ref hn, .int x_4]) (rest := []) (C := RX6) (T := TX6) (N := 7) (ci := 4) S G hZ (s_takeItem l X K h0 hb n b12_0 v12_0 fd hn an v12_1 b12_1 g12_1 x_4 hI_n hI_b12_0 hI_b12_1 (by omega) H.size) gX6_takeRace_X6_takeItem rfl rfl rfl hdV_X6_takeItem ⟨Nat.le_of_ble_eq_true rfl, Nat.le_of_ble_eq_true rfl⟩ [0, 1, 2, 3, 4, 5, 6, 7, 8, 9, 10, 11, 12, 13, 14, 15, 16, 17] rfl rfl 0 rfl rfl rfl hl.1 (Nat.le_of_ble_eq_true rfl) dX6_takeRace_23 ⟨Nat.le_of_ble_eq_true rfl, Nat.le_of_ble_eq_true rfl⟩) (fun u_5 H locs hp_5 G => ?_)
      obtain ⟨b_5a, v_5b, v_5c, b_5d, g_5e⟩ := u_5
      try dsimp only at hp_5
      obtain ⟨hI_b_5a, hI_b_5d, hq_5⟩ := hp_5
      have hO_b_5a := hI_b_5a
      obtain ⟨hd0_b_5a, hd1_b_5a⟩ := hO_b_5a
      have hO_b_5d := hI_b_5d
      obtain ⟨hb0_b_5d, hb1_b_5d, hb2_b_5d, hb3_b_5d, hb4_b_5d⟩ := hO_b_5d
      have G : wd X (va_A (@HAppend.hAppend va_W va_W va_W _ (rdV X h0 hb n bd vd fd) (rcW X hn an v b g)) sz) (va_A (@HAppend.hAppend va_W va_W va_W _ (rdV X h0 hb n bd vd fd) (rcW X hn an v b g)) sz) s (@HAppend.hAppend va_W va_W va_W _ (rdV X h0 hb n b_5a v_5b fd) (rcW X hn an v_5c b_5d g_5e)) H locs := G
      obtain ⟨hz0_5, hz1_5⟩ := hq_5
      refine lv_iinc (v := (nI (n12_2 + 1))) (lv' := [(2, .int (nI (n12_2 + 1))), (0, .ref h0), (1, .ref hn)]) zx zb dX6_takeRace_26 hl (k := 0) rfl (nI_add n12_2 1) (by decide) rfl (fun ls hl => ?_)
      refine lv_aload_n zx zb dX6_takeRace_29 rfl (lv_at hl 1 rfl) ?_
      refine b_wv (cells' := 0) (slots' := 0) (wr := rcW X hn an v_5c b_5d g_5e) G rfl rfl [0, 1] [2, 3, 4, 5, 6, 7, 8, 9, 10, 11, 12, 13, 14, 15, 16, 17] rfl rfl rfl rfl (n_V (As := []) (rest := []) (C := RX6) (T := TX6) (N := 7) (ci := 4) S G (s_skipBlanks l X h0 hb n b_5a v_5b fd hI_n hI_b_5a (by omega) H.size) gX6_takeRace_X6_skipBlanks rfl rfl rfl hdV_X6_skipBlanks ⟨Nat.le_of_ble_eq_true rfl, Nat.le_of_ble_eq_true rfl⟩ [0, 1] rfl rfl 0 rfl rfl rfl hl.1 (Nat.le_of_ble_eq_true rfl) dX6_takeRace_30 ⟨Nat.le_of_ble_eq_true rfl, Nat.le_of_ble_eq_true rfl⟩) (fun u_6 H locs hp_6 G => ?_)
      obtain ⟨b_6, rfl⟩ : ∃ z, z = u_6 := ⟨_, rfl⟩
      obtain ⟨hI_b_6, hq_6⟩ := hp_6
      have hO_b_6 := hI_b_6
      obtain ⟨hd0_b_6, hd1_b_6⟩ := hO_b_6
      have G : wd X (va_A (@HAppend.hAppend va_W va_W va_W _ (rdV X h0 hb n bd vd fd) (rcW X hn an v b g)) sz) (va_A (@HAppend.hAppend va_W va_W va_W _ (rdV X h0 hb n bd vd fd) (rcW X hn an v b g)) sz) s (@HAppend.hAppend va_W va_W va_W _ (rcW X hn an v_5c b_5d g_5e) (rdV X h0 hb n b_6 v_5b fd)) H locs := G
      obtain ⟨hz0_6, hz1_6, hz2_6⟩ := hq_6
      refine lv_aload_n zx zb dX6_takeRace_33 rfl (lv_at hl 1 rfl) ?_
      refine r_get (C := RX6) (T := TX6) (N := 7) (ci := 4) (v := .int (v_5b 2)) S in_X6_takeRace_X6 G 16 rfl rfl 6 (by decide) lk_X6_takeRace_31 rfl dX6_takeRace_34 ?_
      refine lv_iconst (v := (-1)) zx zb dX6_takeRace_37 (by decide) ?_
      refine k_cutW (PP := fun Wx => ∀ (H : Heap) (locs : List Loc) (ls : Array Slot), wd X (va_A (@HAppend.hAppend va_W va_W va_W _ (rdV X h0 hb n bd vd fd) (rcW X hn an v b g)) sz) (va_A (@HAppend.hAppend va_W va_W va_W _ (rdV X h0 hb n bd vd fd) (rcW X hn an v b g)) sz) s (@HAppend.hAppend va_W va_W va_W _ (rcW X hn an v_5c b_5d g_5e) (rdV X h0 hb n b_6 v_5b fd)) H locs → lv_has ls 3 [(2, .int (nI (n12_2 + 1))), (0, .ref h0), (1, .ref hn)] → Wx (F0 m 59 ls []) H locs) ?_ ?_
      · intro join_38
        refine lv_icmp_ne (tgt := 59) zx zb dX6_takeRace_38 (by decide) (fun c_7 => ?_) (fun c_7 => ?_)
        · exact join_38  _ _ _  G hl
        · refine lv_aload_n zx zb dX6_takeRace_41 rfl (lv_at hl 1 rfl) ?_
          refine r_get (C := RX6) (T := TX6) (N := 7) (ci := 4) (v := .int (nI (b_6 0))) S in_X6_takeRace_X6 G 16 rfl rfl 2 (by decide) lk_X6_takeRace_19 rfl dX6_takeRace_42 ?_
          refine lv_aload_n zx zb dX6_takeRace_45 rfl (lv_at hl 1 rfl) ?_
          refine r_get (C := RX6) (T := TX6) (N := 7) (ci := 4) (v := .int (nI n)) S in_X6_takeRace_X6 G 16 rfl rfl 1 (by decide) lk_X6_takeRace_15 rfl dX6_takeRace_46 ?_
          refine lv_icmp_ge (tgt := 59) zx zb dX6_takeRace_49 (by decide) (fun c_8 => ?_) (fun c_8 => ?_)
          · have fc_8 := j_le (a := n) (b := (b_6 0)) (by omega) (by omega) c_8
            exact join_38  _ _ _  G hl
          · have fc_8 := j_nle (a := n) (b := (b_6 0)) (by omega) (by omega) c_8
            refine lv_iload_n zx zb dX6_takeRace_52 rfl (lv_at hl 0 rfl) ?_
            refine lv_sipush (v := 150) zx zb dX6_takeRace_53 (by decide) ?_
            refine lv_icmp_lt (tgt := 12) zx zb dX6_takeRace_56 (by decide) (fun c_9 => ?_) (fun c_9 => ?_)
            · have fc_9 := j_lt (a := (n12_2 + 1)) (b := 150) (by omega) (by omega) c_9
              have G : wd X (va_A (@HAppend.hAppend va_W va_W va_W _ (rdV X h0 hb n bd vd fd) (rcW X hn an v b g)) sz) (va_A (@HAppend.hAppend va_W va_W va_W _ (rdV X h0 hb n bd vd fd) (rcW X hn an v b g)) sz) s (@HAppend.hAppend va_W va_W va_W _ (rdV X h0 hb n b_6 v_5b fd) (rcW X hn an v_5c b_5d g_5e)) H locs := wd_sub G [16, 17, 0, 1, 2, 3, 4, 5, 6, 7, 8, 9, 10, 11, 12, 13, 14, 15] rfl rfl
              exact ih12 (n12_2 + 1) b_6 v_5b v_5c b_5d g_5e _ _ _ (by omega) (by omega) hI_b_6 hI_b_5d (by omega) G hl
            · have fc_9 := j_nlt (a := (n12_2 + 1)) (b := 150) (by omega) (by omega) c_9
              exact join_38  _ _ _  G hl
      · intro  H locs ls  G hl
        refine lv_aload_n zx zb dX6_takeRace_59 rfl (lv_at hl 1 rfl) ?_
        refine r_get (C := RX6) (T := TX6) (N := 7) (ci := 4) (v := .int (v_5b 2)) S in_X6_takeRace_X6 G 16 rfl rfl 6 (by decide) lk_X6_takeRace_31 rfl dX6_takeRace_60 ?_
        refine lv_iconst (v := (-1)) zx zb dX6_takeRace_63 (by decide) ?_
        refine k_cutW (PP := fun Wx => ∀ (x_11 : Int32) (H : Heap) (locs : List Loc) (ls : Array Slot), wd X (va_A (@HAppend.hAppend va_W va_W va_W _ (rdV X h0 hb n bd vd fd) (rcW X hn an v b g)) sz) (va_A (@HAppend.hAppend va_W va_W va_W _ (rdV X h0 hb n bd vd fd) (rcW X hn an v b g)) sz) s (@HAppend.hAppend va_W va_W va_W _ (rcW X hn an v_5c b_5d g_5e) (rdV X h0 hb n b_6 v_5b fd)) H locs → lv_has ls 3 [(2, .int (nI (n12_2 + 1))), (0, .ref h0), (1, .ref hn)] → Wx (F0 m 78 ls [.int x_11]) H locs) ?_ ?_
        · intro join_64
          refine lv_icmp_ne (tgt := 71) zx zb dX6_takeRace_64 (by decide) (fun c_10 => ?_) (fun c_10 => ?_)
          · refine lv_bipush (v := (-10)) zx zb dX6_takeRace_71 (by decide) ?_
            refine lv_aload_n zx zb dX6_takeRace_73 rfl (lv_at hl 1 rfl) ?_
            refine r_get (C := RX6) (T := TX6) (N := 7) (ci := 4) (v := .int (v_5b 2)) S in_X6_takeRace_X6 G 16 rfl rfl 6 (by decide) lk_X6_takeRace_31 rfl dX6_takeRace_74 ?_
            refine r_isub (v := ((-10) - (v_5b 2))) S rfl dX6_takeRace_77 ?_
            exact join_64 ((-10) - (v_5b 2)) _ _ _  G hl
          · refine lv_iload_n zx zb dX6_takeRace_67 rfl (lv_at hl 0 rfl) ?_
            refine lv_goto (tgt := 78) zx zb dX6_takeRace_68 (by decide) ?_
            exact join_64 (nI (n12_2 + 1)) _ _ _  G hl
        · intro x_11 H locs ls  G hl
          exact e_int S zr zlk (vp_nar_int _) G (b_6, v_5b, v_5c, b_5d, g_5e) [16, 17, 0, 1, 2, 3, 4, 5, 6, 7, 8, 9, 10, 11, 12, 13, 14, 15] rfl rfl (Or.inr rfl) (⟨hI_b_6, hI_b_5d, trivial⟩) dX6_takeRace_78
theorem in_X6_append_X6 : ∀ w ∈ wsX60, w ∈ wsX6_append := by decide +kernel
theorem lk_X6_append_15 : Cond.fieldLink RX6 15 "EggSpoons$Reader" "length" "I" ∈ wsX6_append := by decide +kernel
theorem lk_X6_append_11 : Cond.fieldLink RX6 11 "EggSpoons$Reader" "bytes" "[I" ∈ wsX6_append := by decide +kernel
set_option maxHeartbeats 4000000 in
set_option maxRecDepth 100000 in
/-- append -/
theorem s_append (l : Launch) (X : EX) (h0 : Nat) (hb : Nat) (n : Nat) (bd : Nat → Nat) (vd : Nat → Int32) (fd : Nat → Int32) (x1 : Int32) (hI_n : n ≤ 150) (hI_bd : InP bd) (sz : Nat) : Met l yX6_append wsX6_append ({ frames := 0, cells := 0, slots := 0, locals := 0 } : Room) (pE X [.ref h0, .int x1] (rdV X h0 hb n bd vd fd) sz) (qI (fun (r : Int32) (u : (Nat) × (Nat → Int32)) => u.1 ≤ 150 ∧ ((r = 0 ∧ n = 150 ∧ u.1 = n) ∨ (r = 1 ∧ n < 150 ∧ u.1 = n + 1))) X (fun (u : (Nat) × (Nat → Int32)) => rdV X h0 hb u.1 bd vd u.2) (rdV X h0 hb n bd vd fd) sz) 0 0 (va_A (rdV X h0 hb n bd vd fd) sz) := by
  refine mk_met (B := (va_A (rdV X h0 hb n bd vd fd) sz)) (A := (va_A (rdV X h0 hb n bd vd fd) sz)) (cc := cX6_append) (maxL := 2) (ret := (some .boolean)) (by decide) rfl (Nat.le_of_ble_eq_true rfl) k_w k_a (fun p e s m below meth c S zr zlk znm zsz G ls hl => ?_)
  have S : CallFix p m c cX6_append 2 s _ wsX6_append RX6 := S
  have zx := S.1
  have zb := S.2.1
  have hl : lv_has ls 2 [(0, .ref h0), (1, .int x1)] := hl
  have hO_bd := hI_bd
  obtain ⟨hd0_bd, hd1_bd⟩ := hO_bd
  refine lv_aload_n zx zb dX6_append_0 rfl (lv_at hl 0 rfl) ?_
  refine r_get (C := RX6) (T := TX6) (N := 7) (ci := 4) (v := .int (nI n)) S in_X6_append_X6 G 0 rfl rfl 1 (by decide) lk_X6_append_15 rfl dX6_append_1 ?_
  refine lv_sipush (v := 150) zx zb dX6_append_4 (by decide) ?_
  refine lv_icmp_lt (tgt := 12) zx zb dX6_append_7 (by decide) (fun c_1 => ?_) (fun c_1 => ?_)
  · have fc_1 := j_lt (a := n) (b := 150) (by omega) (by omega) c_1
    refine lv_aload_n zx zb dX6_append_12 rfl (lv_at hl 0 rfl) ?_
    refine r_get (C := RX6) (T := TX6) (N := 7) (ci := 4) (v := .ref hb) S in_X6_append_X6 G 0 rfl rfl 0 (by decide) lk_X6_append_11 rfl dX6_append_13 ?_
    refine lv_aload_n zx zb dX6_append_16 rfl (lv_at hl 0 rfl) ?_
    refine r_get (C := RX6) (T := TX6) (N := 7) (ci := 4) (v := .int (nI n)) S in_X6_append_X6 G 0 rfl rfl 1 (by decide) lk_X6_append_15 rfl dX6_append_17 ?_
    refine lv_iload_n zx zb dX6_append_20 rfl (lv_at hl 1 rfl) ?_
    refine r_iast S G 1 rfl (vp_in_nI (by omega) (by decide)) dX6_append_21 (fun H locs G => ?_)
    obtain ⟨f_2, G⟩ : ∃ f_2 : Nat → Int32, wd X (va_A (rdV X h0 hb n bd vd fd) sz) (va_A (rdV X h0 hb n bd vd fd) sz) s (rdV X h0 hb n bd vd f_2) H locs := ⟨_, G⟩
    refine lv_aload_n zx zb dX6_append_22 rfl (lv_at hl 0 rfl) ?_
    refine lv_dup zx zb dX6_append_23 rfl ?_
    refine r_get (C := RX6) (T := TX6) (N := 7) (ci := 4) (v := .int (nI n)) S in_X6_append_X6 G 0 rfl rfl 1 (by decide) lk_X6_append_15 rfl dX6_append_24 ?_
    refine lv_iconst (v := 1) zx zb dX6_append_27 (by decide) ?_
    refine r_iadd (v := (nI (n + 1))) S (nI_add n 1) dX6_append_28 ?_
    refine r_put (C := RX6) (T := TX6) (N := 7) (ci := 4) (v := .int (nI (n + 1))) S in_X6_append_X6 tyX6_ok nmX6 G 0 rfl rfl 1 (by decide) lk_X6_append_15 rfl (vp_nar_int _) rfl (Nat.le_of_ble_eq_true rfl) dX6_append_29 (fun H locs G => ?_)
    obtain ⟨n_3, hI_n_3, hE_n_3, G⟩ : ∃ n_3 : Nat, n_3 ≤ 150 ∧ n_3 = (n + 1) ∧ wd X (va_A (rdV X h0 hb n bd vd fd) sz) (va_A (rdV X h0 hb n bd vd fd) sz) s (rdV X h0 hb n_3 bd vd f_2) H locs := ⟨(n + 1), by omega, rfl, G⟩
    refine lv_iconst (v := 1) zx zb dX6_append_32 (by decide) ?_
    exact e_int S zr zlk (by decide) G (n_3, f_2) [0, 1] rfl rfl (Or.inr rfl) (⟨hI_n_3, Or.inr ⟨rfl, by first | omega | (dsimp only; omega), by first | omega | (dsimp only; omega)⟩⟩) dX6_append_33
  · have fc_1 := j_nlt (a := n) (b := 150) (by omega) (by omega) c_1
    refine lv_iconst (v := 0) zx zb dX6_append_10 (by decide) ?_
    exact e_int S zr zlk (by decide) G (n, fd) [0, 1] rfl rfl (Or.inr rfl) (⟨hI_n, Or.inl ⟨rfl, by first | omega | (dsimp only; omega), rfl⟩⟩) dX6_append_11
theorem in_X10_type_X10 : ∀ w ∈ wsX100, w ∈ wsX10_type := by decide +kernel
theorem lk_X10_type_30 : Cond.fieldLink RX10 30 "EggSpoons" "reader" "LEggSpoons$Reader;" ∈ wsX10_type := by decide +kernel
theorem hdV_X6_append : yX6_append.cls = RX6 ∧ yX6_append.cls ≠ "java/lang/invoke/MethodHandle" ∧ yX6_append.cls ≠ "java/lang/invoke/VarHandle" ∧ (parseMethodDescriptor yX6_append.desc).map (fun d => d.parameters.length) = some 1 := by decide +kernel
theorem in_X10_type_X6 : ∀ w ∈ wsX60, w ∈ wsX10_type := by decide +kernel
set_option maxHeartbeats 4000000 in
set_option maxRecDepth 100000 in
/-- type -/
theorem s_type (l : Launch) (X : EX) (h0 : Nat) (nw : Nat) (sp : Nat) (xa : Nat → Nat) (la : Int64) (lb : Int64) (hb : Nat) (n : Nat) (bd : Nat → Nat) (vd : Nat → Int32) (fd : Nat → Int32) (fr : Nat → Int32) (x1 : Int32) (hI_n : n ≤ 150) (hI_bd : InP bd) (sz : Nat) : Met l yX10_type wsX10_type ({ frames := 1, cells := 0, slots := 0, locals := 22 } : Room) (pE X [.ref h0, .int x1] (@HAppend.hAppend va_W va_W va_W _ (xW h0 nw sp xa la lb) (@HAppend.hAppend va_W va_W va_W _ (rdV X (xa 4) hb n bd vd fd) ([((xa 5), .inl (X.2.1, 3, .inl fr))]))) sz) (qI (fun (r : Int32) (u : (Nat) × (Nat → Int32) × (Nat → Int32)) => u.1 ≤ 150 ∧ ((¬ ((0 : Int32) ≤ x1 ∧ x1 ≤ 127) ∧ r = -2 ∧ u.1 = n) ∨ (((0 : Int32) ≤ x1 ∧ x1 ≤ 127) ∧ n = 150 ∧ r = -4 ∧ u.1 = n) ∨ (((0 : Int32) ≤ x1 ∧ x1 ≤ 127) ∧ n < 150 ∧ r = nI (n + 1) ∧ u.1 = n + 1))) X (fun (u : (Nat) × (Nat → Int32) × (Nat → Int32)) => @HAppend.hAppend va_W va_W va_W _ (xW h0 nw sp xa la lb) (@HAppend.hAppend va_W va_W va_W _ (rdV X (xa 4) hb u.1 bd vd u.2.1) ([((xa 5), .inl (X.2.1, 3, .inl u.2.2))]))) (@HAppend.hAppend va_W va_W va_W _ (xW h0 nw sp xa la lb) (@HAppend.hAppend va_W va_W va_W _ (rdV X (xa 4) hb n bd vd fd) ([((xa 5), .inl (X.2.1, 3, .inl fr))]))) sz) 0 0 (va_A (@HAppend.hAppend va_W va_W va_W _ (xW h0 nw sp xa la lb) (@HAppend.hAppend va_W va_W va_W _ (rdV X (xa 4) hb n bd vd fd) ([((xa 5), .inl (X.2.1, 3, .inl fr))]))) sz) := by
  refine mk_met (B := (va_A (@HAppend.hAppend va_W va_W va_W _ (xW h0 nw sp xa la lb) (@HAppend.hAppend va_W va_W va_W _ (rdV X (xa 4) hb n bd vd fd) ([((xa 5), .inl (X.2.1, 3, .inl fr))]))) sz)) (A := (va_A (@HAppend.hAppend va_W va_W va_W _ (xW h0 nw sp xa la lb) (@HAppend.hAppend va_W va_W va_W _ (rdV X (xa 4) hb n bd vd fd) ([((xa 5), .inl (X.2.1, 3, .inl fr))]))) sz)) (cc := cX10_type) (maxL := 2) (ret := (some .int)) (by decide) rfl (Nat.le_of_ble_eq_true rfl) k_w k_a (fun p e s m below meth c S zr zlk znm zsz G ls hl => ?_)
  have S : CallFix p m c cX10_type 2 s _ wsX10_type RX10 := S
  have zx := S.1
  have zb := S.2.1
  have hl : lv_has ls 2 [(0, .ref h0), (1, .int x1)] := hl
  have hO_bd := hI_bd
  obtain ⟨hd0_bd, hd1_bd⟩ := hO_bd
  refine lv_iload_n zx zb dX10_type_0 rfl (lv_at hl 1 rfl) ?_
  refine lv_iconst (v := 0) zx zb dX10_type_1 (by decide) ?_
  refine lv_bipush (v := 127) zx zb dX10_type_2 (by decide) ?_
  refine o_ri (cells' := 0) (slots' := 0) G rfl rfl (n_S (As := [.int x1, .int 0, .int 127]) (rest := []) S G (s_within l X x1 0 127 s.heap.size) gX10_type_X10_within rfl rfl rfl hdS_X10_within ⟨Nat.le_of_ble_eq_true rfl, Nat.le_of_ble_eq_true rfl⟩ [] rfl rfl rfl hl.1 (Nat.le_of_ble_eq_true rfl) dX10_type_4 ⟨Nat.le_of_ble_eq_true rfl, Nat.le_of_ble_eq_true rfl⟩) (fun r_1 u_1 H locs hp_1 G => ?_)
  have G : wd X (va_A (@HAppend.hAppend va_W va_W va_W _ (xW h0 nw sp xa la lb) (@HAppend.hAppend va_W va_W va_W _ (rdV X (xa 4) hb n bd vd fd) ([((xa 5), .inl (X.2.1, 3, .inl fr))]))) sz) (va_A (@HAppend.hAppend va_W va_W va_W _ (xW h0 nw sp xa la lb) (@HAppend.hAppend va_W va_W va_W _ (rdV X (xa 4) hb n bd vd fd) ([((xa 5), .inl (X.2.1, 3, .inl fr))]))) sz) s (@HAppend.hAppend va_W va_W va_W _ (xW h0 nw sp xa la lb) (@HAppend.hAppend va_W va_W va_W _ (rdV X (xa 4) hb n bd vd fd) ([((xa 5), .inl (X.2.1, 3, .inl fr))]))) H locs := G
  rcases hp_1 with ⟨rfl, hw_1⟩ | ⟨rfl, hw_1⟩
  · refine lv_if_ne (tgt := 17) zx zb dX10_type_7 (by decide) (fun c_2 => ?_) (fun c_2 => absurd c_2 (by decide))
    refine lv_aload_n zx zb dX10_type_17 rfl (lv_at hl 0 rfl) ?_
    refine r_get (C := RX10) (T := TX10) (N := 14) (ci := 8) (v := .ref (xa 4)) S in_X10_type_X10 G 0 rfl rfl 4 (by decide) lk_X10_type_30 rfl dX10_type_18 ?_
    refine lv_iload_n zx zb dX10_type_21 rfl (lv_at hl 1 rfl) ?_
    refine b_wi (cells' := 0) (slots' := 0) (wr := @HAppend.hAppend va_W va_W va_W _ (xW h0 nw sp xa la lb) ([((xa 5), .inl (X.2.1, 3, .inl fr))])) G rfl rfl [1, 2] [0, 3] rfl rfl rfl rfl (n_V (As := [.int x1]) (rest := []) (C := RX6) (T := TX6) (N := 7) (ci := 4) S G (s_append l X (xa 4) hb n bd vd fd x1 hI_n hI_bd H.size) gX10_type_X6_append rfl rfl rfl hdV_X6_append ⟨Nat.le_of_ble_eq_true rfl, Nat.le_of_ble_eq_true rfl⟩ [1, 2] rfl rfl 1 rfl rfl rfl hl.1 (Nat.le_of_ble_eq_true rfl) dX10_type_22 ⟨Nat.le_of_ble_eq_true rfl, Nat.le_of_ble_eq_true rfl⟩) (fun r_3 u_3 H locs hp_3 G => ?_)
    obtain ⟨n_3a, f_3b⟩ := u_3
    try dsimp only at hp_3
    obtain ⟨hI_n_3a, hq_3⟩ := hp_3
    have hO_bd := hI_bd
    obtain ⟨hd0_bd, hd1_bd⟩ := hO_bd
    have G : wd X (va_A (@HAppend.hAppend va_W va_W va_W _ (xW h0 nw sp xa la lb) (@HAppend.hAppend va_W va_W va_W _ (rdV X (xa 4) hb n bd vd fd) ([((xa 5), .inl (X.2.1, 3, .inl fr))]))) sz) (va_A (@HAppend.hAppend va_W va_W va_W _ (xW h0 nw sp xa la lb) (@HAppend.hAppend va_W va_W va_W _ (rdV X (xa 4) hb n bd vd fd) ([((xa 5), .inl (X.2.1, 3, .inl fr))]))) sz) s (@HAppend.hAppend va_W va_W va_W _ (xW h0 nw sp xa la lb) (@HAppend.hAppend va_W va_W va_W _ ([((xa 5), .inl (X.2.1, 3, .inl fr))]) (rdV X (xa 4) hb n_3a bd vd f_3b))) H locs := G
    rcases hq_3 with ⟨rfl, ha_3, hn_3⟩ | ⟨rfl, ha_3, hn_3⟩
    · refine lv_if_eq (tgt := 38) zx zb dX10_type_25 (by decide) (fun c_4 => ?_) (fun c_4 => absurd (by decide) c_4)
      refine lv_aload_n zx zb dX10_type_38 rfl (lv_at hl 0 rfl) ?_
      refine lv_bipush (v := (-4)) zx zb dX10_type_39 (by decide) ?_
      refine b_wi (cells' := 0) (slots' := 0) (wr := rdV X (xa 4) hb n_3a bd vd f_3b) G rfl rfl [0, 1] [2, 3] rfl rfl rfl rfl (n_V (As := [.int (-4)]) (rest := []) (C := RX10) (T := TX10) (N := 14) (ci := 8) S G (s_refuse l X h0 nw sp xa la lb fr (-4) H.size) gX10_type_X10_refuse rfl rfl rfl hdV_X10_refuse ⟨Nat.le_of_ble_eq_true rfl, Nat.le_of_ble_eq_true rfl⟩ [0, 1] rfl rfl 0 rfl rfl rfl hl.1 (Nat.le_of_ble_eq_true rfl) dX10_type_41 ⟨Nat.le_of_ble_eq_true rfl, Nat.le_of_ble_eq_true rfl⟩) (fun r_5 u_5 H locs hp_5 G => ?_)
      obtain ⟨f_5, rfl⟩ : ∃ z, z = u_5 := ⟨_, rfl⟩
      have hq_5 := hp_5
      have G : wd X (va_A (@HAppend.hAppend va_W va_W va_W _ (xW h0 nw sp xa la lb) (@HAppend.hAppend va_W va_W va_W _ (rdV X (xa 4) hb n bd vd fd) ([((xa 5), .inl (X.2.1, 3, .inl fr))]))) sz) (va_A (@HAppend.hAppend va_W va_W va_W _ (xW h0 nw sp xa la lb) (@HAppend.hAppend va_W va_W va_W _ (rdV X (xa 4) hb n bd vd fd) ([((xa 5), .inl (X.2.1, 3, .inl fr))]))) sz) s (@HAppend.hAppend va_W va_W va_W _ (rdV X (xa 4) hb n_3a bd vd f_3b) (@HAppend.hAppend va_W va_W va_W _ (xW h0 nw sp xa la lb) ([((xa 5), .inl (X.2.1, 3, .inl f_5))]))) H locs := G
      exact e_int S zr zlk (vp_nar_int _) G (n_3a, f_3b, f_5) [2, 0, 1, 3] rfl rfl (Or.inr rfl) (⟨hI_n_3a, Or.inr (Or.inl ⟨hw_1, by first | omega | (dsimp only; omega), hq_5, by first | omega | (dsimp only; omega)⟩)⟩) dX10_type_44
    · refine lv_if_eq (tgt := 38) zx zb dX10_type_25 (by decide) (fun c_6 => absurd c_6 (by decide)) (fun c_6 => ?_)
      refine lv_aload_n zx zb dX10_type_28 rfl (lv_at hl 0 rfl) ?_
      refine r_get (C := RX10) (T := TX10) (N := 14) (ci := 8) (v := .ref (xa 4)) S in_X10_type_X10 G 0 rfl rfl 4 (by decide) lk_X10_type_30 rfl dX10_type_29 ?_
      refine r_getN (C := RX6) (T := TX6) (N := 7) (ci := 4) (host := "EggSpoons") (v := .int (nI n_3a)) S in_X10_type_X6 G 2 rfl rfl 1 (by decide) G.1.2.2.2.1 rfl dX10_type_32 ?_
      refine lv_goto (tgt := 44) zx zb dX10_type_35 (by decide) ?_
      exact e_int S zr zlk (vp_nar_int _) G (n_3a, f_3b, fr) [0, 2, 3, 1] rfl rfl (Or.inr rfl) (⟨hI_n_3a, Or.inr (Or.inr ⟨hw_1, by first | omega | (dsimp only; omega), congrArg nI (by first | omega | (dsimp only; omega)), by first | omega | (dsimp only; omega)⟩)⟩) dX10_type_44
  · refine lv_if_ne (tgt := 17) zx zb dX10_type_7 (by decide) (fun c_7 => absurd (by decide) c_7) (fun c_7 => ?_)
    refine lv_aload_n zx zb dX10_type_10 rfl (lv_at hl 0 rfl) ?_
    refine lv_bipush (v := (-2)) zx zb dX10_type_11 (by decide) ?_
    refine b_wi (cells' := 0) (slots' := 0) (wr := rdV X (xa 4) hb n bd vd fd) G rfl rfl [0, 3] [1, 2] rfl rfl rfl rfl (n_V (As := [.int (-2)]) (rest := []) (C := RX10) (T := TX10) (N := 14) (ci := 8) S G (s_refuse l X h0 nw sp xa la lb fr (-2) H.size) gX10_type_X10_refuse rfl rfl rfl hdV_X10_refuse ⟨Nat.le_of_ble_eq_true rfl, Nat.le_of_ble_eq_true rfl⟩ [0, 3] rfl rfl 0 rfl rfl rfl hl.1 (Nat.le_of_ble_eq_true rfl) dX10_type_13 ⟨Nat.le_of_ble_eq_true rfl, Nat.le_of_ble_eq_true rfl⟩) (fun r_8 u_8 H locs hp_8 G => ?_)
    obtain ⟨f_8, rfl⟩ : ∃ z, z = u_8 := ⟨_, rfl⟩
    have hq_8 := hp_8
    have G : wd X (va_A (@HAppend.hAppend va_W va_W va_W _ (xW h0 nw sp xa la lb) (@HAppend.hAppend va_W va_W va_W _ (rdV X (xa 4) hb n bd vd fd) ([((xa 5), .inl (X.2.1, 3, .inl fr))]))) sz) (va_A (@HAppend.hAppend va_W va_W va_W _ (xW h0 nw sp xa la lb) (@HAppend.hAppend va_W va_W va_W _ (rdV X (xa 4) hb n bd vd fd) ([((xa 5), .inl (X.2.1, 3, .inl fr))]))) sz) s (@HAppend.hAppend va_W va_W va_W _ (rdV X (xa 4) hb n bd vd fd) (@HAppend.hAppend va_W va_W va_W _ (xW h0 nw sp xa la lb) ([((xa 5), .inl (X.2.1, 3, .inl f_8))]))) H locs := G
    exact e_int S zr zlk (vp_nar_int _) G (n, fd, f_8) [2, 0, 1, 3] rfl rfl (Or.inr rfl) (⟨hI_n, Or.inl ⟨hw_1, hq_8, rfl⟩⟩) dX10_type_16
theorem in_X10_clear_X10 : ∀ w ∈ wsX100, w ∈ wsX10_clear := by decide +kernel
theorem lk_X10_clear_30 : Cond.fieldLink RX10 30 "EggSpoons" "reader" "LEggSpoons$Reader;" ∈ wsX10_clear := by decide +kernel
theorem in_X10_clear_X6 : ∀ w ∈ wsX60, w ∈ wsX10_clear := by decide +kernel
set_option maxHeartbeats 4000000 in
set_option maxRecDepth 100000 in
/-- clear -/
theorem s_clear (l : Launch) (X : EX) (h0 : Nat) (nw : Nat) (sp : Nat) (xa : Nat → Nat) (la : Int64) (lb : Int64) (hb : Nat) (n : Nat) (bd : Nat → Nat) (vd : Nat → Int32) (fd : Nat → Int32) (hI_n : n ≤ 150) (hI_bd : InP bd) (sz : Nat) : Met l yX10_clear wsX10_clear ({ frames := 0, cells := 0, slots := 0, locals := 0 } : Room) (pE X [.ref h0] (@HAppend.hAppend va_W va_W va_W _ (xW h0 nw sp xa la lb) (rdV X (xa 4) hb n bd vd fd)) sz) (qI (fun (r : Int32) (u : (Nat)) => u ≤ 150 ∧ (r = nI n ∧ u = 0)) X (fun (u : (Nat)) => @HAppend.hAppend va_W va_W va_W _ (xW h0 nw sp xa la lb) (rdV X (xa 4) hb u bd vd fd)) (@HAppend.hAppend va_W va_W va_W _ (xW h0 nw sp xa la lb) (rdV X (xa 4) hb n bd vd fd)) sz) 0 0 (va_A (@HAppend.hAppend va_W va_W va_W _ (xW h0 nw sp xa la lb) (rdV X (xa 4) hb n bd vd fd)) sz) := by
  refine mk_met (B := (va_A (@HAppend.hAppend va_W va_W va_W _ (xW h0 nw sp xa la lb) (rdV X (xa 4) hb n bd vd fd)) sz)) (A := (va_A (@HAppend.hAppend va_W va_W va_W _ (xW h0 nw sp xa la lb) (rdV X (xa 4) hb n bd vd fd)) sz)) (cc := cX10_clear) (maxL := 2) (ret := (some .int)) (by decide) rfl (Nat.le_of_ble_eq_true rfl) k_w k_a (fun p e s m below meth c S zr zlk znm zsz G ls hl => ?_)
  have S : CallFix p m c cX10_clear 2 s _ wsX10_clear RX10 := S
  have zx := S.1
  have zb := S.2.1
  have hl : lv_has ls 2 [(0, .ref h0)] := hl
  have hO_bd := hI_bd
  obtain ⟨hd0_bd, hd1_bd⟩ := hO_bd
  refine lv_aload_n zx zb dX10_clear_0 rfl (lv_at hl 0 rfl) ?_
  refine r_get (C := RX10) (T := TX10) (N := 14) (ci := 8) (v := .ref (xa 4)) S in_X10_clear_X10 G 0 rfl rfl 4 (by decide) lk_X10_clear_30 rfl dX10_clear_1 ?_
  refine r_getN (C := RX6) (T := TX6) (N := 7) (ci := 4) (host := "EggSpoons") (v := .int (nI n)) S in_X10_clear_X6 G 1 rfl rfl 1 (by decide) G.1.2.2.2.1 rfl dX10_clear_4 ?_
  refine lv_istore_n (lv' := [(1, .int (nI n)), (0, .ref h0)]) zx zb dX10_clear_7 rfl hl (by decide) rfl (fun ls hl => ?_)
  refine lv_aload_n zx zb dX10_clear_8 rfl (lv_at hl 1 rfl) ?_
  refine r_get (C := RX10) (T := TX10) (N := 14) (ci := 8) (v := .ref (xa 4)) S in_X10_clear_X10 G 0 rfl rfl 4 (by decide) lk_X10_clear_30 rfl dX10_clear_9 ?_
  refine lv_iconst (v := 0) zx zb dX10_clear_12 (by decide) ?_
  refine r_putN (host := "EggSpoons") (C := RX6) (T := TX6) (N := 7) (ci := 4) (v := .int 0) S in_X10_clear_X6 tyX6_ok nmX6 G 1 rfl rfl 1 (by decide) G.1.2.2.2.1 rfl (vp_nar_int _) rfl (Nat.le_of_ble_eq_true rfl) dX10_clear_13 (fun H locs G => ?_)
  obtain ⟨n_1, hI_n_1, hE_n_1, G⟩ : ∃ n_1 : Nat, n_1 ≤ 150 ∧ n_1 = 0 ∧ wd X (va_A (@HAppend.hAppend va_W va_W va_W _ (xW h0 nw sp xa la lb) (rdV X (xa 4) hb n bd vd fd)) sz) (va_A (@HAppend.hAppend va_W va_W va_W _ (xW h0 nw sp xa la lb) (rdV X (xa 4) hb n bd vd fd)) sz) s (@HAppend.hAppend va_W va_W va_W _ (xW h0 nw sp xa la lb) (rdV X (xa 4) hb n_1 bd vd fd)) H locs := ⟨0, by omega, rfl, G⟩
  refine lv_iload_n zx zb dX10_clear_16 rfl (lv_at hl 0 rfl) ?_
  exact e_int S zr zlk (vp_nar_int _) G (n_1) [0, 1, 2] rfl rfl (Or.inr rfl) (⟨hI_n_1, ⟨rfl, hE_n_1⟩⟩) dX10_clear_17
set_option maxHeartbeats 4000000 in
set_option maxRecDepth 100000 in
/-- count -/
theorem s_count2 (l : Launch) (X : EX) (h0 : Nat) (nw : Nat) (sp : Nat) (xa : Nat → Nat) (la : Int64) (lb : Int64) (an : Nat → Nat) (v : Nat → Int32) (b : Nat → Nat) (g : Nat → Nat → Int32) (hb : Nat) (n : Nat) (bd : Nat → Nat) (vd : Nat → Int32) (fd : Nat → Int32) (fr : Nat → Int32) (x1 : Int32) (hI_b : InR b) (hI_n : n ≤ 150) (hI_bd : InP bd) (sz : Nat) : Met l yX10_count wsX10_count ({ frames := 2, cells := 0, slots := 0, locals := 42 } : Room) (pE X [.ref h0, .int x1] (@HAppend.hAppend va_W va_W va_W _ (xW h0 nw sp xa la lb) (@HAppend.hAppend va_W va_W va_W _ (rcW X nw an v b g) (@HAppend.hAppend va_W va_W va_W _ (rdV X (xa 4) hb n bd vd fd) ([((xa 5), .inl (X.2.1, 3, .inl fr))])))) sz) (qI (fun (r : Int32) (u : (Nat → Int32)) => (True)) X (fun (u : (Nat → Int32)) => @HAppend.hAppend va_W va_W va_W _ (xW h0 nw sp xa la lb) (@HAppend.hAppend va_W va_W va_W _ (rcW X nw an v b g) (@HAppend.hAppend va_W va_W va_W _ (rdV X (xa 4) hb n bd vd fd) ([((xa 5), .inl (X.2.1, 3, .inl u))])))) (@HAppend.hAppend va_W va_W va_W _ (xW h0 nw sp xa la lb) (@HAppend.hAppend va_W va_W va_W _ (rcW X nw an v b g) (@HAppend.hAppend va_W va_W va_W _ (rdV X (xa 4) hb n bd vd fd) ([((xa 5), .inl (X.2.1, 3, .inl fr))])))) sz) 0 0 (va_A (@HAppend.hAppend va_W va_W va_W _ (xW h0 nw sp xa la lb) (@HAppend.hAppend va_W va_W va_W _ (rcW X nw an v b g) (@HAppend.hAppend va_W va_W va_W _ (rdV X (xa 4) hb n bd vd fd) ([((xa 5), .inl (X.2.1, 3, .inl fr))])))) sz) := by
  refine mk_met (B := (va_A (@HAppend.hAppend va_W va_W va_W _ (xW h0 nw sp xa la lb) (@HAppend.hAppend va_W va_W va_W _ (rcW X nw an v b g) (@HAppend.hAppend va_W va_W va_W _ (rdV X (xa 4) hb n bd vd fd) ([((xa 5), .inl (X.2.1, 3, .inl fr))])))) sz)) (A := (va_A (@HAppend.hAppend va_W va_W va_W _ (xW h0 nw sp xa la lb) (@HAppend.hAppend va_W va_W va_W _ (rcW X nw an v b g) (@HAppend.hAppend va_W va_W va_W _ (rdV X (xa 4) hb n bd vd fd) ([((xa 5), .inl (X.2.1, 3, .inl fr))])))) sz)) (cc := cX10_count) (maxL := 2) (ret := (some .int)) (by decide) rfl (Nat.le_of_ble_eq_true rfl) k_w k_a (fun p e s m below meth c S zr zlk znm zsz G ls hl => ?_)
  have S : CallFix p m c cX10_count 2 s _ wsX10_count RX10 := S
  have zx := S.1
  have zb := S.2.1
  have hl : lv_has ls 2 [(0, .ref h0), (1, .int x1)] := hl
  have hO_b := hI_b
  obtain ⟨hb0_b, hb1_b, hb2_b, hb3_b, hb4_b⟩ := hO_b
  have hO_bd := hI_bd
  obtain ⟨hd0_bd, hd1_bd⟩ := hO_bd
  refine lv_iload_n zx zb dX10_count_0 rfl (lv_at hl 1 rfl) ?_
  rcases k_ts0_10 x1 with w_1 | w_1 | w_1 | w_1 | w_1 | w_1 | w_1 | w_1 | w_1 | w_1 | w_1 | w_1
  · refine k_it w_1 ?_
    refine lv_tableIn (off := 59) (tgt := 60) zx zb dX10_count_1 (by decide) (by decide) rfl (by decide) ?_
    refine lv_aload_n zx zb dX10_count_60 rfl (lv_at hl 0 rfl) ?_
    refine r_get (C := RX10) (T := TX10) (N := 14) (ci := 8) (v := .ref nw) S in_X10_count_X10 G 0 rfl rfl 0 (by decide) lk_X10_count_10 rfl dX10_count_61 ?_
    refine r_get (C := RX5) (T := TX5) (N := 8) (ci := 3) (v := .int (nI (b 0))) S in_X10_count_X5 G 1 rfl rfl 2 (by decide) lk_X10_count_87 rfl dX10_count_64 ?_
    exact e_int S zr zlk (vp_nar_int _) G (fr) [0, 1, 2, 3, 4, 5, 6, 7, 8, 9, 10, 11, 12, 13, 14, 15, 16, 17, 18, 19] rfl rfl (Or.inr rfl) (trivial) dX10_count_67
  · refine k_it w_1 ?_
    refine lv_tableIn (off := 67) (tgt := 68) zx zb dX10_count_1 (by decide) (by decide) rfl (by decide) ?_
    refine lv_aload_n zx zb dX10_count_68 rfl (lv_at hl 0 rfl) ?_
    refine r_get (C := RX10) (T := TX10) (N := 14) (ci := 8) (v := .ref nw) S in_X10_count_X10 G 0 rfl rfl 0 (by decide) lk_X10_count_10 rfl dX10_count_69 ?_
    refine o_ri (cells' := 0) (slots' := 0) G rfl rfl (n_V (As := []) (rest := []) (C := RX5) (T := TX5) (N := 8) (ci := 3) S G (s_homes l X nw an v b g hI_b s.heap.size) gX10_count_X5_homes rfl rfl rfl hdV_X5_homes ⟨Nat.le_of_ble_eq_true rfl, Nat.le_of_ble_eq_true rfl⟩ [1, 2, 3, 4, 5, 6, 7, 8, 9, 10, 11, 12, 13, 14, 15, 16] rfl rfl 1 rfl rfl rfl hl.1 (Nat.le_of_ble_eq_true rfl) dX10_count_72 ⟨Nat.le_of_ble_eq_true rfl, Nat.le_of_ble_eq_true rfl⟩) (fun r_2 u_2 H locs hp_2 G => ?_)
    have G : wd X (va_A (@HAppend.hAppend va_W va_W va_W _ (xW h0 nw sp xa la lb) (@HAppend.hAppend va_W va_W va_W _ (rcW X nw an v b g) (@HAppend.hAppend va_W va_W va_W _ (rdV X (xa 4) hb n bd vd fd) ([((xa 5), .inl (X.2.1, 3, .inl fr))])))) sz) (va_A (@HAppend.hAppend va_W va_W va_W _ (xW h0 nw sp xa la lb) (@HAppend.hAppend va_W va_W va_W _ (rcW X nw an v b g) (@HAppend.hAppend va_W va_W va_W _ (rdV X (xa 4) hb n bd vd fd) ([((xa 5), .inl (X.2.1, 3, .inl fr))])))) sz) s (@HAppend.hAppend va_W va_W va_W _ (xW h0 nw sp xa la lb) (@HAppend.hAppend va_W va_W va_W _ (rcW X nw an v b g) (@HAppend.hAppend va_W va_W va_W _ (rdV X (xa 4) hb n bd vd fd) ([((xa 5), .inl (X.2.1, 3, .inl fr))])))) H locs := G
    exact e_int S zr zlk (vp_nar_int _) G (fr) [0, 1, 2, 3, 4, 5, 6, 7, 8, 9, 10, 11, 12, 13, 14, 15, 16, 17, 18, 19] rfl rfl (Or.inr rfl) (trivial) dX10_count_75
  · refine k_it w_1 ?_
    refine lv_tableIn (off := 75) (tgt := 76) zx zb dX10_count_1 (by decide) (by decide) rfl (by decide) ?_
    refine lv_aload_n zx zb dX10_count_76 rfl (lv_at hl 0 rfl) ?_
    refine r_get (C := RX10) (T := TX10) (N := 14) (ci := 8) (v := .ref nw) S in_X10_count_X10 G 0 rfl rfl 0 (by decide) lk_X10_count_10 rfl dX10_count_77 ?_
    refine r_get (C := RX5) (T := TX5) (N := 8) (ci := 3) (v := .int (v 0)) S in_X10_count_X5 G 1 rfl rfl 0 (by decide) lk_X10_count_140 rfl dX10_count_80 ?_
    exact e_int S zr zlk (vp_nar_int _) G (fr) [0, 1, 2, 3, 4, 5, 6, 7, 8, 9, 10, 11, 12, 13, 14, 15, 16, 17, 18, 19] rfl rfl (Or.inr rfl) (trivial) dX10_count_83
  · refine k_it w_1 ?_
    refine lv_tableIn (off := 83) (tgt := 84) zx zb dX10_count_1 (by decide) (by decide) rfl (by decide) ?_
    refine lv_aload_n zx zb dX10_count_84 rfl (lv_at hl 0 rfl) ?_
    refine r_get (C := RX10) (T := TX10) (N := 14) (ci := 8) (v := .ref nw) S in_X10_count_X10 G 0 rfl rfl 0 (by decide) lk_X10_count_10 rfl dX10_count_85 ?_
    refine r_get (C := RX5) (T := TX5) (N := 8) (ci := 3) (v := .int (v 1)) S in_X10_count_X5 G 1 rfl rfl 1 (by decide) lk_X10_count_110 rfl dX10_count_88 ?_
    exact e_int S zr zlk (vp_nar_int _) G (fr) [0, 1, 2, 3, 4, 5, 6, 7, 8, 9, 10, 11, 12, 13, 14, 15, 16, 17, 18, 19] rfl rfl (Or.inr rfl) (trivial) dX10_count_91
  · refine k_it w_1 ?_
    refine lv_tableIn (off := 91) (tgt := 92) zx zb dX10_count_1 (by decide) (by decide) rfl (by decide) ?_
    refine lv_aload_n zx zb dX10_count_92 rfl (lv_at hl 0 rfl) ?_
    refine r_get (C := RX10) (T := TX10) (N := 14) (ci := 8) (v := .ref nw) S in_X10_count_X10 G 0 rfl rfl 0 (by decide) lk_X10_count_10 rfl dX10_count_93 ?_
    refine o_ri (cells' := 0) (slots' := 0) G rfl rfl (n_V (As := []) (rest := []) (C := RX5) (T := TX5) (N := 8) (ci := 3) S G (s_places l X nw an v b g hI_b s.heap.size) gX10_count_X5_placesTogether rfl rfl rfl hdV_X5_placesTogether ⟨Nat.le_of_ble_eq_true rfl, Nat.le_of_ble_eq_true rfl⟩ [1, 2, 3, 4, 5, 6, 7, 8, 9, 10, 11, 12, 13, 14, 15, 16] rfl rfl 1 rfl rfl rfl hl.1 (Nat.le_of_ble_eq_true rfl) dX10_count_96 ⟨Nat.le_of_ble_eq_true rfl, Nat.le_of_ble_eq_true rfl⟩) (fun r_3 u_3 H locs hp_3 G => ?_)
    have G : wd X (va_A (@HAppend.hAppend va_W va_W va_W _ (xW h0 nw sp xa la lb) (@HAppend.hAppend va_W va_W va_W _ (rcW X nw an v b g) (@HAppend.hAppend va_W va_W va_W _ (rdV X (xa 4) hb n bd vd fd) ([((xa 5), .inl (X.2.1, 3, .inl fr))])))) sz) (va_A (@HAppend.hAppend va_W va_W va_W _ (xW h0 nw sp xa la lb) (@HAppend.hAppend va_W va_W va_W _ (rcW X nw an v b g) (@HAppend.hAppend va_W va_W va_W _ (rdV X (xa 4) hb n bd vd fd) ([((xa 5), .inl (X.2.1, 3, .inl fr))])))) sz) s (@HAppend.hAppend va_W va_W va_W _ (xW h0 nw sp xa la lb) (@HAppend.hAppend va_W va_W va_W _ (rcW X nw an v b g) (@HAppend.hAppend va_W va_W va_W _ (rdV X (xa 4) hb n bd vd fd) ([((xa 5), .inl (X.2.1, 3, .inl fr))])))) H locs := G
    exact e_int S zr zlk (vp_nar_int _) G (fr) [0, 1, 2, 3, 4, 5, 6, 7, 8, 9, 10, 11, 12, 13, 14, 15, 16, 17, 18, 19] rfl rfl (Or.inr rfl) (trivial) dX10_count_99
  · refine k_it w_1 ?_
    refine lv_tableIn (off := 99) (tgt := 100) zx zb dX10_count_1 (by decide) (by decide) rfl (by decide) ?_
    refine lv_aload_n zx zb dX10_count_100 rfl (lv_at hl 0 rfl) ?_
    refine r_get (C := RX10) (T := TX10) (N := 14) (ci := 8) (v := .ref nw) S in_X10_count_X10 G 0 rfl rfl 0 (by decide) lk_X10_count_10 rfl dX10_count_101 ?_
    refine o_ri (cells' := 0) (slots' := 0) G rfl rfl (n_V (As := []) (rest := []) (C := RX5) (T := TX5) (N := 8) (ci := 3) S G (s_drops l X nw an v b g hI_b s.heap.size) gX10_count_X5_dropsTogether rfl rfl rfl hdV_X5_dropsTogether ⟨Nat.le_of_ble_eq_true rfl, Nat.le_of_ble_eq_true rfl⟩ [1, 2, 3, 4, 5, 6, 7, 8, 9, 10, 11, 12, 13, 14, 15, 16] rfl rfl 1 rfl rfl rfl hl.1 (Nat.le_of_ble_eq_true rfl) dX10_count_104 ⟨Nat.le_of_ble_eq_true rfl, Nat.le_of_ble_eq_true rfl⟩) (fun r_4 u_4 H locs hp_4 G => ?_)
    have G : wd X (va_A (@HAppend.hAppend va_W va_W va_W _ (xW h0 nw sp xa la lb) (@HAppend.hAppend va_W va_W va_W _ (rcW X nw an v b g) (@HAppend.hAppend va_W va_W va_W _ (rdV X (xa 4) hb n bd vd fd) ([((xa 5), .inl (X.2.1, 3, .inl fr))])))) sz) (va_A (@HAppend.hAppend va_W va_W va_W _ (xW h0 nw sp xa la lb) (@HAppend.hAppend va_W va_W va_W _ (rcW X nw an v b g) (@HAppend.hAppend va_W va_W va_W _ (rdV X (xa 4) hb n bd vd fd) ([((xa 5), .inl (X.2.1, 3, .inl fr))])))) sz) s (@HAppend.hAppend va_W va_W va_W _ (xW h0 nw sp xa la lb) (@HAppend.hAppend va_W va_W va_W _ (rcW X nw an v b g) (@HAppend.hAppend va_W va_W va_W _ (rdV X (xa 4) hb n bd vd fd) ([((xa 5), .inl (X.2.1, 3, .inl fr))])))) H locs := G
    exact e_int S zr zlk (vp_nar_int _) G (fr) [0, 1, 2, 3, 4, 5, 6, 7, 8, 9, 10, 11, 12, 13, 14, 15, 16, 17, 18, 19] rfl rfl (Or.inr rfl) (trivial) dX10_count_107
  · refine k_it w_1 ?_
    refine lv_tableIn (off := 107) (tgt := 108) zx zb dX10_count_1 (by decide) (by decide) rfl (by decide) ?_
    refine lv_aload_n zx zb dX10_count_108 rfl (lv_at hl 0 rfl) ?_
    refine r_get (C := RX10) (T := TX10) (N := 14) (ci := 8) (v := .ref nw) S in_X10_count_X10 G 0 rfl rfl 0 (by decide) lk_X10_count_10 rfl dX10_count_109 ?_
    refine r_get (C := RX5) (T := TX5) (N := 8) (ci := 3) (v := .ref (an 9)) S in_X10_count_X5 G 1 rfl rfl 5 (by decide) lk_X10_count_185 rfl dX10_count_112 ?_
    refine r_get (C := RX7) (T := TX7) (N := 5) (ci := 5) (v := .int (nI (b 2))) S in_X10_count_X7 G 11 rfl rfl 4 (by decide) lk_X10_count_194 rfl dX10_count_115 ?_
    exact e_int S zr zlk (vp_nar_int _) G (fr) [0, 1, 2, 3, 4, 5, 6, 7, 8, 9, 10, 11, 12, 13, 14, 15, 16, 17, 18, 19] rfl rfl (Or.inr rfl) (trivial) dX10_count_118
  · refine k_it w_1 ?_
    refine lv_tableIn (off := 118) (tgt := 119) zx zb dX10_count_1 (by decide) (by decide) rfl (by decide) ?_
    refine lv_aload_n zx zb dX10_count_119 rfl (lv_at hl 0 rfl) ?_
    refine r_get (C := RX10) (T := TX10) (N := 14) (ci := 8) (v := .ref nw) S in_X10_count_X10 G 0 rfl rfl 0 (by decide) lk_X10_count_10 rfl dX10_count_120 ?_
    refine r_get (C := RX5) (T := TX5) (N := 8) (ci := 3) (v := .ref (an 11)) S in_X10_count_X5 G 1 rfl rfl 6 (by decide) lk_X10_count_212 rfl dX10_count_123 ?_
    refine r_get (C := RX7) (T := TX7) (N := 5) (ci := 5) (v := .int (nI (b 3))) S in_X10_count_X7 G 13 rfl rfl 4 (by decide) lk_X10_count_194 rfl dX10_count_126 ?_
    exact e_int S zr zlk (vp_nar_int _) G (fr) [0, 1, 2, 3, 4, 5, 6, 7, 8, 9, 10, 11, 12, 13, 14, 15, 16, 17, 18, 19] rfl rfl (Or.inr rfl) (trivial) dX10_count_129
  · refine k_it w_1 ?_
    refine lv_tableIn (off := 129) (tgt := 130) zx zb dX10_count_1 (by decide) (by decide) rfl (by decide) ?_
    refine lv_aload_n zx zb dX10_count_130 rfl (lv_at hl 0 rfl) ?_
    refine r_get (C := RX10) (T := TX10) (N := 14) (ci := 8) (v := .ref nw) S in_X10_count_X10 G 0 rfl rfl 0 (by decide) lk_X10_count_10 rfl dX10_count_131 ?_
    refine r_get (C := RX5) (T := TX5) (N := 8) (ci := 3) (v := .ref (an 13)) S in_X10_count_X5 G 1 rfl rfl 7 (by decide) lk_X10_count_215 rfl dX10_count_134 ?_
    refine r_get (C := RX7) (T := TX7) (N := 5) (ci := 5) (v := .int (nI (b 4))) S in_X10_count_X7 G 15 rfl rfl 4 (by decide) lk_X10_count_194 rfl dX10_count_137 ?_
    exact e_int S zr zlk (vp_nar_int _) G (fr) [0, 1, 2, 3, 4, 5, 6, 7, 8, 9, 10, 11, 12, 13, 14, 15, 16, 17, 18, 19] rfl rfl (Or.inr rfl) (trivial) dX10_count_140
  · refine k_it w_1 ?_
    refine lv_tableIn (off := 140) (tgt := 141) zx zb dX10_count_1 (by decide) (by decide) rfl (by decide) ?_
    refine lv_aload_n zx zb dX10_count_141 rfl (lv_at hl 0 rfl) ?_
    refine r_get (C := RX10) (T := TX10) (N := 14) (ci := 8) (v := .ref nw) S in_X10_count_X10 G 0 rfl rfl 0 (by decide) lk_X10_count_10 rfl dX10_count_142 ?_
    refine r_get (C := RX5) (T := TX5) (N := 8) (ci := 3) (v := .ref (an 7)) S in_X10_count_X5 G 1 rfl rfl 4 (by decide) lk_X10_count_282 rfl dX10_count_145 ?_
    refine r_get (C := RX4) (T := TX4) (N := 2) (ci := 2) (v := .int (nI (b 1))) S in_X10_count_X4 G 9 rfl rfl 1 (by decide) lk_X10_count_286 rfl dX10_count_148 ?_
    exact e_int S zr zlk (vp_nar_int _) G (fr) [0, 1, 2, 3, 4, 5, 6, 7, 8, 9, 10, 11, 12, 13, 14, 15, 16, 17, 18, 19] rfl rfl (Or.inr rfl) (trivial) dX10_count_151
  · refine k_it w_1 ?_
    refine lv_tableIn (off := 151) (tgt := 152) zx zb dX10_count_1 (by decide) (by decide) rfl (by decide) ?_
    refine lv_aload_n zx zb dX10_count_152 rfl (lv_at hl 0 rfl) ?_
    refine r_get (C := RX10) (T := TX10) (N := 14) (ci := 8) (v := .ref (xa 4)) S in_X10_count_X10 G 0 rfl rfl 4 (by decide) lk_X10_count_30 rfl dX10_count_153 ?_
    refine r_getN (C := RX6) (T := TX6) (N := 7) (ci := 4) (host := "EggSpoons") (v := .int (nI n)) S in_X10_count_X6 G 17 rfl rfl 1 (by decide) G.1.2.2.2.1 rfl dX10_count_156 ?_
    exact e_int S zr zlk (vp_nar_int _) G (fr) [0, 1, 2, 3, 4, 5, 6, 7, 8, 9, 10, 11, 12, 13, 14, 15, 16, 17, 18, 19] rfl rfl (Or.inr rfl) (trivial) dX10_count_159
  · refine lv_tableOut (tgt := 160) zx zb dX10_count_1 w_1 (by decide) ?_
    refine lv_aload_n zx zb dX10_count_160 rfl (lv_at hl 0 rfl) ?_
    refine lv_bipush (v := (-2)) zx zb dX10_count_161 (by decide) ?_
    refine b_wi (cells' := 0) (slots' := 0) (wr := @HAppend.hAppend va_W va_W va_W _ (rcW X nw an v b g) (rdV X (xa 4) hb n bd vd fd)) G rfl rfl [0, 19] [1, 2, 3, 4, 5, 6, 7, 8, 9, 10, 11, 12, 13, 14, 15, 16, 17, 18] rfl rfl rfl rfl (n_V (As := [.int (-2)]) (rest := []) (C := RX10) (T := TX10) (N := 14) (ci := 8) S G (s_refuse l X h0 nw sp xa la lb fr (-2) s.heap.size) gX10_count_X10_refuse rfl rfl rfl hdV_X10_refuse ⟨Nat.le_of_ble_eq_true rfl, Nat.le_of_ble_eq_true rfl⟩ [0, 19] rfl rfl 0 rfl rfl rfl hl.1 (Nat.le_of_ble_eq_true rfl) dX10_count_163 ⟨Nat.le_of_ble_eq_true rfl, Nat.le_of_ble_eq_true rfl⟩) (fun r_5 u_5 H locs hp_5 G => ?_)
    obtain ⟨f_5, rfl⟩ : ∃ z, z = u_5 := ⟨_, rfl⟩
    have hq_5 := hp_5
    have G : wd X (va_A (@HAppend.hAppend va_W va_W va_W _ (xW h0 nw sp xa la lb) (@HAppend.hAppend va_W va_W va_W _ (rcW X nw an v b g) (@HAppend.hAppend va_W va_W va_W _ (rdV X (xa 4) hb n bd vd fd) ([((xa 5), .inl (X.2.1, 3, .inl fr))])))) sz) (va_A (@HAppend.hAppend va_W va_W va_W _ (xW h0 nw sp xa la lb) (@HAppend.hAppend va_W va_W va_W _ (rcW X nw an v b g) (@HAppend.hAppend va_W va_W va_W _ (rdV X (xa 4) hb n bd vd fd) ([((xa 5), .inl (X.2.1, 3, .inl fr))])))) sz) s (@HAppend.hAppend va_W va_W va_W _ (rcW X nw an v b g) (@HAppend.hAppend va_W va_W va_W _ (rdV X (xa 4) hb n bd vd fd) (@HAppend.hAppend va_W va_W va_W _ (xW h0 nw sp xa la lb) ([((xa 5), .inl (X.2.1, 3, .inl f_5))])))) H locs := G
    exact e_int S zr zlk (vp_nar_int _) G (f_5) [18, 0, 1, 2, 3, 4, 5, 6, 7, 8, 9, 10, 11, 12, 13, 14, 15, 16, 17, 19] rfl rfl (Or.inr rfl) (trivial) dX10_count_166
set_option maxHeartbeats 4000000 in
set_option maxRecDepth 100000 in
/-- digest -/
theorem s_digest2 (l : Launch) (X : EX) (h0 : Nat) (nw : Nat) (sp : Nat) (xa : Nat → Nat) (la : Int64) (lb : Int64) (an : Nat → Nat) (v : Nat → Int32) (b : Nat → Nat) (g : Nat → Nat → Int32) (hb : Nat) (n : Nat) (bd : Nat → Nat) (vd : Nat → Int32) (fd : Nat → Int32) (fr : Nat → Int32) (hI_b : InR b) (hI_n : n ≤ 150) (hI_bd : InP bd) (sz : Nat) : Met l yX10_digest wsX10_digest ({ frames := 3, cells := 0, slots := 0, locals := 63 } : Room) (pE X [.ref h0] (@HAppend.hAppend va_W va_W va_W _ (xW h0 nw sp xa la lb) (@HAppend.hAppend va_W va_W va_W _ (rcW X nw an v b g) (@HAppend.hAppend va_W va_W va_W _ (rdV X (xa 4) hb n bd vd fd) ([((xa 5), .inl (X.2.1, 3, .inl fr))])))) sz) (qL (fun (r : Int64) (u : (Nat → Int32)) => (True)) X (fun (u : (Nat → Int32)) => @HAppend.hAppend va_W va_W va_W _ (xW h0 nw sp xa la lb) (@HAppend.hAppend va_W va_W va_W _ (rcW X nw an v b g) (@HAppend.hAppend va_W va_W va_W _ (rdV X (xa 4) hb n bd vd fd) ([((xa 5), .inl (X.2.1, 3, .inl u))])))) (@HAppend.hAppend va_W va_W va_W _ (xW h0 nw sp xa la lb) (@HAppend.hAppend va_W va_W va_W _ (rcW X nw an v b g) (@HAppend.hAppend va_W va_W va_W _ (rdV X (xa 4) hb n bd vd fd) ([((xa 5), .inl (X.2.1, 3, .inl fr))])))) sz) 0 0 (va_A (@HAppend.hAppend va_W va_W va_W _ (xW h0 nw sp xa la lb) (@HAppend.hAppend va_W va_W va_W _ (rcW X nw an v b g) (@HAppend.hAppend va_W va_W va_W _ (rdV X (xa 4) hb n bd vd fd) ([((xa 5), .inl (X.2.1, 3, .inl fr))])))) sz) := by
  refine mk_met (B := (va_A (@HAppend.hAppend va_W va_W va_W _ (xW h0 nw sp xa la lb) (@HAppend.hAppend va_W va_W va_W _ (rcW X nw an v b g) (@HAppend.hAppend va_W va_W va_W _ (rdV X (xa 4) hb n bd vd fd) ([((xa 5), .inl (X.2.1, 3, .inl fr))])))) sz)) (A := (va_A (@HAppend.hAppend va_W va_W va_W _ (xW h0 nw sp xa la lb) (@HAppend.hAppend va_W va_W va_W _ (rcW X nw an v b g) (@HAppend.hAppend va_W va_W va_W _ (rdV X (xa 4) hb n bd vd fd) ([((xa 5), .inl (X.2.1, 3, .inl fr))])))) sz)) (cc := cX10_digest) (maxL := 5) (ret := (some .long)) (by decide) rfl (Nat.le_of_ble_eq_true rfl) k_w k_a (fun p e s m below meth c S zr zlk znm zsz G ls hl => ?_)
  have S : CallFix p m c cX10_digest 5 s _ wsX10_digest RX10 := S
  have zx := S.1
  have zb := S.2.1
  have hl : lv_has ls 5 [(0, .ref h0)] := hl
  have hO_b := hI_b
  obtain ⟨hb0_b, hb1_b, hb2_b, hb3_b, hb4_b⟩ := hO_b
  have hO_bd := hI_bd
  obtain ⟨hd0_bd, hd1_bd⟩ := hO_bd
  refine lv_ldc2 zx zb S.2.2.2.1 (S.2.2.2.2 _ mm_X10_digest_c289) dX10_digest_0 ?_
  refine k_ld (v := (Int32.toInt64 1789)) (by decide) ?_
  refine lv_lstore_n (lv' := [(1, .long (Int32.toInt64 1789)), (0, .ref h0)]) zx zb dX10_digest_3 rfl hl (by decide) rfl (fun ls hl => ?_)
  refine lv_iconst (v := 0) zx zb dX10_digest_4 (by decide) ?_
  refine lv_istore_n (lv' := [(3, .int 0), (1, .long (Int32.toInt64 1789)), (0, .ref h0)]) zx zb dX10_digest_5 rfl hl (by decide) rfl (fun ls hl => ?_)
  refine k_loop (P := ∀ (zm : Nat) (k6 : Nat) (x6_1 : Int64) (f6_3 : Nat → Int32) (H : Heap) (locs : List Loc) (ls : Array Slot), 11 + 1 ≤ k6 + zm → (k6 ≤ 11) → wd X (va_A (@HAppend.hAppend va_W va_W va_W _ (xW h0 nw sp xa la lb) (@HAppend.hAppend va_W va_W va_W _ (rcW X nw an v b g) (@HAppend.hAppend va_W va_W va_W _ (rdV X (xa 4) hb n bd vd fd) ([((xa 5), .inl (X.2.1, 3, .inl fr))])))) sz) (va_A (@HAppend.hAppend va_W va_W va_W _ (xW h0 nw sp xa la lb) (@HAppend.hAppend va_W va_W va_W _ (rcW X nw an v b g) (@HAppend.hAppend va_W va_W va_W _ (rdV X (xa 4) hb n bd vd fd) ([((xa 5), .inl (X.2.1, 3, .inl fr))])))) sz) s (@HAppend.hAppend va_W va_W va_W _ (xW h0 nw sp xa la lb) (@HAppend.hAppend va_W va_W va_W _ (rcW X nw an v b g) (@HAppend.hAppend va_W va_W va_W _ (rdV X (xa 4) hb n bd vd fd) ([((xa 5), .inl (X.2.1, 3, .inl f6_3))])))) H locs → lv_has ls 5 [(3, .int (nI k6)), (1, .long x6_1), (0, .ref h0)] → W p l e _ s m _ below meth c H locs _ _ _ (F0 m 6 ls [])) (fun loop => loop (11 + 1) 0 (Int32.toInt64 1789) fr _ _ _ (by omega) (by omega) G hl) ?_
  intro zm
  induction zm with
  | zero => intro k6 x6_1 f6_3 H locs ls zz q_hk_k6 _ _; exact absurd zz (by omega)
  | succ zm ih6 =>
    intro k6 x6_1 f6_3 H locs ls zm_6 hk_k6 G hl
    refine lv_iload_n zx zb dX10_digest_6 rfl (lv_at hl 0 rfl) ?_
    refine lv_bipush (v := 10) zx zb dX10_digest_7 (by decide) ?_
    refine lv_icmp_gt (tgt := 31) zx zb dX10_digest_9 (by decide) (fun c_1 => ?_) (fun c_1 => ?_)
    · have fc_1 := j_lt (a := 10) (b := k6) (by omega) (by omega) c_1
      refine lv_iconst (v := 0) zx zb dX10_digest_31 (by decide) ?_
      refine lv_istore_n (lv' := [(3, .int 0), (1, .long x6_1), (0, .ref h0)]) zx zb dX10_digest_32 rfl hl (by decide) rfl (fun ls hl => ?_)
      refine k_loop (P := ∀ (zm : Nat) (k33 : Nat) (x33_1 : Int64) (H : Heap) (locs : List Loc) (ls : Array Slot), 6 + 1 ≤ k33 + zm → (k33 ≤ 6) → wd X (va_A (@HAppend.hAppend va_W va_W va_W _ (xW h0 nw sp xa la lb) (@HAppend.hAppend va_W va_W va_W _ (rcW X nw an v b g) (@HAppend.hAppend va_W va_W va_W _ (rdV X (xa 4) hb n bd vd fd) ([((xa 5), .inl (X.2.1, 3, .inl fr))])))) sz) (va_A (@HAppend.hAppend va_W va_W va_W _ (xW h0 nw sp xa la lb) (@HAppend.hAppend va_W va_W va_W _ (rcW X nw an v b g) (@HAppend.hAppend va_W va_W va_W _ (rdV X (xa 4) hb n bd vd fd) ([((xa 5), .inl (X.2.1, 3, .inl fr))])))) sz) s (@HAppend.hAppend va_W va_W va_W _ (xW h0 nw sp xa la lb) (@HAppend.hAppend va_W va_W va_W _ (rcW X nw an v b g) (@HAppend.hAppend va_W va_W va_W _ (rdV X (xa 4) hb n bd vd fd) ([((xa 5), .inl (X.2.1, 3, .inl f6_3))])))) H locs → lv_has ls 5 [(3, .int (nI k33)), (1, .long x33_1), (0, .ref h0)] → W p l e _ s m _ below meth c H locs _ _ _ (F0 m 33 ls [])) (fun loop => loop (6 + 1) 0 x6_1 _ _ _ (by omega) (by omega) G hl) ?_
      intro zm
      induction zm with
      | zero => intro k33 x33_1 H locs ls zz q_hk_k33 _ _; exact absurd zz (by omega)
      | succ zm ih33 =>
        intro k33 x33_1 H locs ls zm_33 hk_k33 G hl
        refine lv_iload_n zx zb dX10_digest_33 rfl (lv_at hl 0 rfl) ?_
        refine lv_aload_n zx zb dX10_digest_34 rfl (lv_at hl 2 rfl) ?_
        refine r_get (C := RX10) (T := TX10) (N := 14) (ci := 8) (v := .ref nw) S in_X10_digest_X10 G 0 rfl rfl 0 (by decide) lk_X10_digest_10 rfl dX10_digest_35 ?_
        refine r_get (C := RX5) (T := TX5) (N := 8) (ci := 3) (v := .int (nI (b 0))) S in_X10_digest_X5 G 1 rfl rfl 2 (by decide) lk_X10_digest_87 rfl dX10_digest_38 ?_
        refine lv_icmp_ge (tgt := 97) zx zb dX10_digest_41 (by decide) (fun c_2 => ?_) (fun c_2 => ?_)
        · have fc_2 := j_le (a := (b 0)) (b := k33) (by omega) (by omega) c_2
          refine lv_aload_n zx zb dX10_digest_97 rfl (lv_at hl 2 rfl) ?_
          refine r_get (C := RX10) (T := TX10) (N := 14) (ci := 8) (v := .ref nw) S in_X10_digest_X10 G 0 rfl rfl 0 (by decide) lk_X10_digest_10 rfl dX10_digest_98 ?_
          refine r_get (C := RX5) (T := TX5) (N := 8) (ci := 3) (v := .ref (an 9)) S in_X10_digest_X5 G 1 rfl rfl 5 (by decide) lk_X10_digest_185 rfl dX10_digest_101 ?_
          refine lv_lload_n zx zb dX10_digest_104 rfl (lv_at hl 1 rfl) ?_
          refine o_rl (cells' := 0) (slots' := 0) G rfl rfl (n_V (As := [.long x33_1]) (rest := []) (C := RX7) (T := TX7) (N := 5) (ci := 5) S G (s_mixInto0 l X (an 9) (an 10) (b 2) (g 1) x33_1 hb2_b H.size) gX10_digest_X7_mixInto rfl rfl rfl hdV_X7_mixInto ⟨Nat.le_of_ble_eq_true rfl, Nat.le_of_ble_eq_true rfl⟩ [11, 12] rfl rfl 11 rfl rfl rfl hl.1 (Nat.le_of_ble_eq_true rfl) dX10_digest_105 ⟨Nat.le_of_ble_eq_true rfl, Nat.le_of_ble_eq_true rfl⟩) (fun r_3 u_3 H locs hp_3 G => ?_)
          have G : wd X (va_A (@HAppend.hAppend va_W va_W va_W _ (xW h0 nw sp xa la lb) (@HAppend.hAppend va_W va_W va_W _ (rcW X nw an v b g) (@HAppend.hAppend va_W va_W va_W _ (rdV X (xa 4) hb n bd vd fd) ([((xa 5), .inl (X.2.1, 3, .inl fr))])))) sz) (va_A (@HAppend.hAppend va_W va_W va_W _ (xW h0 nw sp xa la lb) (@HAppend.hAppend va_W va_W va_W _ (rcW X nw an v b g) (@HAppend.hAppend va_W va_W va_W _ (rdV X (xa 4) hb n bd vd fd) ([((xa 5), .inl (X.2.1, 3, .inl fr))])))) sz) s (@HAppend.hAppend va_W va_W va_W _ (xW h0 nw sp xa la lb) (@HAppend.hAppend va_W va_W va_W _ (rcW X nw an v b g) (@HAppend.hAppend va_W va_W va_W _ (rdV X (xa 4) hb n bd vd fd) ([((xa 5), .inl (X.2.1, 3, .inl f6_3))])))) H locs := G
          refine lv_lstore_n (lv' := [(1, .long r_3), (3, .int (nI k33)), (0, .ref h0)]) zx zb dX10_digest_108 rfl hl (by decide) rfl (fun ls hl => ?_)
          refine lv_aload_n zx zb dX10_digest_109 rfl (lv_at hl 2 rfl) ?_
          refine r_get (C := RX10) (T := TX10) (N := 14) (ci := 8) (v := .ref nw) S in_X10_digest_X10 G 0 rfl rfl 0 (by decide) lk_X10_digest_10 rfl dX10_digest_110 ?_
          refine r_get (C := RX5) (T := TX5) (N := 8) (ci := 3) (v := .ref (an 11)) S in_X10_digest_X5 G 1 rfl rfl 6 (by decide) lk_X10_digest_212 rfl dX10_digest_113 ?_
          refine lv_lload_n zx zb dX10_digest_116 rfl (lv_at hl 0 rfl) ?_
          refine o_rl (cells' := 0) (slots' := 0) G rfl rfl (n_V (As := [.long r_3]) (rest := []) (C := RX7) (T := TX7) (N := 5) (ci := 5) S G (s_mixInto1 l X (an 11) (an 12) (b 3) (g 2) r_3 hb3_b H.size) gX10_digest_X7_mixInto rfl rfl rfl hdV_X7_mixInto ⟨Nat.le_of_ble_eq_true rfl, Nat.le_of_ble_eq_true rfl⟩ [13, 14] rfl rfl 13 rfl rfl rfl hl.1 (Nat.le_of_ble_eq_true rfl) dX10_digest_117 ⟨Nat.le_of_ble_eq_true rfl, Nat.le_of_ble_eq_true rfl⟩) (fun r_4 u_4 H locs hp_4 G => ?_)
          have G : wd X (va_A (@HAppend.hAppend va_W va_W va_W _ (xW h0 nw sp xa la lb) (@HAppend.hAppend va_W va_W va_W _ (rcW X nw an v b g) (@HAppend.hAppend va_W va_W va_W _ (rdV X (xa 4) hb n bd vd fd) ([((xa 5), .inl (X.2.1, 3, .inl fr))])))) sz) (va_A (@HAppend.hAppend va_W va_W va_W _ (xW h0 nw sp xa la lb) (@HAppend.hAppend va_W va_W va_W _ (rcW X nw an v b g) (@HAppend.hAppend va_W va_W va_W _ (rdV X (xa 4) hb n bd vd fd) ([((xa 5), .inl (X.2.1, 3, .inl fr))])))) sz) s (@HAppend.hAppend va_W va_W va_W _ (xW h0 nw sp xa la lb) (@HAppend.hAppend va_W va_W va_W _ (rcW X nw an v b g) (@HAppend.hAppend va_W va_W va_W _ (rdV X (xa 4) hb n bd vd fd) ([((xa 5), .inl (X.2.1, 3, .inl f6_3))])))) H locs := G
          refine lv_lstore_n (lv' := [(1, .long r_4), (3, .int (nI k33)), (0, .ref h0)]) zx zb dX10_digest_120 rfl hl (by decide) rfl (fun ls hl => ?_)
          refine lv_aload_n zx zb dX10_digest_121 rfl (lv_at hl 2 rfl) ?_
          refine r_get (C := RX10) (T := TX10) (N := 14) (ci := 8) (v := .ref nw) S in_X10_digest_X10 G 0 rfl rfl 0 (by decide) lk_X10_digest_10 rfl dX10_digest_122 ?_
          refine r_get (C := RX5) (T := TX5) (N := 8) (ci := 3) (v := .ref (an 13)) S in_X10_digest_X5 G 1 rfl rfl 7 (by decide) lk_X10_digest_215 rfl dX10_digest_125 ?_
          refine lv_lload_n zx zb dX10_digest_128 rfl (lv_at hl 0 rfl) ?_
          refine o_rl (cells' := 0) (slots' := 0) G rfl rfl (n_V (As := [.long r_4]) (rest := []) (C := RX7) (T := TX7) (N := 5) (ci := 5) S G (s_mixInto2 l X (an 13) (an 14) (b 4) (g 3) r_4 hb4_b H.size) gX10_digest_X7_mixInto rfl rfl rfl hdV_X7_mixInto ⟨Nat.le_of_ble_eq_true rfl, Nat.le_of_ble_eq_true rfl⟩ [15, 16] rfl rfl 15 rfl rfl rfl hl.1 (Nat.le_of_ble_eq_true rfl) dX10_digest_129 ⟨Nat.le_of_ble_eq_true rfl, Nat.le_of_ble_eq_true rfl⟩) (fun r_5 u_5 H locs hp_5 G => ?_)
          have G : wd X (va_A (@HAppend.hAppend va_W va_W va_W _ (xW h0 nw sp xa la lb) (@HAppend.hAppend va_W va_W va_W _ (rcW X nw an v b g) (@HAppend.hAppend va_W va_W va_W _ (rdV X (xa 4) hb n bd vd fd) ([((xa 5), .inl (X.2.1, 3, .inl fr))])))) sz) (va_A (@HAppend.hAppend va_W va_W va_W _ (xW h0 nw sp xa la lb) (@HAppend.hAppend va_W va_W va_W _ (rcW X nw an v b g) (@HAppend.hAppend va_W va_W va_W _ (rdV X (xa 4) hb n bd vd fd) ([((xa 5), .inl (X.2.1, 3, .inl fr))])))) sz) s (@HAppend.hAppend va_W va_W va_W _ (xW h0 nw sp xa la lb) (@HAppend.hAppend va_W va_W va_W _ (rcW X nw an v b g) (@HAppend.hAppend va_W va_W va_W _ (rdV X (xa 4) hb n bd vd fd) ([((xa 5), .inl (X.2.1, 3, .inl f6_3))])))) H locs := G
          refine lv_lstore_n (lv' := [(1, .long r_5), (3, .int (nI k33)), (0, .ref h0)]) zx zb dX10_digest_132 rfl hl (by decide) rfl (fun ls hl => ?_)
          refine lv_ldc2 zx zb S.2.2.2.1 (S.2.2.2.2 _ mm_X10_digest_c291) dX10_digest_133 ?_
          refine k_ld (v := (Int32.toInt64 31)) (by decide) ?_
          refine lv_lload_n zx zb dX10_digest_136 rfl (lv_at hl 0 rfl) ?_
          refine r_lmul (v := ((Int32.toInt64 31) * r_5)) S rfl dX10_digest_137 ?_
          refine lv_aload_n zx zb dX10_digest_138 rfl (lv_at hl 2 rfl) ?_
          refine r_get (C := RX10) (T := TX10) (N := 14) (ci := 8) (v := .long la) S in_X10_digest_X10 G 0 rfl rfl 6 (by decide) lk_X10_digest_38 rfl dX10_digest_139 ?_
          refine r_ladd (v := (((Int32.toInt64 31) * r_5) + la)) S rfl dX10_digest_142 ?_
          refine lv_lstore_n (lv' := [(1, .long (((Int32.toInt64 31) * r_5) + la)), (3, .int (nI k33)), (0, .ref h0)]) zx zb dX10_digest_143 rfl hl (by decide) rfl (fun ls hl => ?_)
          refine lv_ldc2 zx zb S.2.2.2.1 (S.2.2.2.2 _ mm_X10_digest_c291) dX10_digest_144 ?_
          refine k_ld (v := (Int32.toInt64 31)) (by decide) ?_
          refine lv_lload_n zx zb dX10_digest_147 rfl (lv_at hl 0 rfl) ?_
          refine r_lmul (v := ((Int32.toInt64 31) * (((Int32.toInt64 31) * r_5) + la))) S rfl dX10_digest_148 ?_
          refine lv_aload_n zx zb dX10_digest_149 rfl (lv_at hl 2 rfl) ?_
          refine r_get (C := RX10) (T := TX10) (N := 14) (ci := 8) (v := .long lb) S in_X10_digest_X10 G 0 rfl rfl 7 (by decide) lk_X10_digest_42 rfl dX10_digest_150 ?_
          refine r_ladd (v := (((Int32.toInt64 31) * (((Int32.toInt64 31) * r_5) + la)) + lb)) S rfl dX10_digest_153 ?_
          exact e_long S zr zlk G (f6_3) [0, 1, 2, 3, 4, 5, 6, 7, 8, 9, 10, 11, 12, 13, 14, 15, 16, 17, 18, 19] rfl rfl (Or.inr rfl) (trivial) dX10_digest_154
        · have fc_2 := j_nle (a := (b 0)) (b := k33) (by omega) (by omega) c_2
          refine lv_iconst (v := 0) zx zb dX10_digest_44 (by decide) ?_
          refine lv_istore (lv' := [(4, .int 0), (3, .int (nI k33)), (1, .long x33_1), (0, .ref h0)]) zx zb dX10_digest_45 hl (by decide) rfl (fun ls hl => ?_)
          refine k_loop (P := ∀ (zm : Nat) (k47 : Nat) (x47_1 : Int64) (H : Heap) (locs : List Loc) (ls : Array Slot), 8 + 1 ≤ k47 + zm → (k47 ≤ 8) → wd X (va_A (@HAppend.hAppend va_W va_W va_W _ (xW h0 nw sp xa la lb) (@HAppend.hAppend va_W va_W va_W _ (rcW X nw an v b g) (@HAppend.hAppend va_W va_W va_W _ (rdV X (xa 4) hb n bd vd fd) ([((xa 5), .inl (X.2.1, 3, .inl fr))])))) sz) (va_A (@HAppend.hAppend va_W va_W va_W _ (xW h0 nw sp xa la lb) (@HAppend.hAppend va_W va_W va_W _ (rcW X nw an v b g) (@HAppend.hAppend va_W va_W va_W _ (rdV X (xa 4) hb n bd vd fd) ([((xa 5), .inl (X.2.1, 3, .inl fr))])))) sz) s (@HAppend.hAppend va_W va_W va_W _ (xW h0 nw sp xa la lb) (@HAppend.hAppend va_W va_W va_W _ (rcW X nw an v b g) (@HAppend.hAppend va_W va_W va_W _ (rdV X (xa 4) hb n bd vd fd) ([((xa 5), .inl (X.2.1, 3, .inl f6_3))])))) H locs → lv_has ls 5 [(4, .int (nI k47)), (3, .int (nI k33)), (1, .long x47_1), (0, .ref h0)] → W p l e _ s m _ below meth c H locs _ _ _ (F0 m 47 ls [])) (fun loop => loop (8 + 1) 0 x33_1 _ _ _ (by omega) (by omega) G hl) ?_
          intro zm
          induction zm with
          | zero => intro k47 x47_1 H locs ls zz q_hk_k47 _ _; exact absurd zz (by omega)
          | succ zm ih47 =>
            intro k47 x47_1 H locs ls zm_47 hk_k47 G hl
            refine lv_iload zx zb dX10_digest_47 (lv_at hl 0 rfl) ?_
            refine lv_bipush (v := 7) zx zb dX10_digest_49 (by decide) ?_
            refine lv_icmp_gt (tgt := 91) zx zb dX10_digest_51 (by decide) (fun c_6 => ?_) (fun c_6 => ?_)
            · have fc_6 := j_lt (a := 7) (b := k47) (by omega) (by omega) c_6
              refine lv_iinc (v := (nI (k33 + 1))) (lv' := [(3, .int (nI (k33 + 1))), (4, .int (nI k47)), (1, .long x47_1), (0, .ref h0)]) zx zb dX10_digest_91 hl (k := 1) rfl (nI_add k33 1) (by decide) rfl (fun ls hl => ?_)
              refine lv_goto (tgt := 33) zx zb dX10_digest_94 (by decide) ?_
              have hl := lv_sub hl (l' := [(3, .int (nI (k33 + 1))), (1, .long x47_1), (0, .ref h0)]) [0, 2, 3] rfl
              exact ih33 (k33 + 1) x47_1 _ _ _ (by omega) (by omega) G hl
            · have fc_6 := j_nlt (a := 7) (b := k47) (by omega) (by omega) c_6
              refine lv_ldc2 zx zb S.2.2.2.1 (S.2.2.2.2 _ mm_X10_digest_c291) dX10_digest_54 ?_
              refine k_ld (v := (Int32.toInt64 31)) (by decide) ?_
              refine lv_lload_n zx zb dX10_digest_57 rfl (lv_at hl 2 rfl) ?_
              refine r_lmul (v := ((Int32.toInt64 31) * x47_1)) S rfl dX10_digest_58 ?_
              refine lv_aload_n zx zb dX10_digest_59 rfl (lv_at hl 3 rfl) ?_
              refine r_get (C := RX10) (T := TX10) (N := 14) (ci := 8) (v := .ref nw) S in_X10_digest_X10 G 0 rfl rfl 0 (by decide) lk_X10_digest_10 rfl dX10_digest_60 ?_
              refine r_get (C := RX5) (T := TX5) (N := 8) (ci := 3) (v := .ref (an 0)) S in_X10_digest_X5 G 1 rfl rfl 3 (by decide) lk_X10_digest_126 rfl dX10_digest_63 ?_
              refine lv_iload_n zx zb dX10_digest_66 rfl (lv_at hl 1 rfl) ?_
              rcases k_6c (show k33 < 6 by omega) with rfl | rfl | rfl | rfl | rfl | rfl
              · refine k_it (v := 0) rfl ?_
                refine r_aald (C := RX8) (b := (an 1)) S G 2 3 rfl rfl (k_vp (by decide)) rfl dX10_digest_67 ?_
                refine lv_iload zx zb dX10_digest_68 (lv_at hl 0 rfl) ?_
                refine lv_aload_n zx zb dX10_digest_70 rfl (lv_at hl 3 rfl) ?_
                refine r_get (C := RX10) (T := TX10) (N := 14) (ci := 8) (v := .ref nw) S in_X10_digest_X10 G 0 rfl rfl 0 (by decide) lk_X10_digest_10 rfl dX10_digest_71 ?_
                refine r_get (C := RX5) (T := TX5) (N := 8) (ci := 3) (v := .int (v 1)) S in_X10_digest_X5 G 1 rfl rfl 1 (by decide) lk_X10_digest_110 rfl dX10_digest_74 ?_
                refine lv_iconst (v := 1) zx zb dX10_digest_77 (by decide) ?_
                refine r_iadd (v := ((v 1) + 1)) S rfl dX10_digest_78 ?_
                refine o_ri (cells' := 0) (slots' := 0) G rfl rfl (n_V (As := [.int (nI k47), .int ((v 1) + 1)]) (rest := [.long ((Int32.toInt64 31) * x47_1)]) (C := RX8) (T := TX8) (N := 8) (ci := 6) S G (s_fact l X (an 1) (fun k => v (10 + k)) (nI k47) ((v 1) + 1) H.size) gX10_digest_X8_fact rfl rfl rfl hdV_X8_fact ⟨Nat.le_of_ble_eq_true rfl, Nat.le_of_ble_eq_true rfl⟩ [3] rfl rfl 3 rfl rfl rfl hl.1 (Nat.le_of_ble_eq_true rfl) dX10_digest_79 ⟨Nat.le_of_ble_eq_true rfl, Nat.le_of_ble_eq_true rfl⟩) (fun r_7 u_7 H locs hp_7 G => ?_)
                have G : wd X (va_A (@HAppend.hAppend va_W va_W va_W _ (xW h0 nw sp xa la lb) (@HAppend.hAppend va_W va_W va_W _ (rcW X nw an v b g) (@HAppend.hAppend va_W va_W va_W _ (rdV X (xa 4) hb n bd vd fd) ([((xa 5), .inl (X.2.1, 3, .inl fr))])))) sz) (va_A (@HAppend.hAppend va_W va_W va_W _ (xW h0 nw sp xa la lb) (@HAppend.hAppend va_W va_W va_W _ (rcW X nw an v b g) (@HAppend.hAppend va_W va_W va_W _ (rdV X (xa 4) hb n bd vd fd) ([((xa 5), .inl (X.2.1, 3, .inl fr))])))) sz) s (@HAppend.hAppend va_W va_W va_W _ (xW h0 nw sp xa la lb) (@HAppend.hAppend va_W va_W va_W _ (rcW X nw an v b g) (@HAppend.hAppend va_W va_W va_W _ (rdV X (xa 4) hb n bd vd fd) ([((xa 5), .inl (X.2.1, 3, .inl f6_3))])))) H locs := G
                refine lv_i2l (v := (Int32.toInt64 r_7)) zx zb dX10_digest_82 rfl ?_
                refine r_ladd (v := (((Int32.toInt64 31) * x47_1) + (Int32.toInt64 r_7))) S rfl dX10_digest_83 ?_
                refine lv_lstore_n (lv' := [(1, .long (((Int32.toInt64 31) * x47_1) + (Int32.toInt64 r_7))), (4, .int (nI k47)), (3, .int 0), (0, .ref h0)]) zx zb dX10_digest_84 rfl hl (by decide) rfl (fun ls hl => ?_)
                refine lv_iinc (v := (nI (k47 + 1))) (lv' := [(4, .int (nI (k47 + 1))), (1, .long (((Int32.toInt64 31) * x47_1) + (Int32.toInt64 r_7))), (3, .int 0), (0, .ref h0)]) zx zb dX10_digest_85 hl (k := 1) rfl (nI_add k47 1) (by decide) rfl (fun ls hl => ?_)
                refine lv_goto (tgt := 47) zx zb dX10_digest_88 (by decide) ?_
                have hl := lv_sub hl (l' := [(4, .int (nI (k47 + 1))), (3, .int 0), (1, .long (((Int32.toInt64 31) * x47_1) + (Int32.toInt64 r_7))), (0, .ref h0)]) [0, 2, 1, 3] rfl
                exact ih47 (k47 + 1) (((Int32.toInt64 31) * x47_1) + (Int32.toInt64 r_7)) _ _ _ (by omega) (by omega) G hl
              · refine k_it (v := 1) rfl ?_
                refine r_aald (C := RX8) (b := (an 2)) S G 2 3 rfl rfl (k_vp (by decide)) rfl dX10_digest_67 ?_
                refine lv_iload zx zb dX10_digest_68 (lv_at hl 0 rfl) ?_
                refine lv_aload_n zx zb dX10_digest_70 rfl (lv_at hl 3 rfl) ?_
                refine r_get (C := RX10) (T := TX10) (N := 14) (ci := 8) (v := .ref nw) S in_X10_digest_X10 G 0 rfl rfl 0 (by decide) lk_X10_digest_10 rfl dX10_digest_71 ?_
                refine r_get (C := RX5) (T := TX5) (N := 8) (ci := 3) (v := .int (v 1)) S in_X10_digest_X5 G 1 rfl rfl 1 (by decide) lk_X10_digest_110 rfl dX10_digest_74 ?_
                refine lv_iconst (v := 1) zx zb dX10_digest_77 (by decide) ?_
                refine r_iadd (v := ((v 1) + 1)) S rfl dX10_digest_78 ?_
                refine o_ri (cells' := 0) (slots' := 0) G rfl rfl (n_V (As := [.int (nI k47), .int ((v 1) + 1)]) (rest := [.long ((Int32.toInt64 31) * x47_1)]) (C := RX8) (T := TX8) (N := 8) (ci := 6) S G (s_fact l X (an 2) (fun k => v (18 + k)) (nI k47) ((v 1) + 1) H.size) gX10_digest_X8_fact rfl rfl rfl hdV_X8_fact ⟨Nat.le_of_ble_eq_true rfl, Nat.le_of_ble_eq_true rfl⟩ [4] rfl rfl 4 rfl rfl rfl hl.1 (Nat.le_of_ble_eq_true rfl) dX10_digest_79 ⟨Nat.le_of_ble_eq_true rfl, Nat.le_of_ble_eq_true rfl⟩) (fun r_8 u_8 H locs hp_8 G => ?_)
                have G : wd X (va_A (@HAppend.hAppend va_W va_W va_W _ (xW h0 nw sp xa la lb) (@HAppend.hAppend va_W va_W va_W _ (rcW X nw an v b g) (@HAppend.hAppend va_W va_W va_W _ (rdV X (xa 4) hb n bd vd fd) ([((xa 5), .inl (X.2.1, 3, .inl fr))])))) sz) (va_A (@HAppend.hAppend va_W va_W va_W _ (xW h0 nw sp xa la lb) (@HAppend.hAppend va_W va_W va_W _ (rcW X nw an v b g) (@HAppend.hAppend va_W va_W va_W _ (rdV X (xa 4) hb n bd vd fd) ([((xa 5), .inl (X.2.1, 3, .inl fr))])))) sz) s (@HAppend.hAppend va_W va_W va_W _ (xW h0 nw sp xa la lb) (@HAppend.hAppend va_W va_W va_W _ (rcW X nw an v b g) (@HAppend.hAppend va_W va_W va_W _ (rdV X (xa 4) hb n bd vd fd) ([((xa 5), .inl (X.2.1, 3, .inl f6_3))])))) H locs := G
                refine lv_i2l (v := (Int32.toInt64 r_8)) zx zb dX10_digest_82 rfl ?_
                refine r_ladd (v := (((Int32.toInt64 31) * x47_1) + (Int32.toInt64 r_8))) S rfl dX10_digest_83 ?_
                refine lv_lstore_n (lv' := [(1, .long (((Int32.toInt64 31) * x47_1) + (Int32.toInt64 r_8))), (4, .int (nI k47)), (3, .int 1), (0, .ref h0)]) zx zb dX10_digest_84 rfl hl (by decide) rfl (fun ls hl => ?_)
                refine lv_iinc (v := (nI (k47 + 1))) (lv' := [(4, .int (nI (k47 + 1))), (1, .long (((Int32.toInt64 31) * x47_1) + (Int32.toInt64 r_8))), (3, .int 1), (0, .ref h0)]) zx zb dX10_digest_85 hl (k := 1) rfl (nI_add k47 1) (by decide) rfl (fun ls hl => ?_)
                refine lv_goto (tgt := 47) zx zb dX10_digest_88 (by decide) ?_
                have hl := lv_sub hl (l' := [(4, .int (nI (k47 + 1))), (3, .int 1), (1, .long (((Int32.toInt64 31) * x47_1) + (Int32.toInt64 r_8))), (0, .ref h0)]) [0, 2, 1, 3] rfl
                exact ih47 (k47 + 1) (((Int32.toInt64 31) * x47_1) + (Int32.toInt64 r_8)) _ _ _ (by omega) (by omega) G hl
              · refine k_it (v := 2) rfl ?_
                refine r_aald (C := RX8) (b := (an 3)) S G 2 3 rfl rfl (k_vp (by decide)) rfl dX10_digest_67 ?_
                refine lv_iload zx zb dX10_digest_68 (lv_at hl 0 rfl) ?_
                refine lv_aload_n zx zb dX10_digest_70 rfl (lv_at hl 3 rfl) ?_
                refine r_get (C := RX10) (T := TX10) (N := 14) (ci := 8) (v := .ref nw) S in_X10_digest_X10 G 0 rfl rfl 0 (by decide) lk_X10_digest_10 rfl dX10_digest_71 ?_
                refine r_get (C := RX5) (T := TX5) (N := 8) (ci := 3) (v := .int (v 1)) S in_X10_digest_X5 G 1 rfl rfl 1 (by decide) lk_X10_digest_110 rfl dX10_digest_74 ?_
                refine lv_iconst (v := 1) zx zb dX10_digest_77 (by decide) ?_
                refine r_iadd (v := ((v 1) + 1)) S rfl dX10_digest_78 ?_
                refine o_ri (cells' := 0) (slots' := 0) G rfl rfl (n_V (As := [.int (nI k47), .int ((v 1) + 1)]) (rest := [.long ((Int32.toInt64 31) * x47_1)]) (C := RX8) (T := TX8) (N := 8) (ci := 6) S G (s_fact l X (an 3) (fun k => v (26 + k)) (nI k47) ((v 1) + 1) H.size) gX10_digest_X8_fact rfl rfl rfl hdV_X8_fact ⟨Nat.le_of_ble_eq_true rfl, Nat.le_of_ble_eq_true rfl⟩ [5] rfl rfl 5 rfl rfl rfl hl.1 (Nat.le_of_ble_eq_true rfl) dX10_digest_79 ⟨Nat.le_of_ble_eq_true rfl, Nat.le_of_ble_eq_true rfl⟩) (fun r_9 u_9 H locs hp_9 G => ?_)
                have G : wd X (va_A (@HAppend.hAppend va_W va_W va_W _ (xW h0 nw sp xa la lb) (@HAppend.hAppend va_W va_W va_W _ (rcW X nw an v b g) (@HAppend.hAppend va_W va_W va_W _ (rdV X (xa 4) hb n bd vd fd) ([((xa 5), .inl (X.2.1, 3, .inl fr))])))) sz) (va_A (@HAppend.hAppend va_W va_W va_W _ (xW h0 nw sp xa la lb) (@HAppend.hAppend va_W va_W va_W _ (rcW X nw an v b g) (@HAppend.hAppend va_W va_W va_W _ (rdV X (xa 4) hb n bd vd fd) ([((xa 5), .inl (X.2.1, 3, .inl fr))])))) sz) s (@HAppend.hAppend va_W va_W va_W _ (xW h0 nw sp xa la lb) (@HAppend.hAppend va_W va_W va_W _ (rcW X nw an v b g) (@HAppend.hAppend va_W va_W va_W _ (rdV X (xa 4) hb n bd vd fd) ([((xa 5), .inl (X.2.1, 3, .inl f6_3))])))) H locs := G
                refine lv_i2l (v := (Int32.toInt64 r_9)) zx zb dX10_digest_82 rfl ?_
                refine r_ladd (v := (((Int32.toInt64 31) * x47_1) + (Int32.toInt64 r_9))) S rfl dX10_digest_83 ?_
                refine lv_lstore_n (lv' := [(1, .long (((Int32.toInt64 31) * x47_1) + (Int32.toInt64 r_9))), (4, .int (nI k47)), (3, .int 2), (0, .ref h0)]) zx zb dX10_digest_84 rfl hl (by decide) rfl (fun ls hl => ?_)
                refine lv_iinc (v := (nI (k47 + 1))) (lv' := [(4, .int (nI (k47 + 1))), (1, .long (((Int32.toInt64 31) * x47_1) + (Int32.toInt64 r_9))), (3, .int 2), (0, .ref h0)]) zx zb dX10_digest_85 hl (k := 1) rfl (nI_add k47 1) (by decide) rfl (fun ls hl => ?_)
                refine lv_goto (tgt := 47) zx zb dX10_digest_88 (by decide) ?_
                have hl := lv_sub hl (l' := [(4, .int (nI (k47 + 1))), (3, .int 2), (1, .long (((Int32.toInt64 31) * x47_1) + (Int32.toInt64 r_9))), (0, .ref h0)]) [0, 2, 1, 3] rfl
                exact ih47 (k47 + 1) (((Int32.toInt64 31) * x47_1) + (Int32.toInt64 r_9)) _ _ _ (by omega) (by omega) G hl
              · refine k_it (v := 3) rfl ?_
                refine r_aald (C := RX8) (b := (an 4)) S G 2 3 rfl rfl (k_vp (by decide)) rfl dX10_digest_67 ?_
                refine lv_iload zx zb dX10_digest_68 (lv_at hl 0 rfl) ?_
                refine lv_aload_n zx zb dX10_digest_70 rfl (lv_at hl 3 rfl) ?_
                refine r_get (C := RX10) (T := TX10) (N := 14) (ci := 8) (v := .ref nw) S in_X10_digest_X10 G 0 rfl rfl 0 (by decide) lk_X10_digest_10 rfl dX10_digest_71 ?_
                refine r_get (C := RX5) (T := TX5) (N := 8) (ci := 3) (v := .int (v 1)) S in_X10_digest_X5 G 1 rfl rfl 1 (by decide) lk_X10_digest_110 rfl dX10_digest_74 ?_
                refine lv_iconst (v := 1) zx zb dX10_digest_77 (by decide) ?_
                refine r_iadd (v := ((v 1) + 1)) S rfl dX10_digest_78 ?_
                refine o_ri (cells' := 0) (slots' := 0) G rfl rfl (n_V (As := [.int (nI k47), .int ((v 1) + 1)]) (rest := [.long ((Int32.toInt64 31) * x47_1)]) (C := RX8) (T := TX8) (N := 8) (ci := 6) S G (s_fact l X (an 4) (fun k => v (34 + k)) (nI k47) ((v 1) + 1) H.size) gX10_digest_X8_fact rfl rfl rfl hdV_X8_fact ⟨Nat.le_of_ble_eq_true rfl, Nat.le_of_ble_eq_true rfl⟩ [6] rfl rfl 6 rfl rfl rfl hl.1 (Nat.le_of_ble_eq_true rfl) dX10_digest_79 ⟨Nat.le_of_ble_eq_true rfl, Nat.le_of_ble_eq_true rfl⟩) (fun r_10 u_10 H locs hp_10 G => ?_)
                have G : wd X (va_A (@HAppend.hAppend va_W va_W va_W _ (xW h0 nw sp xa la lb) (@HAppend.hAppend va_W va_W va_W _ (rcW X nw an v b g) (@HAppend.hAppend va_W va_W va_W _ (rdV X (xa 4) hb n bd vd fd) ([((xa 5), .inl (X.2.1, 3, .inl fr))])))) sz) (va_A (@HAppend.hAppend va_W va_W va_W _ (xW h0 nw sp xa la lb) (@HAppend.hAppend va_W va_W va_W _ (rcW X nw an v b g) (@HAppend.hAppend va_W va_W va_W _ (rdV X (xa 4) hb n bd vd fd) ([((xa 5), .inl (X.2.1, 3, .inl fr))])))) sz) s (@HAppend.hAppend va_W va_W va_W _ (xW h0 nw sp xa la lb) (@HAppend.hAppend va_W va_W va_W _ (rcW X nw an v b g) (@HAppend.hAppend va_W va_W va_W _ (rdV X (xa 4) hb n bd vd fd) ([((xa 5), .inl (X.2.1, 3, .inl f6_3))])))) H locs := G
                refine lv_i2l (v := (Int32.toInt64 r_10)) zx zb dX10_digest_82 rfl ?_
                refine r_ladd (v := (((Int32.toInt64 31) * x47_1) + (Int32.toInt64 r_10))) S rfl dX10_digest_83 ?_
                refine lv_lstore_n (lv' := [(1, .long (((Int32.toInt64 31) * x47_1) + (Int32.toInt64 r_10))), (4, .int (nI k47)), (3, .int 3), (0, .ref h0)]) zx zb dX10_digest_84 rfl hl (by decide) rfl (fun ls hl => ?_)
                refine lv_iinc (v := (nI (k47 + 1))) (lv' := [(4, .int (nI (k47 + 1))), (1, .long (((Int32.toInt64 31) * x47_1) + (Int32.toInt64 r_10))), (3, .int 3), (0, .ref h0)]) zx zb dX10_digest_85 hl (k := 1) rfl (nI_add k47 1) (by decide) rfl (fun ls hl => ?_)
                refine lv_goto (tgt := 47) zx zb dX10_digest_88 (by decide) ?_
                have hl := lv_sub hl (l' := [(4, .int (nI (k47 + 1))), (3, .int 3), (1, .long (((Int32.toInt64 31) * x47_1) + (Int32.toInt64 r_10))), (0, .ref h0)]) [0, 2, 1, 3] rfl
                exact ih47 (k47 + 1) (((Int32.toInt64 31) * x47_1) + (Int32.toInt64 r_10)) _ _ _ (by omega) (by omega) G hl
              · refine k_it (v := 4) rfl ?_
                refine r_aald (C := RX8) (b := (an 5)) S G 2 3 rfl rfl (k_vp (by decide)) rfl dX10_digest_67 ?_
                refine lv_iload zx zb dX10_digest_68 (lv_at hl 0 rfl) ?_
                refine lv_aload_n zx zb dX10_digest_70 rfl (lv_at hl 3 rfl) ?_
                refine r_get (C := RX10) (T := TX10) (N := 14) (ci := 8) (v := .ref nw) S in_X10_digest_X10 G 0 rfl rfl 0 (by decide) lk_X10_digest_10 rfl dX10_digest_71 ?_
                refine r_get (C := RX5) (T := TX5) (N := 8) (ci := 3) (v := .int (v 1)) S in_X10_digest_X5 G 1 rfl rfl 1 (by decide) lk_X10_digest_110 rfl dX10_digest_74 ?_
                refine lv_iconst (v := 1) zx zb dX10_digest_77 (by decide) ?_
                refine r_iadd (v := ((v 1) + 1)) S rfl dX10_digest_78 ?_
                refine o_ri (cells' := 0) (slots' := 0) G rfl rfl (n_V (As := [.int (nI k47), .int ((v 1) + 1)]) (rest := [.long ((Int32.toInt64 31) * x47_1)]) (C := RX8) (T := TX8) (N := 8) (ci := 6) S G (s_fact l X (an 5) (fun k => v (42 + k)) (nI k47) ((v 1) + 1) H.size) gX10_digest_X8_fact rfl rfl rfl hdV_X8_fact ⟨Nat.le_of_ble_eq_true rfl, Nat.le_of_ble_eq_true rfl⟩ [7] rfl rfl 7 rfl rfl rfl hl.1 (Nat.le_of_ble_eq_true rfl) dX10_digest_79 ⟨Nat.le_of_ble_eq_true rfl, Nat.le_of_ble_eq_true rfl⟩) (fun r_11 u_11 H locs hp_11 G => ?_)
                have G : wd X (va_A (@HAppend.hAppend va_W va_W va_W _ (xW h0 nw sp xa la lb) (@HAppend.hAppend va_W va_W va_W _ (rcW X nw an v b g) (@HAppend.hAppend va_W va_W va_W _ (rdV X (xa 4) hb n bd vd fd) ([((xa 5), .inl (X.2.1, 3, .inl fr))])))) sz) (va_A (@HAppend.hAppend va_W va_W va_W _ (xW h0 nw sp xa la lb) (@HAppend.hAppend va_W va_W va_W _ (rcW X nw an v b g) (@HAppend.hAppend va_W va_W va_W _ (rdV X (xa 4) hb n bd vd fd) ([((xa 5), .inl (X.2.1, 3, .inl fr))])))) sz) s (@HAppend.hAppend va_W va_W va_W _ (xW h0 nw sp xa la lb) (@HAppend.hAppend va_W va_W va_W _ (rcW X nw an v b g) (@HAppend.hAppend va_W va_W va_W _ (rdV X (xa 4) hb n bd vd fd) ([((xa 5), .inl (X.2.1, 3, .inl f6_3))])))) H locs := G
                refine lv_i2l (v := (Int32.toInt64 r_11)) zx zb dX10_digest_82 rfl ?_
                refine r_ladd (v := (((Int32.toInt64 31) * x47_1) + (Int32.toInt64 r_11))) S rfl dX10_digest_83 ?_
                refine lv_lstore_n (lv' := [(1, .long (((Int32.toInt64 31) * x47_1) + (Int32.toInt64 r_11))), (4, .int (nI k47)), (3, .int 4), (0, .ref h0)]) zx zb dX10_digest_84 rfl hl (by decide) rfl (fun ls hl => ?_)
                refine lv_iinc (v := (nI (k47 + 1))) (lv' := [(4, .int (nI (k47 + 1))), (1, .long (((Int32.toInt64 31) * x47_1) + (Int32.toInt64 r_11))), (3, .int 4), (0, .ref h0)]) zx zb dX10_digest_85 hl (k := 1) rfl (nI_add k47 1) (by decide) rfl (fun ls hl => ?_)
                refine lv_goto (tgt := 47) zx zb dX10_digest_88 (by decide) ?_
                have hl := lv_sub hl (l' := [(4, .int (nI (k47 + 1))), (3, .int 4), (1, .long (((Int32.toInt64 31) * x47_1) + (Int32.toInt64 r_11))), (0, .ref h0)]) [0, 2, 1, 3] rfl
                exact ih47 (k47 + 1) (((Int32.toInt64 31) * x47_1) + (Int32.toInt64 r_11)) _ _ _ (by omega) (by omega) G hl
              · refine k_it (v := 5) rfl ?_
                refine r_aald (C := RX8) (b := (an 6)) S G 2 3 rfl rfl (k_vp (by decide)) rfl dX10_digest_67 ?_
                refine lv_iload zx zb dX10_digest_68 (lv_at hl 0 rfl) ?_
                refine lv_aload_n zx zb dX10_digest_70 rfl (lv_at hl 3 rfl) ?_
                refine r_get (C := RX10) (T := TX10) (N := 14) (ci := 8) (v := .ref nw) S in_X10_digest_X10 G 0 rfl rfl 0 (by decide) lk_X10_digest_10 rfl dX10_digest_71 ?_
                refine r_get (C := RX5) (T := TX5) (N := 8) (ci := 3) (v := .int (v 1)) S in_X10_digest_X5 G 1 rfl rfl 1 (by decide) lk_X10_digest_110 rfl dX10_digest_74 ?_
                refine lv_iconst (v := 1) zx zb dX10_digest_77 (by decide) ?_
                refine r_iadd (v := ((v 1) + 1)) S rfl dX10_digest_78 ?_
                refine o_ri (cells' := 0) (slots' := 0) G rfl rfl (n_V (As := [.int (nI k47), .int ((v 1) + 1)]) (rest := [.long ((Int32.toInt64 31) * x47_1)]) (C := RX8) (T := TX8) (N := 8) (ci := 6) S G (s_fact l X (an 6) (fun k => v (50 + k)) (nI k47) ((v 1) + 1) H.size) gX10_digest_X8_fact rfl rfl rfl hdV_X8_fact ⟨Nat.le_of_ble_eq_true rfl, Nat.le_of_ble_eq_true rfl⟩ [8] rfl rfl 8 rfl rfl rfl hl.1 (Nat.le_of_ble_eq_true rfl) dX10_digest_79 ⟨Nat.le_of_ble_eq_true rfl, Nat.le_of_ble_eq_true rfl⟩) (fun r_12 u_12 H locs hp_12 G => ?_)
                have G : wd X (va_A (@HAppend.hAppend va_W va_W va_W _ (xW h0 nw sp xa la lb) (@HAppend.hAppend va_W va_W va_W _ (rcW X nw an v b g) (@HAppend.hAppend va_W va_W va_W _ (rdV X (xa 4) hb n bd vd fd) ([((xa 5), .inl (X.2.1, 3, .inl fr))])))) sz) (va_A (@HAppend.hAppend va_W va_W va_W _ (xW h0 nw sp xa la lb) (@HAppend.hAppend va_W va_W va_W _ (rcW X nw an v b g) (@HAppend.hAppend va_W va_W va_W _ (rdV X (xa 4) hb n bd vd fd) ([((xa 5), .inl (X.2.1, 3, .inl fr))])))) sz) s (@HAppend.hAppend va_W va_W va_W _ (xW h0 nw sp xa la lb) (@HAppend.hAppend va_W va_W va_W _ (rcW X nw an v b g) (@HAppend.hAppend va_W va_W va_W _ (rdV X (xa 4) hb n bd vd fd) ([((xa 5), .inl (X.2.1, 3, .inl f6_3))])))) H locs := G
                refine lv_i2l (v := (Int32.toInt64 r_12)) zx zb dX10_digest_82 rfl ?_
                refine r_ladd (v := (((Int32.toInt64 31) * x47_1) + (Int32.toInt64 r_12))) S rfl dX10_digest_83 ?_
                refine lv_lstore_n (lv' := [(1, .long (((Int32.toInt64 31) * x47_1) + (Int32.toInt64 r_12))), (4, .int (nI k47)), (3, .int 5), (0, .ref h0)]) zx zb dX10_digest_84 rfl hl (by decide) rfl (fun ls hl => ?_)
                refine lv_iinc (v := (nI (k47 + 1))) (lv' := [(4, .int (nI (k47 + 1))), (1, .long (((Int32.toInt64 31) * x47_1) + (Int32.toInt64 r_12))), (3, .int 5), (0, .ref h0)]) zx zb dX10_digest_85 hl (k := 1) rfl (nI_add k47 1) (by decide) rfl (fun ls hl => ?_)
                refine lv_goto (tgt := 47) zx zb dX10_digest_88 (by decide) ?_
                have hl := lv_sub hl (l' := [(4, .int (nI (k47 + 1))), (3, .int 5), (1, .long (((Int32.toInt64 31) * x47_1) + (Int32.toInt64 r_12))), (0, .ref h0)]) [0, 2, 1, 3] rfl
                exact ih47 (k47 + 1) (((Int32.toInt64 31) * x47_1) + (Int32.toInt64 r_12)) _ _ _ (by omega) (by omega) G hl
    · have fc_1 := j_nlt (a := 10) (b := k6) (by omega) (by omega) c_1
      refine lv_ldc2 zx zb S.2.2.2.1 (S.2.2.2.2 _ mm_X10_digest_c291) dX10_digest_12 ?_
      refine k_ld (v := (Int32.toInt64 31)) (by decide) ?_
      refine lv_lload_n zx zb dX10_digest_15 rfl (lv_at hl 1 rfl) ?_
      refine r_lmul (v := ((Int32.toInt64 31) * x6_1)) S rfl dX10_digest_16 ?_
      refine lv_aload_n zx zb dX10_digest_17 rfl (lv_at hl 2 rfl) ?_
      refine lv_iload_n zx zb dX10_digest_18 rfl (lv_at hl 0 rfl) ?_
      refine b_wi (cells' := 0) (slots' := 0) (wr := []) G rfl rfl [0, 1, 2, 3, 4, 5, 6, 7, 8, 9, 10, 11, 12, 13, 14, 15, 16, 17, 18, 19] [] rfl rfl rfl rfl (n_V (As := [.int (nI k6)]) (rest := [.long ((Int32.toInt64 31) * x6_1)]) (C := RX10) (T := TX10) (N := 14) (ci := 8) S G (s_count2 l X h0 nw sp xa la lb an v b g hb n bd vd fd f6_3 (nI k6) hI_b hI_n hI_bd H.size) gX10_digest_X10_count rfl rfl rfl hdV_X10_count ⟨Nat.le_of_ble_eq_true rfl, Nat.le_of_ble_eq_true rfl⟩ [0, 1, 2, 3, 4, 5, 6, 7, 8, 9, 10, 11, 12, 13, 14, 15, 16, 17, 18, 19] rfl rfl 0 rfl rfl rfl hl.1 (Nat.le_of_ble_eq_true rfl) dX10_digest_19 ⟨Nat.le_of_ble_eq_true rfl, Nat.le_of_ble_eq_true rfl⟩) (fun r_13 u_13 H locs hp_13 G => ?_)
      obtain ⟨f_13, rfl⟩ : ∃ z, z = u_13 := ⟨_, rfl⟩
      have hq_13 := hp_13
      have G : wd X (va_A (@HAppend.hAppend va_W va_W va_W _ (xW h0 nw sp xa la lb) (@HAppend.hAppend va_W va_W va_W _ (rcW X nw an v b g) (@HAppend.hAppend va_W va_W va_W _ (rdV X (xa 4) hb n bd vd fd) ([((xa 5), .inl (X.2.1, 3, .inl fr))])))) sz) (va_A (@HAppend.hAppend va_W va_W va_W _ (xW h0 nw sp xa la lb) (@HAppend.hAppend va_W va_W va_W _ (rcW X nw an v b g) (@HAppend.hAppend va_W va_W va_W _ (rdV X (xa 4) hb n bd vd fd) ([((xa 5), .inl (X.2.1, 3, .inl fr))])))) sz) s (@HAppend.hAppend va_W va_W va_W _ (xW h0 nw sp xa la lb) (@HAppend.hAppend va_W va_W va_W _ (rcW X nw an v b g) (@HAppend.hAppend va_W va_W va_W _ (rdV X (xa 4) hb n bd vd fd) ([((xa 5), .inl (X.2.1, 3, .inl f_13))])))) H locs := G
      refine lv_i2l (v := (Int32.toInt64 r_13)) zx zb dX10_digest_22 rfl ?_
      refine r_ladd (v := (((Int32.toInt64 31) * x6_1) + (Int32.toInt64 r_13))) S rfl dX10_digest_23 ?_
      refine lv_lstore_n (lv' := [(1, .long (((Int32.toInt64 31) * x6_1) + (Int32.toInt64 r_13))), (3, .int (nI k6)), (0, .ref h0)]) zx zb dX10_digest_24 rfl hl (by decide) rfl (fun ls hl => ?_)
      refine lv_iinc (v := (nI (k6 + 1))) (lv' := [(3, .int (nI (k6 + 1))), (1, .long (((Int32.toInt64 31) * x6_1) + (Int32.toInt64 r_13))), (0, .ref h0)]) zx zb dX10_digest_25 hl (k := 1) rfl (nI_add k6 1) (by decide) rfl (fun ls hl => ?_)
      refine lv_goto (tgt := 6) zx zb dX10_digest_28 (by decide) ?_
      exact ih6 (k6 + 1) (((Int32.toInt64 31) * x6_1) + (Int32.toInt64 r_13)) f_13 _ _ _ (by omega) (by omega) G hl
set_option maxHeartbeats 4000000 in
set_option maxRecDepth 100000 in
/-- image -/
theorem s_image2 (l : Launch) (X : EX) (h0 : Nat) (nw : Nat) (sp : Nat) (xa : Nat → Nat) (la : Int64) (lb : Int64) (an : Nat → Nat) (v : Nat → Int32) (b : Nat → Nat) (g : Nat → Nat → Int32) (i0 : Nat) (i1 : Nat) (ap : Nat → Nat) (vp : Nat → Int32) (bp : Nat → Nat) (gp : Nat → Nat → Int32) (aq : Nat → Nat) (vq : Nat → Int32) (bq : Nat → Nat) (gq : Nat → Nat → Int32) (fz : Nat → Int32) (fr : Nat → Int32) (x1 : Int32) (hI_b : InR b) (hI_bp : InR bp) (hI_bq : InR bq) (sz : Nat) : Met l yX10_image wsX10_image ({ frames := 3, cells := 0, slots := 0, locals := 102 } : Room) (pE X [.ref h0, .int x1] (@HAppend.hAppend va_W va_W va_W _ (xW h0 nw sp xa la lb) (@HAppend.hAppend va_W va_W va_W _ (rcW X nw an v b g) (@HAppend.hAppend va_W va_W va_W _ ([((xa 2), .inl (X.2.2.2.1, 2, .inr (.inr (.inr (.inr (imQ i0 i1))))))]) (@HAppend.hAppend va_W va_W va_W _ (rcW X i0 ap vp bp gp) (@HAppend.hAppend va_W va_W va_W _ (rcW X i1 aq vq bq gq) (@HAppend.hAppend va_W va_W va_W _ ([((xa 3), .inl (X.2.2.1, 2, .inl fz))]) ([((xa 5), .inl (X.2.1, 3, .inl fr))]))))))) sz) (qI (fun (r : Int32) (u : (Nat → Int32) × (Nat → Nat) × (Nat → Nat → Int32) × (Nat → Int32) × (Nat → Nat) × (Nat → Nat → Int32) × (Nat → Int32) × (Nat → Int32)) => InR u.2.1 ∧ InR u.2.2.2.2.1 ∧ ((¬ ((0 : Int32) ≤ x1 ∧ x1 ≤ 1) ∧ r = -2 ∧ u.2.2.2.2.2.2.1 = fz) ∨ (((0 : Int32) ≤ x1 ∧ x1 ≤ 1) ∧ r = 1 ∧ u.2.2.2.2.2.2.1 = upd fz x1.toNatClampNeg 1))) X (fun (u : (Nat → Int32) × (Nat → Nat) × (Nat → Nat → Int32) × (Nat → Int32) × (Nat → Nat) × (Nat → Nat → Int32) × (Nat → Int32) × (Nat → Int32)) => @HAppend.hAppend va_W va_W va_W _ (xW h0 nw sp xa la lb) (@HAppend.hAppend va_W va_W va_W _ (rcW X nw an v b g) (@HAppend.hAppend va_W va_W va_W _ ([((xa 2), .inl (X.2.2.2.1, 2, .inr (.inr (.inr (.inr (imQ i0 i1))))))]) (@HAppend.hAppend va_W va_W va_W _ (rcW X i0 ap u.1 u.2.1 u.2.2.1) (@HAppend.hAppend va_W va_W va_W _ (rcW X i1 aq u.2.2.2.1 u.2.2.2.2.1 u.2.2.2.2.2.1) (@HAppend.hAppend va_W va_W va_W _ ([((xa 3), .inl (X.2.2.1, 2, .inl u.2.2.2.2.2.2.1))]) ([((xa 5), .inl (X.2.1, 3, .inl u.2.2.2.2.2.2.2))]))))))) (@HAppend.hAppend va_W va_W va_W _ (xW h0 nw sp xa la lb) (@HAppend.hAppend va_W va_W va_W _ (rcW X nw an v b g) (@HAppend.hAppend va_W va_W va_W _ ([((xa 2), .inl (X.2.2.2.1, 2, .inr (.inr (.inr (.inr (imQ i0 i1))))))]) (@HAppend.hAppend va_W va_W va_W _ (rcW X i0 ap vp bp gp) (@HAppend.hAppend va_W va_W va_W _ (rcW X i1 aq vq bq gq) (@HAppend.hAppend va_W va_W va_W _ ([((xa 3), .inl (X.2.2.1, 2, .inl fz))]) ([((xa 5), .inl (X.2.1, 3, .inl fr))]))))))) sz) 0 0 (va_A (@HAppend.hAppend va_W va_W va_W _ (xW h0 nw sp xa la lb) (@HAppend.hAppend va_W va_W va_W _ (rcW X nw an v b g) (@HAppend.hAppend va_W va_W va_W _ ([((xa 2), .inl (X.2.2.2.1, 2, .inr (.inr (.inr (.inr (imQ i0 i1))))))]) (@HAppend.hAppend va_W va_W va_W _ (rcW X i0 ap vp bp gp) (@HAppend.hAppend va_W va_W va_W _ (rcW X i1 aq vq bq gq) (@HAppend.hAppend va_W va_W va_W _ ([((xa 3), .inl (X.2.2.1, 2, .inl fz))]) ([((xa 5), .inl (X.2.1, 3, .inl fr))]))))))) sz) := by
  refine mk_met (B := (va_A (@HAppend.hAppend va_W va_W va_W _ (xW h0 nw sp xa la lb) (@HAppend.hAppend va_W va_W va_W _ (rcW X nw an v b g) (@HAppend.hAppend va_W va_W va_W _ ([((xa 2), .inl (X.2.2.2.1, 2, .inr (.inr (.inr (.inr (imQ i0 i1))))))]) (@HAppend.hAppend va_W va_W va_W _ (rcW X i0 ap vp bp gp) (@HAppend.hAppend va_W va_W va_W _ (rcW X i1 aq vq bq gq) (@HAppend.hAppend va_W va_W va_W _ ([((xa 3), .inl (X.2.2.1, 2, .inl fz))]) ([((xa 5), .inl (X.2.1, 3, .inl fr))]))))))) sz)) (A := (va_A (@HAppend.hAppend va_W va_W va_W _ (xW h0 nw sp xa la lb) (@HAppend.hAppend va_W va_W va_W _ (rcW X nw an v b g) (@HAppend.hAppend va_W va_W va_W _ ([((xa 2), .inl (X.2.2.2.1, 2, .inr (.inr (.inr (.inr (imQ i0 i1))))))]) (@HAppend.hAppend va_W va_W va_W _ (rcW X i0 ap vp bp gp) (@HAppend.hAppend va_W va_W va_W _ (rcW X i1 aq vq bq gq) (@HAppend.hAppend va_W va_W va_W _ ([((xa 3), .inl (X.2.2.1, 2, .inl fz))]) ([((xa 5), .inl (X.2.1, 3, .inl fr))]))))))) sz)) (cc := cX10_image) (maxL := 2) (ret := (some .int)) (by decide) rfl (Nat.le_of_ble_eq_true rfl) k_w k_a (fun p e s m below meth c S zr zlk znm zsz G ls hl => ?_)
  have S : CallFix p m c cX10_image 2 s _ wsX10_image RX10 := S
  have zx := S.1
  have zb := S.2.1
  have hl : lv_has ls 2 [(0, .ref h0), (1, .int x1)] := hl
  have hO_b := hI_b
  obtain ⟨hb0_b, hb1_b, hb2_b, hb3_b, hb4_b⟩ := hO_b
  have hO_bp := hI_bp
  obtain ⟨hb0_bp, hb1_bp, hb2_bp, hb3_bp, hb4_bp⟩ := hO_bp
  have hO_bq := hI_bq
  obtain ⟨hb0_bq, hb1_bq, hb2_bq, hb3_bq, hb4_bq⟩ := hO_bq
  refine lv_iload_n zx zb dX10_image_0 rfl (lv_at hl 1 rfl) ?_
  refine lv_iconst (v := 0) zx zb dX10_image_1 (by decide) ?_
  refine lv_iconst (v := 1) zx zb dX10_image_2 (by decide) ?_
  refine o_ri (cells' := 0) (slots' := 0) G rfl rfl (n_S (As := [.int x1, .int 0, .int 1]) (rest := []) S G (s_within l X x1 0 1 s.heap.size) gX10_image_X10_within rfl rfl rfl hdS_X10_within ⟨Nat.le_of_ble_eq_true rfl, Nat.le_of_ble_eq_true rfl⟩ [] rfl rfl rfl hl.1 (Nat.le_of_ble_eq_true rfl) dX10_image_3 ⟨Nat.le_of_ble_eq_true rfl, Nat.le_of_ble_eq_true rfl⟩) (fun r_1 u_1 H locs hp_1 G => ?_)
  have G : wd X (va_A (@HAppend.hAppend va_W va_W va_W _ (xW h0 nw sp xa la lb) (@HAppend.hAppend va_W va_W va_W _ (rcW X nw an v b g) (@HAppend.hAppend va_W va_W va_W _ ([((xa 2), .inl (X.2.2.2.1, 2, .inr (.inr (.inr (.inr (imQ i0 i1))))))]) (@HAppend.hAppend va_W va_W va_W _ (rcW X i0 ap vp bp gp) (@HAppend.hAppend va_W va_W va_W _ (rcW X i1 aq vq bq gq) (@HAppend.hAppend va_W va_W va_W _ ([((xa 3), .inl (X.2.2.1, 2, .inl fz))]) ([((xa 5), .inl (X.2.1, 3, .inl fr))]))))))) sz) (va_A (@HAppend.hAppend va_W va_W va_W _ (xW h0 nw sp xa la lb) (@HAppend.hAppend va_W va_W va_W _ (rcW X nw an v b g) (@HAppend.hAppend va_W va_W va_W _ ([((xa 2), .inl (X.2.2.2.1, 2, .inr (.inr (.inr (.inr (imQ i0 i1))))))]) (@HAppend.hAppend va_W va_W va_W _ (rcW X i0 ap vp bp gp) (@HAppend.hAppend va_W va_W va_W _ (rcW X i1 aq vq bq gq) (@HAppend.hAppend va_W va_W va_W _ ([((xa 3), .inl (X.2.2.1, 2, .inl fz))]) ([((xa 5), .inl (X.2.1, 3, .inl fr))]))))))) sz) s (@HAppend.hAppend va_W va_W va_W _ (xW h0 nw sp xa la lb) (@HAppend.hAppend va_W va_W va_W _ (rcW X nw an v b g) (@HAppend.hAppend va_W va_W va_W _ ([((xa 2), .inl (X.2.2.2.1, 2, .inr (.inr (.inr (.inr (imQ i0 i1))))))]) (@HAppend.hAppend va_W va_W va_W _ (rcW X i0 ap vp bp gp) (@HAppend.hAppend va_W va_W va_W _ (rcW X i1 aq vq bq gq) (@HAppend.hAppend va_W va_W va_W _ ([((xa 3), .inl (X.2.2.1, 2, .inl fz))]) ([((xa 5), .inl (X.2.1, 3, .inl fr))]))))))) H locs := G
  rcases hp_1 with ⟨rfl, hw_1⟩ | ⟨rfl, hw_1⟩
  · refine lv_if_ne (tgt := 16) zx zb dX10_image_6 (by decide) (fun c_2 => ?_) (fun c_2 => absurd c_2 (by decide))
    obtain ⟨j0, hj0, rfl⟩ := k_nat01 hw_1
    refine lv_aload_n zx zb dX10_image_16 rfl (lv_at hl 0 rfl) ?_
    refine r_get (C := RX10) (T := TX10) (N := 14) (ci := 8) (v := .ref (xa 2)) S in_X10_image_X10 G 0 rfl rfl 2 (by decide) lk_X10_image_19 rfl dX10_image_17 ?_
    refine lv_iload_n zx zb dX10_image_20 rfl (lv_at hl 1 rfl) ?_
    rcases k_2c (show j0 < 2 by omega) with rfl | rfl
    · refine k_it (v := 0) rfl ?_
      refine r_aald (C := RX5) (b := i0) S G 17 2 rfl rfl (k_vp (by decide)) rfl dX10_image_21 ?_
      refine lv_aload_n zx zb dX10_image_22 rfl (lv_at hl 0 rfl) ?_
      refine r_get (C := RX10) (T := TX10) (N := 14) (ci := 8) (v := .ref nw) S in_X10_image_X10 G 0 rfl rfl 0 (by decide) lk_X10_image_10 rfl dX10_image_23 ?_
      refine b_wv (cells' := 0) (slots' := 0) (wr := @HAppend.hAppend va_W va_W va_W _ (xW h0 nw sp xa la lb) (@HAppend.hAppend va_W va_W va_W _ ([((xa 2), .inl (X.2.2.2.1, 2, .inr (.inr (.inr (.inr (imQ i0 i1))))))]) (@HAppend.hAppend va_W va_W va_W _ (rcW X i1 aq vq bq gq) (@HAppend.hAppend va_W va_W va_W _ ([((xa 3), .inl (X.2.2.1, 2, .inl fz))]) ([((xa 5), .inl (X.2.1, 3, .inl fr))]))))) G rfl rfl [18, 19, 20, 21, 22, 23, 24, 25, 26, 27, 28, 29, 30, 31, 32, 33, 1, 2, 3, 4, 5, 6, 7, 8, 9, 10, 11, 12, 13, 14, 15, 16] [0, 17, 34, 35, 36, 37, 38, 39, 40, 41, 42, 43, 44, 45, 46, 47, 48, 49, 50, 51] rfl rfl rfl rfl (n_V (As := [.ref nw]) (rest := []) (C := RX5) (T := TX5) (N := 8) (ci := 3) S G (s_copyFrom l X i0 ap vp bp gp nw an v b g hI_bp hI_b H.size) gX10_image_X5_copyFrom rfl rfl rfl hdV_X5_copyFrom ⟨Nat.le_of_ble_eq_true rfl, Nat.le_of_ble_eq_true rfl⟩ [18, 19, 20, 21, 22, 23, 24, 25, 26, 27, 28, 29, 30, 31, 32, 33, 1, 2, 3, 4, 5, 6, 7, 8, 9, 10, 11, 12, 13, 14, 15, 16] rfl rfl 18 rfl rfl rfl hl.1 (Nat.le_of_ble_eq_true rfl) dX10_image_26 ⟨Nat.le_of_ble_eq_true rfl, Nat.le_of_ble_eq_true rfl⟩) (fun u_3 H locs hp_3 G => ?_)
      obtain ⟨v_3a, b_3b, g_3c⟩ := u_3
      obtain ⟨hI_b_3b, hq_3⟩ := hp_3
      have hO_b_3b := hI_b_3b
      obtain ⟨hb0_b_3b, hb1_b_3b, hb2_b_3b, hb3_b_3b, hb4_b_3b⟩ := hO_b_3b
      have G : wd X (va_A (@HAppend.hAppend va_W va_W va_W _ (xW h0 nw sp xa la lb) (@HAppend.hAppend va_W va_W va_W _ (rcW X nw an v b g) (@HAppend.hAppend va_W va_W va_W _ ([((xa 2), .inl (X.2.2.2.1, 2, .inr (.inr (.inr (.inr (imQ i0 i1))))))]) (@HAppend.hAppend va_W va_W va_W _ (rcW X i0 ap vp bp gp) (@HAppend.hAppend va_W va_W va_W _ (rcW X i1 aq vq bq gq) (@HAppend.hAppend va_W va_W va_W _ ([((xa 3), .inl (X.2.2.1, 2, .inl fz))]) ([((xa 5), .inl (X.2.1, 3, .inl fr))]))))))) sz) (va_A (@HAppend.hAppend va_W va_W va_W _ (xW h0 nw sp xa la lb) (@HAppend.hAppend va_W va_W va_W _ (rcW X nw an v b g) (@HAppend.hAppend va_W va_W va_W _ ([((xa 2), .inl (X.2.2.2.1, 2, .inr (.inr (.inr (.inr (imQ i0 i1))))))]) (@HAppend.hAppend va_W va_W va_W _ (rcW X i0 ap vp bp gp) (@HAppend.hAppend va_W va_W va_W _ (rcW X i1 aq vq bq gq) (@HAppend.hAppend va_W va_W va_W _ ([((xa 3), .inl (X.2.2.1, 2, .inl fz))]) ([((xa 5), .inl (X.2.1, 3, .inl fr))]))))))) sz) s (@HAppend.hAppend va_W va_W va_W _ (xW h0 nw sp xa la lb) (@HAppend.hAppend va_W va_W va_W _ ([((xa 2), .inl (X.2.2.2.1, 2, .inr (.inr (.inr (.inr (imQ i0 i1))))))]) (@HAppend.hAppend va_W va_W va_W _ (rcW X i1 aq vq bq gq) (@HAppend.hAppend va_W va_W va_W _ ([((xa 3), .inl (X.2.2.1, 2, .inl fz))]) (@HAppend.hAppend va_W va_W va_W _ ([((xa 5), .inl (X.2.1, 3, .inl fr))]) (@HAppend.hAppend va_W va_W va_W _ (rcW X i0 ap v_3a b_3b g_3c) (rcW X nw an v b g))))))) H locs := G
      refine lv_aload_n zx zb dX10_image_29 rfl (lv_at hl 0 rfl) ?_
      refine r_get (C := RX10) (T := TX10) (N := 14) (ci := 8) (v := .ref (xa 3)) S in_X10_image_X10 G 0 rfl rfl 3 (by decide) lk_X10_image_23 rfl dX10_image_30 ?_
      refine lv_iload_n zx zb dX10_image_33 rfl (lv_at hl 1 rfl) ?_
      refine lv_iconst (v := 1) zx zb dX10_image_34 (by decide) ?_
      refine r_zast S G 18 rfl (k_vp (by decide)) dX10_image_35 (fun H locs G => ?_)
      obtain ⟨f_4, hE_f_4, G⟩ : ∃ f_4 : Nat → Int32, f_4 = upd fz (0 : Int32).toNatClampNeg 1 ∧ wd X (va_A (@HAppend.hAppend va_W va_W va_W _ (xW h0 nw sp xa la lb) (@HAppend.hAppend va_W va_W va_W _ (rcW X nw an v b g) (@HAppend.hAppend va_W va_W va_W _ ([((xa 2), .inl (X.2.2.2.1, 2, .inr (.inr (.inr (.inr (imQ i0 i1))))))]) (@HAppend.hAppend va_W va_W va_W _ (rcW X i0 ap vp bp gp) (@HAppend.hAppend va_W va_W va_W _ (rcW X i1 aq vq bq gq) (@HAppend.hAppend va_W va_W va_W _ ([((xa 3), .inl (X.2.2.1, 2, .inl fz))]) ([((xa 5), .inl (X.2.1, 3, .inl fr))]))))))) sz) (va_A (@HAppend.hAppend va_W va_W va_W _ (xW h0 nw sp xa la lb) (@HAppend.hAppend va_W va_W va_W _ (rcW X nw an v b g) (@HAppend.hAppend va_W va_W va_W _ ([((xa 2), .inl (X.2.2.2.1, 2, .inr (.inr (.inr (.inr (imQ i0 i1))))))]) (@HAppend.hAppend va_W va_W va_W _ (rcW X i0 ap vp bp gp) (@HAppend.hAppend va_W va_W va_W _ (rcW X i1 aq vq bq gq) (@HAppend.hAppend va_W va_W va_W _ ([((xa 3), .inl (X.2.2.1, 2, .inl fz))]) ([((xa 5), .inl (X.2.1, 3, .inl fr))]))))))) sz) s (@HAppend.hAppend va_W va_W va_W _ (xW h0 nw sp xa la lb) (@HAppend.hAppend va_W va_W va_W _ ([((xa 2), .inl (X.2.2.2.1, 2, .inr (.inr (.inr (.inr (imQ i0 i1))))))]) (@HAppend.hAppend va_W va_W va_W _ (rcW X i1 aq vq bq gq) (@HAppend.hAppend va_W va_W va_W _ ([((xa 3), .inl (X.2.2.1, 2, .inl f_4))]) (@HAppend.hAppend va_W va_W va_W _ ([((xa 5), .inl (X.2.1, 3, .inl fr))]) (@HAppend.hAppend va_W va_W va_W _ (rcW X i0 ap v_3a b_3b g_3c) (rcW X nw an v b g))))))) H locs := ⟨_, rfl, G⟩
      refine lv_iconst (v := 1) zx zb dX10_image_36 (by decide) ?_
      exact e_int S zr zlk (vp_nar_int _) G (v_3a, b_3b, g_3c, vq, bq, gq, f_4, fr) [0, 36, 37, 38, 39, 40, 41, 42, 43, 44, 45, 46, 47, 48, 49, 50, 51, 1, 20, 21, 22, 23, 24, 25, 26, 27, 28, 29, 30, 31, 32, 33, 34, 35, 2, 3, 4, 5, 6, 7, 8, 9, 10, 11, 12, 13, 14, 15, 16, 17, 18, 19] rfl rfl (Or.inr rfl) (⟨hI_b_3b, hI_bq, Or.inr ⟨hw_1, rfl, hE_f_4⟩⟩) dX10_image_37
    · refine k_it (v := 1) rfl ?_
      refine r_aald (C := RX5) (b := i1) S G 17 2 rfl rfl (k_vp (by decide)) rfl dX10_image_21 ?_
      refine lv_aload_n zx zb dX10_image_22 rfl (lv_at hl 0 rfl) ?_
      refine r_get (C := RX10) (T := TX10) (N := 14) (ci := 8) (v := .ref nw) S in_X10_image_X10 G 0 rfl rfl 0 (by decide) lk_X10_image_10 rfl dX10_image_23 ?_
      refine b_wv (cells' := 0) (slots' := 0) (wr := @HAppend.hAppend va_W va_W va_W _ (xW h0 nw sp xa la lb) (@HAppend.hAppend va_W va_W va_W _ ([((xa 2), .inl (X.2.2.2.1, 2, .inr (.inr (.inr (.inr (imQ i0 i1))))))]) (@HAppend.hAppend va_W va_W va_W _ (rcW X i0 ap vp bp gp) (@HAppend.hAppend va_W va_W va_W _ ([((xa 3), .inl (X.2.2.1, 2, .inl fz))]) ([((xa 5), .inl (X.2.1, 3, .inl fr))]))))) G rfl rfl [34, 35, 36, 37, 38, 39, 40, 41, 42, 43, 44, 45, 46, 47, 48, 49, 1, 2, 3, 4, 5, 6, 7, 8, 9, 10, 11, 12, 13, 14, 15, 16] [0, 17, 18, 19, 20, 21, 22, 23, 24, 25, 26, 27, 28, 29, 30, 31, 32, 33, 50, 51] rfl rfl rfl rfl (n_V (As := [.ref nw]) (rest := []) (C := RX5) (T := TX5) (N := 8) (ci := 3) S G (s_copyFrom l X i1 aq vq bq gq nw an v b g hI_bq hI_b H.size) gX10_image_X5_copyFrom rfl rfl rfl hdV_X5_copyFrom ⟨Nat.le_of_ble_eq_true rfl, Nat.le_of_ble_eq_true rfl⟩ [34, 35, 36, 37, 38, 39, 40, 41, 42, 43, 44, 45, 46, 47, 48, 49, 1, 2, 3, 4, 5, 6, 7, 8, 9, 10, 11, 12, 13, 14, 15, 16] rfl rfl 34 rfl rfl rfl hl.1 (Nat.le_of_ble_eq_true rfl) dX10_image_26 ⟨Nat.le_of_ble_eq_true rfl, Nat.le_of_ble_eq_true rfl⟩) (fun u_5 H locs hp_5 G => ?_)
      obtain ⟨v_5a, b_5b, g_5c⟩ := u_5
      obtain ⟨hI_b_5b, hq_5⟩ := hp_5
      have hO_b_5b := hI_b_5b
      obtain ⟨hb0_b_5b, hb1_b_5b, hb2_b_5b, hb3_b_5b, hb4_b_5b⟩ := hO_b_5b
      have G : wd X (va_A (@HAppend.hAppend va_W va_W va_W _ (xW h0 nw sp xa la lb) (@HAppend.hAppend va_W va_W va_W _ (rcW X nw an v b g) (@HAppend.hAppend va_W va_W va_W _ ([((xa 2), .inl (X.2.2.2.1, 2, .inr (.inr (.inr (.inr (imQ i0 i1))))))]) (@HAppend.hAppend va_W va_W va_W _ (rcW X i0 ap vp bp gp) (@HAppend.hAppend va_W va_W va_W _ (rcW X i1 aq vq bq gq) (@HAppend.hAppend va_W va_W va_W _ ([((xa 3), .inl (X.2.2.1, 2, .inl fz))]) ([((xa 5), .inl (X.2.1, 3, .inl fr))]))))))) sz) (va_A (@HAppend.hAppend va_W va_W va_W _ (xW h0 nw sp xa la lb) (@HAppend.hAppend va_W va_W va_W _ (rcW X nw an v b g) (@HAppend.hAppend va_W va_W va_W _ ([((xa 2), .inl (X.2.2.2.1, 2, .inr (.inr (.inr (.inr (imQ i0 i1))))))]) (@HAppend.hAppend va_W va_W va_W _ (rcW X i0 ap vp bp gp) (@HAppend.hAppend va_W va_W va_W _ (rcW X i1 aq vq bq gq) (@HAppend.hAppend va_W va_W va_W _ ([((xa 3), .inl (X.2.2.1, 2, .inl fz))]) ([((xa 5), .inl (X.2.1, 3, .inl fr))]))))))) sz) s (@HAppend.hAppend va_W va_W va_W _ (xW h0 nw sp xa la lb) (@HAppend.hAppend va_W va_W va_W _ ([((xa 2), .inl (X.2.2.2.1, 2, .inr (.inr (.inr (.inr (imQ i0 i1))))))]) (@HAppend.hAppend va_W va_W va_W _ (rcW X i0 ap vp bp gp) (@HAppend.hAppend va_W va_W va_W _ ([((xa 3), .inl (X.2.2.1, 2, .inl fz))]) (@HAppend.hAppend va_W va_W va_W _ ([((xa 5), .inl (X.2.1, 3, .inl fr))]) (@HAppend.hAppend va_W va_W va_W _ (rcW X i1 aq v_5a b_5b g_5c) (rcW X nw an v b g))))))) H locs := G
      refine lv_aload_n zx zb dX10_image_29 rfl (lv_at hl 0 rfl) ?_
      refine r_get (C := RX10) (T := TX10) (N := 14) (ci := 8) (v := .ref (xa 3)) S in_X10_image_X10 G 0 rfl rfl 3 (by decide) lk_X10_image_23 rfl dX10_image_30 ?_
      refine lv_iload_n zx zb dX10_image_33 rfl (lv_at hl 1 rfl) ?_
      refine lv_iconst (v := 1) zx zb dX10_image_34 (by decide) ?_
      refine r_zast S G 18 rfl (k_vp (by decide)) dX10_image_35 (fun H locs G => ?_)
      obtain ⟨f_6, hE_f_6, G⟩ : ∃ f_6 : Nat → Int32, f_6 = upd fz (1 : Int32).toNatClampNeg 1 ∧ wd X (va_A (@HAppend.hAppend va_W va_W va_W _ (xW h0 nw sp xa la lb) (@HAppend.hAppend va_W va_W va_W _ (rcW X nw an v b g) (@HAppend.hAppend va_W va_W va_W _ ([((xa 2), .inl (X.2.2.2.1, 2, .inr (.inr (.inr (.inr (imQ i0 i1))))))]) (@HAppend.hAppend va_W va_W va_W _ (rcW X i0 ap vp bp gp) (@HAppend.hAppend va_W va_W va_W _ (rcW X i1 aq vq bq gq) (@HAppend.hAppend va_W va_W va_W _ ([((xa 3), .inl (X.2.2.1, 2, .inl fz))]) ([((xa 5), .inl (X.2.1, 3, .inl fr))]))))))) sz) (va_A (@HAppend.hAppend va_W va_W va_W _ (xW h0 nw sp xa la lb) (@HAppend.hAppend va_W va_W va_W _ (rcW X nw an v b g) (@HAppend.hAppend va_W va_W va_W _ ([((xa 2), .inl (X.2.2.2.1, 2, .inr (.inr (.inr (.inr (imQ i0 i1))))))]) (@HAppend.hAppend va_W va_W va_W _ (rcW X i0 ap vp bp gp) (@HAppend.hAppend va_W va_W va_W _ (rcW X i1 aq vq bq gq) (@HAppend.hAppend va_W va_W va_W _ ([((xa 3), .inl (X.2.2.1, 2, .inl fz))]) ([((xa 5), .inl (X.2.1, 3, .inl fr))]))))))) sz) s (@HAppend.hAppend va_W va_W va_W _ (xW h0 nw sp xa la lb) (@HAppend.hAppend va_W va_W va_W _ ([((xa 2), .inl (X.2.2.2.1, 2, .inr (.inr (.inr (.inr (imQ i0 i1))))))]) (@HAppend.hAppend va_W va_W va_W _ (rcW X i0 ap vp bp gp) (@HAppend.hAppend va_W va_W va_W _ ([((xa 3), .inl (X.2.2.1, 2, .inl f_6))]) (@HAppend.hAppend va_W va_W va_W _ ([((xa 5), .inl (X.2.1, 3, .inl fr))]) (@HAppend.hAppend va_W va_W va_W _ (rcW X i1 aq v_5a b_5b g_5c) (rcW X nw an v b g))))))) H locs := ⟨_, rfl, G⟩
      refine lv_iconst (v := 1) zx zb dX10_image_36 (by decide) ?_
      exact e_int S zr zlk (vp_nar_int _) G (vp, bp, gp, v_5a, b_5b, g_5c, f_6, fr) [0, 36, 37, 38, 39, 40, 41, 42, 43, 44, 45, 46, 47, 48, 49, 50, 51, 1, 2, 3, 4, 5, 6, 7, 8, 9, 10, 11, 12, 13, 14, 15, 16, 17, 20, 21, 22, 23, 24, 25, 26, 27, 28, 29, 30, 31, 32, 33, 34, 35, 18, 19] rfl rfl (Or.inr rfl) (⟨hI_bp, hI_b_5b, Or.inr ⟨hw_1, rfl, hE_f_6⟩⟩) dX10_image_37
  · refine lv_if_ne (tgt := 16) zx zb dX10_image_6 (by decide) (fun c_7 => absurd (by decide) c_7) (fun c_7 => ?_)
    refine lv_aload_n zx zb dX10_image_9 rfl (lv_at hl 0 rfl) ?_
    refine lv_bipush (v := (-2)) zx zb dX10_image_10 (by decide) ?_
    refine b_wi (cells' := 0) (slots' := 0) (wr := @HAppend.hAppend va_W va_W va_W _ (rcW X nw an v b g) (@HAppend.hAppend va_W va_W va_W _ ([((xa 2), .inl (X.2.2.2.1, 2, .inr (.inr (.inr (.inr (imQ i0 i1))))))]) (@HAppend.hAppend va_W va_W va_W _ (rcW X i0 ap vp bp gp) (@HAppend.hAppend va_W va_W va_W _ (rcW X i1 aq vq bq gq) ([((xa 3), .inl (X.2.2.1, 2, .inl fz))]))))) G rfl rfl [0, 51] [1, 2, 3, 4, 5, 6, 7, 8, 9, 10, 11, 12, 13, 14, 15, 16, 17, 18, 19, 20, 21, 22, 23, 24, 25, 26, 27, 28, 29, 30, 31, 32, 33, 34, 35, 36, 37, 38, 39, 40, 41, 42, 43, 44, 45, 46, 47, 48, 49, 50] rfl rfl rfl rfl (n_V (As := [.int (-2)]) (rest := []) (C := RX10) (T := TX10) (N := 14) (ci := 8) S G (s_refuse l X h0 nw sp xa la lb fr (-2) H.size) gX10_image_X10_refuse rfl rfl rfl hdV_X10_refuse ⟨Nat.le_of_ble_eq_true rfl, Nat.le_of_ble_eq_true rfl⟩ [0, 51] rfl rfl 0 rfl rfl rfl hl.1 (Nat.le_of_ble_eq_true rfl) dX10_image_12 ⟨Nat.le_of_ble_eq_true rfl, Nat.le_of_ble_eq_true rfl⟩) (fun r_8 u_8 H locs hp_8 G => ?_)
    obtain ⟨f_8, rfl⟩ : ∃ z, z = u_8 := ⟨_, rfl⟩
    have hq_8 := hp_8
    have G : wd X (va_A (@HAppend.hAppend va_W va_W va_W _ (xW h0 nw sp xa la lb) (@HAppend.hAppend va_W va_W va_W _ (rcW X nw an v b g) (@HAppend.hAppend va_W va_W va_W _ ([((xa 2), .inl (X.2.2.2.1, 2, .inr (.inr (.inr (.inr (imQ i0 i1))))))]) (@HAppend.hAppend va_W va_W va_W _ (rcW X i0 ap vp bp gp) (@HAppend.hAppend va_W va_W va_W _ (rcW X i1 aq vq bq gq) (@HAppend.hAppend va_W va_W va_W _ ([((xa 3), .inl (X.2.2.1, 2, .inl fz))]) ([((xa 5), .inl (X.2.1, 3, .inl fr))]))))))) sz) (va_A (@HAppend.hAppend va_W va_W va_W _ (xW h0 nw sp xa la lb) (@HAppend.hAppend va_W va_W va_W _ (rcW X nw an v b g) (@HAppend.hAppend va_W va_W va_W _ ([((xa 2), .inl (X.2.2.2.1, 2, .inr (.inr (.inr (.inr (imQ i0 i1))))))]) (@HAppend.hAppend va_W va_W va_W _ (rcW X i0 ap vp bp gp) (@HAppend.hAppend va_W va_W va_W _ (rcW X i1 aq vq bq gq) (@HAppend.hAppend va_W va_W va_W _ ([((xa 3), .inl (X.2.2.1, 2, .inl fz))]) ([((xa 5), .inl (X.2.1, 3, .inl fr))]))))))) sz) s (@HAppend.hAppend va_W va_W va_W _ (rcW X nw an v b g) (@HAppend.hAppend va_W va_W va_W _ ([((xa 2), .inl (X.2.2.2.1, 2, .inr (.inr (.inr (.inr (imQ i0 i1))))))]) (@HAppend.hAppend va_W va_W va_W _ (rcW X i0 ap vp bp gp) (@HAppend.hAppend va_W va_W va_W _ (rcW X i1 aq vq bq gq) (@HAppend.hAppend va_W va_W va_W _ ([((xa 3), .inl (X.2.2.1, 2, .inl fz))]) (@HAppend.hAppend va_W va_W va_W _ (xW h0 nw sp xa la lb) ([((xa 5), .inl (X.2.1, 3, .inl f_8))]))))))) H locs := G
    exact e_int S zr zlk (vp_nar_int _) G (vp, bp, gp, vq, bq, gq, fz, f_8) [50, 0, 1, 2, 3, 4, 5, 6, 7, 8, 9, 10, 11, 12, 13, 14, 15, 16, 17, 18, 19, 20, 21, 22, 23, 24, 25, 26, 27, 28, 29, 30, 31, 32, 33, 34, 35, 36, 37, 38, 39, 40, 41, 42, 43, 44, 45, 46, 47, 48, 49, 51] rfl rfl (Or.inr rfl) (⟨hI_bp, hI_bq, Or.inl ⟨hw_1, hq_8, rfl⟩⟩) dX10_image_15
set_option maxHeartbeats 4000000 in
set_option maxRecDepth 100000 in
/-- from -/
theorem s_from2 (l : Launch) (X : EX) (h0 : Nat) (nw : Nat) (sp : Nat) (xa : Nat → Nat) (la : Int64) (lb : Int64) (an : Nat → Nat) (v : Nat → Int32) (b : Nat → Nat) (g : Nat → Nat → Int32) (i0 : Nat) (i1 : Nat) (ap : Nat → Nat) (vp : Nat → Int32) (bp : Nat → Nat) (gp : Nat → Nat → Int32) (aq : Nat → Nat) (vq : Nat → Int32) (bq : Nat → Nat) (gq : Nat → Nat → Int32) (fz : Nat → Int32) (fr : Nat → Int32) (x1 : Int32) (hI_b : InR b) (hI_bp : InR bp) (hI_bq : InR bq) (sz : Nat) : Met l yX10_from wsX10_from ({ frames := 3, cells := 0, slots := 0, locals := 102 } : Room) (pE X [.ref h0, .int x1] (@HAppend.hAppend va_W va_W va_W _ (xW h0 nw sp xa la lb) (@HAppend.hAppend va_W va_W va_W _ (rcW X nw an v b g) (@HAppend.hAppend va_W va_W va_W _ ([((xa 2), .inl (X.2.2.2.1, 2, .inr (.inr (.inr (.inr (imQ i0 i1))))))]) (@HAppend.hAppend va_W va_W va_W _ (rcW X i0 ap vp bp gp) (@HAppend.hAppend va_W va_W va_W _ (rcW X i1 aq vq bq gq) (@HAppend.hAppend va_W va_W va_W _ ([((xa 3), .inl (X.2.2.1, 2, .inl fz))]) ([((xa 5), .inl (X.2.1, 3, .inl fr))]))))))) sz) (qI (fun (r : Int32) (u : (Nat → Int32) × (Nat → Nat) × (Nat → Nat → Int32) × (Nat → Int32)) => InR u.2.1 ∧ ((¬ ((0 : Int32) ≤ x1 ∧ x1 ≤ 1) ∧ r = -2) ∨ (((0 : Int32) ≤ x1 ∧ x1 ≤ 1) ∧ ((fz x1.toNatClampNeg = 0 ∧ r = -3) ∨ (¬ fz x1.toNatClampNeg = 0 ∧ r = 1))))) X (fun (u : (Nat → Int32) × (Nat → Nat) × (Nat → Nat → Int32) × (Nat → Int32)) => @HAppend.hAppend va_W va_W va_W _ (xW h0 nw sp xa la lb) (@HAppend.hAppend va_W va_W va_W _ (rcW X nw an u.1 u.2.1 u.2.2.1) (@HAppend.hAppend va_W va_W va_W _ ([((xa 2), .inl (X.2.2.2.1, 2, .inr (.inr (.inr (.inr (imQ i0 i1))))))]) (@HAppend.hAppend va_W va_W va_W _ (rcW X i0 ap vp bp gp) (@HAppend.hAppend va_W va_W va_W _ (rcW X i1 aq vq bq gq) (@HAppend.hAppend va_W va_W va_W _ ([((xa 3), .inl (X.2.2.1, 2, .inl fz))]) ([((xa 5), .inl (X.2.1, 3, .inl u.2.2.2))]))))))) (@HAppend.hAppend va_W va_W va_W _ (xW h0 nw sp xa la lb) (@HAppend.hAppend va_W va_W va_W _ (rcW X nw an v b g) (@HAppend.hAppend va_W va_W va_W _ ([((xa 2), .inl (X.2.2.2.1, 2, .inr (.inr (.inr (.inr (imQ i0 i1))))))]) (@HAppend.hAppend va_W va_W va_W _ (rcW X i0 ap vp bp gp) (@HAppend.hAppend va_W va_W va_W _ (rcW X i1 aq vq bq gq) (@HAppend.hAppend va_W va_W va_W _ ([((xa 3), .inl (X.2.2.1, 2, .inl fz))]) ([((xa 5), .inl (X.2.1, 3, .inl fr))]))))))) sz) 0 0 (va_A (@HAppend.hAppend va_W va_W va_W _ (xW h0 nw sp xa la lb) (@HAppend.hAppend va_W va_W va_W _ (rcW X nw an v b g) (@HAppend.hAppend va_W va_W va_W _ ([((xa 2), .inl (X.2.2.2.1, 2, .inr (.inr (.inr (.inr (imQ i0 i1))))))]) (@HAppend.hAppend va_W va_W va_W _ (rcW X i0 ap vp bp gp) (@HAppend.hAppend va_W va_W va_W _ (rcW X i1 aq vq bq gq) (@HAppend.hAppend va_W va_W va_W _ ([((xa 3), .inl (X.2.2.1, 2, .inl fz))]) ([((xa 5), .inl (X.2.1, 3, .inl fr))]))))))) sz) := by
  refine mk_met (B := (va_A (@HAppend.hAppend va_W va_W va_W _ (xW h0 nw sp xa la lb) (@HAppend.hAppend va_W va_W va_W _ (rcW X nw an v b g) (@HAppend.hAppend va_W va_W va_W _ ([((xa 2), .inl (X.2.2.2.1, 2, .inr (.inr (.inr (.inr (imQ i0 i1))))))]) (@HAppend.hAppend va_W va_W va_W _ (rcW X i0 ap vp bp gp) (@HAppend.hAppend va_W va_W va_W _ (rcW X i1 aq vq bq gq) (@HAppend.hAppend va_W va_W va_W _ ([((xa 3), .inl (X.2.2.1, 2, .inl fz))]) ([((xa 5), .inl (X.2.1, 3, .inl fr))]))))))) sz)) (A := (va_A (@HAppend.hAppend va_W va_W va_W _ (xW h0 nw sp xa la lb) (@HAppend.hAppend va_W va_W va_W _ (rcW X nw an v b g) (@HAppend.hAppend va_W va_W va_W _ ([((xa 2), .inl (X.2.2.2.1, 2, .inr (.inr (.inr (.inr (imQ i0 i1))))))]) (@HAppend.hAppend va_W va_W va_W _ (rcW X i0 ap vp bp gp) (@HAppend.hAppend va_W va_W va_W _ (rcW X i1 aq vq bq gq) (@HAppend.hAppend va_W va_W va_W _ ([((xa 3), .inl (X.2.2.1, 2, .inl fz))]) ([((xa 5), .inl (X.2.1, 3, .inl fr))]))))))) sz)) (cc := cX10_from) (maxL := 2) (ret := (some .int)) (by decide) rfl (Nat.le_of_ble_eq_true rfl) k_w k_a (fun p e s m below meth c S zr zlk znm zsz G ls hl => ?_)
  have S : CallFix p m c cX10_from 2 s _ wsX10_from RX10 := S
  have zx := S.1
  have zb := S.2.1
  have hl : lv_has ls 2 [(0, .ref h0), (1, .int x1)] := hl
  have hO_b := hI_b
  obtain ⟨hb0_b, hb1_b, hb2_b, hb3_b, hb4_b⟩ := hO_b
  have hO_bp := hI_bp
  obtain ⟨hb0_bp, hb1_bp, hb2_bp, hb3_bp, hb4_bp⟩ := hO_bp
  have hO_bq := hI_bq
  obtain ⟨hb0_bq, hb1_bq, hb2_bq, hb3_bq, hb4_bq⟩ := hO_bq
  refine lv_iload_n zx zb dX10_from_0 rfl (lv_at hl 1 rfl) ?_
  refine lv_iconst (v := 0) zx zb dX10_from_1 (by decide) ?_
  refine lv_iconst (v := 1) zx zb dX10_from_2 (by decide) ?_
  refine o_ri (cells' := 0) (slots' := 0) G rfl rfl (n_S (As := [.int x1, .int 0, .int 1]) (rest := []) S G (s_within l X x1 0 1 s.heap.size) gX10_from_X10_within rfl rfl rfl hdS_X10_within ⟨Nat.le_of_ble_eq_true rfl, Nat.le_of_ble_eq_true rfl⟩ [] rfl rfl rfl hl.1 (Nat.le_of_ble_eq_true rfl) dX10_from_3 ⟨Nat.le_of_ble_eq_true rfl, Nat.le_of_ble_eq_true rfl⟩) (fun r_1 u_1 H locs hp_1 G => ?_)
  have G : wd X (va_A (@HAppend.hAppend va_W va_W va_W _ (xW h0 nw sp xa la lb) (@HAppend.hAppend va_W va_W va_W _ (rcW X nw an v b g) (@HAppend.hAppend va_W va_W va_W _ ([((xa 2), .inl (X.2.2.2.1, 2, .inr (.inr (.inr (.inr (imQ i0 i1))))))]) (@HAppend.hAppend va_W va_W va_W _ (rcW X i0 ap vp bp gp) (@HAppend.hAppend va_W va_W va_W _ (rcW X i1 aq vq bq gq) (@HAppend.hAppend va_W va_W va_W _ ([((xa 3), .inl (X.2.2.1, 2, .inl fz))]) ([((xa 5), .inl (X.2.1, 3, .inl fr))]))))))) sz) (va_A (@HAppend.hAppend va_W va_W va_W _ (xW h0 nw sp xa la lb) (@HAppend.hAppend va_W va_W va_W _ (rcW X nw an v b g) (@HAppend.hAppend va_W va_W va_W _ ([((xa 2), .inl (X.2.2.2.1, 2, .inr (.inr (.inr (.inr (imQ i0 i1))))))]) (@HAppend.hAppend va_W va_W va_W _ (rcW X i0 ap vp bp gp) (@HAppend.hAppend va_W va_W va_W _ (rcW X i1 aq vq bq gq) (@HAppend.hAppend va_W va_W va_W _ ([((xa 3), .inl (X.2.2.1, 2, .inl fz))]) ([((xa 5), .inl (X.2.1, 3, .inl fr))]))))))) sz) s (@HAppend.hAppend va_W va_W va_W _ (xW h0 nw sp xa la lb) (@HAppend.hAppend va_W va_W va_W _ (rcW X nw an v b g) (@HAppend.hAppend va_W va_W va_W _ ([((xa 2), .inl (X.2.2.2.1, 2, .inr (.inr (.inr (.inr (imQ i0 i1))))))]) (@HAppend.hAppend va_W va_W va_W _ (rcW X i0 ap vp bp gp) (@HAppend.hAppend va_W va_W va_W _ (rcW X i1 aq vq bq gq) (@HAppend.hAppend va_W va_W va_W _ ([((xa 3), .inl (X.2.2.1, 2, .inl fz))]) ([((xa 5), .inl (X.2.1, 3, .inl fr))]))))))) H locs := G
  rcases hp_1 with ⟨rfl, hw_1⟩ | ⟨rfl, hw_1⟩
  · refine lv_if_ne (tgt := 16) zx zb dX10_from_6 (by decide) (fun c_2 => ?_) (fun c_2 => absurd c_2 (by decide))
    obtain ⟨j0, hj0, rfl⟩ := k_nat01 hw_1
    refine lv_aload_n zx zb dX10_from_16 rfl (lv_at hl 0 rfl) ?_
    refine r_get (C := RX10) (T := TX10) (N := 14) (ci := 8) (v := .ref (xa 3)) S in_X10_from_X10 G 0 rfl rfl 3 (by decide) lk_X10_from_23 rfl dX10_from_17 ?_
    refine lv_iload_n zx zb dX10_from_20 rfl (lv_at hl 1 rfl) ?_
    refine r_zald (v := (fz ((nI j0) : Int32).toNatClampNeg)) S G 50 rfl (vp_in_nI (by omega) (by decide)) rfl dX10_from_21 ?_
    refine lv_if_ne (tgt := 32) zx zb dX10_from_22 (by decide) (fun c_4 => ?_) (fun c_4 => ?_)
    · refine lv_aload_n zx zb dX10_from_32 rfl (lv_at hl 0 rfl) ?_
      refine r_get (C := RX10) (T := TX10) (N := 14) (ci := 8) (v := .ref nw) S in_X10_from_X10 G 0 rfl rfl 0 (by decide) lk_X10_from_10 rfl dX10_from_33 ?_
      refine lv_aload_n zx zb dX10_from_36 rfl (lv_at hl 0 rfl) ?_
      refine r_get (C := RX10) (T := TX10) (N := 14) (ci := 8) (v := .ref (xa 2)) S in_X10_from_X10 G 0 rfl rfl 2 (by decide) lk_X10_from_19 rfl dX10_from_37 ?_
      refine lv_iload_n zx zb dX10_from_40 rfl (lv_at hl 1 rfl) ?_
      rcases k_2c (show j0 < 2 by omega) with rfl | rfl
      · refine k_it (v := 0) rfl ?_
        refine r_aald (C := RX5) (b := i0) S G 17 2 rfl rfl (k_vp (by decide)) rfl dX10_from_41 ?_
        refine b_wv (cells' := 0) (slots' := 0) (wr := @HAppend.hAppend va_W va_W va_W _ (xW h0 nw sp xa la lb) (@HAppend.hAppend va_W va_W va_W _ ([((xa 2), .inl (X.2.2.2.1, 2, .inr (.inr (.inr (.inr (imQ i0 i1))))))]) (@HAppend.hAppend va_W va_W va_W _ (rcW X i1 aq vq bq gq) (@HAppend.hAppend va_W va_W va_W _ ([((xa 3), .inl (X.2.2.1, 2, .inl fz))]) ([((xa 5), .inl (X.2.1, 3, .inl fr))]))))) G rfl rfl [1, 2, 3, 4, 5, 6, 7, 8, 9, 10, 11, 12, 13, 14, 15, 16, 18, 19, 20, 21, 22, 23, 24, 25, 26, 27, 28, 29, 30, 31, 32, 33] [0, 17, 34, 35, 36, 37, 38, 39, 40, 41, 42, 43, 44, 45, 46, 47, 48, 49, 50, 51] rfl rfl rfl rfl (n_V (As := [.ref i0]) (rest := []) (C := RX5) (T := TX5) (N := 8) (ci := 3) S G (s_copyFrom l X nw an v b g i0 ap vp bp gp hI_b hI_bp H.size) gX10_from_X5_copyFrom rfl rfl rfl hdV_X5_copyFrom ⟨Nat.le_of_ble_eq_true rfl, Nat.le_of_ble_eq_true rfl⟩ [1, 2, 3, 4, 5, 6, 7, 8, 9, 10, 11, 12, 13, 14, 15, 16, 18, 19, 20, 21, 22, 23, 24, 25, 26, 27, 28, 29, 30, 31, 32, 33] rfl rfl 1 rfl rfl rfl hl.1 (Nat.le_of_ble_eq_true rfl) dX10_from_42 ⟨Nat.le_of_ble_eq_true rfl, Nat.le_of_ble_eq_true rfl⟩) (fun u_5 H locs hp_5 G => ?_)
        obtain ⟨v_5a, b_5b, g_5c⟩ := u_5
        obtain ⟨hI_b_5b, hq_5⟩ := hp_5
        have hO_b_5b := hI_b_5b
        obtain ⟨hb0_b_5b, hb1_b_5b, hb2_b_5b, hb3_b_5b, hb4_b_5b⟩ := hO_b_5b
        have G : wd X (va_A (@HAppend.hAppend va_W va_W va_W _ (xW h0 nw sp xa la lb) (@HAppend.hAppend va_W va_W va_W _ (rcW X nw an v b g) (@HAppend.hAppend va_W va_W va_W _ ([((xa 2), .inl (X.2.2.2.1, 2, .inr (.inr (.inr (.inr (imQ i0 i1))))))]) (@HAppend.hAppend va_W va_W va_W _ (rcW X i0 ap vp bp gp) (@HAppend.hAppend va_W va_W va_W _ (rcW X i1 aq vq bq gq) (@HAppend.hAppend va_W va_W va_W _ ([((xa 3), .inl (X.2.2.1, 2, .inl fz))]) ([((xa 5), .inl (X.2.1, 3, .inl fr))]))))))) sz) (va_A (@HAppend.hAppend va_W va_W va_W _ (xW h0 nw sp xa la lb) (@HAppend.hAppend va_W va_W va_W _ (rcW X nw an v b g) (@HAppend.hAppend va_W va_W va_W _ ([((xa 2), .inl (X.2.2.2.1, 2, .inr (.inr (.inr (.inr (imQ i0 i1))))))]) (@HAppend.hAppend va_W va_W va_W _ (rcW X i0 ap vp bp gp) (@HAppend.hAppend va_W va_W va_W _ (rcW X i1 aq vq bq gq) (@HAppend.hAppend va_W va_W va_W _ ([((xa 3), .inl (X.2.2.1, 2, .inl fz))]) ([((xa 5), .inl (X.2.1, 3, .inl fr))]))))))) sz) s (@HAppend.hAppend va_W va_W va_W _ (xW h0 nw sp xa la lb) (@HAppend.hAppend va_W va_W va_W _ ([((xa 2), .inl (X.2.2.2.1, 2, .inr (.inr (.inr (.inr (imQ i0 i1))))))]) (@HAppend.hAppend va_W va_W va_W _ (rcW X i1 aq vq bq gq) (@HAppend.hAppend va_W va_W va_W _ ([((xa 3), .inl (X.2.2.1, 2, .inl fz))]) (@HAppend.hAppend va_W va_W va_W _ ([((xa 5), .inl (X.2.1, 3, .inl fr))]) (@HAppend.hAppend va_W va_W va_W _ (rcW X nw an v_5a b_5b g_5c) (rcW X i0 ap vp bp gp))))))) H locs := G
        refine lv_iconst (v := 1) zx zb dX10_from_45 (by decide) ?_
        exact e_int S zr zlk (vp_nar_int _) G (v_5a, b_5b, g_5c, fr) [0, 20, 21, 22, 23, 24, 25, 26, 27, 28, 29, 30, 31, 32, 33, 34, 35, 1, 36, 37, 38, 39, 40, 41, 42, 43, 44, 45, 46, 47, 48, 49, 50, 51, 2, 3, 4, 5, 6, 7, 8, 9, 10, 11, 12, 13, 14, 15, 16, 17, 18, 19] rfl rfl (Or.inr rfl) (⟨hI_b_5b, Or.inr ⟨hw_1, Or.inr ⟨c_4, rfl⟩⟩⟩) dX10_from_46
      · refine k_it (v := 1) rfl ?_
        refine r_aald (C := RX5) (b := i1) S G 17 2 rfl rfl (k_vp (by decide)) rfl dX10_from_41 ?_
        refine b_wv (cells' := 0) (slots' := 0) (wr := @HAppend.hAppend va_W va_W va_W _ (xW h0 nw sp xa la lb) (@HAppend.hAppend va_W va_W va_W _ ([((xa 2), .inl (X.2.2.2.1, 2, .inr (.inr (.inr (.inr (imQ i0 i1))))))]) (@HAppend.hAppend va_W va_W va_W _ (rcW X i0 ap vp bp gp) (@HAppend.hAppend va_W va_W va_W _ ([((xa 3), .inl (X.2.2.1, 2, .inl fz))]) ([((xa 5), .inl (X.2.1, 3, .inl fr))]))))) G rfl rfl [1, 2, 3, 4, 5, 6, 7, 8, 9, 10, 11, 12, 13, 14, 15, 16, 34, 35, 36, 37, 38, 39, 40, 41, 42, 43, 44, 45, 46, 47, 48, 49] [0, 17, 18, 19, 20, 21, 22, 23, 24, 25, 26, 27, 28, 29, 30, 31, 32, 33, 50, 51] rfl rfl rfl rfl (n_V (As := [.ref i1]) (rest := []) (C := RX5) (T := TX5) (N := 8) (ci := 3) S G (s_copyFrom l X nw an v b g i1 aq vq bq gq hI_b hI_bq H.size) gX10_from_X5_copyFrom rfl rfl rfl hdV_X5_copyFrom ⟨Nat.le_of_ble_eq_true rfl, Nat.le_of_ble_eq_true rfl⟩ [1, 2, 3, 4, 5, 6, 7, 8, 9, 10, 11, 12, 13, 14, 15, 16, 34, 35, 36, 37, 38, 39, 40, 41, 42, 43, 44, 45, 46, 47, 48, 49] rfl rfl 1 rfl rfl rfl hl.1 (Nat.le_of_ble_eq_true rfl) dX10_from_42 ⟨Nat.le_of_ble_eq_true rfl, Nat.le_of_ble_eq_true rfl⟩) (fun u_6 H locs hp_6 G => ?_)
        obtain ⟨v_6a, b_6b, g_6c⟩ := u_6
        obtain ⟨hI_b_6b, hq_6⟩ := hp_6
        have hO_b_6b := hI_b_6b
        obtain ⟨hb0_b_6b, hb1_b_6b, hb2_b_6b, hb3_b_6b, hb4_b_6b⟩ := hO_b_6b
        have G : wd X (va_A (@HAppend.hAppend va_W va_W va_W _ (xW h0 nw sp xa la lb) (@HAppend.hAppend va_W va_W va_W _ (rcW X nw an v b g) (@HAppend.hAppend va_W va_W va_W _ ([((xa 2), .inl (X.2.2.2.1, 2, .inr (.inr (.inr (.inr (imQ i0 i1))))))]) (@HAppend.hAppend va_W va_W va_W _ (rcW X i0 ap vp bp gp) (@HAppend.hAppend va_W va_W va_W _ (rcW X i1 aq vq bq gq) (@HAppend.hAppend va_W va_W va_W _ ([((xa 3), .inl (X.2.2.1, 2, .inl fz))]) ([((xa 5), .inl (X.2.1, 3, .inl fr))]))))))) sz) (va_A (@HAppend.hAppend va_W va_W va_W _ (xW h0 nw sp xa la lb) (@HAppend.hAppend va_W va_W va_W _ (rcW X nw an v b g) (@HAppend.hAppend va_W va_W va_W _ ([((xa 2), .inl (X.2.2.2.1, 2, .inr (.inr (.inr (.inr (imQ i0 i1))))))]) (@HAppend.hAppend va_W va_W va_W _ (rcW X i0 ap vp bp gp) (@HAppend.hAppend va_W va_W va_W _ (rcW X i1 aq vq bq gq) (@HAppend.hAppend va_W va_W va_W _ ([((xa 3), .inl (X.2.2.1, 2, .inl fz))]) ([((xa 5), .inl (X.2.1, 3, .inl fr))]))))))) sz) s (@HAppend.hAppend va_W va_W va_W _ (xW h0 nw sp xa la lb) (@HAppend.hAppend va_W va_W va_W _ ([((xa 2), .inl (X.2.2.2.1, 2, .inr (.inr (.inr (.inr (imQ i0 i1))))))]) (@HAppend.hAppend va_W va_W va_W _ (rcW X i0 ap vp bp gp) (@HAppend.hAppend va_W va_W va_W _ ([((xa 3), .inl (X.2.2.1, 2, .inl fz))]) (@HAppend.hAppend va_W va_W va_W _ ([((xa 5), .inl (X.2.1, 3, .inl fr))]) (@HAppend.hAppend va_W va_W va_W _ (rcW X nw an v_6a b_6b g_6c) (rcW X i1 aq vq bq gq))))))) H locs := G
        refine lv_iconst (v := 1) zx zb dX10_from_45 (by decide) ?_
        exact e_int S zr zlk (vp_nar_int _) G (v_6a, b_6b, g_6c, fr) [0, 20, 21, 22, 23, 24, 25, 26, 27, 28, 29, 30, 31, 32, 33, 34, 35, 1, 2, 3, 4, 5, 6, 7, 8, 9, 10, 11, 12, 13, 14, 15, 16, 17, 36, 37, 38, 39, 40, 41, 42, 43, 44, 45, 46, 47, 48, 49, 50, 51, 18, 19] rfl rfl (Or.inr rfl) (⟨hI_b_6b, Or.inr ⟨hw_1, Or.inr ⟨c_4, rfl⟩⟩⟩) dX10_from_46
    · refine lv_aload_n zx zb dX10_from_25 rfl (lv_at hl 0 rfl) ?_
      refine lv_bipush (v := (-3)) zx zb dX10_from_26 (by decide) ?_
      refine b_wi (cells' := 0) (slots' := 0) (wr := @HAppend.hAppend va_W va_W va_W _ (rcW X nw an v b g) (@HAppend.hAppend va_W va_W va_W _ ([((xa 2), .inl (X.2.2.2.1, 2, .inr (.inr (.inr (.inr (imQ i0 i1))))))]) (@HAppend.hAppend va_W va_W va_W _ (rcW X i0 ap vp bp gp) (@HAppend.hAppend va_W va_W va_W _ (rcW X i1 aq vq bq gq) ([((xa 3), .inl (X.2.2.1, 2, .inl fz))]))))) G rfl rfl [0, 51] [1, 2, 3, 4, 5, 6, 7, 8, 9, 10, 11, 12, 13, 14, 15, 16, 17, 18, 19, 20, 21, 22, 23, 24, 25, 26, 27, 28, 29, 30, 31, 32, 33, 34, 35, 36, 37, 38, 39, 40, 41, 42, 43, 44, 45, 46, 47, 48, 49, 50] rfl rfl rfl rfl (n_V (As := [.int (-3)]) (rest := []) (C := RX10) (T := TX10) (N := 14) (ci := 8) S G (s_refuse l X h0 nw sp xa la lb fr (-3) H.size) gX10_from_X10_refuse rfl rfl rfl hdV_X10_refuse ⟨Nat.le_of_ble_eq_true rfl, Nat.le_of_ble_eq_true rfl⟩ [0, 51] rfl rfl 0 rfl rfl rfl hl.1 (Nat.le_of_ble_eq_true rfl) dX10_from_28 ⟨Nat.le_of_ble_eq_true rfl, Nat.le_of_ble_eq_true rfl⟩) (fun r_7 u_7 H locs hp_7 G => ?_)
      obtain ⟨f_7, rfl⟩ : ∃ z, z = u_7 := ⟨_, rfl⟩
      have hq_7 := hp_7
      have G : wd X (va_A (@HAppend.hAppend va_W va_W va_W _ (xW h0 nw sp xa la lb) (@HAppend.hAppend va_W va_W va_W _ (rcW X nw an v b g) (@HAppend.hAppend va_W va_W va_W _ ([((xa 2), .inl (X.2.2.2.1, 2, .inr (.inr (.inr (.inr (imQ i0 i1))))))]) (@HAppend.hAppend va_W va_W va_W _ (rcW X i0 ap vp bp gp) (@HAppend.hAppend va_W va_W va_W _ (rcW X i1 aq vq bq gq) (@HAppend.hAppend va_W va_W va_W _ ([((xa 3), .inl (X.2.2.1, 2, .inl fz))]) ([((xa 5), .inl (X.2.1, 3, .inl fr))]))))))) sz) (va_A (@HAppend.hAppend va_W va_W va_W _ (xW h0 nw sp xa la lb) (@HAppend.hAppend va_W va_W va_W _ (rcW X nw an v b g) (@HAppend.hAppend va_W va_W va_W _ ([((xa 2), .inl (X.2.2.2.1, 2, .inr (.inr (.inr (.inr (imQ i0 i1))))))]) (@HAppend.hAppend va_W va_W va_W _ (rcW X i0 ap vp bp gp) (@HAppend.hAppend va_W va_W va_W _ (rcW X i1 aq vq bq gq) (@HAppend.hAppend va_W va_W va_W _ ([((xa 3), .inl (X.2.2.1, 2, .inl fz))]) ([((xa 5), .inl (X.2.1, 3, .inl fr))]))))))) sz) s (@HAppend.hAppend va_W va_W va_W _ (rcW X nw an v b g) (@HAppend.hAppend va_W va_W va_W _ ([((xa 2), .inl (X.2.2.2.1, 2, .inr (.inr (.inr (.inr (imQ i0 i1))))))]) (@HAppend.hAppend va_W va_W va_W _ (rcW X i0 ap vp bp gp) (@HAppend.hAppend va_W va_W va_W _ (rcW X i1 aq vq bq gq) (@HAppend.hAppend va_W va_W va_W _ ([((xa 3), .inl (X.2.2.1, 2, .inl fz))]) (@HAppend.hAppend va_W va_W va_W _ (xW h0 nw sp xa la lb) ([((xa 5), .inl (X.2.1, 3, .inl f_7))]))))))) H locs := G
      exact e_int S zr zlk (vp_nar_int _) G (v, b, g, f_7) [50, 0, 1, 2, 3, 4, 5, 6, 7, 8, 9, 10, 11, 12, 13, 14, 15, 16, 17, 18, 19, 20, 21, 22, 23, 24, 25, 26, 27, 28, 29, 30, 31, 32, 33, 34, 35, 36, 37, 38, 39, 40, 41, 42, 43, 44, 45, 46, 47, 48, 49, 51] rfl rfl (Or.inr rfl) (⟨hI_b, Or.inr ⟨hw_1, Or.inl ⟨c_4, hq_7⟩⟩⟩) dX10_from_31
  · refine lv_if_ne (tgt := 16) zx zb dX10_from_6 (by decide) (fun c_8 => absurd (by decide) c_8) (fun c_8 => ?_)
    refine lv_aload_n zx zb dX10_from_9 rfl (lv_at hl 0 rfl) ?_
    refine lv_bipush (v := (-2)) zx zb dX10_from_10 (by decide) ?_
    refine b_wi (cells' := 0) (slots' := 0) (wr := @HAppend.hAppend va_W va_W va_W _ (rcW X nw an v b g) (@HAppend.hAppend va_W va_W va_W _ ([((xa 2), .inl (X.2.2.2.1, 2, .inr (.inr (.inr (.inr (imQ i0 i1))))))]) (@HAppend.hAppend va_W va_W va_W _ (rcW X i0 ap vp bp gp) (@HAppend.hAppend va_W va_W va_W _ (rcW X i1 aq vq bq gq) ([((xa 3), .inl (X.2.2.1, 2, .inl fz))]))))) G rfl rfl [0, 51] [1, 2, 3, 4, 5, 6, 7, 8, 9, 10, 11, 12, 13, 14, 15, 16, 17, 18, 19, 20, 21, 22, 23, 24, 25, 26, 27, 28, 29, 30, 31, 32, 33, 34, 35, 36, 37, 38, 39, 40, 41, 42, 43, 44, 45, 46, 47, 48, 49, 50] rfl rfl rfl rfl (n_V (As := [.int (-2)]) (rest := []) (C := RX10) (T := TX10) (N := 14) (ci := 8) S G (s_refuse l X h0 nw sp xa la lb fr (-2) H.size) gX10_from_X10_refuse rfl rfl rfl hdV_X10_refuse ⟨Nat.le_of_ble_eq_true rfl, Nat.le_of_ble_eq_true rfl⟩ [0, 51] rfl rfl 0 rfl rfl rfl hl.1 (Nat.le_of_ble_eq_true rfl) dX10_from_12 ⟨Nat.le_of_ble_eq_true rfl, Nat.le_of_ble_eq_true rfl⟩) (fun r_9 u_9 H locs hp_9 G => ?_)
    obtain ⟨f_9, rfl⟩ : ∃ z, z = u_9 := ⟨_, rfl⟩
    have hq_9 := hp_9
    have G : wd X (va_A (@HAppend.hAppend va_W va_W va_W _ (xW h0 nw sp xa la lb) (@HAppend.hAppend va_W va_W va_W _ (rcW X nw an v b g) (@HAppend.hAppend va_W va_W va_W _ ([((xa 2), .inl (X.2.2.2.1, 2, .inr (.inr (.inr (.inr (imQ i0 i1))))))]) (@HAppend.hAppend va_W va_W va_W _ (rcW X i0 ap vp bp gp) (@HAppend.hAppend va_W va_W va_W _ (rcW X i1 aq vq bq gq) (@HAppend.hAppend va_W va_W va_W _ ([((xa 3), .inl (X.2.2.1, 2, .inl fz))]) ([((xa 5), .inl (X.2.1, 3, .inl fr))]))))))) sz) (va_A (@HAppend.hAppend va_W va_W va_W _ (xW h0 nw sp xa la lb) (@HAppend.hAppend va_W va_W va_W _ (rcW X nw an v b g) (@HAppend.hAppend va_W va_W va_W _ ([((xa 2), .inl (X.2.2.2.1, 2, .inr (.inr (.inr (.inr (imQ i0 i1))))))]) (@HAppend.hAppend va_W va_W va_W _ (rcW X i0 ap vp bp gp) (@HAppend.hAppend va_W va_W va_W _ (rcW X i1 aq vq bq gq) (@HAppend.hAppend va_W va_W va_W _ ([((xa 3), .inl (X.2.2.1, 2, .inl fz))]) ([((xa 5), .inl (X.2.1, 3, .inl fr))]))))))) sz) s (@HAppend.hAppend va_W va_W va_W _ (rcW X nw an v b g) (@HAppend.hAppend va_W va_W va_W _ ([((xa 2), .inl (X.2.2.2.1, 2, .inr (.inr (.inr (.inr (imQ i0 i1))))))]) (@HAppend.hAppend va_W va_W va_W _ (rcW X i0 ap vp bp gp) (@HAppend.hAppend va_W va_W va_W _ (rcW X i1 aq vq bq gq) (@HAppend.hAppend va_W va_W va_W _ ([((xa 3), .inl (X.2.2.1, 2, .inl fz))]) (@HAppend.hAppend va_W va_W va_W _ (xW h0 nw sp xa la lb) ([((xa 5), .inl (X.2.1, 3, .inl f_9))]))))))) H locs := G
    exact e_int S zr zlk (vp_nar_int _) G (v, b, g, f_9) [50, 0, 1, 2, 3, 4, 5, 6, 7, 8, 9, 10, 11, 12, 13, 14, 15, 16, 17, 18, 19, 20, 21, 22, 23, 24, 25, 26, 27, 28, 29, 30, 31, 32, 33, 34, 35, 36, 37, 38, 39, 40, 41, 42, 43, 44, 45, 46, 47, 48, 49, 51] rfl rfl (Or.inr rfl) (⟨hI_b, Or.inl ⟨hw_1, hq_9⟩⟩) dX10_from_15
theorem in_X10_read_X10 : ∀ w ∈ wsX100, w ∈ wsX10_read := by decide +kernel
theorem lk_X10_read_30 : Cond.fieldLink RX10 30 "EggSpoons" "reader" "LEggSpoons$Reader;" ∈ wsX10_read := by decide +kernel
theorem lk_X10_read_16 : Cond.fieldLink RX10 16 "EggSpoons" "spare" "LEggSpoons$Race;" ∈ wsX10_read := by decide +kernel
theorem hdV_X6_takeRace : yX6_takeRace.cls = RX6 ∧ yX6_takeRace.cls ≠ "java/lang/invoke/MethodHandle" ∧ yX6_takeRace.cls ≠ "java/lang/invoke/VarHandle" ∧ (parseMethodDescriptor yX6_takeRace.desc).map (fun d => d.parameters.length) = some 1 := by decide +kernel
theorem lk_X10_read_10 : Cond.fieldLink RX10 10 "EggSpoons" "now" "LEggSpoons$Race;" ∈ wsX10_read := by decide +kernel
set_option maxHeartbeats 4000000 in
set_option maxRecDepth 100000 in
/-- read -/
theorem s_read (l : Launch) (X : EX) (K : SK) (h0 : Nat) (nw : Nat) (sp : Nat) (xa : Nat → Nat) (la : Int64) (lb : Int64) (an : Nat → Nat) (v : Nat → Int32) (b : Nat → Nat) (g : Nat → Nat → Int32) (ap : Nat → Nat) (vp : Nat → Int32) (bp : Nat → Nat) (gp : Nat → Nat → Int32) (hb : Nat) (n : Nat) (bd : Nat → Nat) (vd : Nat → Int32) (fd : Nat → Int32) (hI_b : InR b) (hI_bp : InR bp) (hI_n : n ≤ 150) (hI_bd : InP bd) (sz : Nat) : Met l yX10_read wsX10_read ({ frames := 7, cells := 0, slots := 0, locals := 151 } : Room) (pS X K [.ref h0] (@HAppend.hAppend va_W va_W va_W _ (xW h0 nw sp xa la lb) (@HAppend.hAppend va_W va_W va_W _ (rcW X nw an v b g) (@HAppend.hAppend va_W va_W va_W _ (rcW X sp ap vp bp gp) (rdV X (xa 4) hb n bd vd fd)))) sz) (qI (fun (r : Int32) (u : Bool × (Nat → Int32) × (Nat → Nat) × (Nat → Nat → Int32) × (Nat → Nat) × (Nat → Int32)) => InR u.2.2.1 ∧ InP u.2.2.2.2.1 ∧ (True)) X (fun (u : Bool × (Nat → Int32) × (Nat → Nat) × (Nat → Nat → Int32) × (Nat → Nat) × (Nat → Int32)) => @HAppend.hAppend va_W va_W va_W _ (xW h0 (cond u.1 sp nw) (cond u.1 nw sp) xa la lb) (@HAppend.hAppend va_W va_W va_W _ (rcW X nw an v b g) (@HAppend.hAppend va_W va_W va_W _ (rcW X sp ap u.2.1 u.2.2.1 u.2.2.2.1) (rdV X (xa 4) hb n u.2.2.2.2.1 u.2.2.2.2.2 fd)))) (@HAppend.hAppend va_W va_W va_W _ (xW h0 nw sp xa la lb) (@HAppend.hAppend va_W va_W va_W _ (rcW X nw an v b g) (@HAppend.hAppend va_W va_W va_W _ (rcW X sp ap vp bp gp) (rdV X (xa 4) hb n bd vd fd)))) sz) 0 0 (va_A (@HAppend.hAppend va_W va_W va_W _ (xW h0 nw sp xa la lb) (@HAppend.hAppend va_W va_W va_W _ (rcW X nw an v b g) (@HAppend.hAppend va_W va_W va_W _ (rcW X sp ap vp bp gp) (rdV X (xa 4) hb n bd vd fd)))) sz) := by
  refine mk_metS (B := (va_A (@HAppend.hAppend va_W va_W va_W _ (xW h0 nw sp xa la lb) (@HAppend.hAppend va_W va_W va_W _ (rcW X nw an v b g) (@HAppend.hAppend va_W va_W va_W _ (rcW X sp ap vp bp gp) (rdV X (xa 4) hb n bd vd fd)))) sz)) (A := (va_A (@HAppend.hAppend va_W va_W va_W _ (xW h0 nw sp xa la lb) (@HAppend.hAppend va_W va_W va_W _ (rcW X nw an v b g) (@HAppend.hAppend va_W va_W va_W _ (rcW X sp ap vp bp gp) (rdV X (xa 4) hb n bd vd fd)))) sz)) (cc := cX10_read) (maxL := 3) (ret := (some .int)) (by decide) rfl (Nat.le_of_ble_eq_true rfl) k_w k_a (fun p e s m below meth c S zr zlk znm zsz G hZ ls hl => ?_)
  have S : CallFix p m c cX10_read 3 s _ wsX10_read RX10 := S
  have zx := S.1
  have zb := S.2.1
  have hl : lv_has ls 3 [(0, .ref h0)] := hl
  have hO_b := hI_b
  obtain ⟨hb0_b, hb1_b, hb2_b, hb3_b, hb4_b⟩ := hO_b
  have hO_bp := hI_bp
  obtain ⟨hb0_bp, hb1_bp, hb2_bp, hb3_bp, hb4_bp⟩ := hO_bp
  have hO_bd := hI_bd
  obtain ⟨hd0_bd, hd1_bd⟩ := hO_bd
  refine lv_aload_n zx zb dX10_read_0 rfl (lv_at hl 0 rfl) ?_
  refine r_get (C := RX10) (T := TX10) (N := 14) (ci := 8) (v := .ref (xa 4)) S in_X10_read_X10 G 0 rfl rfl 4 (by decide) lk_X10_read_30 rfl dX10_read_1 ?_
  refine lv_aload_n zx zb dX10_read_4 rfl (lv_at hl 0 rfl) ?_
  refine r_get (C := RX10) (T := TX10) (N := 14) (ci := 8) (v := .ref sp) S in_X10_read_X10 G 0 rfl rfl 1 (by decide) lk_X10_read_16 rfl dX10_read_5 ?_
  refine b_wi (cells' := 0) (slots' := 0) (wr := @HAppend.hAppend va_W va_W va_W _ (xW h0 nw sp xa la lb) (rcW X nw an v b g)) G rfl rfl [33, 34, 17, 18, 19, 20, 21, 22, 23, 24, 25, 26, 27, 28, 29, 30, 31, 32] [0, 1, 2, 3, 4, 5, 6, 7, 8, 9, 10, 11, 12, 13, 14, 15, 16] rfl rfl rfl rfl (n_VS (As := [.ref sp]) (rest := []) (C := RX6) (T := TX6) (N := 7) (ci := 4) S G hZ (s_takeRace l X K (xa 4) hb n bd vd fd sp ap vp bp gp hI_n hI_bd hI_bp s.heap.size) gX10_read_X6_takeRace rfl rfl rfl hdV_X6_takeRace ⟨Nat.le_of_ble_eq_true rfl, Nat.le_of_ble_eq_true rfl⟩ [33, 34, 17, 18, 19, 20, 21, 22, 23, 24, 25, 26, 27, 28, 29, 30, 31, 32] rfl rfl 33 rfl rfl rfl hl.1 (Nat.le_of_ble_eq_true rfl) dX10_read_8 ⟨Nat.le_of_ble_eq_true rfl, Nat.le_of_ble_eq_true rfl⟩) (fun r_1 u_1 H locs hp_1 G => ?_)
  obtain ⟨b_1a, v_1b, v_1c, b_1d, g_1e⟩ := u_1
  obtain ⟨hI_b_1a, hI_b_1d, hq_1⟩ := hp_1
  have hO_b_1a := hI_b_1a
  obtain ⟨hd0_b_1a, hd1_b_1a⟩ := hO_b_1a
  have hO_b_1d := hI_b_1d
  obtain ⟨hb0_b_1d, hb1_b_1d, hb2_b_1d, hb3_b_1d, hb4_b_1d⟩ := hO_b_1d
  have G : wd X (va_A (@HAppend.hAppend va_W va_W va_W _ (xW h0 nw sp xa la lb) (@HAppend.hAppend va_W va_W va_W _ (rcW X nw an v b g) (@HAppend.hAppend va_W va_W va_W _ (rcW X sp ap vp bp gp) (rdV X (xa 4) hb n bd vd fd)))) sz) (va_A (@HAppend.hAppend va_W va_W va_W _ (xW h0 nw sp xa la lb) (@HAppend.hAppend va_W va_W va_W _ (rcW X nw an v b g) (@HAppend.hAppend va_W va_W va_W _ (rcW X sp ap vp bp gp) (rdV X (xa 4) hb n bd vd fd)))) sz) s (@HAppend.hAppend va_W va_W va_W _ (xW h0 nw sp xa la lb) (@HAppend.hAppend va_W va_W va_W _ (rcW X nw an v b g) (@HAppend.hAppend va_W va_W va_W _ (rdV X (xa 4) hb n b_1a v_1b fd) (rcW X sp ap v_1c b_1d g_1e)))) H locs := G
  refine lv_istore_n (lv' := [(1, .int r_1), (0, .ref h0)]) zx zb dX10_read_11 rfl hl (by decide) rfl (fun ls hl => ?_)
  refine lv_iload_n zx zb dX10_read_12 rfl (lv_at hl 0 rfl) ?_
  refine lv_if_lt (tgt := 34) zx zb dX10_read_13 (by decide) (fun c_2 => ?_) (fun c_2 => ?_)
  · refine lv_iload_n zx zb dX10_read_34 rfl (lv_at hl 0 rfl) ?_
    exact e_int S zr zlk (vp_nar_int _) G (false, v_1c, b_1d, g_1e, b_1a, v_1b) [0, 1, 2, 3, 4, 5, 6, 7, 8, 9, 10, 11, 12, 13, 14, 15, 16, 19, 20, 21, 22, 23, 24, 25, 26, 27, 28, 29, 30, 31, 32, 33, 34, 17, 18] rfl rfl (Or.inr rfl) (⟨hI_b_1d, hI_b_1a, trivial⟩) dX10_read_35
  · refine lv_aload_n zx zb dX10_read_16 rfl (lv_at hl 1 rfl) ?_
    refine r_get (C := RX10) (T := TX10) (N := 14) (ci := 8) (v := .ref nw) S in_X10_read_X10 G 0 rfl rfl 0 (by decide) lk_X10_read_10 rfl dX10_read_17 ?_
    refine lv_astore_n (lv' := [(2, .ref nw), (1, .int r_1), (0, .ref h0)]) zx zb dX10_read_20 rfl hl (by decide) rfl (fun ls hl => ?_)
    refine lv_aload_n zx zb dX10_read_21 rfl (lv_at hl 2 rfl) ?_
    refine lv_aload_n zx zb dX10_read_22 rfl (lv_at hl 2 rfl) ?_
    refine r_get (C := RX10) (T := TX10) (N := 14) (ci := 8) (v := .ref sp) S in_X10_read_X10 G 0 rfl rfl 1 (by decide) lk_X10_read_16 rfl dX10_read_23 ?_
    refine r_put (C := RX10) (T := TX10) (N := 14) (ci := 8) (v := .ref sp) S in_X10_read_X10 tyX10_ok nmX10 G 0 rfl rfl 0 (by decide) lk_X10_read_10 rfl rfl rfl (Nat.le_of_ble_eq_true rfl) dX10_read_26 (fun H locs G => ?_)
    have G : wd X (va_A (@HAppend.hAppend va_W va_W va_W _ (xW h0 nw sp xa la lb) (@HAppend.hAppend va_W va_W va_W _ (rcW X nw an v b g) (@HAppend.hAppend va_W va_W va_W _ (rcW X sp ap vp bp gp) (rdV X (xa 4) hb n bd vd fd)))) sz) (va_A (@HAppend.hAppend va_W va_W va_W _ (xW h0 nw sp xa la lb) (@HAppend.hAppend va_W va_W va_W _ (rcW X nw an v b g) (@HAppend.hAppend va_W va_W va_W _ (rcW X sp ap vp bp gp) (rdV X (xa 4) hb n bd vd fd)))) sz) s (@HAppend.hAppend va_W va_W va_W _ (xW h0 sp sp xa la lb) (@HAppend.hAppend va_W va_W va_W _ (rcW X nw an v b g) (@HAppend.hAppend va_W va_W va_W _ (rdV X (xa 4) hb n b_1a v_1b fd) (rcW X sp ap v_1c b_1d g_1e)))) H locs := G
    refine lv_aload_n zx zb dX10_read_29 rfl (lv_at hl 2 rfl) ?_
    refine lv_aload_n zx zb dX10_read_30 rfl (lv_at hl 0 rfl) ?_
    refine r_put (C := RX10) (T := TX10) (N := 14) (ci := 8) (v := .ref nw) S in_X10_read_X10 tyX10_ok nmX10 G 0 rfl rfl 1 (by decide) lk_X10_read_16 rfl rfl rfl (Nat.le_of_ble_eq_true rfl) dX10_read_31 (fun H locs G => ?_)
    have G : wd X (va_A (@HAppend.hAppend va_W va_W va_W _ (xW h0 nw sp xa la lb) (@HAppend.hAppend va_W va_W va_W _ (rcW X nw an v b g) (@HAppend.hAppend va_W va_W va_W _ (rcW X sp ap vp bp gp) (rdV X (xa 4) hb n bd vd fd)))) sz) (va_A (@HAppend.hAppend va_W va_W va_W _ (xW h0 nw sp xa la lb) (@HAppend.hAppend va_W va_W va_W _ (rcW X nw an v b g) (@HAppend.hAppend va_W va_W va_W _ (rcW X sp ap vp bp gp) (rdV X (xa 4) hb n bd vd fd)))) sz) s (@HAppend.hAppend va_W va_W va_W _ (xW h0 sp nw xa la lb) (@HAppend.hAppend va_W va_W va_W _ (rcW X nw an v b g) (@HAppend.hAppend va_W va_W va_W _ (rdV X (xa 4) hb n b_1a v_1b fd) (rcW X sp ap v_1c b_1d g_1e)))) H locs := G
    refine lv_iload_n zx zb dX10_read_34 rfl (lv_at hl 1 rfl) ?_
    exact e_int S zr zlk (vp_nar_int _) G (true, v_1c, b_1d, g_1e, b_1a, v_1b) [0, 1, 2, 3, 4, 5, 6, 7, 8, 9, 10, 11, 12, 13, 14, 15, 16, 19, 20, 21, 22, 23, 24, 25, 26, 27, 28, 29, 30, 31, 32, 33, 34, 17, 18] rfl rfl (Or.inr rfl) (⟨hI_b_1d, hI_b_1a, trivial⟩) dX10_read_35
