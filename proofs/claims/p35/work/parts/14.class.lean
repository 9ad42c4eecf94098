set_option maxRecDepth 20000 in
theorem ggX10_homeTurning_X10_homeBehind : GoodIn wsX10_homeTurning wsX10_homeBehind := goodIn_r _ [14, 5, 7, 15, 8, 9, 16, 17, 18, 19, 20, 21, 22, 23, 24, 25, 26, 27, 28, 29, 30, 31, 32, 33, 34, 35, 36, 37, 38, 39, 40, 41, 42, 43, 44, 45, 46, 47, 48, 49, 50, 51, 52, 53, 54, 55, 56, 57, 58, 59, 60, 61, 62, 71, 72, 73, 74, 75, 76, 77, 78, 63, 64, 65, 66, 67, 68, 69, 70] rfl (by decide +kernel)
set_option maxRecDepth 20000 in
theorem gX10_homeTurning_X10_homeBehind : GoodIn wsX10_homeTurning (wsV RX10 156 RX10 yX10_homeBehind wsX10_homeBehind) := goodIn_app (goodIn_of _ (by decide +kernel)) ggX10_homeTurning_X10_homeBehind
set_option maxRecDepth 20000 in
theorem ggX10_homeTurning_X8_ticksToHome : GoodIn wsX10_homeTurning wsX8_ticksToHome := goodIn_r _ [32, 33, 34, 35, 19, 36, 28, 37, 38, 39, 40, 27, 21, 22, 24, 23, 26, 25, 41, 42, 43, 44, 45, 46, 47, 48, 63, 64, 65, 66, 67, 68, 69, 70] rfl (by decide +kernel)
set_option maxRecDepth 20000 in
theorem gX10_homeTurning_X8_ticksToHome : GoodIn wsX10_homeTurning (wsV RX10 165 RX8 yX8_ticksToHome wsX8_ticksToHome) := goodIn_app (goodIn_of _ (by decide +kernel)) ggX10_homeTurning_X8_ticksToHome
set_option maxRecDepth 20000 in
theorem ggX10_turn_X10_homeTurning : GoodIn wsX10_turn wsX10_homeTurning := goodIn_r _ [26, 27, 28, 29, 30, 31, 32, 1, 33, 34, 35, 36, 37, 6, 38, 2, 39, 40, 41, 20, 42, 43, 44, 45, 46, 47, 48, 49, 22, 50, 51, 52, 53, 54, 18, 19, 21, 55, 56, 57, 58, 59, 60, 61, 62, 63, 64, 65, 66, 67, 68, 69, 70, 71, 72, 73, 74, 75, 76, 77, 78, 79, 80, 89, 90, 91, 92, 93, 94, 95, 96, 81, 82, 83, 84, 85, 86, 87, 88] rfl (by decide +kernel)
set_option maxRecDepth 20000 in
theorem gX10_turn_X10_homeTurning : GoodIn wsX10_turn (wsV RX10 168 RX10 yX10_homeTurning wsX10_homeTurning) := goodIn_app (goodIn_of _ (by decide +kernel)) ggX10_turn_X10_homeTurning
set_option maxRecDepth 20000 in
theorem ggX10_turn_X10_refuse : GoodIn wsX10_turn wsX10_refuse := goodIn_r _ [15, 16, 67, 68, 69, 70, 71, 72, 73, 74, 75, 76, 77, 78, 79, 80] rfl (by decide +kernel)
set_option maxRecDepth 20000 in
theorem gX10_turn_X10_refuse : GoodIn wsX10_turn (wsV RX10 83 RX10 yX10_refuse wsX10_refuse) := goodIn_app (goodIn_of _ (by decide +kernel)) ggX10_turn_X10_refuse
set_option maxRecDepth 20000 in
theorem ggX10_turn_X10_there : GoodIn wsX10_turn wsX10_there := goodIn_r _ [7, 1, 8, 67, 68, 69, 70, 71, 72, 73, 74, 75, 76, 77, 78, 79, 80, 81, 82, 83, 84, 85, 86, 87, 88] rfl (by decide +kernel)
set_option maxRecDepth 20000 in
theorem gX10_turn_X10_there : GoodIn wsX10_turn (wsV RX10 123 RX10 yX10_there wsX10_there) := goodIn_app (goodIn_of _ (by decide +kernel)) ggX10_turn_X10_there
set_option maxRecDepth 20000 in
theorem ggX10_turn_X10_within : GoodIn wsX10_turn wsX10_within := goodIn_r _ [11] rfl (by decide +kernel)
set_option maxRecDepth 20000 in
theorem gX10_turn_X10_within : GoodIn wsX10_turn (va_wsS RX10 79 yX10_within wsX10_within) := goodIn_app (goodIn_of _ (by decide +kernel)) ggX10_turn_X10_within
set_option maxRecDepth 20000 in
theorem ggX10_turn_X8_isHome : GoodIn wsX10_turn wsX8_isHome := goodIn_r _ [21, 22, 89, 90, 91, 92, 93, 94, 95, 96] rfl (by decide +kernel)
set_option maxRecDepth 20000 in
theorem gX10_turn_X8_isHome : GoodIn wsX10_turn (wsV RX10 133 RX8 yX8_isHome wsX8_isHome) := goodIn_app (goodIn_of _ (by decide +kernel)) ggX10_turn_X8_isHome
theorem dX10_homeTurning_0 : decode cX10_homeTurning 0 = .ok (.aload_n 0, 1) := by decide +kernel
theorem dX10_homeTurning_1 : decode cX10_homeTurning 1 = .ok (.iload_n 1, 1) := by decide +kernel
theorem dX10_homeTurning_11 : decode cX10_homeTurning 11 = .ok (.istore 5, 2) := by decide +kernel
theorem dX10_homeTurning_13 : decode cX10_homeTurning 13 = .ok (.iload 5, 2) := by decide +kernel
theorem dX10_homeTurning_15 : decode cX10_homeTurning 15 = .ok (.iconst (-1), 1) := by decide +kernel
theorem dX10_homeTurning_16 : decode cX10_homeTurning 16 = .ok (.if_icmp .ne 9, 3) := by decide +kernel
theorem dX10_homeTurning_19 : decode cX10_homeTurning 19 = .ok (.iload_n 3, 1) := by decide +kernel
theorem dX10_homeTurning_2 : decode cX10_homeTurning 2 = .ok (.iload_n 3, 1) := by decide +kernel
theorem dX10_homeTurning_20 : decode cX10_homeTurning 20 = .ok (.iload 4, 2) := by decide +kernel
theorem dX10_homeTurning_22 : decode cX10_homeTurning 22 = .ok (.if_icmp .lt 6, 3) := by decide +kernel
theorem dX10_homeTurning_25 : decode cX10_homeTurning 25 = .ok (.iload 5, 2) := by decide +kernel
theorem dX10_homeTurning_27 : decode cX10_homeTurning 27 = .ok (.ireturn, 1) := by decide +kernel
theorem dX10_homeTurning_28 : decode cX10_homeTurning 28 = .ok (.aload_n 0, 1) := by decide +kernel
theorem dX10_homeTurning_29 : decode cX10_homeTurning 29 = .ok (.getfield 48, 3) := by decide +kernel
theorem dX10_homeTurning_3 : decode cX10_homeTurning 3 = .ok (.iload 4, 2) := by decide +kernel
theorem dX10_homeTurning_32 : decode cX10_homeTurning 32 = .ok (.iload_n 2, 1) := by decide +kernel
theorem dX10_homeTurning_33 : decode cX10_homeTurning 33 = .ok (.putfield 130, 3) := by decide +kernel
theorem dX10_homeTurning_36 : decode cX10_homeTurning 36 = .ok (.aload_n 0, 1) := by decide +kernel
theorem dX10_homeTurning_37 : decode cX10_homeTurning 37 = .ok (.getfield 48, 3) := by decide +kernel
theorem dX10_homeTurning_40 : decode cX10_homeTurning 40 = .ok (.aload_n 0, 1) := by decide +kernel
theorem dX10_homeTurning_41 : decode cX10_homeTurning 41 = .ok (.getfield 10, 3) := by decide +kernel
theorem dX10_homeTurning_44 : decode cX10_homeTurning 44 = .ok (.getfield 110, 3) := by decide +kernel
theorem dX10_homeTurning_47 : decode cX10_homeTurning 47 = .ok (.iload_n 3, 1) := by decide +kernel
theorem dX10_homeTurning_48 : decode cX10_homeTurning 48 = .ok (.iadd, 1) := by decide +kernel
theorem dX10_homeTurning_49 : decode cX10_homeTurning 49 = .ok (.aload_n 0, 1) := by decide +kernel
theorem dX10_homeTurning_5 : decode cX10_homeTurning 5 = .ok (.invokestatic 300, 3) := by decide +kernel
theorem dX10_homeTurning_50 : decode cX10_homeTurning 50 = .ok (.getfield 10, 3) := by decide +kernel
theorem dX10_homeTurning_53 : decode cX10_homeTurning 53 = .ok (.getfield 140, 3) := by decide +kernel
theorem dX10_homeTurning_56 : decode cX10_homeTurning 56 = .ok (.iload 4, 2) := by decide +kernel
theorem dX10_homeTurning_58 : decode cX10_homeTurning 58 = .ok (.iload_n 3, 1) := by decide +kernel
theorem dX10_homeTurning_59 : decode cX10_homeTurning 59 = .ok (.isub, 1) := by decide +kernel
theorem dX10_homeTurning_60 : decode cX10_homeTurning 60 = .ok (.invokevirtual 165, 3) := by decide +kernel
theorem dX10_homeTurning_63 : decode cX10_homeTurning 63 = .ok (.istore 6, 2) := by decide +kernel
theorem dX10_homeTurning_65 : decode cX10_homeTurning 65 = .ok (.iload 6, 2) := by decide +kernel
theorem dX10_homeTurning_67 : decode cX10_homeTurning 67 = .ok (.iconst (-1), 1) := by decide +kernel
theorem dX10_homeTurning_68 : decode cX10_homeTurning 68 = .ok (.if_icmp .ne 7, 3) := by decide +kernel
theorem dX10_homeTurning_71 : decode cX10_homeTurning 71 = .ok (.iconst (-1), 1) := by decide +kernel
theorem dX10_homeTurning_72 : decode cX10_homeTurning 72 = .ok (.goto 7, 3) := by decide +kernel
theorem dX10_homeTurning_75 : decode cX10_homeTurning 75 = .ok (.iload_n 3, 1) := by decide +kernel
theorem dX10_homeTurning_76 : decode cX10_homeTurning 76 = .ok (.iload 6, 2) := by decide +kernel
theorem dX10_homeTurning_78 : decode cX10_homeTurning 78 = .ok (.iadd, 1) := by decide +kernel
theorem dX10_homeTurning_79 : decode cX10_homeTurning 79 = .ok (.ireturn, 1) := by decide +kernel
theorem dX10_homeTurning_8 : decode cX10_homeTurning 8 = .ok (.invokevirtual 156, 3) := by decide +kernel
theorem dX10_turn_0 : decode cX10_turn 0 = .ok (.aload_n 0, 1) := by decide +kernel
theorem dX10_turn_1 : decode cX10_turn 1 = .ok (.iload_n 1, 1) := by decide +kernel
theorem dX10_turn_10 : decode cX10_turn 10 = .ok (.bipush 9, 2) := by decide +kernel
theorem dX10_turn_100 : decode cX10_turn 100 = .ok (.isub, 1) := by decide +kernel
theorem dX10_turn_101 : decode cX10_turn 101 = .ok (.istore 6, 2) := by decide +kernel
theorem dX10_turn_103 : decode cX10_turn 103 = .ok (.iinc 7 1, 3) := by decide +kernel
theorem dX10_turn_106 : decode cX10_turn 106 = .ok (.goto (-42), 3) := by decide +kernel
theorem dX10_turn_109 : decode cX10_turn 109 = .ok (.iload_n 3, 1) := by decide +kernel
theorem dX10_turn_110 : decode cX10_turn 110 = .ok (.ifCond .ne 8, 3) := by decide +kernel
theorem dX10_turn_113 : decode cX10_turn 113 = .ok (.iload 4, 2) := by decide +kernel
theorem dX10_turn_115 : decode cX10_turn 115 = .ok (.goto 5, 3) := by decide +kernel
theorem dX10_turn_118 : decode cX10_turn 118 = .ok (.iload 5, 2) := by decide +kernel
theorem dX10_turn_12 : decode cX10_turn 12 = .ok (.invokestatic 79, 3) := by decide +kernel
theorem dX10_turn_120 : decode cX10_turn 120 = .ok (.ireturn, 1) := by decide +kernel
theorem dX10_turn_15 : decode cX10_turn 15 = .ok (.ifCond .eq 12, 3) := by decide +kernel
theorem dX10_turn_18 : decode cX10_turn 18 = .ok (.iload_n 3, 1) := by decide +kernel
theorem dX10_turn_19 : decode cX10_turn 19 = .ok (.iconst 0, 1) := by decide +kernel
theorem dX10_turn_2 : decode cX10_turn 2 = .ok (.invokevirtual 123, 3) := by decide +kernel
theorem dX10_turn_20 : decode cX10_turn 20 = .ok (.iconst 1, 1) := by decide +kernel
theorem dX10_turn_21 : decode cX10_turn 21 = .ok (.invokestatic 79, 3) := by decide +kernel
theorem dX10_turn_24 : decode cX10_turn 24 = .ok (.ifCond .ne 10, 3) := by decide +kernel
theorem dX10_turn_27 : decode cX10_turn 27 = .ok (.aload_n 0, 1) := by decide +kernel
theorem dX10_turn_28 : decode cX10_turn 28 = .ok (.bipush (-2), 2) := by decide +kernel
theorem dX10_turn_30 : decode cX10_turn 30 = .ok (.invokevirtual 83, 3) := by decide +kernel
theorem dX10_turn_33 : decode cX10_turn 33 = .ok (.ireturn, 1) := by decide +kernel
theorem dX10_turn_34 : decode cX10_turn 34 = .ok (.aload_n 0, 1) := by decide +kernel
theorem dX10_turn_35 : decode cX10_turn 35 = .ok (.getfield 10, 3) := by decide +kernel
theorem dX10_turn_38 : decode cX10_turn 38 = .ok (.getfield 126, 3) := by decide +kernel
theorem dX10_turn_41 : decode cX10_turn 41 = .ok (.iload_n 1, 1) := by decide +kernel
theorem dX10_turn_42 : decode cX10_turn 42 = .ok (.aaload, 1) := by decide +kernel
theorem dX10_turn_43 : decode cX10_turn 43 = .ok (.invokevirtual 133, 3) := by decide +kernel
theorem dX10_turn_46 : decode cX10_turn 46 = .ok (.ifCond .eq 5, 3) := by decide +kernel
theorem dX10_turn_49 : decode cX10_turn 49 = .ok (.iconst (-1), 1) := by decide +kernel
theorem dX10_turn_5 : decode cX10_turn 5 = .ok (.ifCond .eq 22, 3) := by decide +kernel
theorem dX10_turn_50 : decode cX10_turn 50 = .ok (.ireturn, 1) := by decide +kernel
theorem dX10_turn_51 : decode cX10_turn 51 = .ok (.iconst (-1), 1) := by decide +kernel
theorem dX10_turn_52 : decode cX10_turn 52 = .ok (.istore 4, 2) := by decide +kernel
theorem dX10_turn_54 : decode cX10_turn 54 = .ok (.iconst (-1), 1) := by decide +kernel
theorem dX10_turn_55 : decode cX10_turn 55 = .ok (.istore 5, 2) := by decide +kernel
theorem dX10_turn_57 : decode cX10_turn 57 = .ok (.bipush 60, 2) := by decide +kernel
theorem dX10_turn_59 : decode cX10_turn 59 = .ok (.istore 6, 2) := by decide +kernel
theorem dX10_turn_61 : decode cX10_turn 61 = .ok (.iconst 0, 1) := by decide +kernel
theorem dX10_turn_62 : decode cX10_turn 62 = .ok (.istore 7, 2) := by decide +kernel
theorem dX10_turn_64 : decode cX10_turn 64 = .ok (.iload 7, 2) := by decide +kernel
theorem dX10_turn_66 : decode cX10_turn 66 = .ok (.bipush 30, 2) := by decide +kernel
theorem dX10_turn_68 : decode cX10_turn 68 = .ok (.if_icmp .gt 41, 3) := by decide +kernel
theorem dX10_turn_71 : decode cX10_turn 71 = .ok (.aload_n 0, 1) := by decide +kernel
theorem dX10_turn_72 : decode cX10_turn 72 = .ok (.iload_n 1, 1) := by decide +kernel
theorem dX10_turn_73 : decode cX10_turn 73 = .ok (.iload_n 2, 1) := by decide +kernel
theorem dX10_turn_74 : decode cX10_turn 74 = .ok (.iload 7, 2) := by decide +kernel
theorem dX10_turn_76 : decode cX10_turn 76 = .ok (.iload 6, 2) := by decide +kernel
theorem dX10_turn_78 : decode cX10_turn 78 = .ok (.invokevirtual 168, 3) := by decide +kernel
theorem dX10_turn_8 : decode cX10_turn 8 = .ok (.iload_n 2, 1) := by decide +kernel
theorem dX10_turn_81 : decode cX10_turn 81 = .ok (.istore 8, 2) := by decide +kernel
theorem dX10_turn_83 : decode cX10_turn 83 = .ok (.iload 8, 2) := by decide +kernel
theorem dX10_turn_85 : decode cX10_turn 85 = .ok (.iconst (-1), 1) := by decide +kernel
theorem dX10_turn_86 : decode cX10_turn 86 = .ok (.if_icmp .eq 17, 3) := by decide +kernel
theorem dX10_turn_89 : decode cX10_turn 89 = .ok (.iload 7, 2) := by decide +kernel
theorem dX10_turn_9 : decode cX10_turn 9 = .ok (.iconst 0, 1) := by decide +kernel
theorem dX10_turn_91 : decode cX10_turn 91 = .ok (.istore 4, 2) := by decide +kernel
theorem dX10_turn_93 : decode cX10_turn 93 = .ok (.iload 8, 2) := by decide +kernel
theorem dX10_turn_95 : decode cX10_turn 95 = .ok (.istore 5, 2) := by decide +kernel
theorem dX10_turn_97 : decode cX10_turn 97 = .ok (.iload 8, 2) := by decide +kernel
theorem dX10_turn_99 : decode cX10_turn 99 = .ok (.iconst 1, 1) := by decide +kernel
theorem mm_X10_homeTurning_ml300 : Cond.methodLink RX10 300 Lib.Math.min.name ∈ wsX10_homeTurning := by decide +kernel
theorem mm_X10_homeTurning_msmin : Cond.static Lib.Math.min.name ∈ wsX10_homeTurning := by decide +kernel
theorem mm_X10_homeTurning_mi : Cond.initialized "java/lang/Math" ∈ wsX10_homeTurning := by decide +kernel
theorem mm_X10_homeTurning_mcmin : Cond.code Lib.Math.min.name Lib.Math.min.code 2 (some .int) ∈ wsX10_homeTurning := by decide +kernel
theorem in_X10_homeTurning_X10 : ∀ w ∈ wsX100, w ∈ wsX10_homeTurning := by decide +kernel
theorem lk_X10_homeTurning_48 : Cond.fieldLink RX10 48 "EggSpoons" "ghost" "LEggSpoons$Runner;" ∈ wsX10_homeTurning := by decide +kernel
theorem in_X10_homeTurning_X8 : ∀ w ∈ wsX80, w ∈ wsX10_homeTurning := by decide +kernel
theorem lk_X10_homeTurning_130 : Cond.fieldLink RX10 130 "EggSpoons$Runner" "speed" "I" ∈ wsX10_homeTurning := by decide +kernel
theorem lk_X10_homeTurning_10 : Cond.fieldLink RX10 10 "EggSpoons" "now" "LEggSpoons$Race;" ∈ wsX10_homeTurning := by decide +kernel
theorem in_X10_homeTurning_X5 : ∀ w ∈ wsX50, w ∈ wsX10_homeTurning := by decide +kernel
theorem lk_X10_homeTurning_110 : Cond.fieldLink RX10 110 "EggSpoons$Race" "tick" "I" ∈ wsX10_homeTurning := by decide +kernel
theorem lk_X10_homeTurning_140 : Cond.fieldLink RX10 140 "EggSpoons$Race" "length" "I" ∈ wsX10_homeTurning := by decide +kernel
set_option maxHeartbeats 4000000 in
set_option maxRecDepth 100000 in
/-- homeTurning -/
theorem s_homeTurning (l : Launch) (X : EX) (h0 : Nat) (nw : Nat) (sp : Nat) (xa : Nat → Nat) (la : Int64) (lb : Int64) (an : Nat → Nat) (v : Nat → Int32) (b : Nat → Nat) (g : Nat → Nat → Int32) (vg : Nat → Int32) (i : Nat) (x2 : Int32) (k : Nat) (x4 : Int32) (hI_b : InR b) (hi6 : i < 6) (hk3 : k ≤ 30) (hl6 : x4 ≤ 60) (sz : Nat) : Met l yX10_homeTurning wsX10_homeTurning ({ frames := 4, cells := 0, slots := 0, locals := 95 } : Room) (pE X [.ref h0, .int (nI i), .int x2, .int (nI k), .int x4] (@HAppend.hAppend va_W va_W va_W _ (xW h0 nw sp xa la lb) (@HAppend.hAppend va_W va_W va_W _ (rcW X nw an v b g) (rnW (xa 8) vg))) sz) (qI (fun (r : Int32) (u : (Nat → Int32)) => ((-1 : Int32) ≤ r ∧ r ≤ 60)) X (fun (u : (Nat → Int32)) => @HAppend.hAppend va_W va_W va_W _ (xW h0 nw sp xa la lb) (@HAppend.hAppend va_W va_W va_W _ (rcW X nw an v b g) (rnW (xa 8) u))) (@HAppend.hAppend va_W va_W va_W _ (xW h0 nw sp xa la lb) (@HAppend.hAppend va_W va_W va_W _ (rcW X nw an v b g) (rnW (xa 8) vg))) sz) 0 0 (va_A (@HAppend.hAppend va_W va_W va_W _ (xW h0 nw sp xa la lb) (@HAppend.hAppend va_W va_W va_W _ (rcW X nw an v b g) (rnW (xa 8) vg))) sz) := by
  refine mk_met (B := (va_A (@HAppend.hAppend va_W va_W va_W _ (xW h0 nw sp xa la lb) (@HAppend.hAppend va_W va_W va_W _ (rcW X nw an v b g) (rnW (xa 8) vg))) sz)) (A := (va_A (@HAppend.hAppend va_W va_W va_W _ (xW h0 nw sp xa la lb) (@HAppend.hAppend va_W va_W va_W _ (rcW X nw an v b g) (rnW (xa 8) vg))) sz)) (cc := cX10_homeTurning) (maxL := 7) (ret := (some .int)) (by decide) rfl (Nat.le_of_ble_eq_true rfl) k_w k_a (fun p e s m below meth c S zr zlk znm zsz G ls hl => ?_)
  have S : CallFix p m c cX10_homeTurning 7 s _ wsX10_homeTurning RX10 := S
  have zx := S.1
  have zb := S.2.1
  have hl : lv_has ls 7 [(0, .ref h0), (1, .int (nI i)), (2, .int x2), (3, .int (nI k)), (4, .int x4)] := hl
  have hO_b := hI_b
  obtain ⟨hb0_b, hb1_b, hb2_b, hb3_b, hb4_b⟩ := hO_b
  refine lv_aload_n zx zb dX10_homeTurning_0 rfl (lv_at hl 0 rfl) ?_
  refine lv_iload_n zx zb dX10_homeTurning_1 rfl (lv_at hl 1 rfl) ?_
  refine lv_iload_n zx zb dX10_homeTurning_2 rfl (lv_at hl 3 rfl) ?_
  refine lv_iload zx zb dX10_homeTurning_3 (lv_at hl 4 rfl) ?_
  refine r_mminP S hl.1 mm_X10_homeTurning_ml300 mm_X10_homeTurning_msmin mm_X10_homeTurning_mi mm_X10_homeTurning_mcmin (Nat.le_of_ble_eq_true rfl) (Nat.le_of_ble_eq_true rfl) (Nat.zero_le _) (Nat.zero_le _) dX10_homeTurning_5 (by first | decide | assumption) (fun y_1 h_y_1 => ?_)
  refine b_wi (cells' := 0) (slots' := 0) (wr := []) G rfl rfl [0, 1, 2, 3, 4, 5, 6, 7, 8, 9, 10, 11, 12, 13, 14, 15, 16, 17] [] rfl rfl rfl rfl (n_V (As := [.int (nI i), .int y_1]) (rest := []) (C := RX10) (T := TX10) (N := 14) (ci := 8) S G (s_homeBehind l X h0 nw sp xa la lb an v b g vg i y_1 hI_b (by omega) (by first | decide | assumption | exact k_60a (by assumption)) s.heap.size) gX10_homeTurning_X10_homeBehind rfl rfl rfl hdV_X10_homeBehind ⟨Nat.le_of_ble_eq_true rfl, Nat.le_of_ble_eq_true rfl⟩ [0, 1, 2, 3, 4, 5, 6, 7, 8, 9, 10, 11, 12, 13, 14, 15, 16, 17] rfl rfl 0 rfl rfl rfl hl.1 (Nat.le_of_ble_eq_true rfl) dX10_homeTurning_8 ⟨Nat.le_of_ble_eq_true rfl, Nat.le_of_ble_eq_true rfl⟩) (fun r_2 u_2 H locs hp_2 G => ?_)
  obtain ⟨v_2, rfl⟩ : ∃ z, z = u_2 := ⟨_, rfl⟩
  have hq_2 := hp_2
  have G : wd X (va_A (@HAppend.hAppend va_W va_W va_W _ (xW h0 nw sp xa la lb) (@HAppend.hAppend va_W va_W va_W _ (rcW X nw an v b g) (rnW (xa 8) vg))) sz) (va_A (@HAppend.hAppend va_W va_W va_W _ (xW h0 nw sp xa la lb) (@HAppend.hAppend va_W va_W va_W _ (rcW X nw an v b g) (rnW (xa 8) vg))) sz) s (@HAppend.hAppend va_W va_W va_W _ (xW h0 nw sp xa la lb) (@HAppend.hAppend va_W va_W va_W _ (rcW X nw an v b g) (rnW (xa 8) v_2))) H locs := G
  refine lv_istore (lv' := [(5, .int r_2), (0, .ref h0), (1, .int (nI i)), (2, .int x2), (3, .int (nI k)), (4, .int x4)]) zx zb dX10_homeTurning_11 hl (by decide) rfl (fun ls hl => ?_)
  refine lv_iload zx zb dX10_homeTurning_13 (lv_at hl 0 rfl) ?_
  refine lv_iconst (v := (-1)) zx zb dX10_homeTurning_15 (by decide) ?_
  refine lv_icmp_ne (tgt := 25) zx zb dX10_homeTurning_16 (by decide) (fun c_3 => ?_) (fun c_3 => ?_)
  · refine lv_iload zx zb dX10_homeTurning_25 (lv_at hl 0 rfl) ?_
    exact e_int S zr zlk (vp_nar_int _) G (v_2) [0, 1, 2, 3, 4, 5, 6, 7, 8, 9, 10, 11, 12, 13, 14, 15, 16, 17] rfl rfl (Or.inr rfl) (by first | assumption | decide | exact k_tu hk3 hl6 (by assumption) (by assumption) (by assumption)) dX10_homeTurning_27
  · refine lv_iload_n zx zb dX10_homeTurning_19 rfl (lv_at hl 4 rfl) ?_
    refine lv_iload zx zb dX10_homeTurning_20 (lv_at hl 5 rfl) ?_
    refine lv_icmp_lt (tgt := 28) zx zb dX10_homeTurning_22 (by decide) (fun c_4 => ?_) (fun c_4 => ?_)
    · refine lv_aload_n zx zb dX10_homeTurning_28 rfl (lv_at hl 1 rfl) ?_
      refine r_get (C := RX10) (T := TX10) (N := 14) (ci := 8) (v := .ref (xa 8)) S in_X10_homeTurning_X10 G 0 rfl rfl 8 (by decide) lk_X10_homeTurning_48 rfl dX10_homeTurning_29 ?_
      refine lv_iload_n zx zb dX10_homeTurning_32 rfl (lv_at hl 3 rfl) ?_
      refine r_put (C := RX8) (T := TX8) (N := 8) (ci := 6) (v := .int x2) S in_X10_homeTurning_X8 tyX8_ok nmX8 G 17 rfl rfl 3 (by decide) lk_X10_homeTurning_130 rfl (vp_nar_int _) rfl (Nat.le_of_ble_eq_true rfl) dX10_homeTurning_33 (fun H locs G => ?_)
      obtain ⟨v_5, G⟩ : ∃ v_5 : Nat → Int32, wd X (va_A (@HAppend.hAppend va_W va_W va_W _ (xW h0 nw sp xa la lb) (@HAppend.hAppend va_W va_W va_W _ (rcW X nw an v b g) (rnW (xa 8) vg))) sz) (va_A (@HAppend.hAppend va_W va_W va_W _ (xW h0 nw sp xa la lb) (@HAppend.hAppend va_W va_W va_W _ (rcW X nw an v b g) (rnW (xa 8) vg))) sz) s (@HAppend.hAppend va_W va_W va_W _ (xW h0 nw sp xa la lb) (@HAppend.hAppend va_W va_W va_W _ (rcW X nw an v b g) (rnW (xa 8) v_5))) H locs := ⟨upd v_2 3 x2, G⟩
      refine lv_aload_n zx zb dX10_homeTurning_36 rfl (lv_at hl 1 rfl) ?_
      refine r_get (C := RX10) (T := TX10) (N := 14) (ci := 8) (v := .ref (xa 8)) S in_X10_homeTurning_X10 G 0 rfl rfl 8 (by decide) lk_X10_homeTurning_48 rfl dX10_homeTurning_37 ?_
      refine lv_aload_n zx zb dX10_homeTurning_40 rfl (lv_at hl 1 rfl) ?_
      refine r_get (C := RX10) (T := TX10) (N := 14) (ci := 8) (v := .ref nw) S in_X10_homeTurning_X10 G 0 rfl rfl 0 (by decide) lk_X10_homeTurning_10 rfl dX10_homeTurning_41 ?_
      refine r_get (C := RX5) (T := TX5) (N := 8) (ci := 3) (v := .int (v 1)) S in_X10_homeTurning_X5 G 1 rfl rfl 1 (by decide) lk_X10_homeTurning_110 rfl dX10_homeTurning_44 ?_
      refine lv_iload_n zx zb dX10_homeTurning_47 rfl (lv_at hl 4 rfl) ?_
      refine r_iadd (v := ((v 1) + (nI k))) S rfl dX10_homeTurning_48 ?_
      refine lv_aload_n zx zb dX10_homeTurning_49 rfl (lv_at hl 1 rfl) ?_
      refine r_get (C := RX10) (T := TX10) (N := 14) (ci := 8) (v := .ref nw) S in_X10_homeTurning_X10 G 0 rfl rfl 0 (by decide) lk_X10_homeTurning_10 rfl dX10_homeTurning_50 ?_
      refine r_get (C := RX5) (T := TX5) (N := 8) (ci := 3) (v := .int (v 0)) S in_X10_homeTurning_X5 G 1 rfl rfl 0 (by decide) lk_X10_homeTurning_140 rfl dX10_homeTurning_53 ?_
      refine lv_iload zx zb dX10_homeTurning_56 (lv_at hl 5 rfl) ?_
      refine lv_iload_n zx zb dX10_homeTurning_58 rfl (lv_at hl 4 rfl) ?_
      refine r_isub (v := (x4 - (nI k))) S rfl dX10_homeTurning_59 ?_
      refine b_wi (cells' := 0) (slots' := 0) (wr := @HAppend.hAppend va_W va_W va_W _ (xW h0 nw sp xa la lb) (rcW X nw an v b g)) G rfl rfl [17] [0, 1, 2, 3, 4, 5, 6, 7, 8, 9, 10, 11, 12, 13, 14, 15, 16] rfl rfl rfl rfl (n_V (As := [.int ((v 1) + (nI k)), .int (v 0), .int (x4 - (nI k))]) (rest := []) (C := RX8) (T := TX8) (N := 8) (ci := 6) S G (s_ticksToHome l X (xa 8) v_5 ((v 1) + (nI k)) (v 0) (x4 - (nI k)) (by first | decide | assumption | exact k_60a (by assumption) | exact k_s60 hk3 hl6 (by assumption)) H.size) gX10_homeTurning_X8_ticksToHome rfl rfl rfl hdV_X8_ticksToHome ⟨Nat.le_of_ble_eq_true rfl, Nat.le_of_ble_eq_true rfl⟩ [17] rfl rfl 17 rfl rfl rfl hl.1 (Nat.le_of_ble_eq_true rfl) dX10_homeTurning_60 ⟨Nat.le_of_ble_eq_true rfl, Nat.le_of_ble_eq_true rfl⟩) (fun r_6 u_6 H locs hp_6 G => ?_)
      obtain ⟨v_6, rfl⟩ : ∃ z, z = u_6 := ⟨_, rfl⟩
      have hq_6 := hp_6
      obtain ⟨hq_6, hs_6⟩ := hq_6
      have G : wd X (va_A (@HAppend.hAppend va_W va_W va_W _ (xW h0 nw sp xa la lb) (@HAppend.hAppend va_W va_W va_W _ (rcW X nw an v b g) (rnW (xa 8) vg))) sz) (va_A (@HAppend.hAppend va_W va_W va_W _ (xW h0 nw sp xa la lb) (@HAppend.hAppend va_W va_W va_W _ (rcW X nw an v b g) (rnW (xa 8) vg))) sz) s (@HAppend.hAppend va_W va_W va_W _ (xW h0 nw sp xa la lb) (@HAppend.hAppend va_W va_W va_W _ (rcW X nw an v b g) (rnW (xa 8) v_6))) H locs := G
      refine lv_istore (lv' := [(6, .int r_6), (5, .int r_2), (0, .ref h0), (1, .int (nI i)), (2, .int x2), (3, .int (nI k)), (4, .int x4)]) zx zb dX10_homeTurning_63 hl (by decide) rfl (fun ls hl => ?_)
      refine lv_iload zx zb dX10_homeTurning_65 (lv_at hl 0 rfl) ?_
      refine lv_iconst (v := (-1)) zx zb dX10_homeTurning_67 (by decide) ?_
      refine lv_icmp_ne (tgt := 75) zx zb dX10_homeTurning_68 (by decide) (fun c_7 => ?_) (fun c_7 => ?_)
      · refine lv_iload_n zx zb dX10_homeTurning_75 rfl (lv_at hl 5 rfl) ?_
        refine lv_iload zx zb dX10_homeTurning_76 (lv_at hl 0 rfl) ?_
        refine r_iadd (v := ((nI k) + r_6)) S rfl dX10_homeTurning_78 ?_
        exact e_int S zr zlk (vp_nar_int _) G (v_6) [0, 1, 2, 3, 4, 5, 6, 7, 8, 9, 10, 11, 12, 13, 14, 15, 16, 17] rfl rfl (Or.inr rfl) (by first | assumption | decide | exact k_tu hk3 hl6 (by assumption) (by assumption) (by assumption)) dX10_homeTurning_79
      · refine lv_iconst (v := (-1)) zx zb dX10_homeTurning_71 (by decide) ?_
        refine lv_goto (tgt := 79) zx zb dX10_homeTurning_72 (by decide) ?_
        exact e_int S zr zlk (vp_nar_int _) G (v_6) [0, 1, 2, 3, 4, 5, 6, 7, 8, 9, 10, 11, 12, 13, 14, 15, 16, 17] rfl rfl (Or.inr rfl) (by first | assumption | decide | exact k_tu hk3 hl6 (by assumption) (by assumption) (by assumption)) dX10_homeTurning_79
    · refine lv_iload zx zb dX10_homeTurning_25 (lv_at hl 0 rfl) ?_
      exact e_int S zr zlk (vp_nar_int _) G (v_2) [0, 1, 2, 3, 4, 5, 6, 7, 8, 9, 10, 11, 12, 13, 14, 15, 16, 17] rfl rfl (Or.inr rfl) (by first | assumption | decide | exact k_tu hk3 hl6 (by assumption) (by assumption) (by assumption)) dX10_homeTurning_27
theorem in_X10_turn_X10 : ∀ w ∈ wsX100, w ∈ wsX10_turn := by decide +kernel
theorem lk_X10_turn_10 : Cond.fieldLink RX10 10 "EggSpoons" "now" "LEggSpoons$Race;" ∈ wsX10_turn := by decide +kernel
theorem in_X10_turn_X5 : ∀ w ∈ wsX50, w ∈ wsX10_turn := by decide +kernel
theorem lk_X10_turn_126 : Cond.fieldLink RX10 126 "EggSpoons$Race" "row" "[LEggSpoons$Runner;" ∈ wsX10_turn := by decide +kernel
theorem hdV_X10_homeTurning : yX10_homeTurning.cls = RX10 ∧ yX10_homeTurning.cls ≠ "java/lang/invoke/MethodHandle" ∧ yX10_homeTurning.cls ≠ "java/lang/invoke/VarHandle" ∧ (parseMethodDescriptor yX10_homeTurning.desc).map (fun d => d.parameters.length) = some 4 := by decide +kernel
set_option maxHeartbeats 4000000 in
set_option maxRecDepth 100000 in
/-- turn -/
theorem s_turn (l : Launch) (X : EX) (h0 : Nat) (nw : Nat) (sp : Nat) (xa : Nat → Nat) (la : Int64) (lb : Int64) (an : Nat → Nat) (v : Nat → Int32) (b : Nat → Nat) (g : Nat → Nat → Int32) (vg : Nat → Int32) (fr : Nat → Int32) (x1 : Int32) (x2 : Int32) (x3 : Int32) (hI_b : InR b) (sz : Nat) : Met l yX10_turn wsX10_turn ({ frames := 5, cells := 0, slots := 0, locals := 121 } : Room) (pE X [.ref h0, .int x1, .int x2, .int x3] (@HAppend.hAppend va_W va_W va_W _ (xW h0 nw sp xa la lb) (@HAppend.hAppend va_W va_W va_W _ (rcW X nw an v b g) (@HAppend.hAppend va_W va_W va_W _ (rnW (xa 8) vg) ([((xa 5), .inl (X.2.1, 3, .inl fr))])))) sz) (qI (fun (r : Int32) (u : (Nat → Int32) × (Nat → Int32)) => (True)) X (fun (u : (Nat → Int32) × (Nat → Int32)) => @HAppend.hAppend va_W va_W va_W _ (xW h0 nw sp xa la lb) (@HAppend.hAppend va_W va_W va_W _ (rcW X nw an v b g) (@HAppend.hAppend va_W va_W va_W _ (rnW (xa 8) u.1) ([((xa 5), .inl (X.2.1, 3, .inl u.2))])))) (@HAppend.hAppend va_W va_W va_W _ (xW h0 nw sp xa la lb) (@HAppend.hAppend va_W va_W va_W _ (rcW X nw an v b g) (@HAppend.hAppend va_W va_W va_W _ (rnW (xa 8) vg) ([((xa 5), .inl (X.2.1, 3, .inl fr))])))) sz) 0 0 (va_A (@HAppend.hAppend va_W va_W va_W _ (xW h0 nw sp xa la lb) (@HAppend.hAppend va_W va_W va_W _ (rcW X nw an v b g) (@HAppend.hAppend va_W va_W va_W _ (rnW (xa 8) vg) ([((xa 5), .inl (X.2.1, 3, .inl fr))])))) sz) := by
  refine mk_met (B := (va_A (@HAppend.hAppend va_W va_W va_W _ (xW h0 nw sp xa la lb) (@HAppend.hAppend va_W va_W va_W _ (rcW X nw an v b g) (@HAppend.hAppend va_W va_W va_W _ (rnW (xa 8) vg) ([((xa 5), .inl (X.2.1, 3, .inl fr))])))) sz)) (A := (va_A (@HAppend.hAppend va_W va_W va_W _ (xW h0 nw sp xa la lb) (@HAppend.hAppend va_W va_W va_W _ (rcW X nw an v b g) (@HAppend.hAppend va_W va_W va_W _ (rnW (xa 8) vg) ([((xa 5), .inl (X.2.1, 3, .inl fr))])))) sz)) (cc := cX10_turn) (maxL := 9) (ret := (some .int)) (by decide) rfl (Nat.le_of_ble_eq_true rfl) k_w k_a (fun p e s m below meth c S zr zlk znm zsz G ls hl => ?_)
  have S : CallFix p m c cX10_turn 9 s _ wsX10_turn RX10 := S
  have zx := S.1
  have zb := S.2.1
  have hl : lv_has ls 9 [(0, .ref h0), (1, .int x1), (2, .int x2), (3, .int x3)] := hl
  have hO_b := hI_b
  obtain ⟨hb0_b, hb1_b, hb2_b, hb3_b, hb4_b⟩ := hO_b
  refine lv_aload_n zx zb dX10_turn_0 rfl (lv_at hl 0 rfl) ?_
  refine lv_iload_n zx zb dX10_turn_1 rfl (lv_at hl 1 rfl) ?_
  refine o_ri (cells' := 0) (slots' := 0) G rfl rfl (n_V (As := [.int x1]) (rest := []) (C := RX10) (T := TX10) (N := 14) (ci := 8) S G (s_there l X h0 nw sp xa la lb an v b g x1 hI_b s.heap.size) gX10_turn_X10_there rfl rfl rfl hdV_X10_there ⟨Nat.le_of_ble_eq_true rfl, Nat.le_of_ble_eq_true rfl⟩ [0, 1, 2, 3, 4, 5, 6, 7, 8, 9, 10, 11, 12, 13, 14, 15, 16] rfl rfl 0 rfl rfl rfl hl.1 (Nat.le_of_ble_eq_true rfl) dX10_turn_2 ⟨Nat.le_of_ble_eq_true rfl, Nat.le_of_ble_eq_true rfl⟩) (fun r_1 u_1 H locs hp_1 G => ?_)
  have G : wd X (va_A (@HAppend.hAppend va_W va_W va_W _ (xW h0 nw sp xa la lb) (@HAppend.hAppend va_W va_W va_W _ (rcW X nw an v b g) (@HAppend.hAppend va_W va_W va_W _ (rnW (xa 8) vg) ([((xa 5), .inl (X.2.1, 3, .inl fr))])))) sz) (va_A (@HAppend.hAppend va_W va_W va_W _ (xW h0 nw sp xa la lb) (@HAppend.hAppend va_W va_W va_W _ (rcW X nw an v b g) (@HAppend.hAppend va_W va_W va_W _ (rnW (xa 8) vg) ([((xa 5), .inl (X.2.1, 3, .inl fr))])))) sz) s (@HAppend.hAppend va_W va_W va_W _ (xW h0 nw sp xa la lb) (@HAppend.hAppend va_W va_W va_W _ (rcW X nw an v b g) (@HAppend.hAppend va_W va_W va_W _ (rnW (xa 8) vg) ([((xa 5), .inl (X.2.1, 3, .inl fr))])))) H locs := G
  rcases hp_1 with ⟨rfl, hj_1⟩ | rfl
  · obtain ⟨j_1, hj_1, rfl⟩ := hj_1
    refine lv_if_eq (tgt := 27) zx zb dX10_turn_5 (by decide) (fun c_2 => absurd c_2 (by decide)) (fun c_2 => ?_)
    refine lv_iload_n zx zb dX10_turn_8 rfl (lv_at hl 2 rfl) ?_
    refine lv_iconst (v := 0) zx zb dX10_turn_9 (by decide) ?_
    refine lv_bipush (v := 9) zx zb dX10_turn_10 (by decide) ?_
    refine o_ri (cells' := 0) (slots' := 0) G rfl rfl (n_S (As := [.int x2, .int 0, .int 9]) (rest := []) S G (s_within l X x2 0 9 H.size) gX10_turn_X10_within rfl rfl rfl hdS_X10_within ⟨Nat.le_of_ble_eq_true rfl, Nat.le_of_ble_eq_true rfl⟩ [] rfl rfl rfl hl.1 (Nat.le_of_ble_eq_true rfl) dX10_turn_12 ⟨Nat.le_of_ble_eq_true rfl, Nat.le_of_ble_eq_true rfl⟩) (fun r_3 u_3 H locs hp_3 G => ?_)
    have G : wd X (va_A (@HAppend.hAppend va_W va_W va_W _ (xW h0 nw sp xa la lb) (@HAppend.hAppend va_W va_W va_W _ (rcW X nw an v b g) (@HAppend.hAppend va_W va_W va_W _ (rnW (xa 8) vg) ([((xa 5), .inl (X.2.1, 3, .inl fr))])))) sz) (va_A (@HAppend.hAppend va_W va_W va_W _ (xW h0 nw sp xa la lb) (@HAppend.hAppend va_W va_W va_W _ (rcW X nw an v b g) (@HAppend.hAppend va_W va_W va_W _ (rnW (xa 8) vg) ([((xa 5), .inl (X.2.1, 3, .inl fr))])))) sz) s (@HAppend.hAppend va_W va_W va_W _ (xW h0 nw sp xa la lb) (@HAppend.hAppend va_W va_W va_W _ (rcW X nw an v b g) (@HAppend.hAppend va_W va_W va_W _ (rnW (xa 8) vg) ([((xa 5), .inl (X.2.1, 3, .inl fr))])))) H locs := G
    rcases hp_3 with ⟨rfl, hw_3⟩ | ⟨rfl, hw_3⟩
    · refine lv_if_eq (tgt := 27) zx zb dX10_turn_15 (by decide) (fun c_4 => absurd c_4 (by decide)) (fun c_4 => ?_)
      refine lv_iload_n zx zb dX10_turn_18 rfl (lv_at hl 3 rfl) ?_
      refine lv_iconst (v := 0) zx zb dX10_turn_19 (by decide) ?_
      refine lv_iconst (v := 1) zx zb dX10_turn_20 (by decide) ?_
      refine o_ri (cells' := 0) (slots' := 0) G rfl rfl (n_S (As := [.int x3, .int 0, .int 1]) (rest := []) S G (s_within l X x3 0 1 H.size) gX10_turn_X10_within rfl rfl rfl hdS_X10_within ⟨Nat.le_of_ble_eq_true rfl, Nat.le_of_ble_eq_true rfl⟩ [] rfl rfl rfl hl.1 (Nat.le_of_ble_eq_true rfl) dX10_turn_21 ⟨Nat.le_of_ble_eq_true rfl, Nat.le_of_ble_eq_true rfl⟩) (fun r_5 u_5 H locs hp_5 G => ?_)
      have G : wd X (va_A (@HAppend.hAppend va_W va_W va_W _ (xW h0 nw sp xa la lb) (@HAppend.hAppend va_W va_W va_W _ (rcW X nw an v b g) (@HAppend.hAppend va_W va_W va_W _ (rnW (xa 8) vg) ([((xa 5), .inl (X.2.1, 3, .inl fr))])))) sz) (va_A (@HAppend.hAppend va_W va_W va_W _ (xW h0 nw sp xa la lb) (@HAppend.hAppend va_W va_W va_W _ (rcW X nw an v b g) (@HAppend.hAppend va_W va_W va_W _ (rnW (xa 8) vg) ([((xa 5), .inl (X.2.1, 3, .inl fr))])))) sz) s (@HAppend.hAppend va_W va_W va_W _ (xW h0 nw sp xa la lb) (@HAppend.hAppend va_W va_W va_W _ (rcW X nw an v b g) (@HAppend.hAppend va_W va_W va_W _ (rnW (xa 8) vg) ([((xa 5), .inl (X.2.1, 3, .inl fr))])))) H locs := G
      rcases hp_5 with ⟨rfl, hw_5⟩ | ⟨rfl, hw_5⟩
      · refine lv_if_ne (tgt := 34) zx zb dX10_turn_24 (by decide) (fun c_6 => ?_) (fun c_6 => absurd c_6 (by decide))
        refine lv_aload_n zx zb dX10_turn_34 rfl (lv_at hl 0 rfl) ?_
        refine r_get (C := RX10) (T := TX10) (N := 14) (ci := 8) (v := .ref nw) S in_X10_turn_X10 G 0 rfl rfl 0 (by decide) lk_X10_turn_10 rfl dX10_turn_35 ?_
        refine r_get (C := RX5) (T := TX5) (N := 8) (ci := 3) (v := .ref (an 0)) S in_X10_turn_X5 G 1 rfl rfl 3 (by decide) lk_X10_turn_126 rfl dX10_turn_38 ?_
        refine lv_iload_n zx zb dX10_turn_41 rfl (lv_at hl 1 rfl) ?_
        rcases k_6c (show j_1 < 6 by omega) with rfl | rfl | rfl | rfl | rfl | rfl
        · refine k_it (v := 0) rfl ?_
          refine r_aald (C := RX8) (b := (an 1)) S G 2 3 rfl rfl (k_vp (by decide)) rfl dX10_turn_42 ?_
          refine o_ri (cells' := 0) (slots' := 0) G rfl rfl (n_V (As := []) (rest := []) (C := RX8) (T := TX8) (N := 8) (ci := 6) S G (s_isHome l X (an 1) (fun k => v (10 + k)) H.size) gX10_turn_X8_isHome rfl rfl rfl hdV_X8_isHome ⟨Nat.le_of_ble_eq_true rfl, Nat.le_of_ble_eq_true rfl⟩ [3] rfl rfl 3 rfl rfl rfl hl.1 (Nat.le_of_ble_eq_true rfl) dX10_turn_43 ⟨Nat.le_of_ble_eq_true rfl, Nat.le_of_ble_eq_true rfl⟩) (fun r_7 u_7 H locs hp_7 G => ?_)
          have G : wd X (va_A (@HAppend.hAppend va_W va_W va_W _ (xW h0 nw sp xa la lb) (@HAppend.hAppend va_W va_W va_W _ (rcW X nw an v b g) (@HAppend.hAppend va_W va_W va_W _ (rnW (xa 8) vg) ([((xa 5), .inl (X.2.1, 3, .inl fr))])))) sz) (va_A (@HAppend.hAppend va_W va_W va_W _ (xW h0 nw sp xa la lb) (@HAppend.hAppend va_W va_W va_W _ (rcW X nw an v b g) (@HAppend.hAppend va_W va_W va_W _ (rnW (xa 8) vg) ([((xa 5), .inl (X.2.1, 3, .inl fr))])))) sz) s (@HAppend.hAppend va_W va_W va_W _ (xW h0 nw sp xa la lb) (@HAppend.hAppend va_W va_W va_W _ (rcW X nw an v b g) (@HAppend.hAppend va_W va_W va_W _ (rnW (xa 8) vg) ([((xa 5), .inl (X.2.1, 3, .inl fr))])))) H locs := G
          refine lv_if_eq (tgt := 51) zx zb dX10_turn_46 (by decide) (fun c_8 => ?_) (fun c_8 => ?_)
          · refine lv_iconst (v := (-1)) zx zb dX10_turn_51 (by decide) ?_
            refine lv_istore (lv' := [(4, .int (-1)), (0, .ref h0), (1, .int 0), (2, .int x2), (3, .int x3)]) zx zb dX10_turn_52 hl (by decide) rfl (fun ls hl => ?_)
            refine lv_iconst (v := (-1)) zx zb dX10_turn_54 (by decide) ?_
            refine lv_istore (lv' := [(5, .int (-1)), (4, .int (-1)), (0, .ref h0), (1, .int 0), (2, .int x2), (3, .int x3)]) zx zb dX10_turn_55 hl (by decide) rfl (fun ls hl => ?_)
            refine lv_bipush (v := 60) zx zb dX10_turn_57 (by decide) ?_
            refine lv_istore (lv' := [(6, .int 60), (5, .int (-1)), (4, .int (-1)), (0, .ref h0), (1, .int 0), (2, .int x2), (3, .int x3)]) zx zb dX10_turn_59 hl (by decide) rfl (fun ls hl => ?_)
            refine lv_iconst (v := 0) zx zb dX10_turn_61 (by decide) ?_
            refine lv_istore (lv' := [(7, .int 0), (6, .int 60), (5, .int (-1)), (4, .int (-1)), (0, .ref h0), (1, .int 0), (2, .int x2), (3, .int x3)]) zx zb dX10_turn_62 hl (by decide) rfl (fun ls hl => ?_)
            refine k_loop (P := ∀ (zm : Nat) (k64 : Nat) (x64_6 : Int32) (x64_5 : Int32) (x64_4 : Int32) (v64_2 : Nat → Int32) (H : Heap) (locs : List Loc) (ls : Array Slot), 31 + 1 ≤ k64 + zm → (k64 ≤ 31) → (x64_6 ≤ 60) → wd X (va_A (@HAppend.hAppend va_W va_W va_W _ (xW h0 nw sp xa la lb) (@HAppend.hAppend va_W va_W va_W _ (rcW X nw an v b g) (@HAppend.hAppend va_W va_W va_W _ (rnW (xa 8) vg) ([((xa 5), .inl (X.2.1, 3, .inl fr))])))) sz) (va_A (@HAppend.hAppend va_W va_W va_W _ (xW h0 nw sp xa la lb) (@HAppend.hAppend va_W va_W va_W _ (rcW X nw an v b g) (@HAppend.hAppend va_W va_W va_W _ (rnW (xa 8) vg) ([((xa 5), .inl (X.2.1, 3, .inl fr))])))) sz) s (@HAppend.hAppend va_W va_W va_W _ (xW h0 nw sp xa la lb) (@HAppend.hAppend va_W va_W va_W _ (rcW X nw an v b g) (@HAppend.hAppend va_W va_W va_W _ (rnW (xa 8) v64_2) ([((xa 5), .inl (X.2.1, 3, .inl fr))])))) H locs → lv_has ls 9 [(7, .int (nI k64)), (6, .int x64_6), (5, .int x64_5), (4, .int x64_4), (0, .ref h0), (1, .int 0), (2, .int x2), (3, .int x3)] → W p l e _ s m _ below meth c H locs _ _ _ (F0 m 64 ls [])) (fun loop => loop (31 + 1) 0 60 (-1) (-1) vg _ _ _ (by omega) (by omega) (by first | assumption | decide | exact k_m60 (by assumption)) G hl) ?_
            intro zm
            induction zm with
            | zero => intro k64 x64_6 x64_5 x64_4 v64_2 H locs ls zz q_hk_k64 q_hk_x64_6 _ _; exact absurd zz (by omega)
            | succ zm ih64 =>
              intro k64 x64_6 x64_5 x64_4 v64_2 H locs ls zm_64 hk_k64 hk_x64_6 G hl
              refine lv_iload zx zb dX10_turn_64 (lv_at hl 0 rfl) ?_
              refine lv_bipush (v := 30) zx zb dX10_turn_66 (by decide) ?_
              refine lv_icmp_gt (tgt := 109) zx zb dX10_turn_68 (by decide) (fun c_9 => ?_) (fun c_9 => ?_)
              · have fc_9 := j_lt (a := 30) (b := k64) (by omega) (by omega) c_9
                refine lv_iload_n zx zb dX10_turn_109 rfl (lv_at hl 7 rfl) ?_
                refine k_cutW (PP := fun Wx => ∀ (x_11 : Int32) (H : Heap) (locs : List Loc) (ls : Array Slot), wd X (va_A (@HAppend.hAppend va_W va_W va_W _ (xW h0 nw sp xa la lb) (@HAppend.hAppend va_W va_W va_W _ (rcW X nw an v b g) (@HAppend.hAppend va_W va_W va_W _ (rnW (xa 8) vg) ([((xa 5), .inl (X.2.1, 3, .inl fr))])))) sz) (va_A (@HAppend.hAppend va_W va_W va_W _ (xW h0 nw sp xa la lb) (@HAppend.hAppend va_W va_W va_W _ (rcW X nw an v b g) (@HAppend.hAppend va_W va_W va_W _ (rnW (xa 8) vg) ([((xa 5), .inl (X.2.1, 3, .inl fr))])))) sz) s (@HAppend.hAppend va_W va_W va_W _ (xW h0 nw sp xa la lb) (@HAppend.hAppend va_W va_W va_W _ (rcW X nw an v b g) (@HAppend.hAppend va_W va_W va_W _ (rnW (xa 8) v64_2) ([((xa 5), .inl (X.2.1, 3, .inl fr))])))) H locs → lv_has ls 9 [(7, .int (nI k64)), (6, .int x64_6), (5, .int x64_5), (4, .int x64_4), (0, .ref h0), (1, .int 0), (2, .int x2), (3, .int x3)] → Wx (F0 m 120 ls [.int x_11]) H locs) ?_ ?_
                · intro join_110
                  refine lv_if_ne (tgt := 118) zx zb dX10_turn_110 (by decide) (fun c_10 => ?_) (fun c_10 => ?_)
                  · refine lv_iload zx zb dX10_turn_118 (lv_at hl 2 rfl) ?_
                    exact join_110 x64_5 _ _ _  G hl
                  · refine lv_iload zx zb dX10_turn_113 (lv_at hl 3 rfl) ?_
                    refine lv_goto (tgt := 120) zx zb dX10_turn_115 (by decide) ?_
                    exact join_110 x64_4 _ _ _  G hl
                · intro x_11 H locs ls  G hl
                  exact e_int S zr zlk (vp_nar_int _) G (v64_2, fr) [0, 1, 2, 3, 4, 5, 6, 7, 8, 9, 10, 11, 12, 13, 14, 15, 16, 17, 18] rfl rfl (Or.inr rfl) (trivial) dX10_turn_120
              · have fc_9 := j_nlt (a := 30) (b := k64) (by omega) (by omega) c_9
                refine lv_aload_n zx zb dX10_turn_71 rfl (lv_at hl 4 rfl) ?_
                refine lv_iload_n zx zb dX10_turn_72 rfl (lv_at hl 5 rfl) ?_
                refine lv_iload_n zx zb dX10_turn_73 rfl (lv_at hl 6 rfl) ?_
                refine lv_iload zx zb dX10_turn_74 (lv_at hl 0 rfl) ?_
                refine lv_iload zx zb dX10_turn_76 (lv_at hl 1 rfl) ?_
                refine b_wi (cells' := 0) (slots' := 0) (wr := [((xa 5), .inl (X.2.1, 3, .inl fr))]) G rfl rfl [0, 1, 2, 3, 4, 5, 6, 7, 8, 9, 10, 11, 12, 13, 14, 15, 16, 17] [18] rfl rfl rfl rfl (n_V (As := [.int 0, .int x2, .int (nI k64), .int x64_6]) (rest := []) (C := RX10) (T := TX10) (N := 14) (ci := 8) S G (s_homeTurning l X h0 nw sp xa la lb an v b g v64_2 0 x2 k64 x64_6 hI_b (by omega) (by omega) (by first | decide | assumption | exact k_60a (by assumption)) H.size) gX10_turn_X10_homeTurning rfl rfl rfl hdV_X10_homeTurning ⟨Nat.le_of_ble_eq_true rfl, Nat.le_of_ble_eq_true rfl⟩ [0, 1, 2, 3, 4, 5, 6, 7, 8, 9, 10, 11, 12, 13, 14, 15, 16, 17] rfl rfl 0 rfl rfl rfl hl.1 (Nat.le_of_ble_eq_true rfl) dX10_turn_78 ⟨Nat.le_of_ble_eq_true rfl, Nat.le_of_ble_eq_true rfl⟩) (fun r_12 u_12 H locs hp_12 G => ?_)
                obtain ⟨v_12, rfl⟩ : ∃ z, z = u_12 := ⟨_, rfl⟩
                have hq_12 := hp_12
                have G : wd X (va_A (@HAppend.hAppend va_W va_W va_W _ (xW h0 nw sp xa la lb) (@HAppend.hAppend va_W va_W va_W _ (rcW X nw an v b g) (@HAppend.hAppend va_W va_W va_W _ (rnW (xa 8) vg) ([((xa 5), .inl (X.2.1, 3, .inl fr))])))) sz) (va_A (@HAppend.hAppend va_W va_W va_W _ (xW h0 nw sp xa la lb) (@HAppend.hAppend va_W va_W va_W _ (rcW X nw an v b g) (@HAppend.hAppend va_W va_W va_W _ (rnW (xa 8) vg) ([((xa 5), .inl (X.2.1, 3, .inl fr))])))) sz) s (@HAppend.hAppend va_W va_W va_W _ ([((xa 5), .inl (X.2.1, 3, .inl fr))]) (@HAppend.hAppend va_W va_W va_W _ (xW h0 nw sp xa la lb) (@HAppend.hAppend va_W va_W va_W _ (rcW X nw an v b g) (rnW (xa 8) v_12)))) H locs := G
                refine lv_istore (lv' := [(8, .int r_12), (7, .int (nI k64)), (6, .int x64_6), (5, .int x64_5), (4, .int x64_4), (0, .ref h0), (1, .int 0), (2, .int x2), (3, .int x3)]) zx zb dX10_turn_81 hl (by decide) rfl (fun ls hl => ?_)
                refine lv_iload zx zb dX10_turn_83 (lv_at hl 0 rfl) ?_
                refine lv_iconst (v := (-1)) zx zb dX10_turn_85 (by decide) ?_
                refine k_cutW (PP := fun Wx => ∀ (x_14 : Int32) (x_15 : Int32) (x_16 : Int32) (H : Heap) (locs : List Loc) (ls : Array Slot), (x_14 ≤ 60) → wd X (va_A (@HAppend.hAppend va_W va_W va_W _ (xW h0 nw sp xa la lb) (@HAppend.hAppend va_W va_W va_W _ (rcW X nw an v b g) (@HAppend.hAppend va_W va_W va_W _ (rnW (xa 8) vg) ([((xa 5), .inl (X.2.1, 3, .inl fr))])))) sz) (va_A (@HAppend.hAppend va_W va_W va_W _ (xW h0 nw sp xa la lb) (@HAppend.hAppend va_W va_W va_W _ (rcW X nw an v b g) (@HAppend.hAppend va_W va_W va_W _ (rnW (xa 8) vg) ([((xa 5), .inl (X.2.1, 3, .inl fr))])))) sz) s (@HAppend.hAppend va_W va_W va_W _ ([((xa 5), .inl (X.2.1, 3, .inl fr))]) (@HAppend.hAppend va_W va_W va_W _ (xW h0 nw sp xa la lb) (@HAppend.hAppend va_W va_W va_W _ (rcW X nw an v b g) (rnW (xa 8) v_12)))) H locs → lv_has ls 9 [(8, .int r_12), (7, .int (nI k64)), (6, .int x_14), (5, .int x_15), (4, .int x_16), (0, .ref h0), (1, .int 0), (2, .int x2), (3, .int x3)] → Wx (F0 m 103 ls []) H locs) ?_ ?_
                · intro join_86
                  refine lv_icmp_eq (tgt := 103) zx zb dX10_turn_86 (by decide) (fun c_13 => ?_) (fun c_13 => ?_)
                  · exact join_86 x64_6 x64_5 x64_4 _ _ _ (by first | assumption | decide | exact k_m60 (by assumption)) G hl
                  · refine lv_iload zx zb dX10_turn_89 (lv_at hl 1 rfl) ?_
                    refine lv_istore (lv' := [(4, .int (nI k64)), (8, .int r_12), (7, .int (nI k64)), (6, .int x64_6), (5, .int x64_5), (0, .ref h0), (1, .int 0), (2, .int x2), (3, .int x3)]) zx zb dX10_turn_91 hl (by decide) rfl (fun ls hl => ?_)
                    refine lv_iload zx zb dX10_turn_93 (lv_at hl 1 rfl) ?_
                    refine lv_istore (lv' := [(5, .int r_12), (4, .int (nI k64)), (8, .int r_12), (7, .int (nI k64)), (6, .int x64_6), (0, .ref h0), (1, .int 0), (2, .int x2), (3, .int x3)]) zx zb dX10_turn_95 hl (by decide) rfl (fun ls hl => ?_)
                    refine lv_iload zx zb dX10_turn_97 (lv_at hl 2 rfl) ?_
                    refine lv_iconst (v := 1) zx zb dX10_turn_99 (by decide) ?_
                    refine r_isub (v := (r_12 - 1)) S rfl dX10_turn_100 ?_
                    refine lv_istore (lv' := [(6, .int (r_12 - 1)), (5, .int r_12), (4, .int (nI k64)), (8, .int r_12), (7, .int (nI k64)), (0, .ref h0), (1, .int 0), (2, .int x2), (3, .int x3)]) zx zb dX10_turn_101 hl (by decide) rfl (fun ls hl => ?_)
                    have hl := lv_sub hl (l' := [(8, .int r_12), (7, .int (nI k64)), (6, .int (r_12 - 1)), (5, .int r_12), (4, .int (nI k64)), (0, .ref h0), (1, .int 0), (2, .int x2), (3, .int x3)]) [3, 4, 0, 1, 2, 5, 6, 7, 8] rfl
                    exact join_86 (r_12 - 1) r_12 (nI k64) _ _ _ (by first | assumption | decide | exact k_m60 (by assumption)) G hl
                · intro x_14 x_15 x_16 H locs ls hk_x_14 G hl
                  refine lv_iinc (v := (nI (k64 + 1))) (lv' := [(7, .int (nI (k64 + 1))), (8, .int r_12), (6, .int x_14), (5, .int x_15), (4, .int x_16), (0, .ref h0), (1, .int 0), (2, .int x2), (3, .int x3)]) zx zb dX10_turn_103 hl (k := 1) rfl (nI_add k64 1) (by decide) rfl (fun ls hl => ?_)
                  refine lv_goto (tgt := 64) zx zb dX10_turn_106 (by decide) ?_
                  have G : wd X (va_A (@HAppend.hAppend va_W va_W va_W _ (xW h0 nw sp xa la lb) (@HAppend.hAppend va_W va_W va_W _ (rcW X nw an v b g) (@HAppend.hAppend va_W va_W va_W _ (rnW (xa 8) vg) ([((xa 5), .inl (X.2.1, 3, .inl fr))])))) sz) (va_A (@HAppend.hAppend va_W va_W va_W _ (xW h0 nw sp xa la lb) (@HAppend.hAppend va_W va_W va_W _ (rcW X nw an v b g) (@HAppend.hAppend va_W va_W va_W _ (rnW (xa 8) vg) ([((xa 5), .inl (X.2.1, 3, .inl fr))])))) sz) s (@HAppend.hAppend va_W va_W va_W _ (xW h0 nw sp xa la lb) (@HAppend.hAppend va_W va_W va_W _ (rcW X nw an v b g) (@HAppend.hAppend va_W va_W va_W _ (rnW (xa 8) v_12) ([((xa 5), .inl (X.2.1, 3, .inl fr))])))) H locs := wd_sub G [1, 2, 3, 4, 5, 6, 7, 8, 9, 10, 11, 12, 13, 14, 15, 16, 17, 18, 0] rfl rfl
                  have hl := lv_sub hl (l' := [(7, .int (nI (k64 + 1))), (6, .int x_14), (5, .int x_15), (4, .int x_16), (0, .ref h0), (1, .int 0), (2, .int x2), (3, .int x3)]) [0, 2, 3, 4, 5, 6, 7, 8] rfl
                  exact ih64 (k64 + 1) x_14 x_15 x_16 v_12 _ _ _ (by omega) (by omega) (by first | assumption | decide | exact k_m60 (by assumption)) G hl
          · refine lv_iconst (v := (-1)) zx zb dX10_turn_49 (by decide) ?_
            exact e_int S zr zlk (vp_nar_int _) G (vg, fr) [0, 1, 2, 3, 4, 5, 6, 7, 8, 9, 10, 11, 12, 13, 14, 15, 16, 17, 18] rfl rfl (Or.inr rfl) (trivial) dX10_turn_50
        · refine k_it (v := 1) rfl ?_
          refine r_aald (C := RX8) (b := (an 2)) S G 2 3 rfl rfl (k_vp (by decide)) rfl dX10_turn_42 ?_
          refine o_ri (cells' := 0) (slots' := 0) G rfl rfl (n_V (As := []) (rest := []) (C := RX8) (T := TX8) (N := 8) (ci := 6) S G (s_isHome l X (an 2) (fun k => v (18 + k)) H.size) gX10_turn_X8_isHome rfl rfl rfl hdV_X8_isHome ⟨Nat.le_of_ble_eq_true rfl, Nat.le_of_ble_eq_true rfl⟩ [4] rfl rfl 4 rfl rfl rfl hl.1 (Nat.le_of_ble_eq_true rfl) dX10_turn_43 ⟨Nat.le_of_ble_eq_true rfl, Nat.le_of_ble_eq_true rfl⟩) (fun r_17 u_17 H locs hp_17 G => ?_)
          have G : wd X (va_A (@HAppend.hAppend va_W va_W va_W _ (xW h0 nw sp xa la lb) (@HAppend.hAppend va_W va_W va_W _ (rcW X nw an v b g) (@HAppend.hAppend va_W va_W va_W _ (rnW (xa 8) vg) ([((xa 5), .inl (X.2.1, 3, .inl fr))])))) sz) (va_A (@HAppend.hAppend va_W va_W va_W _ (xW h0 nw sp xa la lb) (@HAppend.hAppend va_W va_W va_W _ (rcW X nw an v b g) (@HAppend.hAppend va_W va_W va_W _ (rnW (xa 8) vg) ([((xa 5), .inl (X.2.1, 3, .inl fr))])))) sz) s (@HAppend.hAppend va_W va_W va_W _ (xW h0 nw sp xa la lb) (@HAppend.hAppend va_W va_W va_W _ (rcW X nw an v b g) (@HAppend.hAppend va_W va_W va_W _ (rnW (xa 8) vg) ([((xa 5), .inl (X.2.1, 3, .inl fr))])))) H locs := G
          refine lv_if_eq (tgt := 51) zx zb dX10_turn_46 (by decide) (fun c_18 => ?_) (fun c_18 => ?_)
          · refine lv_iconst (v := (-1)) zx zb dX10_turn_51 (by decide) ?_
            refine lv_istore (lv' := [(4, .int (-1)), (0, .ref h0), (1, .int 1), (2, .int x2), (3, .int x3)]) zx zb dX10_turn_52 hl (by decide) rfl (fun ls hl => ?_)
            refine lv_iconst (v := (-1)) zx zb dX10_turn_54 (by decide) ?_
            refine lv_istore (lv' := [(5, .int (-1)), (4, .int (-1)), (0, .ref h0), (1, .int 1), (2, .int x2), (3, .int x3)]) zx zb dX10_turn_55 hl (by decide) rfl (fun ls hl => ?_)
            refine lv_bipush (v := 60) zx zb dX10_turn_57 (by decide) ?_
            refine lv_istore (lv' := [(6, .int 60), (5, .int (-1)), (4, .int (-1)), (0, .ref h0), (1, .int 1), (2, .int x2), (3, .int x3)]) zx zb dX10_turn_59 hl (by decide) rfl (fun ls hl => ?_)
            refine lv_iconst (v := 0) zx zb dX10_turn_61 (by decide) ?_
            refine lv_istore (lv' := [(7, .int 0), (6, .int 60), (5, .int (-1)), (4, .int (-1)), (0, .ref h0), (1, .int 1), (2, .int x2), (3, .int x3)]) zx zb dX10_turn_62 hl (by decide) rfl (fun ls hl => ?_)
            refine k_loop (P := ∀ (zm : Nat) (k64 : Nat) (x64_6 : Int32) (x64_5 : Int32) (x64_4 : Int32) (v64_2 : Nat → Int32) (H : Heap) (locs : List Loc) (ls : Array Slot), 31 + 1 ≤ k64 + zm → (k64 ≤ 31) → (x64_6 ≤ 60) → wd X (va_A (@HAppend.hAppend va_W va_W va_W _ (xW h0 nw sp xa la lb) (@HAppend.hAppend va_W va_W va_W _ (rcW X nw an v b g) (@HAppend.hAppend va_W va_W va_W _ (rnW (xa 8) vg) ([((xa 5), .inl (X.2.1, 3, .inl fr))])))) sz) (va_A (@HAppend.hAppend va_W va_W va_W _ (xW h0 nw sp xa la lb) (@HAppend.hAppend va_W va_W va_W _ (rcW X nw an v b g) (@HAppend.hAppend va_W va_W va_W _ (rnW (xa 8) vg) ([((xa 5), .inl (X.2.1, 3, .inl fr))])))) sz) s (@HAppend.hAppend va_W va_W va_W _ (xW h0 nw sp xa la lb) (@HAppend.hAppend va_W va_W va_W _ (rcW X nw an v b g) (@HAppend.hAppend va_W va_W va_W _ (rnW (xa 8) v64_2) ([((xa 5), .inl (X.2.1, 3, .inl fr))])))) H locs → lv_has ls 9 [(7, .int (nI k64)), (6, .int x64_6), (5, .int x64_5), (4, .int x64_4), (0, .ref h0), (1, .int 1), (2, .int x2), (3, .int x3)] → W p l e _ s m _ below meth c H locs _ _ _ (F0 m 64 ls [])) (fun loop => loop (31 + 1) 0 60 (-1) (-1) vg _ _ _ (by omega) (by omega) (by first | assumption | decide | exact k_m60 (by assumption)) G hl) ?_
            intro zm
            induction zm with
            | zero => intro k64 x64_6 x64_5 x64_4 v64_2 H locs ls zz q_hk_k64 q_hk_x64_6 _ _; exact absurd zz (by omega)
            | succ zm ih64 =>
              intro k64 x64_6 x64_5 x64_4 v64_2 H locs ls zm_64 hk_k64 hk_x64_6 G hl
              refine lv_iload zx zb dX10_turn_64 (lv_at hl 0 rfl) ?_
              refine lv_bipush (v := 30) zx zb dX10_turn_66 (by decide) ?_
              refine lv_icmp_gt (tgt := 109) zx zb dX10_turn_68 (by decide) (fun c_19 => ?_) (fun c_19 => ?_)
              · have fc_19 := j_lt (a := 30) (b := k64) (by omega) (by omega) c_19
                refine lv_iload_n zx zb dX10_turn_109 rfl (lv_at hl 7 rfl) ?_
                refine k_cutW (PP := fun Wx => ∀ (x_21 : Int32) (H : Heap) (locs : List Loc) (ls : Array Slot), wd X (va_A (@HAppend.hAppend va_W va_W va_W _ (xW h0 nw sp xa la lb) (@HAppend.hAppend va_W va_W va_W _ (rcW X nw an v b g) (@HAppend.hAppend va_W va_W va_W _ (rnW (xa 8) vg) ([((xa 5), .inl (X.2.1, 3, .inl fr))])))) sz) (va_A (@HAppend.hAppend va_W va_W va_W _ (xW h0 nw sp xa la lb) (@HAppend.hAppend va_W va_W va_W _ (rcW X nw an v b g) (@HAppend.hAppend va_W va_W va_W _ (rnW (xa 8) vg) ([((xa 5), .inl (X.2.1, 3, .inl fr))])))) sz) s (@HAppend.hAppend va_W va_W va_W _ (xW h0 nw sp xa la lb) (@HAppend.hAppend va_W va_W va_W _ (rcW X nw an v b g) (@HAppend.hAppend va_W va_W va_W _ (rnW (xa 8) v64_2) ([((xa 5), .inl (X.2.1, 3, .inl fr))])))) H locs → lv_has ls 9 [(7, .int (nI k64)), (6, .int x64_6), (5, .int x64_5), (4, .int x64_4), (0, .ref h0), (1, .int 1), (2, .int x2), (3, .int x3)] → Wx (F0 m 120 ls [.int x_21]) H locs) ?_ ?_
                · intro join_110
                  refine lv_if_ne (tgt := 118) zx zb dX10_turn_110 (by decide) (fun c_20 => ?_) (fun c_20 => ?_)
                  · refine lv_iload zx zb dX10_turn_118 (lv_at hl 2 rfl) ?_
                    exact join_110 x64_5 _ _ _  G hl
                  · refine lv_iload zx zb dX10_turn_113 (lv_at hl 3 rfl) ?_
                    refine lv_goto (tgt := 120) zx zb dX10_turn_115 (by decide) ?_
                    exact join_110 x64_4 _ _ _  G hl
                · intro x_21 H locs ls  G hl
                  exact e_int S zr zlk (vp_nar_int _) G (v64_2, fr) [0, 1, 2, 3, 4, 5, 6, 7, 8, 9, 10, 11, 12, 13, 14, 15, 16, 17, 18] rfl rfl (Or.inr rfl) (trivial) dX10_turn_120
              · have fc_19 := j_nlt (a := 30) (b := k64) (by omega) (by omega) c_19
                refine lv_aload_n zx zb dX10_turn_71 rfl (lv_at hl 4 rfl) ?_
                refine lv_iload_n zx zb dX10_turn_72 rfl (lv_at hl 5 rfl) ?_
                refine lv_iload_n zx zb dX10_turn_73 rfl (lv_at hl 6 rfl) ?_
                refine lv_iload zx zb dX10_turn_74 (lv_at hl 0 rfl) ?_
                refine lv_iload zx zb dX10_turn_76 (lv_at hl 1 rfl) ?_
                refine b_wi (cells' := 0) (slots' := 0) (wr := [((xa 5), .inl (X.2.1, 3, .inl fr))]) G rfl rfl [0, 1, 2, 3, 4, 5, 6, 7, 8, 9, 10, 11, 12, 13, 14, 15, 16, 17] [18] rfl rfl rfl rfl (n_V (As := [.int 1, .int x2, .int (nI k64), .int x64_6]) (rest := []) (C := RX10) (T := TX10) (N := 14) (ci := 8) S G (s_homeTurning l X h0 nw sp xa la lb an v b g v64_2 1 x2 k64 x64_6 hI_b (by omega) (by omega) (by first | decide | assumption | exact k_60a (by assumption)) H.size) gX10_turn_X10_homeTurning rfl rfl rfl hdV_X10_homeTurning ⟨Nat.le_of_ble_eq_true rfl, Nat.le_of_ble_eq_true rfl⟩ [0, 1, 2, 3, 4, 5, 6, 7, 8, 9, 10, 11, 12, 13, 14, 15, 16, 17] rfl rfl 0 rfl rfl rfl hl.1 (Nat.le_of_ble_eq_true rfl) dX10_turn_78 ⟨Nat.le_of_ble_eq_true rfl, Nat.le_of_ble_eq_true rfl⟩) (fun r_22 u_22 H locs hp_22 G => ?_)
                obtain ⟨v_22, rfl⟩ : ∃ z, z = u_22 := ⟨_, rfl⟩
                have hq_22 := hp_22
                have G : wd X (va_A (@HAppend.hAppend va_W va_W va_W _ (xW h0 nw sp xa la lb) (@HAppend.hAppend va_W va_W va_W _ (rcW X nw an v b g) (@HAppend.hAppend va_W va_W va_W _ (rnW (xa 8) vg) ([((xa 5), .inl (X.2.1, 3, .inl fr))])))) sz) (va_A (@HAppend.hAppend va_W va_W va_W _ (xW h0 nw sp xa la lb) (@HAppend.hAppend va_W va_W va_W _ (rcW X nw an v b g) (@HAppend.hAppend va_W va_W va_W _ (rnW (xa 8) vg) ([((xa 5), .inl (X.2.1, 3, .inl fr))])))) sz) s (@HAppend.hAppend va_W va_W va_W _ ([((xa 5), .inl (X.2.1, 3, .inl fr))]) (@HAppend.hAppend va_W va_W va_W _ (xW h0 nw sp xa la lb) (@HAppend.hAppend va_W va_W va_W _ (rcW X nw an v b g) (rnW (xa 8) v_22)))) H locs := G
                refine lv_istore (lv' := [(8, .int r_22), (7, .int (nI k64)), (6, .int x64_6), (5, .int x64_5), (4, .int x64_4), (0, .ref h0), (1, .int 1), (2, .int x2), (3, .int x3)]) zx zb dX10_turn_81 hl (by decide) rfl (fun ls hl => ?_)
                refine lv_iload zx zb dX10_turn_83 (lv_at hl 0 rfl) ?_
                refine lv_iconst (v := (-1)) zx zb dX10_turn_85 (by decide) ?_
                refine k_cutW (PP := fun Wx => ∀ (x_24 : Int32) (x_25 : Int32) (x_26 : Int32) (H : Heap) (locs : List Loc) (ls : Array Slot), (x_24 ≤ 60) → wd X (va_A (@HAppend.hAppend va_W va_W va_W _ (xW h0 nw sp xa la lb) (@HAppend.hAppend va_W va_W va_W _ (rcW X nw an v b g) (@HAppend.hAppend va_W va_W va_W _ (rnW (xa 8) vg) ([((xa 5), .inl (X.2.1, 3, .inl fr))])))) sz) (va_A (@HAppend.hAppend va_W va_W va_W _ (xW h0 nw sp xa la lb) (@HAppend.hAppend va_W va_W va_W _ (rcW X nw an v b g) (@HAppend.hAppend va_W va_W va_W _ (rnW (xa 8) vg) ([((xa 5), .inl (X.2.1, 3, .inl fr))])))) sz) s (@HAppend.hAppend va_W va_W va_W _ ([((xa 5), .inl (X.2.1, 3, .inl fr))]) (@HAppend.hAppend va_W va_W va_W _ (xW h0 nw sp xa la lb) (@HAppend.hAppend va_W va_W va_W _ (rcW X nw an v b g) (rnW (xa 8) v_22)))) H locs → lv_has ls 9 [(8, .int r_22), (7, .int (nI k64)), (6, .int x_24), (5, .int x_25), (4, .int x_26), (0, .ref h0), (1, .int 1), (2, .int x2), (3, .int x3)] → Wx (F0 m 103 ls []) H locs) ?_ ?_
                · intro join_86
                  refine lv_icmp_eq (tgt := 103) zx zb dX10_turn_86 (by decide) (fun c_23 => ?_) (fun c_23 => ?_)
                  · exact join_86 x64_6 x64_5 x64_4 _ _ _ (by first | assumption | decide | exact k_m60 (by assumption)) G hl
                  · refine lv_iload zx zb dX10_turn_89 (lv_at hl 1 rfl) ?_
                    refine lv_istore (lv' := [(4, .int (nI k64)), (8, .int r_22), (7, .int (nI k64)), (6, .int x64_6), (5, .int x64_5), (0, .ref h0), (1, .int 1), (2, .int x2), (3, .int x3)]) zx zb dX10_turn_91 hl (by decide) rfl (fun ls hl => ?_)
                    refine lv_iload zx zb dX10_turn_93 (lv_at hl 1 rfl) ?_
                    refine lv_istore (lv' := [(5, .int r_22), (4, .int (nI k64)), (8, .int r_22), (7, .int (nI k64)), (6, .int x64_6), (0, .ref h0), (1, .int 1), (2, .int x2), (3, .int x3)]) zx zb dX10_turn_95 hl (by decide) rfl (fun ls hl => ?_)
                    refine lv_iload zx zb dX10_turn_97 (lv_at hl 2 rfl) ?_
                    refine lv_iconst (v := 1) zx zb dX10_turn_99 (by decide) ?_
                    refine r_isub (v := (r_22 - 1)) S rfl dX10_turn_100 ?_
                    refine lv_istore (lv' := [(6, .int (r_22 - 1)), (5, .int r_22), (4, .int (nI k64)), (8, .int r_22), (7, .int (nI k64)), (0, .ref h0), (1, .int 1), (2, .int x2), (3, .int x3)]) zx zb dX10_turn_101 hl (by decide) rfl (fun ls hl => ?_)
                    have hl := lv_sub hl (l' := [(8, .int r_22), (7, .int (nI k64)), (6, .int (r_22 - 1)), (5, .int r_22), (4, .int (nI k64)), (0, .ref h0), (1, .int 1), (2, .int x2), (3, .int x3)]) [3, 4, 0, 1, 2, 5, 6, 7, 8] rfl
                    exact join_86 (r_22 - 1) r_22 (nI k64) _ _ _ (by first | assumption | decide | exact k_m60 (by assumption)) G hl
                · intro x_24 x_25 x_26 H locs ls hk_x_24 G hl
                  refine lv_iinc (v := (nI (k64 + 1))) (lv' := [(7, .int (nI (k64 + 1))), (8, .int r_22), (6, .int x_24), (5, .int x_25), (4, .int x_26), (0, .ref h0), (1, .int 1), (2, .int x2), (3, .int x3)]) zx zb dX10_turn_103 hl (k := 1) rfl (nI_add k64 1) (by decide) rfl (fun ls hl => ?_)
                  refine lv_goto (tgt := 64) zx zb dX10_turn_106 (by decide) ?_
                  have G : wd X (va_A (@HAppend.hAppend va_W va_W va_W _ (xW h0 nw sp xa la lb) (@HAppend.hAppend va_W va_W va_W _ (rcW X nw an v b g) (@HAppend.hAppend va_W va_W va_W _ (rnW (xa 8) vg) ([((xa 5), .inl (X.2.1, 3, .inl fr))])))) sz) (va_A (@HAppend.hAppend va_W va_W va_W _ (xW h0 nw sp xa la lb) (@HAppend.hAppend va_W va_W va_W _ (rcW X nw an v b g) (@HAppend.hAppend va_W va_W va_W _ (rnW (xa 8) vg) ([((xa 5), .inl (X.2.1, 3, .inl fr))])))) sz) s (@HAppend.hAppend va_W va_W va_W _ (xW h0 nw sp xa la lb) (@HAppend.hAppend va_W va_W va_W _ (rcW X nw an v b g) (@HAppend.hAppend va_W va_W va_W _ (rnW (xa 8) v_22) ([((xa 5), .inl (X.2.1, 3, .inl fr))])))) H locs := wd_sub G [1, 2, 3, 4, 5, 6, 7, 8, 9, 10, 11, 12, 13, 14, 15, 16, 17, 18, 0] rfl rfl
                  have hl := lv_sub hl (l' := [(7, .int (nI (k64 + 1))), (6, .int x_24), (5, .int x_25), (4, .int x_26), (0, .ref h0), (1, .int 1), (2, .int x2), (3, .int x3)]) [0, 2, 3, 4, 5, 6, 7, 8] rfl
                  exact ih64 (k64 + 1) x_24 x_25 x_26 v_22 _ _ _ (by omega) (by omega) (by first | assumption | decide | exact k_m60 (by assumption)) G hl
          · refine lv_iconst (v := (-1)) zx zb dX10_turn_49 (by decide) ?_
            exact e_int S zr zlk (vp_nar_int _) G (vg, fr) [0, 1, 2, 3, 4, 5, 6, 7, 8, 9, 10, 11, 12, 13, 14, 15, 16, 17, 18] rfl rfl (Or.inr rfl) (trivial) dX10_turn_50
        · refine k_it (v := 2) rfl ?_
          refine r_aald (C := RX8) (b := (an 3)) S G 2 3 rfl rfl (k_vp (by decide)) rfl dX10_turn_42 ?_
          refine o_ri (cells' := 0) (slots' := 0) G rfl rfl (n_V (As := []) (rest := []) (C := RX8) (T := TX8) (N := 8) (ci := 6) S G (s_isHome l X (an 3) (fun k => v (26 + k)) H.size) gX10_turn_X8_isHome rfl rfl rfl hdV_X8_isHome ⟨Nat.le_of_ble_eq_true rfl, Nat.le_of_ble_eq_true rfl⟩ [5] rfl rfl 5 rfl rfl rfl hl.1 (Nat.le_of_ble_eq_true rfl) dX10_turn_43 ⟨Nat.le_of_ble_eq_true rfl, Nat.le_of_ble_eq_true rfl⟩) (fun r_27 u_27 H locs hp_27 G => ?_)
          have G : wd X (va_A (@HAppend.hAppend va_W va_W va_W _ (xW h0 nw sp xa la lb) (@HAppend.hAppend va_W va_W va_W _ (rcW X nw an v b g) (@HAppend.hAppend va_W va_W va_W _ (rnW (xa 8) vg) ([((xa 5), .inl (X.2.1, 3, .inl fr))])))) sz) (va_A (@HAppend.hAppend va_W va_W va_W _ (xW h0 nw sp xa la lb) (@HAppend.hAppend va_W va_W va_W _ (rcW X nw an v b g) (@HAppend.hAppend va_W va_W va_W _ (rnW (xa 8) vg) ([((xa 5), .inl (X.2.1, 3, .inl fr))])))) sz) s (@HAppend.hAppend va_W va_W va_W _ (xW h0 nw sp xa la lb) (@HAppend.hAppend va_W va_W va_W _ (rcW X nw an v b g) (@HAppend.hAppend va_W va_W va_W _ (rnW (xa 8) vg) ([((xa 5), .inl (X.2.1, 3, .inl fr))])))) H locs := G
          refine lv_if_eq (tgt := 51) zx zb dX10_turn_46 (by decide) (fun c_28 => ?_) (fun c_28 => ?_)
          · refine lv_iconst (v := (-1)) zx zb dX10_turn_51 (by decide) ?_
            refine lv_istore (lv' := [(4, .int (-1)), (0, .ref h0), (1, .int 2), (2, .int x2), (3, .int x3)]) zx zb dX10_turn_52 hl (by decide) rfl (fun ls hl => ?_)
            refine lv_iconst (v := (-1)) zx zb dX10_turn_54 (by decide) ?_
            refine lv_istore (lv' := [(5, .int (-1)), (4, .int (-1)), (0, .ref h0), (1, .int 2), (2, .int x2), (3, .int x3)]) zx zb dX10_turn_55 hl (by decide) rfl (fun ls hl => ?_)
            refine lv_bipush (v := 60) zx zb dX10_turn_57 (by decide) ?_
            refine lv_istore (lv' := [(6, .int 60), (5, .int (-1)), (4, .int (-1)), (0, .ref h0), (1, .int 2), (2, .int x2), (3, .int x3)]) zx zb dX10_turn_59 hl (by decide) rfl (fun ls hl => ?_)
            refine lv_iconst (v := 0) zx zb dX10_turn_61 (by decide) ?_
            refine lv_istore (lv' := [(7, .int 0), (6, .int 60), (5, .int (-1)), (4, .int (-1)), (0, .ref h0), (1, .int 2), (2, .int x2), (3, .int x3)]) zx zb dX10_turn_62 hl (by decide) rfl (fun ls hl => ?_)
            refine k_loop (P := ∀ (zm : Nat) (k64 : Nat) (x64_6 : Int32) (x64_5 : Int32) (x64_4 : Int32) (v64_2 : Nat → Int32) (H : Heap) (locs : List Loc) (ls : Array Slot), 31 + 1 ≤ k64 + zm → (k64 ≤ 31) → (x64_6 ≤ 60) → wd X (va_A (@HAppend.hAppend va_W va_W va_W _ (xW h0 nw sp xa la lb) (@HAppend.hAppend va_W va_W va_W _ (rcW X nw an v b g) (@HAppend.hAppend va_W va_W va_W _ (rnW (xa 8) vg) ([((xa 5), .inl (X.2.1, 3, .inl fr))])))) sz) (va_A (@HAppend.hAppend va_W va_W va_W _ (xW h0 nw sp xa la lb) (@HAppend.hAppend va_W va_W va_W _ (rcW X nw an v b g) (@HAppend.hAppend va_W va_W va_W _ (rnW (xa 8) vg) ([((xa 5), .inl (X.2.1, 3, .inl fr))])))) sz) s (@HAppend.hAppend va_W va_W va_W _ (xW h0 nw sp xa la lb) (@HAppend.hAppend va_W va_W va_W _ (rcW X nw an v b g) (@HAppend.hAppend va_W va_W va_W _ (rnW (xa 8) v64_2) ([((xa 5), .inl (X.2.1, 3, .inl fr))])))) H locs → lv_has ls 9 [(7, .int (nI k64)), (6, .int x64_6), (5, .int x64_5), (4, .int x64_4), (0, .ref h0), (1, .int 2), (2, .int x2), (3, .int x3)] → W p l e _ s m _ below meth c H locs _ _ _ (F0 m 64 ls [])) (fun loop => loop (31 + 1) 0 60 (-1) (-1) vg _ _ _ (by omega) (by omega) (by first | assumption | decide | exact k_m60 (by assumption)) G hl) ?_
            intro zm
            induction zm with
            | zero => intro k64 x64_6 x64_5 x64_4 v64_2 H locs ls zz q_hk_k64 q_hk_x64_6 _ _; exact absurd zz (by omega)
            | succ zm ih64 =>
              intro k64 x64_6 x64_5 x64_4 v64_2 H locs ls zm_64 hk_k64 hk_x64_6 G hl
              refine lv_iload zx zb dX10_turn_64 (lv_at hl 0 rfl) ?_
              refine lv_bipush (v := 30) zx zb dX10_turn_66 (by decide) ?_
              refine lv_icmp_gt (tgt := 109) zx zb dX10_turn_68 (by decide) (fun c_29 => ?_) (fun c_29 => ?_)
              · have fc_29 := j_lt (a := 30) (b := k64) (by omega) (by omega) c_29
                refine lv_iload_n zx zb dX10_turn_109 rfl (lv_at hl 7 rfl) ?_
                refine k_cutW (PP := fun Wx => ∀ (x_31 : Int32) (H : Heap) (locs : List Loc) (ls : Array Slot), wd X (va_A (@HAppend.hAppend va_W va_W va_W _ (xW h0 nw sp xa la lb) (@HAppend.hAppend va_W va_W va_W _ (rcW X nw an v b g) (@HAppend.hAppend va_W va_W va_W _ (rnW (xa 8) vg) ([((xa 5), .inl (X.2.1, 3, .inl fr))])))) sz) (va_A (@HAppend.hAppend va_W va_W va_W _ (xW h0 nw sp xa la lb) (@HAppend.hAppend va_W va_W va_W _ (rcW X nw an v b g) (@HAppend.hAppend va_W va_W va_W _ (rnW (xa 8) vg) ([((xa 5), .inl (X.2.1, 3, .inl fr))])))) sz) s (@HAppend.hAppend va_W va_W va_W _ (xW h0 nw sp xa la lb) (@HAppend.hAppend va_W va_W va_W _ (rcW X nw an v b g) (@HAppend.hAppend va_W va_W va_W _ (rnW (xa 8) v64_2) ([((xa 5), .inl (X.2.1, 3, .inl fr))])))) H locs → lv_has ls 9 [(7, .int (nI k64)), (6, .int x64_6), (5, .int x64_5), (4, .int x64_4), (0, .ref h0), (1, .int 2), (2, .int x2), (3, .int x3)] → Wx (F0 m 120 ls [.int x_31]) H locs) ?_ ?_
                · intro join_110
                  refine lv_if_ne (tgt := 118) zx zb dX10_turn_110 (by decide) (fun c_30 => ?_) (fun c_30 => ?_)
                  · refine lv_iload zx zb dX10_turn_118 (lv_at hl 2 rfl) ?_
                    exact join_110 x64_5 _ _ _  G hl
                  · refine lv_iload zx zb dX10_turn_113 (lv_at hl 3 rfl) ?_
                    refine lv_goto (tgt := 120) zx zb dX10_turn_115 (by decide) ?_
                    exact join_110 x64_4 _ _ _  G hl
                · intro x_31 H locs ls  G hl
                  exact e_int S zr zlk (vp_nar_int _) G (v64_2, fr) [0, 1, 2, 3, 4, 5, 6, 7, 8, 9, 10, 11, 12, 13, 14, 15, 16, 17, 18] rfl rfl (Or.inr rfl) (trivial) dX10_turn_120
              · have fc_29 := j_nlt (a := 30) (b := k64) (by omega) (by omega) c_29
                refine lv_aload_n zx zb dX10_turn_71 rfl (lv_at hl 4 rfl) ?_
                refine lv_iload_n zx zb dX10_turn_72 rfl (lv_at hl 5 rfl) ?_
                refine lv_iload_n zx zb dX10_turn_73 rfl (lv_at hl 6 rfl) ?_
                refine lv_iload zx zb dX10_turn_74 (lv_at hl 0 rfl) ?_
                refine lv_iload zx zb dX10_turn_76 (lv_at hl 1 rfl) ?_
                refine b_wi (cells' := 0) (slots' := 0) (wr := [((xa 5), .inl (X.2.1, 3, .inl fr))]) G rfl rfl [0, 1, 2, 3, 4, 5, 6, 7, 8, 9, 10, 11, 12, 13, 14, 15, 16, 17] [18] rfl rfl rfl rfl (n_V (As := [.int 2, .int x2, .int (nI k64), .int x64_6]) (rest := []) (C := RX10) (T := TX10) (N := 14) (ci := 8) S G (s_homeTurning l X h0 nw sp xa la lb an v b g v64_2 2 x2 k64 x64_6 hI_b (by omega) (by omega) (by first | decide | assumption | exact k_60a (by assumption)) H.size) gX10_turn_X10_homeTurning rfl rfl rfl hdV_X10_homeTurning ⟨Nat.le_of_ble_eq_true rfl, Nat.le_of_ble_eq_true rfl⟩ [0, 1, 2, 3, 4, 5, 6, 7, 8, 9, 10, 11, 12, 13, 14, 15, 16, 17] rfl rfl 0 rfl rfl rfl hl.1 (Nat.le_of_ble_eq_true rfl) dX10_turn_78 ⟨Nat.le_of_ble_eq_true rfl, Nat.le_of_ble_eq_true rfl⟩) (fun r_32 u_32 H locs hp_32 G => ?_)
                obtain ⟨v_32, rfl⟩ : ∃ z, z = u_32 := ⟨_, rfl⟩
                have hq_32 := hp_32
                have G : wd X (va_A (@HAppend.hAppend va_W va_W va_W _ (xW h0 nw sp xa la lb) (@HAppend.hAppend va_W va_W va_W _ (rcW X nw an v b g) (@HAppend.hAppend va_W va_W va_W _ (rnW (xa 8) vg) ([((xa 5), .inl (X.2.1, 3, .inl fr))])))) sz) (va_A (@HAppend.hAppend va_W va_W va_W _ (xW h0 nw sp xa la lb) (@HAppend.hAppend va_W va_W va_W _ (rcW X nw an v b g) (@HAppend.hAppend va_W va_W va_W _ (rnW (xa 8) vg) ([((xa 5), .inl (X.2.1, 3, .inl fr))])))) sz) s (@HAppend.hAppend va_W va_W va_W _ ([((xa 5), .inl (X.2.1, 3, .inl fr))]) (@HAppend.hAppend va_W va_W va_W _ (xW h0 nw sp xa la lb) (@HAppend.hAppend va_W va_W va_W _ (rcW X nw an v b g) (rnW (xa 8) v_32)))) H locs := G
                refine lv_istore (lv' := [(8, .int r_32), (7, .int (nI k64)), (6, .int x64_6), (5, .int x64_5), (4, .int x64_4), (0, .ref h0), (1, .int 2), (2, .int x2), (3, .int x3)]) zx zb dX10_turn_81 hl (by decide) rfl (fun ls hl => ?_)
                refine lv_iload zx zb dX10_turn_83 (lv_at hl 0 rfl) ?_
                refine lv_iconst (v := (-1)) zx zb dX10_turn_85 (by decide) ?_
                refine k_cutW (PP := fun Wx => ∀ (x_34 : Int32) (x_35 : Int32) (x_36 : Int32) (H : Heap) (locs : List Loc) (ls : Array Slot), (x_34 ≤ 60) → wd X (va_A (@HAppend.hAppend va_W va_W va_W _ (xW h0 nw sp xa la lb) (@HAppend.hAppend va_W va_W va_W _ (rcW X nw an v b g) (@HAppend.hAppend va_W va_W va_W _ (rnW (xa 8) vg) ([((xa 5), .inl (X.2.1, 3, .inl fr))])))) sz) (va_A (@HAppend.hAppend va_W va_W va_W _ (xW h0 nw sp xa la lb) (@HAppend.hAppend va_W va_W va_W _ (rcW X nw an v b g) (@HAppend.hAppend va_W va_W va_W _ (rnW (xa 8) vg) ([((xa 5), .inl (X.2.1, 3, .inl fr))])))) sz) s (@HAppend.hAppend va_W va_W va_W _ ([((xa 5), .inl (X.2.1, 3, .inl fr))]) (@HAppend.hAppend va_W va_W va_W _ (xW h0 nw sp xa la lb) (@HAppend.hAppend va_W va_W va_W _ (rcW X nw an v b g) (rnW (xa 8) v_32)))) H locs → lv_has ls 9 [(8, .int r_32), (7, .int (nI k64)), (6, .int x_34), (5, .int x_35), (4, .int x_36), (0, .ref h0), (1, .int 2), (2, .int x2), (3, .int x3)] → Wx (F0 m 103 ls []) H locs) ?_ ?_
                · intro join_86
                  refine lv_icmp_eq (tgt := 103) zx zb dX10_turn_86 (by decide) (fun c_33 => ?_) (fun c_33 => ?_)
                  · exact join_86 x64_6 x64_5 x64_4 _ _ _ (by first | assumption | decide | exact k_m60 (by assumption)) G hl
                  · refine lv_iload zx zb dX10_turn_89 (lv_at hl 1 rfl) ?_
                    refine lv_istore (lv' := [(4, .int (nI k64)), (8, .int r_32), (7, .int (nI k64)), (6, .int x64_6), (5, .int x64_5), (0, .ref h0), (1, .int 2), (2, .int x2), (3, .int x3)]) zx zb dX10_turn_91 hl (by decide) rfl (fun ls hl => ?_)
                    refine lv_iload zx zb dX10_turn_93 (lv_at hl 1 rfl) ?_
                    refine lv_istore (lv' := [(5, .int r_32), (4, .int (nI k64)), (8, .int r_32), (7, .int (nI k64)), (6, .int x64_6), (0, .ref h0), (1, .int 2), (2, .int x2), (3, .int x3)]) zx zb dX10_turn_95 hl (by decide) rfl (fun ls hl => ?_)
                    refine lv_iload zx zb dX10_turn_97 (lv_at hl 2 rfl) ?_
                    refine lv_iconst (v := 1) zx zb dX10_turn_99 (by decide) ?_
                    refine r_isub (v := (r_32 - 1)) S rfl dX10_turn_100 ?_
                    refine lv_istore (lv' := [(6, .int (r_32 - 1)), (5, .int r_32), (4, .int (nI k64)), (8, .int r_32), (7, .int (nI k64)), (0, .ref h0), (1, .int 2), (2, .int x2), (3, .int x3)]) zx zb dX10_turn_101 hl (by decide) rfl (fun ls hl => ?_)
                    have hl := lv_sub hl (l' := [(8, .int r_32), (7, .int (nI k64)), (6, .int (r_32 - 1)), (5, .int r_32), (4, .int (nI k64)), (0, .ref h0), (1, .int 2), (2, .int x2), (3, .int x3)]) [3, 4, 0, 1, 2, 5, 6, 7, 8] rfl
                    exact join_86 (r_32 - 1) r_32 (nI k64) _ _ _ (by first | assumption | decide | exact k_m60 (by assumption)) G hl
                · intro x_34 x_35 x_36 H locs ls hk_x_34 G hl
                  refine lv_iinc (v := (nI (k64 + 1))) (lv' := [(7, .int (nI (k64 + 1))), (8, .int r_32), (6, .int x_34), (5, .int x_35), (4, .int x_36), (0, .ref h0), (1, .int 2), (2, .int x2), (3, .int x3)]) zx zb dX10_turn_103 hl (k := 1) rfl (nI_add k64 1) (by decide) rfl (fun ls hl => ?_)
                  refine lv_goto (tgt := 64) zx zb dX10_turn_106 (by decide) ?_
                  have G : wd X (va_A (@HAppend.hAppend va_W va_W va_W _ (xW h0 nw sp xa la lb) (@HAppend.hAppend va_W va_W va_W _ (rcW X nw an v b g) (@HAppend.hAppend va_W va_W va_W _ (rnW (xa 8) vg) ([((xa 5), .inl (X.2.1, 3, .inl fr))])))) sz) (va_A (@HAppend.hAppend va_W va_W va_W _ (xW h0 nw sp xa la lb) (@HAppend.hAppend va_W va_W va_W _ (rcW X nw an v b g) (@HAppend.hAppend va_W va_W va_W _ (rnW (xa 8) vg) ([((xa 5), .inl (X.2.1, 3, .inl fr))])))) sz) s (@HAppend.hAppend va_W va_W va_W _ (xW h0 nw sp xa la lb) (@HAppend.hAppend va_W va_W va_W _ (rcW X nw an v b g) (@HAppend.hAppend va_W va_W va_W _ (rnW (xa 8) v_32) ([((xa 5), .inl (X.2.1, 3, .inl fr))])))) H locs := wd_sub G [1, 2, 3, 4, 5, 6, 7, 8, 9, 10, 11, 12, 13, 14, 15, 16, 17, 18, 0] rfl rfl
                  have hl := lv_sub hl (l' := [(7, .int (nI (k64 + 1))), (6, .int x_34), (5, .int x_35), (4, .int x_36), (0, .ref h0), (1, .int 2), (2, .int x2), (3, .int x3)]) [0, 2, 3, 4, 5, 6, 7, 8] rfl
                  exact ih64 (k64 + 1) x_34 x_35 x_36 v_32 _ _ _ (by omega) (by omega) (by first | assumption | decide | exact k_m60 (by assumption)) G hl
          · refine lv_iconst (v := (-1)) zx zb dX10_turn_49 (by decide) ?_
            exact e_int S zr zlk (vp_nar_int _) G (vg, fr) [0, 1, 2, 3, 4, 5, 6, 7, 8, 9, 10, 11, 12, 13, 14, 15, 16, 17, 18] rfl rfl (Or.inr rfl) (trivial) dX10_turn_50
        · refine k_it (v := 3) rfl ?_
          refine r_aald (C := RX8) (b := (an 4)) S G 2 3 rfl rfl (k_vp (by decide)) rfl dX10_turn_42 ?_
          refine o_ri (cells' := 0) (slots' := 0) G rfl rfl (n_V (As := []) (rest := []) (C := RX8) (T := TX8) (N := 8) (ci := 6) S G (s_isHome l X (an 4) (fun k => v (34 + k)) H.size) gX10_turn_X8_isHome rfl rfl rfl hdV_X8_isHome ⟨Nat.le_of_ble_eq_true rfl, Nat.le_of_ble_eq_true rfl⟩ [6] rfl rfl 6 rfl rfl rfl hl.1 (Nat.le_of_ble_eq_true rfl) dX10_turn_43 ⟨Nat.le_of_ble_eq_true rfl, Nat.le_of_ble_eq_true rfl⟩) (fun r_37 u_37 H locs hp_37 G => ?_)
          have G : wd X (va_A (@HAppend.hAppend va_W va_W va_W _ (xW h0 nw sp xa la lb) (@HAppend.hAppend va_W va_W va_W _ (rcW X nw an v b g) (@HAppend.hAppend va_W va_W va_W _ (rnW (xa 8) vg) ([((xa 5), .inl (X.2.1, 3, .inl fr))])))) sz) (va_A (@HAppend.hAppend va_W va_W va_W _ (xW h0 nw sp xa la lb) (@HAppend.hAppend va_W va_W va_W _ (rcW X nw an v b g) (@HAppend.hAppend va_W va_W va_W _ (rnW (xa 8) vg) ([((xa 5), .inl (X.2.1, 3, .inl fr))])))) sz) s (@HAppend.hAppend va_W va_W va_W _ (xW h0 nw sp xa la lb) (@HAppend.hAppend va_W va_W va_W _ (rcW X nw an v b g) (@HAppend.hAppend va_W va_W va_W _ (rnW (xa 8) vg) ([((xa 5), .inl (X.2.1, 3, .inl fr))])))) H locs := G
          refine lv_if_eq (tgt := 51) zx zb dX10_turn_46 (by decide) (fun c_38 => ?_) (fun c_38 => ?_)
          · refine lv_iconst (v := (-1)) zx zb dX10_turn_51 (by decide) ?_
            refine lv_istore (lv' := [(4, .int (-1)), (0, .ref h0), (1, .int 3), (2, .int x2), (3, .int x3)]) zx zb dX10_turn_52 hl (by decide) rfl (fun ls hl => ?_)
            refine lv_iconst (v := (-1)) zx zb dX10_turn_54 (by decide) ?_
            refine lv_istore (lv' := [(5, .int (-1)), (4, .int (-1)), (0, .ref h0), (1, .int 3), (2, .int x2), (3, .int x3)]) zx zb dX10_turn_55 hl (by decide) rfl (fun ls hl => ?_)
            refine lv_bipush (v := 60) zx zb dX10_turn_57 (by decide) ?_
            refine lv_istore (lv' := [(6, .int 60), (5, .int (-1)), (4, .int (-1)), (0, .ref h0), (1, .int 3), (2, .int x2), (3, .int x3)]) zx zb dX10_turn_59 hl (by decide) rfl (fun ls hl => ?_)
            refine lv_iconst (v := 0) zx zb dX10_turn_61 (by decide) ?_
            refine lv_istore (lv' := [(7, .int 0), (6, .int 60), (5, .int (-1)), (4, .int (-1)), (0, .ref h0), (1, .int 3), (2, .int x2), (3, .int x3)]) zx zb dX10_turn_62 hl (by decide) rfl (fun ls hl => ?_)
            refine k_loop (P := ∀ (zm : Nat) (k64 : Nat) (x64_6 : Int32) (x64_5 : Int32) (x64_4 : Int32) (v64_2 : Nat → Int32) (H : Heap) (locs : List Loc) (ls : Array Slot), 31 + 1 ≤ k64 + zm → (k64 ≤ 31) → (x64_6 ≤ 60) → wd X (va_A (@HAppend.hAppend va_W va_W va_W _ (xW h0 nw sp xa la lb) (@HAppend.hAppend va_W va_W va_W _ (rcW X nw an v b g) (@HAppend.hAppend va_W va_W va_W _ (rnW (xa 8) vg) ([((xa 5), .inl (X.2.1, 3, .inl fr))])))) sz) (va_A (@HAppend.hAppend va_W va_W va_W _ (xW h0 nw sp xa la lb) (@HAppend.hAppend va_W va_W va_W _ (rcW X nw an v b g) (@HAppend.hAppend va_W va_W va_W _ (rnW (xa 8) vg) ([((xa 5), .inl (X.2.1, 3, .inl fr))])))) sz) s (@HAppend.hAppend va_W va_W va_W _ (xW h0 nw sp xa la lb) (@HAppend.hAppend va_W va_W va_W _ (rcW X nw an v b g) (@HAppend.hAppend va_W va_W va_W _ (rnW (xa 8) v64_2) ([((xa 5), .inl (X.2.1, 3, .inl fr))])))) H locs → lv_has ls 9 [(7, .int (nI k64)), (6, .int x64_6), (5, .int x64_5), (4, .int x64_4), (0, .ref h0), (1, .int 3), (2, .int x2), (3, .int x3)] → W p l e _ s m _ below meth c H locs _ _ _ (F0 m 64 ls [])) (fun loop => loop (31 + 1) 0 60 (-1) (-1) vg _ _ _ (by omega) (by omega) (by first | assumption | decide | exact k_m60 (by assumption)) G hl) ?_
            intro zm
            induction zm with
            | zero => intro k64 x64_6 x64_5 x64_4 v64_2 H locs ls zz q_hk_k64 q_hk_x64_6 _ _; exact absurd zz (by omega)
            | succ zm ih64 =>
              intro k64 x64_6 x64_5 x64_4 v64_2 H locs ls zm_64 hk_k64 hk_x64_6 G hl
              refine lv_iload zx zb dX10_turn_64 (lv_at hl 0 rfl) ?_
              refine lv_bipush (v := 30) zx zb dX10_turn_66 (by decide) ?_
              refine lv_icmp_gt (tgt := 109) zx zb dX10_turn_68 (by decide) (fun c_39 => ?_) (fun c_39 => ?_)
              · have fc_39 := j_lt (a := 30) (b := k64) (by omega) (by omega) c_39
                refine lv_iload_n zx zb dX10_turn_109 rfl (lv_at hl 7 rfl) ?_
                refine k_cutW (PP := fun Wx => ∀ (x_41 : Int32) (H : Heap) (locs : List Loc) (ls : Array Slot), wd X (va_A (@HAppend.hAppend va_W va_W va_W _ (xW h0 nw sp xa la lb) (@HAppend.hAppend va_W va_W va_W _ (rcW X nw an v b g) (@HAppend.hAppend va_W va_W va_W _ (rnW (xa 8) vg) ([((xa 5), .inl (X.2.1, 3, .inl fr))])))) sz) (va_A (@HAppend.hAppend va_W va_W va_W _ (xW h0 nw sp xa la lb) (@HAppend.hAppend va_W va_W va_W _ (rcW X nw an v b g) (@HAppend.hAppend va_W va_W va_W _ (rnW (xa 8) vg) ([((xa 5), .inl (X.2.1, 3, .inl fr))])))) sz) s (@HAppend.hAppend va_W va_W va_W _ (xW h0 nw sp xa la lb) (@HAppend.hAppend va_W va_W va_W _ (rcW X nw an v b g) (@HAppend.hAppend va_W va_W va_W _ (rnW (xa 8) v64_2) ([((xa 5), .inl (X.2.1, 3, .inl fr))])))) H locs → lv_has ls 9 [(7, .int (nI k64)), (6, .int x64_6), (5, .int x64_5), (4, .int x64_4), (0, .ref h0), (1, .int 3), (2, .int x2), (3, .int x3)] → Wx (F0 m 120 ls [.int x_41]) H locs) ?_ ?_
                · intro join_110
                  refine lv_if_ne (tgt := 118) zx zb dX10_turn_110 (by decide) (fun c_40 => ?_) (fun c_40 => ?_)
                  · refine lv_iload zx zb dX10_turn_118 (lv_at hl 2 rfl) ?_
                    exact join_110 x64_5 _ _ _  G hl
                  · refine lv_iload zx zb dX10_turn_113 (lv_at hl 3 rfl) ?_
                    refine lv_goto (tgt := 120) zx zb dX10_turn_115 (by decide) ?_
                    exact join_110 x64_4 _ _ _  G hl
                · intro x_41 H locs ls  G hl
                  exact e_int S zr zlk (vp_nar_int _) G (v64_2, fr) [0, 1, 2, 3, 4, 5, 6, 7, 8, 9, 10, 11, 12, 13, 14, 15, 16, 17, 18] rfl rfl (Or.inr rfl) (trivial) dX10_turn_120
              · have fc_39 := j_nlt (a := 30) (b := k64) (by omega) (by omega) c_39
                refine lv_aload_n zx zb dX10_turn_71 rfl (lv_at hl 4 rfl) ?_
                refine lv_iload_n zx zb dX10_turn_72 rfl (lv_at hl 5 rfl) ?_
                refine lv_iload_n zx zb dX10_turn_73 rfl (lv_at hl 6 rfl) ?_
                refine lv_iload zx zb dX10_turn_74 (lv_at hl 0 rfl) ?_
                refine lv_iload zx zb dX10_turn_76 (lv_at hl 1 rfl) ?_
                refine b_wi (cells' := 0) (slots' := 0) (wr := [((xa 5), .inl (X.2.1, 3, .inl fr))]) G rfl rfl [0, 1, 2, 3, 4, 5, 6, 7, 8, 9, 10, 11, 12, 13, 14, 15, 16, 17] [18] rfl rfl rfl rfl (n_V (As := [.int 3, .int x2, .int (nI k64), .int x64_6]) (rest := []) (C := RX10) (T := TX10) (N := 14) (ci := 8) S G (s_homeTurning l X h0 nw sp xa la lb an v b g v64_2 3 x2 k64 x64_6 hI_b (by omega) (by omega) (by first | decide | assumption | exact k_60a (by assumption)) H.size) gX10_turn_X10_homeTurning rfl rfl rfl hdV_X10_homeTurning ⟨Nat.le_of_ble_eq_true rfl, Nat.le_of_ble_eq_true rfl⟩ [0, 1, 2, 3, 4, 5, 6, 7, 8, 9, 10, 11, 12, 13, 14, 15, 16, 17] rfl rfl 0 rfl rfl rfl hl.1 (Nat.le_of_ble_eq_true rfl) dX10_turn_78 ⟨Nat.le_of_ble_eq_true rfl, Nat.le_of_ble_eq_true rfl⟩) (fun r_42 u_42 H locs hp_42 G => ?_)
                obtain ⟨v_42, rfl⟩ : ∃ z, z = u_42 := ⟨_, rfl⟩
                have hq_42 := hp_42
                have G : wd X (va_A (@HAppend.hAppend va_W va_W va_W _ (xW h0 nw sp xa la lb) (@HAppend.hAppend va_W va_W va_W _ (rcW X nw an v b g) (@HAppend.hAppend va_W va_W va_W _ (rnW (xa 8) vg) ([((xa 5), .inl (X.2.1, 3, .inl fr))])))) sz) (va_A (@HAppend.hAppend va_W va_W va_W _ (xW h0 nw sp xa la lb) (@HAppend.hAppend va_W va_W va_W _ (rcW X nw an v b g) (@HAppend.hAppend va_W va_W va_W _ (rnW (xa 8) vg) ([((xa 5), .inl (X.2.1, 3, .inl fr))])))) sz) s (@HAppend.hAppend va_W va_W va_W _ ([((xa 5), .inl (X.2.1, 3, .inl fr))]) (@HAppend.hAppend va_W va_W va_W _ (xW h0 nw sp xa la lb) (@HAppend.hAppend va_W va_W va_W _ (rcW X nw an v b g) (rnW (xa 8) v_42)))) H locs := G
                refine lv_istore (lv' := [(8, .int r_42), (7, .int (nI k64)), (6, .int x64_6), (5, .int x64_5), (4, .int x64_4), (0, .ref h0), (1, .int 3), (2, .int x2), (3, .int x3)]) zx zb dX10_turn_81 hl (by decide) rfl (fun ls hl => ?_)
                refine lv_iload zx zb dX10_turn_83 (lv_at hl 0 rfl) ?_
                refine lv_iconst (v := (-1)) zx zb dX10_turn_85 (by decide) ?_
                refine k_cutW (PP := fun Wx => ∀ (x_44 : Int32) (x_45 : Int32) (x_46 : Int32) (H : Heap) (locs : List Loc) (ls : Array Slot), (x_44 ≤ 60) → wd X (va_A (@HAppend.hAppend va_W va_W va_W _ (xW h0 nw sp xa la lb) (@HAppend.hAppend va_W va_W va_W _ (rcW X nw an v b g) (@HAppend.hAppend va_W va_W va_W _ (rnW (xa 8) vg) ([((xa 5), .inl (X.2.1, 3, .inl fr))])))) sz) (va_A (@HAppend.hAppend va_W va_W va_W _ (xW h0 nw sp xa la lb) (@HAppend.hAppend va_W va_W va_W _ (rcW X nw an v b g) (@HAppend.hAppend va_W va_W va_W _ (rnW (xa 8) vg) ([((xa 5), .inl (X.2.1, 3, .inl fr))])))) sz) s (@HAppend.hAppend va_W va_W va_W _ ([((xa 5), .inl (X.2.1, 3, .inl fr))]) (@HAppend.hAppend va_W va_W va_W _ (xW h0 nw sp xa la lb) (@HAppend.hAppend va_W va_W va_W _ (rcW X nw an v b g) (rnW (xa 8) v_42)))) H locs → lv_has ls 9 [(8, .int r_42), (7, .int (nI k64)), (6, .int x_44), (5, .int x_45), (4, .int x_46), (0, .ref h0), (1, .int 3), (2, .int x2), (3, .int x3)] → Wx (F0 m 103 ls []) H locs) ?_ ?_
                · intro join_86
                  refine lv_icmp_eq (tgt := 103) zx zb dX10_turn_86 (by decide) (fun c_43 => ?_) (fun c_43 => ?_)
                  · exact join_86 x64_6 x64_5 x64_4 _ _ _ (by first | assumption | decide | exact k_m60 (by assumption)) G hl
                  · refine lv_iload zx zb dX10_turn_89 (lv_at hl 1 rfl) ?_
                    refine lv_istore (lv' := [(4, .int (nI k64)), (8, .int r_42), (7, .int (nI k64)), (6, .int x64_6), (5, .int x64_5), (0, .ref h0), (1, .int 3), (2, .int x2), (3, .int x3)]) zx zb dX10_turn_91 hl (by decide) rfl (fun ls hl => ?_)
                    refine lv_iload zx zb dX10_turn_93 (lv_at hl 1 rfl) ?_
                    refine lv_istore (lv' := [(5, .int r_42), (4, .int (nI k64)), (8, .int r_42), (7, .int (nI k64)), (6, .int x64_6), (0, .ref h0), (1, .int 3), (2, .int x2), (3, .int x3)]) zx zb dX10_turn_95 hl (by decide) rfl (fun ls hl => ?_)
                    refine lv_iload zx zb dX10_turn_97 (lv_at hl 2 rfl) ?_
                    refine lv_iconst (v := 1) zx zb dX10_turn_99 (by decide) ?_
                    refine r_isub (v := (r_42 - 1)) S rfl dX10_turn_100 ?_
                    refine lv_istore (lv' := [(6, .int (r_42 - 1)), (5, .int r_42), (4, .int (nI k64)), (8, .int r_42), (7, .int (nI k64)), (0, .ref h0), (1, .int 3), (2, .int x2), (3, .int x3)]) zx zb dX10_turn_101 hl (by decide) rfl (fun ls hl => ?_)
                    have hl := lv_sub hl (l' := [(8, .int r_42), (7, .int (nI k64)), (6, .int (r_42 - 1)), (5, .int r_42), (4, .int (nI k64)), (0, .ref h0), (1, .int 3), (2, .int x2), (3, .int x3)]) [3, 4, 0, 1, 2, 5, 6, 7, 8] rfl
                    exact join_86 (r_42 - 1) r_42 (nI k64) _ _ _ (by first | assumption | decide | exact k_m60 (by assumption)) G hl
                · intro x_44 x_45 x_46 H locs ls hk_x_44 G hl
                  refine lv_iinc (v := (nI (k64 + 1))) (lv' := [(7, .int (nI (k64 + 1))), (8, .int r_42), (6, .int x_44), (5, .int x_45), (4, .int x_46), (0, .ref h0), (1, .int 3), (2, .int x2), (3, .int x3)]) zx zb dX10_turn_103 hl (k := 1) rfl (nI_add k64 1) (by decide) rfl (fun ls hl => ?_)
                  refine lv_goto (tgt := 64) zx zb dX10_turn_106 (by decide) ?_
                  have G : wd X (va_A (@HAppend.hAppend va_W va_W va_W _ (xW h0 nw sp xa la lb) (@HAppend.hAppend va_W va_W va_W _ (rcW X nw an v b g) (@HAppend.hAppend va_W va_W va_W _ (rnW (xa 8) vg) ([((xa 5), .inl (X.2.1, 3, .inl fr))])))) sz) (va_A (@HAppend.hAppend va_W va_W va_W _ (xW h0 nw sp xa la lb) (@HAppend.hAppend va_W va_W va_W _ (rcW X nw an v b g) (@HAppend.hAppend va_W va_W va_W _ (rnW (xa 8) vg) ([((xa 5), .inl (X.2.1, 3, .inl fr))])))) sz) s (@HAppend.hAppend va_W va_W va_W _ (xW h0 nw sp xa la lb) (@HAppend.hAppend va_W va_W va_W _ (rcW X nw an v b g) (@HAppend.hAppend va_W va_W va_W _ (rnW (xa 8) v_42) ([((xa 5), .inl (X.2.1, 3, .inl fr))])))) H locs := wd_sub G [1, 2, 3, 4, 5, 6, 7, 8, 9, 10, 11, 12, 13, 14, 15, 16, 17, 18, 0] rfl rfl
                  have hl := lv_sub hl (l' := [(7, .int (nI (k64 + 1))), (6, .int x_44), (5, .int x_45), (4, .int x_46), (0, .ref h0), (1, .int 3), (2, .int x2), (3, .int x3)]) [0, 2, 3, 4, 5, 6, 7, 8] rfl
                  exact ih64 (k64 + 1) x_44 x_45 x_46 v_42 _ _ _ (by omega) (by omega) (by first | assumption | decide | exact k_m60 (by assumption)) G hl
          · refine lv_iconst (v := (-1)) zx zb dX10_turn_49 (by decide) ?_
            exact e_int S zr zlk (vp_nar_int _) G (vg, fr) [0, 1, 2, 3, 4, 5, 6, 7, 8, 9, 10, 11, 12, 13, 14, 15, 16, 17, 18] rfl rfl (Or.inr rfl) (trivial) dX10_turn_50
        · refine k_it (v := 4) rfl ?_
          refine r_aald (C := RX8) (b := (an 5)) S G 2 3 rfl rfl (k_vp (by decide)) rfl dX10_turn_42 ?_
          refine o_ri (cells' := 0) (slots' := 0) G rfl rfl (n_V (As := []) (rest := []) (C := RX8) (T := TX8) (N := 8) (ci := 6) S G (s_isHome l X (an 5) (fun k => v (42 + k)) H.size) gX10_turn_X8_isHome rfl rfl rfl hdV_X8_isHome ⟨Nat.le_of_ble_eq_true rfl, Nat.le_of_ble_eq_true rfl⟩ [7] rfl rfl 7 rfl rfl rfl hl.1 (Nat.le_of_ble_eq_true rfl) dX10_turn_43 ⟨Nat.le_of_ble_eq_true rfl, Nat.le_of_ble_eq_true rfl⟩) (fun r_47 u_47 H locs hp_47 G => ?_)
          have G : wd X (va_A (@HAppend.hAppend va_W va_W va_W _ (xW h0 nw sp xa la lb) (@HAppend.hAppend va_W va_W va_W _ (rcW X nw an v b g) (@HAppend.hAppend va_W va_W va_W _ (rnW (xa 8) vg) ([((xa 5), .inl (X.2.1, 3, .inl fr))])))) sz) (va_A (@HAppend.hAppend va_W va_W va_W _ (xW h0 nw sp xa la lb) (@HAppend.hAppend va_W va_W va_W _ (rcW X nw an v b g) (@HAppend.hAppend va_W va_W va_W _ (rnW (xa 8) vg) ([((xa 5), .inl (X.2.1, 3, .inl fr))])))) sz) s (@HAppend.hAppend va_W va_W va_W _ (xW h0 nw sp xa la lb) (@HAppend.hAppend va_W va_W va_W _ (rcW X nw an v b g) (@HAppend.hAppend va_W va_W va_W _ (rnW (xa 8) vg) ([((xa 5), .inl (X.2.1, 3, .inl fr))])))) H locs := G
          refine lv_if_eq (tgt := 51) zx zb dX10_turn_46 (by decide) (fun c_48 => ?_) (fun c_48 => ?_)
          · refine lv_iconst (v := (-1)) zx zb dX10_turn_51 (by decide) ?_
            refine lv_istore (lv' := [(4, .int (-1)), (0, .ref h0), (1, .int 4), (2, .int x2), (3, .int x3)]) zx zb dX10_turn_52 hl (by decide) rfl (fun ls hl => ?_)
            refine lv_iconst (v := (-1)) zx zb dX10_turn_54 (by decide) ?_
            refine lv_istore (lv' := [(5, .int (-1)), (4, .int (-1)), (0, .ref h0), (1, .int 4), (2, .int x2), (3, .int x3)]) zx zb dX10_turn_55 hl (by decide) rfl (fun ls hl => ?_)
            refine lv_bipush (v := 60) zx zb dX10_turn_57 (by decide) ?_
            refine lv_istore (lv' := [(6, .int 60), (5, .int (-1)), (4, .int (-1)), (0, .ref h0), (1, .int 4), (2, .int x2), (3, .int x3)]) zx zb dX10_turn_59 hl (by decide) rfl (fun ls hl => ?_)
            refine lv_iconst (v := 0) zx zb dX10_turn_61 (by decide) ?_
            refine lv_istore (lv' := [(7, .int 0), (6, .int 60), (5, .int (-1)), (4, .int (-1)), (0, .ref h0), (1, .int 4), (2, .int x2), (3, .int x3)]) zx zb dX10_turn_62 hl (by decide) rfl (fun ls hl => ?_)
            refine k_loop (P := ∀ (zm : Nat) (k64 : Nat) (x64_6 : Int32) (x64_5 : Int32) (x64_4 : Int32) (v64_2 : Nat → Int32) (H : Heap) (locs : List Loc) (ls : Array Slot), 31 + 1 ≤ k64 + zm → (k64 ≤ 31) → (x64_6 ≤ 60) → wd X (va_A (@HAppend.hAppend va_W va_W va_W _ (xW h0 nw sp xa la lb) (@HAppend.hAppend va_W va_W va_W _ (rcW X nw an v b g) (@HAppend.hAppend va_W va_W va_W _ (rnW (xa 8) vg) ([((xa 5), .inl (X.2.1, 3, .inl fr))])))) sz) (va_A (@HAppend.hAppend va_W va_W va_W _ (xW h0 nw sp xa la lb) (@HAppend.hAppend va_W va_W va_W _ (rcW X nw an v b g) (@HAppend.hAppend va_W va_W va_W _ (rnW (xa 8) vg) ([((xa 5), .inl (X.2.1, 3, .inl fr))])))) sz) s (@HAppend.hAppend va_W va_W va_W _ (xW h0 nw sp xa la lb) (@HAppend.hAppend va_W va_W va_W _ (rcW X nw an v b g) (@HAppend.hAppend va_W va_W va_W _ (rnW (xa 8) v64_2) ([((xa 5), .inl (X.2.1, 3, .inl fr))])))) H locs → lv_has ls 9 [(7, .int (nI k64)), (6, .int x64_6), (5, .int x64_5), (4, .int x64_4), (0, .ref h0), (1, .int 4), (2, .int x2), (3, .int x3)] → W p l e _ s m _ below meth c H locs _ _ _ (F0 m 64 ls [])) (fun loop => loop (31 + 1) 0 60 (-1) (-1) vg _ _ _ (by omega) (by omega) (by first | assumption | decide | exact k_m60 (by assumption)) G hl) ?_
            intro zm
            induction zm with
            | zero => intro k64 x64_6 x64_5 x64_4 v64_2 H locs ls zz q_hk_k64 q_hk_x64_6 _ _; exact absurd zz (by omega)
            | succ zm ih64 =>
              intro k64 x64_6 x64_5 x64_4 v64_2 H locs ls zm_64 hk_k64 hk_x64_6 G hl
              refine lv_iload zx zb dX10_turn_64 (lv_at hl 0 rfl) ?_
              refine lv_bipush (v := 30) zx zb dX10_turn_66 (by decide) ?_
              refine lv_icmp_gt (tgt := 109) zx zb dX10_turn_68 (by decide) (fun c_49 => ?_) (fun c_49 => ?_)
              · have fc_49 := j_lt (a := 30) (b := k64) (by omega) (by omega) c_49
                refine lv_iload_n zx zb dX10_turn_109 rfl (lv_at hl 7 rfl) ?_
                refine k_cutW (PP := fun Wx => ∀ (x_51 : Int32) (H : Heap) (locs : List Loc) (ls : Array Slot), wd X (va_A (@HAppend.hAppend va_W va_W va_W _ (xW h0 nw sp xa la lb) (@HAppend.hAppend va_W va_W va_W _ (rcW X nw an v b g) (@HAppend.hAppend va_W va_W va_W _ (rnW (xa 8) vg) ([((xa 5), .inl (X.2.1, 3, .inl fr))])))) sz) (va_A (@HAppend.hAppend va_W va_W va_W _ (xW h0 nw sp xa la lb) (@HAppend.hAppend va_W va_W va_W _ (rcW X nw an v b g) (@HAppend.hAppend va_W va_W va_W _ (rnW (xa 8) vg) ([((xa 5), .inl (X.2.1, 3, .inl fr))])))) sz) s (@HAppend.hAppend va_W va_W va_W _ (xW h0 nw sp xa la lb) (@HAppend.hAppend va_W va_W va_W _ (rcW X nw an v b g) (@HAppend.hAppend va_W va_W va_W _ (rnW (xa 8) v64_2) ([((xa 5), .inl (X.2.1, 3, .inl fr))])))) H locs → lv_has ls 9 [(7, .int (nI k64)), (6, .int x64_6), (5, .int x64_5), (4, .int x64_4), (0, .ref h0), (1, .int 4), (2, .int x2), (3, .int x3)] → Wx (F0 m 120 ls [.int x_51]) H locs) ?_ ?_
                · intro join_110
                  refine lv_if_ne (tgt := 118) zx zb dX10_turn_110 (by decide) (fun c_50 => ?_) (fun c_50 => ?_)
                  · refine lv_iload zx zb dX10_turn_118 (lv_at hl 2 rfl) ?_
                    exact join_110 x64_5 _ _ _  G hl
                  · refine lv_iload zx zb dX10_turn_113 (lv_at hl 3 rfl) ?_
                    refine lv_goto (tgt := 120) zx zb dX10_turn_115 (by decide) ?_
                    exact join_110 x64_4 _ _ _  G hl
                · intro x_51 H locs ls  G hl
                  exact e_int S zr zlk (vp_nar_int _) G (v64_2, fr) [0, 1, 2, 3, 4, 5, 6, 7, 8, 9, 10, 11, 12, 13, 14, 15, 16, 17, 18] rfl rfl (Or.inr rfl) (trivial) dX10_turn_120
              · have fc_49 := j_nlt (a := 30) (b := k64) (by omega) (by omega) c_49
                refine lv_aload_n zx zb dX10_turn_71 rfl (lv_at hl 4 rfl) ?_
                refine lv_iload_n zx zb dX10_turn_72 rfl (lv_at hl 5 rfl) ?_
                refine lv_iload_n zx zb dX10_turn_73 rfl (lv_at hl 6 rfl) ?_
                refine lv_iload zx zb dX10_turn_74 (lv_at hl 0 rfl) ?_
                refine lv_iload zx zb dX10_turn_76 (lv_at hl 1 rfl) ?_
                refine b_wi (cells' := 0) (slots' := 0) (wr := [((xa 5), .inl (X.2.1, 3, .inl fr))]) G rfl rfl [0, 1, 2, 3, 4, 5, 6, 7, 8, 9, 10, 11, 12, 13, 14, 15, 16, 17] [18] rfl rfl rfl rfl (n_V (As := [.int 4, .int x2, .int (nI k64), .int x64_6]) (rest := []) (C := RX10) (T := TX10) (N := 14) (ci := 8) S G (s_homeTurning l X h0 nw sp xa la lb an v b g v64_2 4 x2 k64 x64_6 hI_b (by omega) (by omega) (by first | decide | assumption | exact k_60a (by assumption)) H.size) gX10_turn_X10_homeTurning rfl rfl rfl hdV_X10_homeTurning ⟨Nat.le_of_ble_eq_true rfl, Nat.le_of_ble_eq_true rfl⟩ [0, 1, 2, 3, 4, 5, 6, 7, 8, 9, 10, 11, 12, 13, 14, 15, 16, 17] rfl rfl 0 rfl rfl rfl hl.1 (Nat.le_of_ble_eq_true rfl) dX10_turn_78 ⟨Nat.le_of_ble_eq_true rfl, Nat.le_of_ble_eq_true rfl⟩) (fun r_52 u_52 H locs hp_52 G => ?_)
                obtain ⟨v_52, rfl⟩ : ∃ z, z = u_52 := ⟨_, rfl⟩
                have hq_52 := hp_52
                have G : wd X (va_A (@HAppend.hAppend va_W va_W va_W _ (xW h0 nw sp xa la lb) (@HAppend.hAppend va_W va_W va_W _ (rcW X nw an v b g) (@HAppend.hAppend va_W va_W va_W _ (rnW (xa 8) vg) ([((xa 5), .inl (X.2.1, 3, .inl fr))])))) sz) (va_A (@HAppend.hAppend va_W va_W va_W _ (xW h0 nw sp xa la lb) (@HAppend.hAppend va_W va_W va_W _ (rcW X nw an v b g) (@HAppend.hAppend va_W va_W va_W _ (rnW (xa 8) vg) ([((xa 5), .inl (X.2.1, 3, .inl fr))])))) sz) s (@HAppend.hAppend va_W va_W va_W _ ([((xa 5), .inl (X.2.1, 3, .inl fr))]) (@HAppend.hAppend va_W va_W va_W _ (xW h0 nw sp xa la lb) (@HAppend.hAppend va_W va_W va_W _ (rcW X nw an v b g) (rnW (xa 8) v_52)))) H locs := G
                refine lv_istore (lv' := [(8, .int r_52), (7, .int (nI k64)), (6, .int x64_6), (5, .int x64_5), (4, .int x64_4), (0, .ref h0), (1, .int 4), (2, .int x2), (3, .int x3)]) zx zb dX10_turn_81 hl (by decide) rfl (fun ls hl => ?_)
                refine lv_iload zx zb dX10_turn_83 (lv_at hl 0 rfl) ?_
                refine lv_iconst (v := (-1)) zx zb dX10_turn_85 (by decide) ?_
                refine k_cutW (PP := fun Wx => ∀ (x_54 : Int32) (x_55 : Int32) (x_56 : Int32) (H : Heap) (locs : List Loc) (ls : Array Slot), (x_54 ≤ 60) → wd X (va_A (@HAppend.hAppend va_W va_W va_W _ (xW h0 nw sp xa la lb) (@HAppend.hAppend va_W va_W va_W _ (rcW X nw an v b g) (@HAppend.hAppend va_W va_W va_W _ (rnW (xa 8) vg) ([((xa 5), .inl (X.2.1, 3, .inl fr))])))) sz) (va_A (@HAppend.hAppend va_W va_W va_W _ (xW h0 nw sp xa la lb) (@HAppend.hAppend va_W va_W va_W _ (rcW X nw an v b g) (@HAppend.hAppend va_W va_W va_W _ (rnW (xa 8) vg) ([((xa 5), .inl (X.2.1, 3, .inl fr))])))) sz) s (@HAppend.hAppend va_W va_W va_W _ ([((xa 5), .inl (X.2.1, 3, .inl fr))]) (@HAppend.hAppend va_W va_W va_W _ (xW h0 nw sp xa la lb) (@HAppend.hAppend va_W va_W va_W _ (rcW X nw an v b g) (rnW (xa 8) v_52)))) H locs → lv_has ls 9 [(8, .int r_52), (7, .int (nI k64)), (6, .int x_54), (5, .int x_55), (4, .int x_56), (0, .ref h0), (1, .int 4), (2, .int x2), (3, .int x3)] → Wx (F0 m 103 ls []) H locs) ?_ ?_
                · intro join_86
                  refine lv_icmp_eq (tgt := 103) zx zb dX10_turn_86 (by decide) (fun c_53 => ?_) (fun c_53 => ?_)
                  · exact join_86 x64_6 x64_5 x64_4 _ _ _ (by first | assumption | decide | exact k_m60 (by assumption)) G hl
                  · refine lv_iload zx zb dX10_turn_89 (lv_at hl 1 rfl) ?_
                    refine lv_istore (lv' := [(4, .int (nI k64)), (8, .int r_52), (7, .int (nI k64)), (6, .int x64_6), (5, .int x64_5), (0, .ref h0), (1, .int 4), (2, .int x2), (3, .int x3)]) zx zb dX10_turn_91 hl (by decide) rfl (fun ls hl => ?_)
                    refine lv_iload zx zb dX10_turn_93 (lv_at hl 1 rfl) ?_
                    refine lv_istore (lv' := [(5, .int r_52), (4, .int (nI k64)), (8, .int r_52), (7, .int (nI k64)), (6, .int x64_6), (0, .ref h0), (1, .int 4), (2, .int x2), (3, .int x3)]) zx zb dX10_turn_95 hl (by decide) rfl (fun ls hl => ?_)
                    refine lv_iload zx zb dX10_turn_97 (lv_at hl 2 rfl) ?_
                    refine lv_iconst (v := 1) zx zb dX10_turn_99 (by decide) ?_
                    refine r_isub (v := (r_52 - 1)) S rfl dX10_turn_100 ?_
                    refine lv_istore (lv' := [(6, .int (r_52 - 1)), (5, .int r_52), (4, .int (nI k64)), (8, .int r_52), (7, .int (nI k64)), (0, .ref h0), (1, .int 4), (2, .int x2), (3, .int x3)]) zx zb dX10_turn_101 hl (by decide) rfl (fun ls hl => ?_)
                    have hl := lv_sub hl (l' := [(8, .int r_52), (7, .int (nI k64)), (6, .int (r_52 - 1)), (5, .int r_52), (4, .int (nI k64)), (0, .ref h0), (1, .int 4), (2, .int x2), (3, .int x3)]) [3, 4, 0, 1, 2, 5, 6, 7, 8] rfl
                    exact join_86 (r_52 - 1) r_52 (nI k64) _ _ _ (by first | assumption | decide | exact k_m60 (by assumption)) G hl
                · intro x_54 x_55 x_56 H locs ls hk_x_54 G hl
                  refine lv_iinc (v := (nI (k64 + 1))) (lv' := [(7, .int (nI (k64 + 1))), (8, .int r_52), (6, .int x_54), (5, .int x_55), (4, .int x_56), (0, .ref h0), (1, .int 4), (2, .int x2), (3, .int x3)]) zx zb dX10_turn_103 hl (k := 1) rfl (nI_add k64 1) (by decide) rfl (fun ls hl => ?_)
                  refine lv_goto (tgt := 64) zx zb dX10_turn_106 (by decide) ?_
                  have G : wd X (va_A (@HAppend.hAppend va_W va_W va_W _ (xW h0 nw sp xa la lb) (@HAppend.hAppend va_W va_W va_W _ (rcW X nw an v b g) (@HAppend.hAppend va_W va_W va_W _ (rnW (xa 8) vg) ([((xa 5), .inl (X.2.1, 3, .inl fr))])))) sz) (va_A (@HAppend.hAppend va_W va_W va_W _ (xW h0 nw sp xa la lb) (@HAppend.hAppend va_W va_W va_W _ (rcW X nw an v b g) (@HAppend.hAppend va_W va_W va_W _ (rnW (xa 8) vg) ([((xa 5), .inl (X.2.1, 3, .inl fr))])))) sz) s (@HAppend.hAppend va_W va_W va_W _ (xW h0 nw sp xa la lb) (@HAppend.hAppend va_W va_W va_W _ (rcW X nw an v b g) (@HAppend.hAppend va_W va_W va_W _ (rnW (xa 8) v_52) ([((xa 5), .inl (X.2.1, 3, .inl fr))])))) H locs := wd_sub G [1, 2, 3, 4, 5, 6, 7, 8, 9, 10, 11, 12, 13, 14, 15, 16, 17, 18, 0] rfl rfl
                  have hl := lv_sub hl (l' := [(7, .int (nI (k64 + 1))), (6, .int x_54), (5, .int x_55), (4, .int x_56), (0, .ref h0), (1, .int 4), (2, .int x2), (3, .int x3)]) [0, 2, 3, 4, 5, 6, 7, 8] rfl
                  exact ih64 (k64 + 1) x_54 x_55 x_56 v_52 _ _ _ (by omega) (by omega) (by first | assumption | decide | exact k_m60 (by assumption)) G hl
          · refine lv_iconst (v := (-1)) zx zb dX10_turn_49 (by decide) ?_
            exact e_int S zr zlk (vp_nar_int _) G (vg, fr) [0, 1, 2, 3, 4, 5, 6, 7, 8, 9, 10, 11, 12, 13, 14, 15, 16, 17, 18] rfl rfl (Or.inr rfl) (trivial) dX10_turn_50
        · refine k_it (v := 5) rfl ?_
          refine r_aald (C := RX8) (b := (an 6)) S G 2 3 rfl rfl (k_vp (by decide)) rfl dX10_turn_42 ?_
          refine o_ri (cells' := 0) (slots' := 0) G rfl rfl (n_V (As := []) (rest := []) (C := RX8) (T := TX8) (N := 8) (ci := 6) S G (s_isHome l X (an 6) (fun k => v (50 + k)) H.size) gX10_turn_X8_isHome rfl rfl rfl hdV_X8_isHome ⟨Nat.le_of_ble_eq_true rfl, Nat.le_of_ble_eq_true rfl⟩ [8] rfl rfl 8 rfl rfl rfl hl.1 (Nat.le_of_ble_eq_true rfl) dX10_turn_43 ⟨Nat.le_of_ble_eq_true rfl, Nat.le_of_ble_eq_true rfl⟩) (fun r_57 u_57 H locs hp_57 G => ?_)
          have G : wd X (va_A (@HAppend.hAppend va_W va_W va_W _ (xW h0 nw sp xa la lb) (@HAppend.hAppend va_W va_W va_W _ (rcW X nw an v b g) (@HAppend.hAppend va_W va_W va_W _ (rnW (xa 8) vg) ([((xa 5), .inl (X.2.1, 3, .inl fr))])))) sz) (va_A (@HAppend.hAppend va_W va_W va_W _ (xW h0 nw sp xa la lb) (@HAppend.hAppend va_W va_W va_W _ (rcW X nw an v b g) (@HAppend.hAppend va_W va_W va_W _ (rnW (xa 8) vg) ([((xa 5), .inl (X.2.1, 3, .inl fr))])))) sz) s (@HAppend.hAppend va_W va_W va_W _ (xW h0 nw sp xa la lb) (@HAppend.hAppend va_W va_W va_W _ (rcW X nw an v b g) (@HAppend.hAppend va_W va_W va_W _ (rnW (xa 8) vg) ([((xa 5), .inl (X.2.1, 3, .inl fr))])))) H locs := G
          refine lv_if_eq (tgt := 51) zx zb dX10_turn_46 (by decide) (fun c_58 => ?_) (fun c_58 => ?_)
          · refine lv_iconst (v := (-1)) zx zb dX10_turn_51 (by decide) ?_
            refine lv_istore (lv' := [(4, .int (-1)), (0, .ref h0), (1, .int 5), (2, .int x2), (3, .int x3)]) zx zb dX10_turn_52 hl (by decide) rfl (fun ls hl => ?_)
            refine lv_iconst (v := (-1)) zx zb dX10_turn_54 (by decide) ?_
            refine lv_istore (lv' := [(5, .int (-1)), (4, .int (-1)), (0, .ref h0), (1, .int 5), (2, .int x2), (3, .int x3)]) zx zb dX10_turn_55 hl (by decide) rfl (fun ls hl => ?_)
            refine lv_bipush (v := 60) zx zb dX10_turn_57 (by decide) ?_
            refine lv_istore (lv' := [(6, .int 60), (5, .int (-1)), (4, .int (-1)), (0, .ref h0), (1, .int 5), (2, .int x2), (3, .int x3)]) zx zb dX10_turn_59 hl (by decide) rfl (fun ls hl => ?_)
            refine lv_iconst (v := 0) zx zb dX10_turn_61 (by decide) ?_
            refine lv_istore (lv' := [(7, .int 0), (6, .int 60), (5, .int (-1)), (4, .int (-1)), (0, .ref h0), (1, .int 5), (2, .int x2), (3, .int x3)]) zx zb dX10_turn_62 hl (by decide) rfl (fun ls hl => ?_)
            refine k_loop (P := ∀ (zm : Nat) (k64 : Nat) (x64_6 : Int32) (x64_5 : Int32) (x64_4 : Int32) (v64_2 : Nat → Int32) (H : Heap) (locs : List Loc) (ls : Array Slot), 31 + 1 ≤ k64 + zm → (k64 ≤ 31) → (x64_6 ≤ 60) → wd X (va_A (@HAppend.hAppend va_W va_W va_W _ (xW h0 nw sp xa la lb) (@HAppend.hAppend va_W va_W va_W _ (rcW X nw an v b g) (@HAppend.hAppend va_W va_W va_W _ (rnW (xa 8) vg) ([((xa 5), .inl (X.2.1, 3, .inl fr))])))) sz) (va_A (@HAppend.hAppend va_W va_W va_W _ (xW h0 nw sp xa la lb) (@HAppend.hAppend va_W va_W va_W _ (rcW X nw an v b g) (@HAppend.hAppend va_W va_W va_W _ (rnW (xa 8) vg) ([((xa 5), .inl (X.2.1, 3, .inl fr))])))) sz) s (@HAppend.hAppend va_W va_W va_W _ (xW h0 nw sp xa la lb) (@HAppend.hAppend va_W va_W va_W _ (rcW X nw an v b g) (@HAppend.hAppend va_W va_W va_W _ (rnW (xa 8) v64_2) ([((xa 5), .inl (X.2.1, 3, .inl fr))])))) H locs → lv_has ls 9 [(7, .int (nI k64)), (6, .int x64_6), (5, .int x64_5), (4, .int x64_4), (0, .ref h0), (1, .int 5), (2, .int x2), (3, .int x3)] → W p l e _ s m _ below meth c H locs _ _ _ (F0 m 64 ls [])) (fun loop => loop (31 + 1) 0 60 (-1) (-1) vg _ _ _ (by omega) (by omega) (by first | assumption | decide | exact k_m60 (by assumption)) G hl) ?_
            intro zm
            induction zm with
            | zero => intro k64 x64_6 x64_5 x64_4 v64_2 H locs ls zz q_hk_k64 q_hk_x64_6 _ _; exact absurd zz (by omega)
            | succ zm ih64 =>
              intro k64 x64_6 x64_5 x64_4 v64_2 H locs ls zm_64 hk_k64 hk_x64_6 G hl
              refine lv_iload zx zb dX10_turn_64 (lv_at hl 0 rfl) ?_
              refine lv_bipush (v := 30) zx zb dX10_turn_66 (by decide) ?_
              refine lv_icmp_gt (tgt := 109) zx zb dX10_turn_68 (by decide) (fun c_59 => ?_) (fun c_59 => ?_)
              · have fc_59 := j_lt (a := 30) (b := k64) (by omega) (by omega) c_59
                refine lv_iload_n zx zb dX10_turn_109 rfl (lv_at hl 7 rfl) ?_
                refine k_cutW (PP := fun Wx => ∀ (x_61 : Int32) (H : Heap) (locs : List Loc) (ls : Array Slot), wd X (va_A (@HAppend.hAppend va_W va_W va_W _ (xW h0 nw sp xa la lb) (@HAppend.hAppend va_W va_W va_W _ (rcW X nw an v b g) (@HAppend.hAppend va_W va_W va_W _ (rnW (xa 8) vg) ([((xa 5), .inl (X.2.1, 3, .inl fr))])))) sz) (va_A (@HAppend.hAppend va_W va_W va_W _ (xW h0 nw sp xa la lb) (@HAppend.hAppend va_W va_W va_W _ (rcW X nw an v b g) (@HAppend.hAppend va_W va_W va_W _ (rnW (xa 8) vg) ([((xa 5), .inl (X.2.1, 3, .inl fr))])))) sz) s (@HAppend.hAppend va_W va_W va_W _ (xW h0 nw sp xa la lb) (@HAppend.hAppend va_W va_W va_W _ (rcW X nw an v b g) (@HAppend.hAppend va_W va_W va_W _ (rnW (xa 8) v64_2) ([((xa 5), .inl (X.2.1, 3, .inl fr))])))) H locs → lv_has ls 9 [(7, .int (nI k64)), (6, .int x64_6), (5, .int x64_5), (4, .int x64_4), (0, .ref h0), (1, .int 5), (2, .int x2), (3, .int x3)] → Wx (F0 m 120 ls [.int x_61]) H locs) ?_ ?_
                · intro join_110
                  refine lv_if_ne (tgt := 118) zx zb dX10_turn_110 (by decide) (fun c_60 => ?_) (fun c_60 => ?_)
                  · refine lv_iload zx zb dX10_turn_118 (lv_at hl 2 rfl) ?_
                    exact join_110 x64_5 _ _ _  G hl
                  · refine lv_iload zx zb dX10_turn_113 (lv_at hl 3 rfl) ?_
                    refine lv_goto (tgt := 120) zx zb dX10_turn_115 (by decide) ?_
                    exact join_110 x64_4 _ _ _  G hl
                · intro x_61 H locs ls  G hl
                  exact e_int S zr zlk (vp_nar_int _) G (v64_2, fr) [0, 1, 2, 3, 4, 5, 6, 7, 8, 9, 10, 11, 12, 13, 14, 15, 16, 17, 18] rfl rfl (Or.inr rfl) (trivial) dX10_turn_120
              · have fc_59 := j_nlt (a := 30) (b := k64) (by omega) (by omega) c_59
                refine lv_aload_n zx zb dX10_turn_71 rfl (lv_at hl 4 rfl) ?_
                refine lv_iload_n zx zb dX10_turn_72 rfl (lv_at hl 5 rfl) ?_
                refine lv_iload_n zx zb dX10_turn_73 rfl (lv_at hl 6 rfl) ?_
                refine lv_iload zx zb dX10_turn_74 (lv_at hl 0 rfl) ?_
                refine lv_iload zx zb dX10_turn_76 (lv_at hl 1 rfl) ?_
                refine b_wi (cells' := 0) (slots' := 0) (wr := [((xa 5), .inl (X.2.1, 3, .inl fr))]) G rfl rfl [0, 1, 2, 3, 4, 5, 6, 7, 8, 9, 10, 11, 12, 13, 14, 15, 16, 17] [18] rfl rfl rfl rfl (n_V (As := [.int 5, .int x2, .int (nI k64), .int x64_6]) (rest := []) (C := RX10) (T := TX10) (N := 14) (ci := 8) S G (s_homeTurning l X h0 nw sp xa la lb an v b g v64_2 5 x2 k64 x64_6 hI_b (by omega) (by omega) (by first | decide | assumption | exact k_60a (by assumption)) H.size) gX10_turn_X10_homeTurning rfl rfl rfl hdV_X10_homeTurning ⟨Nat.le_of_ble_eq_true rfl, Nat.le_of_ble_eq_true rfl⟩ [0, 1, 2, 3, 4, 5, 6, 7, 8, 9, 10, 11, 12, 13, 14, 15, 16, 17] rfl rfl 0 rfl rfl rfl hl.1 (Nat.le_of_ble_eq_true rfl) dX10_turn_78 ⟨Nat.le_of_ble_eq_true rfl, Nat.le_of_ble_eq_true rfl⟩) (fun r_62 u_62 H locs hp_62 G => ?_)
                obtain ⟨v_62, rfl⟩ : ∃ z, z = u_62 := ⟨_, rfl⟩
                have hq_62 := hp_62
                have G : wd X (va_A (@HAppend.hAppend va_W va_W va_W _ (xW h0 nw sp xa la lb) (@HAppend.hAppend va_W va_W va_W _ (rcW X nw an v b g) (@HAppend.hAppend va_W va_W va_W _ (rnW (xa 8) vg) ([((xa 5), .inl (X.2.1, 3, .inl fr))])))) sz) (va_A (@HAppend.hAppend va_W va_W va_W _ (xW h0 nw sp xa la lb) (@HAppend.hAppend va_W va_W va_W _ (rcW X nw an v b g) (@HAppend.hAppend va_W va_W va_W _ (rnW (xa 8) vg) ([((xa 5), .inl (X.2.1, 3, .inl fr))])))) sz) s (@HAppend.hAppend va_W va_W va_W _ ([((xa 5), .inl (X.2.1, 3, .inl fr))]) (@HAppend.hAppend va_W va_W va_W _ (xW h0 nw sp xa la lb) (@HAppend.hAppend va_W va_W va_W _ (rcW X nw an v b g) (rnW (xa 8) v_62)))) H locs := G
                refine lv_istore (lv' := [(8, .int r_62), (7, .int (nI k64)), (6, .int x64_6), (5, .int x64_5), (4, .int x64_4), (0, .ref h0), (1, .int 5), (2, .int x2), (3, .int x3)]) zx zb dX10_turn_81 hl (by decide) rfl (fun ls hl => ?_)
                refine lv_iload zx zb dX10_turn_83 (lv_at hl 0 rfl) ?_
                refine lv_iconst (v := (-1)) zx zb dX10_turn_85 (by decide) ?_
                refine k_cutW (PP := fun Wx => ∀ (x_64 : Int32) (x_65 : Int32) (x_66 : Int32) (H : Heap) (locs : List Loc) (ls : Array Slot), (x_64 ≤ 60) → wd X (va_A (@HAppend.hAppend va_W va_W va_W _ (xW h0 nw sp xa la lb) (@HAppend.hAppend va_W va_W va_W _ (rcW X nw an v b g) (@HAppend.hAppend va_W va_W va_W _ (rnW (xa 8) vg) ([((xa 5), .inl (X.2.1, 3, .inl fr))])))) sz) (va_A (@HAppend.hAppend va_W va_W va_W _ (xW h0 nw sp xa la lb) (@HAppend.hAppend va_W va_W va_W _ (rcW X nw an v b g) (@HAppend.hAppend va_W va_W va_W _ (rnW (xa 8) vg) ([((xa 5), .inl (X.2.1, 3, .inl fr))])))) sz) s (@HAppend.hAppend va_W va_W va_W _ ([((xa 5), .inl (X.2.1, 3, .inl fr))]) (@HAppend.hAppend va_W va_W va_W _ (xW h0 nw sp xa la lb) (@HAppend.hAppend va_W va_W va_W _ (rcW X nw an v b g) (rnW (xa 8) v_62)))) H locs → lv_has ls 9 [(8, .int r_62), (7, .int (nI k64)), (6, .int x_64), (5, .int x_65), (4, .int x_66), (0, .ref h0), (1, .int 5), (2, .int x2), (3, .int x3)] → Wx (F0 m 103 ls []) H locs) ?_ ?_
                · intro join_86
                  refine lv_icmp_eq (tgt := 103) zx zb dX10_turn_86 (by decide) (fun c_63 => ?_) (fun c_63 => ?_)
                  · exact join_86 x64_6 x64_5 x64_4 _ _ _ (by first | assumption | decide | exact k_m60 (by assumption)) G hl
                  · refine lv_iload zx zb dX10_turn_89 (lv_at hl 1 rfl) ?_
                    refine lv_istore (lv' := [(4, .int (nI k64)), (8, .int r_62), (7, .int (nI k64)), (6, .int x64_6), (5, .int x64_5), (0, .ref h0), (1, .int 5), (2, .int x2), (3, .int x3)]) zx zb dX10_turn_91 hl (by decide) rfl (fun ls hl => ?_)
                    refine lv_iload zx zb dX10_turn_93 (lv_at hl 1 rfl) ?_
                    refine lv_istore (lv' := [(5, .int r_62), (4, .int (nI k64)), (8, .int r_62), (7, .int (nI k64)), (6, .int x64_6), (0, .ref h0), (1, .int 5), (2, .int x2), (3, .int x3)]) zx zb dX10_turn_95 hl (by decide) rfl (fun ls hl => ?_)
                    refine lv_iload zx zb dX10_turn_97 (lv_at hl 2 rfl) ?_
                    refine lv_iconst (v := 1) zx zb dX10_turn_99 (by decide) ?_
                    refine r_isub (v := (r_62 - 1)) S rfl dX10_turn_100 ?_
                    refine lv_istore (lv' := [(6, .int (r_62 - 1)), (5, .int r_62), (4, .int (nI k64)), (8, .int r_62), (7, .int (nI k64)), (0, .ref h0), (1, .int 5), (2, .int x2), (3, .int x3)]) zx zb dX10_turn_101 hl (by decide) rfl (fun ls hl => ?_)
                    have hl := lv_sub hl (l' := [(8, .int r_62), (7, .int (nI k64)), (6, .int (r_62 - 1)), (5, .int r_62), (4, .int (nI k64)), (0, .ref h0), (1, .int 5), (2, .int x2), (3, .int x3)]) [3, 4, 0, 1, 2, 5, 6, 7, 8] rfl
                    exact join_86 (r_62 - 1) r_62 (nI k64) _ _ _ (by first | assumption | decide | exact k_m60 (by assumption)) G hl
                · intro x_64 x_65 x_66 H locs ls hk_x_64 G hl
                  refine lv_iinc (v := (nI (k64 + 1))) (lv' := [(7, .int (nI (k64 + 1))), (8, .int r_62), (6, .int x_64), (5, .int x_65), (4, .int x_66), (0, .ref h0), (1, .int 5), (2, .int x2), (3, .int x3)]) zx zb dX10_turn_103 hl (k := 1) rfl (nI_add k64 1) (by decide) rfl (fun ls hl => ?_)
                  refine lv_goto (tgt := 64) zx zb dX10_turn_106 (by decide) ?_
                  have G : wd X (va_A (@HAppend.hAppend va_W va_W va_W _ (xW h0 nw sp xa la lb) (@HAppend.hAppend va_W va_W va_W _ (rcW X nw an v b g) (@HAppend.hAppend va_W va_W va_W _ (rnW (xa 8) vg) ([((xa 5), .inl (X.2.1, 3, .inl fr))])))) sz) (va_A (@HAppend.hAppend va_W va_W va_W _ (xW h0 nw sp xa la lb) (@HAppend.hAppend va_W va_W va_W _ (rcW X nw an v b g) (@HAppend.hAppend va_W va_W va_W _ (rnW (xa 8) vg) ([((xa 5), .inl (X.2.1, 3, .inl fr))])))) sz) s (@HAppend.hAppend va_W va_W va_W _ (xW h0 nw sp xa la lb) (@HAppend.hAppend va_W va_W va_W _ (rcW X nw an v b g) (@HAppend.hAppend va_W va_W va_W _ (rnW (xa 8) v_62) ([((xa 5), .inl (X.2.1, 3, .inl fr))])))) H locs := wd_sub G [1, 2, 3, 4, 5, 6, 7, 8, 9, 10, 11, 12, 13, 14, 15, 16, 17, 18, 0] rfl rfl
                  have hl := lv_sub hl (l' := [(7, .int (nI (k64 + 1))), (6, .int x_64), (5, .int x_65), (4, .int x_66), (0, .ref h0), (1, .int 5), (2, .int x2), (3, .int x3)]) [0, 2, 3, 4, 5, 6, 7, 8] rfl
                  exact ih64 (k64 + 1) x_64 x_65 x_66 v_62 _ _ _ (by omega) (by omega) (by first | assumption | decide | exact k_m60 (by assumption)) G hl
          · refine lv_iconst (v := (-1)) zx zb dX10_turn_49 (by decide) ?_
            exact e_int S zr zlk (vp_nar_int _) G (vg, fr) [0, 1, 2, 3, 4, 5, 6, 7, 8, 9, 10, 11, 12, 13, 14, 15, 16, 17, 18] rfl rfl (Or.inr rfl) (trivial) dX10_turn_50
      · refine lv_if_ne (tgt := 34) zx zb dX10_turn_24 (by decide) (fun c_67 => absurd (by decide) c_67) (fun c_67 => ?_)
        refine lv_aload_n zx zb dX10_turn_27 rfl (lv_at hl 0 rfl) ?_
        refine lv_bipush (v := (-2)) zx zb dX10_turn_28 (by decide) ?_
        refine b_wi (cells' := 0) (slots' := 0) (wr := @HAppend.hAppend va_W va_W va_W _ (rcW X nw an v b g) (rnW (xa 8) vg)) G rfl rfl [0, 18] [1, 2, 3, 4, 5, 6, 7, 8, 9, 10, 11, 12, 13, 14, 15, 16, 17] rfl rfl rfl rfl (n_V (As := [.int (-2)]) (rest := []) (C := RX10) (T := TX10) (N := 14) (ci := 8) S G (s_refuse l X h0 nw sp xa la lb fr (-2) H.size) gX10_turn_X10_refuse rfl rfl rfl hdV_X10_refuse ⟨Nat.le_of_ble_eq_true rfl, Nat.le_of_ble_eq_true rfl⟩ [0, 18] rfl rfl 0 rfl rfl rfl hl.1 (Nat.le_of_ble_eq_true rfl) dX10_turn_30 ⟨Nat.le_of_ble_eq_true rfl, Nat.le_of_ble_eq_true rfl⟩) (fun r_68 u_68 H locs hp_68 G => ?_)
        obtain ⟨f_68, rfl⟩ : ∃ z, z = u_68 := ⟨_, rfl⟩
        have hq_68 := hp_68
        have G : wd X (va_A (@HAppend.hAppend va_W va_W va_W _ (xW h0 nw sp xa la lb) (@HAppend.hAppend va_W va_W va_W _ (rcW X nw an v b g) (@HAppend.hAppend va_W va_W va_W _ (rnW (xa 8) vg) ([((xa 5), .inl (X.2.1, 3, .inl fr))])))) sz) (va_A (@HAppend.hAppend va_W va_W va_W _ (xW h0 nw sp xa la lb) (@HAppend.hAppend va_W va_W va_W _ (rcW X nw an v b g) (@HAppend.hAppend va_W va_W va_W _ (rnW (xa 8) vg) ([((xa 5), .inl (X.2.1, 3, .inl fr))])))) sz) s (@HAppend.hAppend va_W va_W va_W _ (rcW X nw an v b g) (@HAppend.hAppend va_W va_W va_W _ (rnW (xa 8) vg) (@HAppend.hAppend va_W va_W va_W _ (xW h0 nw sp xa la lb) ([((xa 5), .inl (X.2.1, 3, .inl f_68))])))) H locs := G
        exact e_int S zr zlk (vp_nar_int _) G (vg, f_68) [17, 0, 1, 2, 3, 4, 5, 6, 7, 8, 9, 10, 11, 12, 13, 14, 15, 16, 18] rfl rfl (Or.inr rfl) (trivial) dX10_turn_33
    · refine lv_if_eq (tgt := 27) zx zb dX10_turn_15 (by decide) (fun c_69 => ?_) (fun c_69 => absurd (by decide) c_69)
      refine lv_aload_n zx zb dX10_turn_27 rfl (lv_at hl 0 rfl) ?_
      refine lv_bipush (v := (-2)) zx zb dX10_turn_28 (by decide) ?_
      refine b_wi (cells' := 0) (slots' := 0) (wr := @HAppend.hAppend va_W va_W va_W _ (rcW X nw an v b g) (rnW (xa 8) vg)) G rfl rfl [0, 18] [1, 2, 3, 4, 5, 6, 7, 8, 9, 10, 11, 12, 13, 14, 15, 16, 17] rfl rfl rfl rfl (n_V (As := [.int (-2)]) (rest := []) (C := RX10) (T := TX10) (N := 14) (ci := 8) S G (s_refuse l X h0 nw sp xa la lb fr (-2) H.size) gX10_turn_X10_refuse rfl rfl rfl hdV_X10_refuse ⟨Nat.le_of_ble_eq_true rfl, Nat.le_of_ble_eq_true rfl⟩ [0, 18] rfl rfl 0 rfl rfl rfl hl.1 (Nat.le_of_ble_eq_true rfl) dX10_turn_30 ⟨Nat.le_of_ble_eq_true rfl, Nat.le_of_ble_eq_true rfl⟩) (fun r_70 u_70 H locs hp_70 G => ?_)
      obtain ⟨f_70, rfl⟩ : ∃ z, z = u_70 := ⟨_, rfl⟩
      have hq_70 := hp_70
      have G : wd X (va_A (@HAppend.hAppend va_W va_W va_W _ (xW h0 nw sp xa la lb) (@HAppend.hAppend va_W va_W va_W _ (rcW X nw an v b g) (@HAppend.hAppend va_W va_W va_W _ (rnW (xa 8) vg) ([((xa 5), .inl (X.2.1, 3, .inl fr))])))) sz) (va_A (@HAppend.hAppend va_W va_W va_W _ (xW h0 nw sp xa la lb) (@HAppend.hAppend va_W va_W va_W _ (rcW X nw an v b g) (@HAppend.hAppend va_W va_W va_W _ (rnW (xa 8) vg) ([((xa 5), .inl (X.2.1, 3, .inl fr))])))) sz) s (@HAppend.hAppend va_W va_W va_W _ (rcW X nw an v b g) (@HAppend.hAppend va_W va_W va_W _ (rnW (xa 8) vg) (@HAppend.hAppend va_W va_W va_W _ (xW h0 nw sp xa la lb) ([((xa 5), .inl (X.2.1, 3, .inl f_70))])))) H locs := G
      exact e_int S zr zlk (vp_nar_int _) G (vg, f_70) [17, 0, 1, 2, 3, 4, 5, 6, 7, 8, 9, 10, 11, 12, 13, 14, 15, 16, 18] rfl rfl (Or.inr rfl) (trivial) dX10_turn_33
  · refine lv_if_eq (tgt := 27) zx zb dX10_turn_5 (by decide) (fun c_71 => ?_) (fun c_71 => absurd (by decide) c_71)
    refine lv_aload_n zx zb dX10_turn_27 rfl (lv_at hl 0 rfl) ?_
    refine lv_bipush (v := (-2)) zx zb dX10_turn_28 (by decide) ?_
    refine b_wi (cells' := 0) (slots' := 0) (wr := @HAppend.hAppend va_W va_W va_W _ (rcW X nw an v b g) (rnW (xa 8) vg)) G rfl rfl [0, 18] [1, 2, 3, 4, 5, 6, 7, 8, 9, 10, 11, 12, 13, 14, 15, 16, 17] rfl rfl rfl rfl (n_V (As := [.int (-2)]) (rest := []) (C := RX10) (T := TX10) (N := 14) (ci := 8) S G (s_refuse l X h0 nw sp xa la lb fr (-2) H.size) gX10_turn_X10_refuse rfl rfl rfl hdV_X10_refuse ⟨Nat.le_of_ble_eq_true rfl, Nat.le_of_ble_eq_true rfl⟩ [0, 18] rfl rfl 0 rfl rfl rfl hl.1 (Nat.le_of_ble_eq_true rfl) dX10_turn_30 ⟨Nat.le_of_ble_eq_true rfl, Nat.le_of_ble_eq_true rfl⟩) (fun r_72 u_72 H locs hp_72 G => ?_)
    obtain ⟨f_72, rfl⟩ : ∃ z, z = u_72 := ⟨_, rfl⟩
    have hq_72 := hp_72
    have G : wd X (va_A (@HAppend.hAppend va_W va_W va_W _ (xW h0 nw sp xa la lb) (@HAppend.hAppend va_W va_W va_W _ (rcW X nw an v b g) (@HAppend.hAppend va_W va_W va_W _ (rnW (xa 8) vg) ([((xa 5), .inl (X.2.1, 3, .inl fr))])))) sz) (va_A (@HAppend.hAppend va_W va_W va_W _ (xW h0 nw sp xa la lb) (@HAppend.hAppend va_W va_W va_W _ (rcW X nw an v b g) (@HAppend.hAppend va_W va_W va_W _ (rnW (xa 8) vg) ([((xa 5), .inl (X.2.1, 3, .inl fr))])))) sz) s (@HAppend.hAppend va_W va_W va_W _ (rcW X nw an v b g) (@HAppend.hAppend va_W va_W va_W _ (rnW (xa 8) vg) (@HAppend.hAppend va_W va_W va_W _ (xW h0 nw sp xa la lb) ([((xa 5), .inl (X.2.1, 3, .inl f_72))])))) H locs := G
    exact e_int S zr zlk (vp_nar_int _) G (vg, f_72) [17, 0, 1, 2, 3, 4, 5, 6, 7, 8, 9, 10, 11, 12, 13, 14, 15, 16, 18] rfl rfl (Or.inr rfl) (trivial) dX10_turn_33
