set_option maxRecDepth 20000 in
theorem ggX10_read_X6_takeRace : GoodIn wsX10_read wsX6_takeRace := goodIn_r _ [8, 9, 10, 11, 12, 13, 14, 7, 15, 16, 17, 18, 19, 20, 21, 22, 23, 24, 25, 26, 27, 28, 29, 30, 31, 32, 33, 34, 35, 36, 37, 38, 39, 40, 41, 42, 43, 44, 45, 46, 47, 48, 49, 50, 51, 52, 53, 54, 55, 56, 57, 58, 59, 60, 61, 62, 63, 64, 65, 66, 67, 68, 69, 70, 71, 72, 73, 74, 75, 76, 77, 78, 79, 80, 81, 82, 83, 84, 85, 86, 87, 88, 89, 90, 91, 92, 93, 94, 95, 96, 97, 98, 99, 100, 101, 102, 103, 104, 105, 106, 107, 108, 109, 110, 111, 112, 113, 114, 115, 116, 117, 118, 119, 120, 121, 122, 123, 124, 125, 126, 127, 128, 129, 130, 131, 132, 133, 134, 135, 136, 137, 138, 139, 140, 141, 142, 143, 144, 145, 146, 147, 148, 149, 150, 151, 152, 153, 154, 155, 156, 157, 158, 159, 160, 161, 162, 163, 164, 165, 166, 167, 168, 169, 170, 171, 172, 173, 174, 175, 176, 177, 178, 179, 180, 181, 182, 183, 184, 199, 200, 201, 202, 203, 204, 205, 206, 207, 208, 209, 210, 211, 212, 213, 214, 215, 216, 217, 218, 219, 220, 221, 222, 223, 224, 225, 226, 227, 228] rfl (by decide +kernel)
set_option maxRecDepth 20000 in
theorem gX10_read_X6_takeRace : GoodIn wsX10_read (wsV RX10 106 RX6 yX6_takeRace wsX6_takeRace) := goodIn_app (goodIn_of _ (by decide +kernel)) ggX10_read_X6_takeRace
set_option maxRecDepth 20000 in
theorem ggX6_takeItem_X6_takeLength : GoodIn wsX6_takeItem wsX6_takeLength := goodIn_r _ [88, 89, 90, 91, 8, 92, 3, 1, 31, 2, 5, 6, 7, 9, 10, 11, 12, 13, 14, 15, 16, 17, 18, 19, 20, 21, 22, 23, 24, 25, 26, 27, 28, 29, 30, 93, 94, 95, 96, 97, 98, 99, 100, 101, 102, 103, 104, 105, 106, 107, 108, 109, 110, 174, 175, 176, 177, 178, 179, 180, 181, 182, 183, 184, 185, 186, 187, 188, 189, 190, 191, 192, 193, 194, 195] rfl (by decide +kernel)
set_option maxRecDepth 20000 in
theorem gX6_takeItem_X6_takeLength : GoodIn wsX6_takeItem (wsV RX6 50 RX6 yX6_takeLength wsX6_takeLength) := goodIn_app (goodIn_of _ (by decide +kernel)) ggX6_takeItem_X6_takeLength
set_option maxRecDepth 20000 in
theorem ggX6_takeRace_X6_skipBlanks : GoodIn wsX6_takeRace wsX6_skipBlanks := goodIn_r _ [20, 1, 3, 16, 178, 179, 180, 181, 182, 183, 184] rfl (by decide +kernel)
set_option maxRecDepth 20000 in
theorem gX6_takeRace_X6_skipBlanks : GoodIn wsX6_takeRace (wsV RX6 38 RX6 yX6_skipBlanks wsX6_skipBlanks) := goodIn_app (goodIn_of _ (by decide +kernel)) ggX6_takeRace_X6_skipBlanks
set_option maxRecDepth 20000 in
theorem ggX6_takeRace_X6_takeItem : GoodIn wsX6_takeRace wsX6_takeItem := goodIn_r _ [8, 9, 10, 2, 11, 12, 13, 14, 7, 15, 1, 3, 16, 17, 18, 19, 20, 21, 22, 23, 24, 25, 26, 27, 28, 29, 30, 31, 32, 33, 34, 35, 36, 37, 38, 39, 40, 41, 42, 43, 44, 45, 46, 47, 48, 49, 50, 51, 52, 53, 54, 55, 56, 57, 58, 59, 60, 61, 62, 63, 64, 65, 66, 67, 68, 69, 70, 71, 72, 73, 74, 75, 76, 77, 78, 79, 80, 81, 82, 83, 84, 85, 86, 87, 88, 89, 90, 91, 92, 93, 94, 95, 96, 97, 98, 99, 100, 101, 102, 103, 104, 105, 106, 107, 108, 109, 110, 111, 112, 113, 114, 115, 116, 117, 118, 119, 120, 121, 122, 123, 124, 125, 126, 127, 128, 129, 130, 131, 132, 133, 134, 135, 136, 137, 138, 139, 140, 141, 142, 143, 144, 145, 146, 147, 148, 149, 150, 151, 152, 153, 154, 155, 156, 157, 158, 159, 160, 161, 162, 163, 164, 165, 166, 167, 168, 169, 170, 171, 172, 173, 174, 175, 176, 177, 178, 179, 180, 181, 182, 183, 184, 185, 186, 187, 188, 189, 190, 191, 192, 193, 194, 195, 196, 197, 198, 199, 200, 201, 202, 203, 204, 205, 206, 207] rfl (by decide +kernel)
set_option maxRecDepth 20000 in
theorem gX6_takeRace_X6_takeItem : GoodIn wsX6_takeRace (wsV RX6 34 RX6 yX6_takeItem wsX6_takeItem) := goodIn_app (goodIn_of _ (by decide +kernel)) ggX6_takeRace_X6_takeItem
theorem dX10_read_0 : decode cX10_read 0 = .ok (.aload_n 0, 1) := by decide +kernel
theorem dX10_read_1 : decode cX10_read 1 = .ok (.getfield 30, 3) := by decide +kernel
theorem dX10_read_11 : decode cX10_read 11 = .ok (.istore_n 1, 1) := by decide +kernel
theorem dX10_read_12 : decode cX10_read 12 = .ok (.iload_n 1, 1) := by decide +kernel
theorem dX10_read_13 : decode cX10_read 13 = .ok (.ifCond .lt 21, 3) := by decide +kernel
theorem dX10_read_16 : decode cX10_read 16 = .ok (.aload_n 0, 1) := by decide +kernel
theorem dX10_read_17 : decode cX10_read 17 = .ok (.getfield 10, 3) := by decide +kernel
theorem dX10_read_20 : decode cX10_read 20 = .ok (.astore_n 2, 1) := by decide +kernel
theorem dX10_read_21 : decode cX10_read 21 = .ok (.aload_n 0, 1) := by decide +kernel
theorem dX10_read_22 : decode cX10_read 22 = .ok (.aload_n 0, 1) := by decide +kernel
theorem dX10_read_23 : decode cX10_read 23 = .ok (.getfield 16, 3) := by decide +kernel
theorem dX10_read_26 : decode cX10_read 26 = .ok (.putfield 10, 3) := by decide +kernel
theorem dX10_read_29 : decode cX10_read 29 = .ok (.aload_n 0, 1) := by decide +kernel
theorem dX10_read_30 : decode cX10_read 30 = .ok (.aload_n 2, 1) := by decide +kernel
theorem dX10_read_31 : decode cX10_read 31 = .ok (.putfield 16, 3) := by decide +kernel
theorem dX10_read_34 : decode cX10_read 34 = .ok (.iload_n 1, 1) := by decide +kernel
theorem dX10_read_35 : decode cX10_read 35 = .ok (.ireturn, 1) := by decide +kernel
theorem dX10_read_4 : decode cX10_read 4 = .ok (.aload_n 0, 1) := by decide +kernel
theorem dX10_read_5 : decode cX10_read 5 = .ok (.getfield 16, 3) := by decide +kernel
theorem dX10_read_8 : decode cX10_read 8 = .ok (.invokevirtual 106, 3) := by decide +kernel
theorem dX6_takeItem_37 : decode cX6_takeItem 37 = .ok (.aload_n 0, 1) := by decide +kernel
theorem dX6_takeItem_38 : decode cX6_takeItem 38 = .ok (.aload_n 1, 1) := by decide +kernel
theorem dX6_takeItem_39 : decode cX6_takeItem 39 = .ok (.invokevirtual 50, 3) := by decide +kernel
theorem dX6_takeItem_42 : decode cX6_takeItem 42 = .ok (.goto 88, 3) := by decide +kernel
theorem dX6_takeRace_0 : decode cX6_takeRace 0 = .ok (.aload_n 0, 1) := by decide +kernel
theorem dX6_takeRace_1 : decode cX6_takeRace 1 = .ok (.iconst 0, 1) := by decide +kernel
theorem dX6_takeRace_10 : decode cX6_takeRace 10 = .ok (.iconst 0, 1) := by decide +kernel
theorem dX6_takeRace_11 : decode cX6_takeRace 11 = .ok (.istore_n 2, 1) := by decide +kernel
theorem dX6_takeRace_12 : decode cX6_takeRace 12 = .ok (.aload_n 0, 1) := by decide +kernel
theorem dX6_takeRace_13 : decode cX6_takeRace 13 = .ok (.aload_n 1, 1) := by decide +kernel
theorem dX6_takeRace_14 : decode cX6_takeRace 14 = .ok (.iload_n 2, 1) := by decide +kernel
theorem dX6_takeRace_15 : decode cX6_takeRace 15 = .ok (.ifCond .ne 7, 3) := by decide +kernel
theorem dX6_takeRace_18 : decode cX6_takeRace 18 = .ok (.iconst 1, 1) := by decide +kernel
theorem dX6_takeRace_19 : decode cX6_takeRace 19 = .ok (.goto 4, 3) := by decide +kernel
theorem dX6_takeRace_2 : decode cX6_takeRace 2 = .ok (.putfield 19, 3) := by decide +kernel
theorem dX6_takeRace_22 : decode cX6_takeRace 22 = .ok (.iconst 0, 1) := by decide +kernel
theorem dX6_takeRace_23 : decode cX6_takeRace 23 = .ok (.invokevirtual 34, 3) := by decide +kernel
theorem dX6_takeRace_26 : decode cX6_takeRace 26 = .ok (.iinc 2 1, 3) := by decide +kernel
theorem dX6_takeRace_29 : decode cX6_takeRace 29 = .ok (.aload_n 0, 1) := by decide +kernel
theorem dX6_takeRace_30 : decode cX6_takeRace 30 = .ok (.invokevirtual 38, 3) := by decide +kernel
theorem dX6_takeRace_33 : decode cX6_takeRace 33 = .ok (.aload_n 0, 1) := by decide +kernel
theorem dX6_takeRace_34 : decode cX6_takeRace 34 = .ok (.getfield 31, 3) := by decide +kernel
theorem dX6_takeRace_37 : decode cX6_takeRace 37 = .ok (.iconst (-1), 1) := by decide +kernel
theorem dX6_takeRace_38 : decode cX6_takeRace 38 = .ok (.if_icmp .ne 21, 3) := by decide +kernel
theorem dX6_takeRace_41 : decode cX6_takeRace 41 = .ok (.aload_n 0, 1) := by decide +kernel
theorem dX6_takeRace_42 : decode cX6_takeRace 42 = .ok (.getfield 19, 3) := by decide +kernel
theorem dX6_takeRace_45 : decode cX6_takeRace 45 = .ok (.aload_n 0, 1) := by decide +kernel
theorem dX6_takeRace_46 : decode cX6_takeRace 46 = .ok (.getfield 15, 3) := by decide +kernel
theorem dX6_takeRace_49 : decode cX6_takeRace 49 = .ok (.if_icmp .ge 10, 3) := by decide +kernel
theorem dX6_takeRace_5 : decode cX6_takeRace 5 = .ok (.aload_n 0, 1) := by decide +kernel
theorem dX6_takeRace_52 : decode cX6_takeRace 52 = .ok (.iload_n 2, 1) := by decide +kernel
theorem dX6_takeRace_53 : decode cX6_takeRace 53 = .ok (.sipush 150, 3) := by decide +kernel
theorem dX6_takeRace_56 : decode cX6_takeRace 56 = .ok (.if_icmp .lt (-44), 3) := by decide +kernel
theorem dX6_takeRace_59 : decode cX6_takeRace 59 = .ok (.aload_n 0, 1) := by decide +kernel
theorem dX6_takeRace_6 : decode cX6_takeRace 6 = .ok (.iconst (-1), 1) := by decide +kernel
theorem dX6_takeRace_60 : decode cX6_takeRace 60 = .ok (.getfield 31, 3) := by decide +kernel
theorem dX6_takeRace_63 : decode cX6_takeRace 63 = .ok (.iconst (-1), 1) := by decide +kernel
theorem dX6_takeRace_64 : decode cX6_takeRace 64 = .ok (.if_icmp .ne 7, 3) := by decide +kernel
theorem dX6_takeRace_67 : decode cX6_takeRace 67 = .ok (.iload_n 2, 1) := by decide +kernel
theorem dX6_takeRace_68 : decode cX6_takeRace 68 = .ok (.goto 10, 3) := by decide +kernel
theorem dX6_takeRace_7 : decode cX6_takeRace 7 = .ok (.putfield 31, 3) := by decide +kernel
theorem dX6_takeRace_71 : decode cX6_takeRace 71 = .ok (.bipush (-10), 2) := by decide +kernel
theorem dX6_takeRace_73 : decode cX6_takeRace 73 = .ok (.aload_n 0, 1) := by decide +kernel
theorem dX6_takeRace_74 : decode cX6_takeRace 74 = .ok (.getfield 31, 3) := by decide +kernel
theorem dX6_takeRace_77 : decode cX6_takeRace 77 = .ok (.isub, 1) := by decide +kernel
theorem dX6_takeRace_78 : decode cX6_takeRace 78 = .ok (.ireturn, 1) := by decide +kernel
set_option maxHeartbeats 4000000 in
set_option maxRecDepth 100000 in
theorem x_takeItem1 (l : Launch) (X : EX) (K : SK) (h0 : Nat) (hb : Nat) (n : Nat) (bd : Nat → Nat) (vd : Nat → Int32) (fd : Nat → Int32) (s0 : Nat) (hn : Nat) (an : Nat → Nat) (sv : Nat → Int32) (dv : Nat → Int32) (n0 : Nat) (n1 : Nat) (n2 : Nat) (n3 : Nat) (n4 : Nat) (g0 : Nat → Int32) (gs : Nat → Int32) (gn : Nat → Int32) (gm : Nat → Int32) (hI_n : n ≤ 150) (hI_bd : InP bd) (hI_n0 : n0 ≤ 6) (hI_n1 : n1 ≤ 8) (hI_n2 : n2 ≤ 5) (hI_n3 : n3 ≤ 6) (hI_n4 : n4 ≤ 6) (hP : bd 0 ≤ n) (hA : scanP qB fd n (bd 0) = s0) (hF : vd 2 = -1) (sz : Nat) : Met l yX6_takeItem wsX6_takeItem ({ frames := 5, cells := 0, slots := 0, locals := 107 } : Room) (pS X K [.ref h0, .ref hn, .int 1] (@HAppend.hAppend va_W va_W va_W _ (rdV X h0 hb n bd vd fd) (rcV X hn an sv dv n0 n1 n2 n3 n4 g0 gs gn gm)) sz) (qV (fun (u : (Nat → Nat) × (Nat → Int32) × (Nat → Int32) × (Nat) × (Nat) × (Nat) × (Nat) × (Nat)) => InP u.1 ∧ u.2.2.2.1 ≤ 6 ∧ u.2.2.2.2.1 ≤ 8 ∧ u.2.2.2.2.2.1 ≤ 5 ∧ u.2.2.2.2.2.2.1 ≤ 6 ∧ u.2.2.2.2.2.2.2 ≤ 6 ∧ ((tK fd n s0 = 1 ∧ wrdB fd n s0 0 = true ∧ racC fd n s0 = none ∧ (u.2.2.1 = upd (upd dv 0 (tV fd n (tN fd n s0))) 1 0 ∧ u.2.2.2.1 = 0 ∧ u.2.2.2.2.2.1 = 0 ∧ u.2.2.2.2.2.2.1 = 0 ∧ u.2.2.2.2.2.2.2 = 0) ∧ u.2.1 2 = -1 ∧ u.1 0 = tE fd n (t2 fd n s0)) ∨ (∃ p : Nat, ((¬ (tK fd n s0 = 1 ∧ wrdB fd n s0 0 = true) ∧ p = s0) ∨ ((tK fd n s0 = 1 ∧ wrdB fd n s0 0 = true) ∧ racC fd n s0 = some p)) ∧ u.2.1 2 = nI p ∧ p ≤ n))) X (fun (u : (Nat → Nat) × (Nat → Int32) × (Nat → Int32) × (Nat) × (Nat) × (Nat) × (Nat) × (Nat)) => @HAppend.hAppend va_W va_W va_W _ (rdV X h0 hb n u.1 u.2.1 fd) (rcV X hn an sv u.2.2.1 u.2.2.2.1 u.2.2.2.2.1 u.2.2.2.2.2.1 u.2.2.2.2.2.2.1 u.2.2.2.2.2.2.2 g0 gs gn gm)) (@HAppend.hAppend va_W va_W va_W _ (rdV X h0 hb n bd vd fd) (rcV X hn an sv dv n0 n1 n2 n3 n4 g0 gs gn gm)) sz) 0 0 (va_A (@HAppend.hAppend va_W va_W va_W _ (rdV X h0 hb n bd vd fd) (rcV X hn an sv dv n0 n1 n2 n3 n4 g0 gs gn gm)) sz) := by
  refine mk_metS (B := (va_A (@HAppend.hAppend va_W va_W va_W _ (rdV X h0 hb n bd vd fd) (rcV X hn an sv dv n0 n1 n2 n3 n4 g0 gs gn gm)) sz)) (A := (va_A (@HAppend.hAppend va_W va_W va_W _ (rdV X h0 hb n bd vd fd) (rcV X hn an sv dv n0 n1 n2 n3 n4 g0 gs gn gm)) sz)) (cc := cX6_takeItem) (maxL := 3) (ret := none) (by decide) rfl (Nat.le_of_ble_eq_true rfl) k_w k_a (fun p e s m below meth c S zr zlk znm zsz G hZ ls hl => ?_)
  have S : CallFix p m c cX6_takeItem 3 s _ wsX6_takeItem RX6 := S
  have zx := S.1
  have zb := S.2.1
  have hl : lv_has ls 3 [(0, .ref h0), (1, .ref hn), (2, .int 1)] := hl
  have hO_bd := hI_bd
  obtain ⟨hd0_bd, hd1_bd⟩ := hO_bd
  refine lv_aload_n zx zb dX6_takeItem_0 rfl (lv_at hl 0 rfl) ?_
  refine b_wv (cells' := 0) (slots' := 0) (wr := rcV X hn an sv dv n0 n1 n2 n3 n4 g0 gs gn gm) G rfl rfl [0, 1] [2, 3, 4, 5, 6, 7, 8, 9, 10, 11, 12, 13, 14, 15, 16, 17] rfl rfl rfl rfl (n_V (As := []) (rest := []) (C := RX6) (T := TX6) (N := 7) (ci := 4) S G (x_nextToken l X h0 hb n bd vd fd hI_n hI_bd (by omega) s.heap.size) gX6_takeItem_X6_nextToken rfl rfl rfl hdV_X6_nextToken ⟨Nat.le_of_ble_eq_true rfl, Nat.le_of_ble_eq_true rfl⟩ [0, 1] rfl rfl 0 rfl rfl rfl hl.1 (Nat.le_of_ble_eq_true rfl) dX6_takeItem_1 ⟨Nat.le_of_ble_eq_true rfl, Nat.le_of_ble_eq_true rfl⟩) (fun u_1 H locs hp_1 G => ?_)
  obtain ⟨b_1a, v_1b⟩ := u_1
  try dsimp only at hp_1
  obtain ⟨hI_b_1a, hq_1⟩ := hp_1
  have hO_b_1a := hI_b_1a
  obtain ⟨hd0_b_1a, hd1_b_1a⟩ := hO_b_1a
  have G : wd X (va_A (@HAppend.hAppend va_W va_W va_W _ (rdV X h0 hb n bd vd fd) (rcV X hn an sv dv n0 n1 n2 n3 n4 g0 gs gn gm)) sz) (va_A (@HAppend.hAppend va_W va_W va_W _ (rdV X h0 hb n bd vd fd) (rcV X hn an sv dv n0 n1 n2 n3 n4 g0 gs gn gm)) sz) s (@HAppend.hAppend va_W va_W va_W _ (rcV X hn an sv dv n0 n1 n2 n3 n4 g0 gs gn gm) (rdV X h0 hb n b_1a v_1b fd)) H locs := G
  obtain ⟨hz0_1, hz1_1, hz2_1, hz3_1, hz4_1⟩ := hq_1
  rw [hA] at hz0_1 hz1_1 hz2_1
  have hs0 := scan_le (q := qB) (T := fd) (n := n) (a := bd 0) hP
  rw [hA] at hs0
  have hTs := tE_le (T := fd) (n := n) (s := s0) hs0.2
  refine lv_aload_n zx zb dX6_takeItem_4 rfl (lv_at hl 0 rfl) ?_
  refine r_get (C := RX6) (T := TX6) (N := 7) (ci := 4) (v := .int (v_1b 0)) S in_X6_takeItem_X6 G 16 rfl rfl 4 (by decide) lk_X6_takeItem_25 rfl dX6_takeItem_5 ?_
  refine lv_iconst (v := 1) zx zb dX6_takeItem_8 (by decide) ?_
  refine lv_icmp_ne (tgt := 22) zx zb dX6_takeItem_9 (by decide) (fun c_2 => ?_) (fun c_2 => ?_)
  · refine lv_aload_n zx zb dX6_takeItem_22 rfl (lv_at hl 0 rfl) ?_
    refine lv_aload_n zx zb dX6_takeItem_23 rfl (lv_at hl 0 rfl) ?_
    refine r_get (C := RX6) (T := TX6) (N := 7) (ci := 4) (v := .int (nI (b_1a 1))) S in_X6_takeItem_X6 G 16 rfl rfl 3 (by decide) lk_X6_takeItem_22 rfl dX6_takeItem_24 ?_
    refine r_put (C := RX6) (T := TX6) (N := 7) (ci := 4) (v := .int (nI (b_1a 1))) S in_X6_takeItem_X6 tyX6_ok nmX6 G 16 rfl rfl 6 (by decide) lk_X6_takeItem_31 rfl (vp_nar_int _) rfl (Nat.le_of_ble_eq_true rfl) dX6_takeItem_27 (fun H locs G => ?_)
    obtain ⟨v_3, ⟨hE_v_3_2, hE_v_3_0, hE_v_3_1⟩, G⟩ : ∃ v_3 : Nat → Int32, (v_3 2 = (nI (b_1a 1)) ∧ v_3 0 = v_1b 0 ∧ v_3 1 = v_1b 1) ∧ wd X (va_A (@HAppend.hAppend va_W va_W va_W _ (rdV X h0 hb n bd vd fd) (rcV X hn an sv dv n0 n1 n2 n3 n4 g0 gs gn gm)) sz) (va_A (@HAppend.hAppend va_W va_W va_W _ (rdV X h0 hb n bd vd fd) (rcV X hn an sv dv n0 n1 n2 n3 n4 g0 gs gn gm)) sz) s (@HAppend.hAppend va_W va_W va_W _ (rcV X hn an sv dv n0 n1 n2 n3 n4 g0 gs gn gm) (rdV X h0 hb n b_1a v_3 fd)) H locs := ⟨upd v_1b 2 (nI (b_1a 1)), ⟨rfl, rfl, rfl⟩, G⟩
    refine lv_goto (tgt := 130) zx zb dX6_takeItem_30 (by decide) ?_
    exact e_void S zr zlk G (b_1a, v_3, dv, n0, n1, n2, n3, n4) [16, 17, 0, 1, 2, 3, 4, 5, 6, 7, 8, 9, 10, 11, 12, 13, 14, 15] rfl rfl (Or.inr rfl) (⟨hI_b_1a, hI_n0, hI_n1, hI_n2, hI_n3, hI_n4, Or.inr ⟨s0, Or.inl ⟨fun h => c_2 (hz2_1.trans h.1), rfl⟩, hE_v_3_2.trans (congrArg nI hz0_1), by first | omega | (dsimp only; omega)⟩⟩) dX6_takeItem_130
  · refine lv_aload_n zx zb dX6_takeItem_12 rfl (lv_at hl 0 rfl) ?_
    refine va_ldcS zx zb S.2.2.2.1 hZ.2.1 dX6_takeItem_13 ?_
    refine o_ri (cells' := 0) (slots' := 0) G rfl rfl (n_VS (As := [.ref (K.1 0)]) (rest := []) (C := RX6) (T := TX6) (N := 7) (ci := 4) S G hZ (x_spells l X K h0 hb n b_1a v_1b fd 0 hI_n hI_b_1a ⟨by omega, by omega⟩ (by omega) H.size) gX6_takeItem_X6_spells rfl rfl rfl hdV_X6_spells ⟨Nat.le_of_ble_eq_true rfl, Nat.le_of_ble_eq_true rfl⟩ [16, 17] rfl rfl 16 rfl rfl rfl hl.1 (Nat.le_of_ble_eq_true rfl) dX6_takeItem_15 ⟨Nat.le_of_ble_eq_true rfl, Nat.le_of_ble_eq_true rfl⟩) (fun r_4 u_4 H locs hp_4 G => ?_)
    have G : wd X (va_A (@HAppend.hAppend va_W va_W va_W _ (rdV X h0 hb n bd vd fd) (rcV X hn an sv dv n0 n1 n2 n3 n4 g0 gs gn gm)) sz) (va_A (@HAppend.hAppend va_W va_W va_W _ (rdV X h0 hb n bd vd fd) (rcV X hn an sv dv n0 n1 n2 n3 n4 g0 gs gn gm)) sz) s (@HAppend.hAppend va_W va_W va_W _ (rcV X hn an sv dv n0 n1 n2 n3 n4 g0 gs gn gm) (rdV X h0 hb n b_1a v_1b fd)) H locs := G
    rcases hp_4 with ⟨rfl, hw_4⟩ | ⟨rfl, hw_4⟩
    · refine lv_iload_n zx zb dX6_takeItem_18 rfl (lv_at hl 2 rfl) ?_
      refine lv_icmp_eq (tgt := 33) zx zb dX6_takeItem_19 (by decide) (fun c_5 => ?_) (fun c_5 => absurd (by decide) c_5)
      refine lv_iload_n zx zb dX6_takeItem_33 rfl (lv_at hl 2 rfl) ?_
      refine lv_if_eq (tgt := 45) zx zb dX6_takeItem_34 (by decide) (fun c_6 => absurd c_6 (by decide)) (fun c_6 => ?_)
      refine lv_aload_n zx zb dX6_takeItem_37 rfl (lv_at hl 0 rfl) ?_
      refine lv_aload_n zx zb dX6_takeItem_38 rfl (lv_at hl 1 rfl) ?_
      refine b_wv (cells' := 0) (slots' := 0) (wr := []) G rfl rfl [16, 17, 0, 1, 2, 3, 4, 5, 6, 7, 8, 9, 10, 11, 12, 13, 14, 15] [] rfl rfl rfl rfl (n_V (As := [.ref hn]) (rest := []) (C := RX6) (T := TX6) (N := 7) (ci := 4) S G (x_takeLength l X h0 hb n b_1a v_1b fd s0 hn an sv dv n0 n1 n2 n3 n4 g0 gs gn gm hI_n hI_b_1a hI_n0 hI_n1 hI_n2 hI_n3 hI_n4 (by omega) hz1_1 (hz4_1.trans hF) H.size) gX6_takeItem_X6_takeLength rfl rfl rfl hdV_X6_takeLength ⟨Nat.le_of_ble_eq_true rfl, Nat.le_of_ble_eq_true rfl⟩ [16, 17, 0, 1, 2, 3, 4, 5, 6, 7, 8, 9, 10, 11, 12, 13, 14, 15] rfl rfl 16 rfl rfl rfl hl.1 (Nat.le_of_ble_eq_true rfl) dX6_takeItem_39 ⟨Nat.le_of_ble_eq_true rfl, Nat.le_of_ble_eq_true rfl⟩) (fun u_7 H locs hp_7 G => ?_)
      obtain ⟨b_7a, v_7b, dv_7c, n0_7d, n1_7e, n2_7f, n3_7g, n4_7h⟩ := u_7
      try dsimp only at hp_7
      obtain ⟨hI_b_7a, hI_n0_7d, hI_n1_7e, hI_n2_7f, hI_n3_7g, hI_n4_7h, hq_7⟩ := hp_7
      have hO_b_7a := hI_b_7a
      obtain ⟨hd0_b_7a, hd1_b_7a⟩ := hO_b_7a
      have G : wd X (va_A (@HAppend.hAppend va_W va_W va_W _ (rdV X h0 hb n bd vd fd) (rcV X hn an sv dv n0 n1 n2 n3 n4 g0 gs gn gm)) sz) (va_A (@HAppend.hAppend va_W va_W va_W _ (rdV X h0 hb n bd vd fd) (rcV X hn an sv dv n0 n1 n2 n3 n4 g0 gs gn gm)) sz) s (@HAppend.hAppend va_W va_W va_W _ (rdV X h0 hb n b_7a v_7b fd) (rcV X hn an sv dv_7c n0_7d n1_7e n2_7f n3_7g n4_7h g0 gs gn gm)) H locs := G
      rcases hq_7 with ⟨hi0_7, hi1_7, hi2_7, hi3_7⟩ | ⟨pp_7, hi0_7, hi1_7, hi2_7⟩
      · refine lv_goto (tgt := 130) zx zb dX6_takeItem_42 (by decide) ?_
        exact e_void S zr zlk G (b_7a, v_7b, dv_7c, n0_7d, n1_7e, n2_7f, n3_7g, n4_7h) [0, 1, 2, 3, 4, 5, 6, 7, 8, 9, 10, 11, 12, 13, 14, 15, 16, 17] rfl rfl (Or.inr rfl) (⟨hI_b_7a, hI_n0_7d, hI_n1_7e, hI_n2_7f, hI_n3_7g, hI_n4_7h, Or.inl ⟨(hz2_1.symm.trans c_2), (wrdB_t.mpr (show wrdP fd s0 (tE fd n s0) 0 from by rw [← hz1_1, ← hz0_1]; exact hw_4)), hi0_7, hi1_7, hi2_7, hi3_7⟩⟩) dX6_takeItem_130
      · refine lv_goto (tgt := 130) zx zb dX6_takeItem_42 (by decide) ?_
        exact e_void S zr zlk G (b_7a, v_7b, dv_7c, n0_7d, n1_7e, n2_7f, n3_7g, n4_7h) [0, 1, 2, 3, 4, 5, 6, 7, 8, 9, 10, 11, 12, 13, 14, 15, 16, 17] rfl rfl (Or.inr rfl) (⟨hI_b_7a, hI_n0_7d, hI_n1_7e, hI_n2_7f, hI_n3_7g, hI_n4_7h, Or.inr ⟨pp_7, Or.inr ⟨⟨(hz2_1.symm.trans c_2), (wrdB_t.mpr (show wrdP fd s0 (tE fd n s0) 0 from by rw [← hz1_1, ← hz0_1]; exact hw_4))⟩, hi0_7⟩, hi1_7, by first | omega | (dsimp only; omega)⟩⟩) dX6_takeItem_130
    · refine lv_iload_n zx zb dX6_takeItem_18 rfl (lv_at hl 2 rfl) ?_
      refine lv_icmp_eq (tgt := 33) zx zb dX6_takeItem_19 (by decide) (fun c_8 => absurd c_8 (by decide)) (fun c_8 => ?_)
      refine lv_aload_n zx zb dX6_takeItem_22 rfl (lv_at hl 0 rfl) ?_
      refine lv_aload_n zx zb dX6_takeItem_23 rfl (lv_at hl 0 rfl) ?_
      refine r_get (C := RX6) (T := TX6) (N := 7) (ci := 4) (v := .int (nI (b_1a 1))) S in_X6_takeItem_X6 G 16 rfl rfl 3 (by decide) lk_X6_takeItem_22 rfl dX6_takeItem_24 ?_
      refine r_put (C := RX6) (T := TX6) (N := 7) (ci := 4) (v := .int (nI (b_1a 1))) S in_X6_takeItem_X6 tyX6_ok nmX6 G 16 rfl rfl 6 (by decide) lk_X6_takeItem_31 rfl (vp_nar_int _) rfl (Nat.le_of_ble_eq_true rfl) dX6_takeItem_27 (fun H locs G => ?_)
      obtain ⟨v_9, ⟨hE_v_9_2, hE_v_9_0, hE_v_9_1⟩, G⟩ : ∃ v_9 : Nat → Int32, (v_9 2 = (nI (b_1a 1)) ∧ v_9 0 = v_1b 0 ∧ v_9 1 = v_1b 1) ∧ wd X (va_A (@HAppend.hAppend va_W va_W va_W _ (rdV X h0 hb n bd vd fd) (rcV X hn an sv dv n0 n1 n2 n3 n4 g0 gs gn gm)) sz) (va_A (@HAppend.hAppend va_W va_W va_W _ (rdV X h0 hb n bd vd fd) (rcV X hn an sv dv n0 n1 n2 n3 n4 g0 gs gn gm)) sz) s (@HAppend.hAppend va_W va_W va_W _ (rcV X hn an sv dv n0 n1 n2 n3 n4 g0 gs gn gm) (rdV X h0 hb n b_1a v_9 fd)) H locs := ⟨upd v_1b 2 (nI (b_1a 1)), ⟨rfl, rfl, rfl⟩, G⟩
      refine lv_goto (tgt := 130) zx zb dX6_takeItem_30 (by decide) ?_
      exact e_void S zr zlk G (b_1a, v_9, dv, n0, n1, n2, n3, n4) [16, 17, 0, 1, 2, 3, 4, 5, 6, 7, 8, 9, 10, 11, 12, 13, 14, 15] rfl rfl (Or.inr rfl) (⟨hI_b_1a, hI_n0, hI_n1, hI_n2, hI_n3, hI_n4, Or.inr ⟨s0, Or.inl ⟨fun h => absurd (h.2.symm.trans (wrdB_f (show ¬ wrdP fd s0 (tE fd n s0) 0 from by rw [← hz1_1, ← hz0_1]; exact hw_4))) (by decide), rfl⟩, hE_v_9_2.trans (congrArg nI hz0_1), by first | omega | (dsimp only; omega)⟩⟩) dX6_takeItem_130
set_option maxHeartbeats 4000000 in
set_option maxRecDepth 100000 in
theorem x_takeRace (l : Launch) (X : EX) (K : SK) (h0 : Nat) (hb : Nat) (n : Nat) (bd : Nat → Nat) (vd : Nat → Int32) (fd : Nat → Int32) (hn : Nat) (an : Nat → Nat) (sv : Nat → Int32) (dv : Nat → Int32) (n0 : Nat) (n1 : Nat) (n2 : Nat) (n3 : Nat) (n4 : Nat) (g0 : Nat → Int32) (gs : Nat → Int32) (gn : Nat → Int32) (gm : Nat → Int32) (hI_n : n ≤ 150) (hI_bd : InP bd) (hI_n0 : n0 ≤ 6) (hI_n1 : n1 ≤ 8) (hI_n2 : n2 ≤ 5) (hI_n3 : n3 ≤ 6) (hI_n4 : n4 ≤ 6) (sz : Nat) : Met l yX6_takeRace wsX6_takeRace ({ frames := 6, cells := 0, slots := 0, locals := 129 } : Room) (pS X K [.ref h0, .ref hn] (@HAppend.hAppend va_W va_W va_W _ (rdV X h0 hb n bd vd fd) (rcV X hn an sv dv n0 n1 n2 n3 n4 g0 gs gn gm)) sz) (qI (fun (r : Int32) (u : (Nat → Nat) × (Nat → Int32) × (Nat → Int32) × (Nat → Int32) × (Nat) × (Nat) × (Nat) × (Nat) × (Nat)) => InP u.1 ∧ u.2.2.2.2.1 ≤ 6 ∧ u.2.2.2.2.2.1 ≤ 8 ∧ u.2.2.2.2.2.2.1 ≤ 5 ∧ u.2.2.2.2.2.2.2.1 ≤ 6 ∧ u.2.2.2.2.2.2.2.2 ≤ 6 ∧ (r = (rdA fd n sv dv).1 ∧ ((rdA fd n sv dv).2.1 = true → (u.2.2.2.2.1 = (rdA fd n sv dv).2.2.1 ∧ u.2.2.1 = (rdA fd n sv dv).2.2.2.1 ∧ u.2.2.2.1 = (rdA fd n sv dv).2.2.2.2) ∧ (u.2.2.2.2.2.2.1 = 0 ∧ u.2.2.2.2.2.2.2.1 = 0 ∧ u.2.2.2.2.2.2.2.2 = 0)) ∧ (((rdA fd n sv dv).2.1 = true ∧ ¬ r < 0) ∨ ((rdA fd n sv dv).2.1 = false ∧ r < 0)))) X (fun (u : (Nat → Nat) × (Nat → Int32) × (Nat → Int32) × (Nat → Int32) × (Nat) × (Nat) × (Nat) × (Nat) × (Nat)) => @HAppend.hAppend va_W va_W va_W _ (rdV X h0 hb n u.1 u.2.1 fd) (rcV X hn an u.2.2.1 u.2.2.2.1 u.2.2.2.2.1 u.2.2.2.2.2.1 u.2.2.2.2.2.2.1 u.2.2.2.2.2.2.2.1 u.2.2.2.2.2.2.2.2 g0 gs gn gm)) (@HAppend.hAppend va_W va_W va_W _ (rdV X h0 hb n bd vd fd) (rcV X hn an sv dv n0 n1 n2 n3 n4 g0 gs gn gm)) sz) 0 0 (va_A (@HAppend.hAppend va_W va_W va_W _ (rdV X h0 hb n bd vd fd) (rcV X hn an sv dv n0 n1 n2 n3 n4 g0 gs gn gm)) sz) := by
  refine mk_metS (B := (va_A (@HAppend.hAppend va_W va_W va_W _ (rdV X h0 hb n bd vd fd) (rcV X hn an sv dv n0 n1 n2 n3 n4 g0 gs gn gm)) sz)) (A := (va_A (@HAppend.hAppend va_W va_W va_W _ (rdV X h0 hb n bd vd fd) (rcV X hn an sv dv n0 n1 n2 n3 n4 g0 gs gn gm)) sz)) (cc := cX6_takeRace) (maxL := 3) (ret := (some .int)) (by decide) rfl (Nat.le_of_ble_eq_true rfl) k_w k_a (fun p e s m below meth c S zr zlk znm zsz G hZ ls hl => ?_)
  have S : CallFix p m c cX6_takeRace 3 s _ wsX6_takeRace RX6 := S
  have zx := S.1
  have zb := S.2.1
  have hl : lv_has ls 3 [(0, .ref h0), (1, .ref hn)] := hl
  have hO_bd := hI_bd
  obtain ⟨hd0_bd, hd1_bd⟩ := hO_bd
  refine lv_aload_n zx zb dX6_takeRace_0 rfl (lv_at hl 0 rfl) ?_
  refine lv_iconst (v := 0) zx zb dX6_takeRace_1 (by decide) ?_
  refine r_put (C := RX6) (T := TX6) (N := 7) (ci := 4) (v := .int 0) S in_X6_takeRace_X6 tyX6_ok nmX6 G 0 rfl rfl 2 (by decide) lk_X6_takeRace_19 rfl (vp_nar_int _) rfl (Nat.le_of_ble_eq_true rfl) dX6_takeRace_2 (fun H locs G => ?_)
  obtain ⟨b_1, hI_b_1, ⟨hE_b_1_0, hE_b_1_1⟩, G⟩ : ∃ b_1 : Nat → Nat, InP b_1 ∧ (b_1 0 = 0 ∧ b_1 1 = bd 1) ∧ wd X (va_A (@HAppend.hAppend va_W va_W va_W _ (rdV X h0 hb n bd vd fd) (rcV X hn an sv dv n0 n1 n2 n3 n4 g0 gs gn gm)) sz) (va_A (@HAppend.hAppend va_W va_W va_W _ (rdV X h0 hb n bd vd fd) (rcV X hn an sv dv n0 n1 n2 n3 n4 g0 gs gn gm)) sz) s (@HAppend.hAppend va_W va_W va_W _ (rdV X h0 hb n b_1 vd fd) (rcV X hn an sv dv n0 n1 n2 n3 n4 g0 gs gn gm)) H locs := ⟨upN bd 0 0, ⟨(by show 0 ≤ 150; omega), hd1_bd⟩, ⟨rfl, rfl⟩, G⟩
  have hO_b_1 := hI_b_1
  obtain ⟨hd0_b_1, hd1_b_1⟩ := hO_b_1
  refine lv_aload_n zx zb dX6_takeRace_5 rfl (lv_at hl 0 rfl) ?_
  refine lv_iconst (v := (-1)) zx zb dX6_takeRace_6 (by decide) ?_
  refine r_put (C := RX6) (T := TX6) (N := 7) (ci := 4) (v := .int (-1)) S in_X6_takeRace_X6 tyX6_ok nmX6 G 0 rfl rfl 6 (by decide) lk_X6_takeRace_31 rfl (vp_nar_int _) rfl (Nat.le_of_ble_eq_true rfl) dX6_takeRace_7 (fun H locs G => ?_)
  obtain ⟨v_2, ⟨hE_v_2_2, hE_v_2_0, hE_v_2_1⟩, G⟩ : ∃ v_2 : Nat → Int32, (v_2 2 = (-1) ∧ v_2 0 = vd 0 ∧ v_2 1 = vd 1) ∧ wd X (va_A (@HAppend.hAppend va_W va_W va_W _ (rdV X h0 hb n bd vd fd) (rcV X hn an sv dv n0 n1 n2 n3 n4 g0 gs gn gm)) sz) (va_A (@HAppend.hAppend va_W va_W va_W _ (rdV X h0 hb n bd vd fd) (rcV X hn an sv dv n0 n1 n2 n3 n4 g0 gs gn gm)) sz) s (@HAppend.hAppend va_W va_W va_W _ (rdV X h0 hb n b_1 v_2 fd) (rcV X hn an sv dv n0 n1 n2 n3 n4 g0 gs gn gm)) H locs := ⟨upd vd 2 (-1), ⟨rfl, rfl, rfl⟩, G⟩
  refine lv_iconst (v := 0) zx zb dX6_takeRace_10 (by decide) ?_
  refine lv_istore_n (lv' := [(2, .int 0), (0, .ref h0), (1, .ref hn)]) zx zb dX6_takeRace_11 rfl hl (by decide) rfl (fun ls hl => ?_)
  obtain ⟨s0, hs0⟩ : ∃ s0 : Nat, scanP qB fd n 0 = s0 := ⟨_, rfl⟩
  have hs1 := scan_le (q := qB) (T := fd) (n := n) (a := 0) (Nat.zero_le _)
  rw [hs0] at hs1
  refine lv_aload_n zx zb dX6_takeRace_12 rfl (lv_at hl 1 rfl) ?_
  refine lv_aload_n zx zb dX6_takeRace_13 rfl (lv_at hl 2 rfl) ?_
  refine lv_iload_n zx zb dX6_takeRace_14 rfl (lv_at hl 0 rfl) ?_
  refine lv_if_ne (tgt := 22) zx zb dX6_takeRace_15 (by decide) (fun c_3 => absurd (by decide) c_3) (fun c_3 => ?_)
  refine lv_iconst (v := 1) zx zb dX6_takeRace_18 (by decide) ?_
  refine lv_goto (tgt := 23) zx zb dX6_takeRace_19 (by decide) ?_
  refine b_wv (cells' := 0) (slots' := 0) (wr := []) G rfl rfl [0, 1, 2, 3, 4, 5, 6, 7, 8, 9, 10, 11, 12, 13, 14, 15, 16, 17] [] rfl rfl rfl rfl (n_VS (As := [.ref hn, .int 1]) (rest := []) (C := RX6) (T := TX6) (N := 7) (ci := 4) S G hZ (x_takeItem1 l X K h0 hb n b_1 v_2 fd s0 hn an sv dv n0 n1 n2 n3 n4 g0 gs gn gm hI_n hI_b_1 hI_n0 hI_n1 hI_n2 hI_n3 hI_n4 (by omega) (by rw [hE_b_1_0]; exact hs0) hE_v_2_2 H.size) gX6_takeRace_X6_takeItem rfl rfl rfl hdV_X6_takeItem ⟨Nat.le_of_ble_eq_true rfl, Nat.le_of_ble_eq_true rfl⟩ [0, 1, 2, 3, 4, 5, 6, 7, 8, 9, 10, 11, 12, 13, 14, 15, 16, 17] rfl rfl 0 rfl rfl rfl hl.1 (Nat.le_of_ble_eq_true rfl) dX6_takeRace_23 ⟨Nat.le_of_ble_eq_true rfl, Nat.le_of_ble_eq_true rfl⟩) (fun u_4 H locs hp_4 G => ?_)
  obtain ⟨b_4a, v_4b, dv_4c, n0_4d, n1_4e, n2_4f, n3_4g, n4_4h⟩ := u_4
  try dsimp only at hp_4
  obtain ⟨hI_b_4a, hI_n0_4d, hI_n1_4e, hI_n2_4f, hI_n3_4g, hI_n4_4h, hq_4⟩ := hp_4
  have hO_b_4a := hI_b_4a
  obtain ⟨hd0_b_4a, hd1_b_4a⟩ := hO_b_4a
  have G : wd X (va_A (@HAppend.hAppend va_W va_W va_W _ (rdV X h0 hb n bd vd fd) (rcV X hn an sv dv n0 n1 n2 n3 n4 g0 gs gn gm)) sz) (va_A (@HAppend.hAppend va_W va_W va_W _ (rdV X h0 hb n bd vd fd) (rcV X hn an sv dv n0 n1 n2 n3 n4 g0 gs gn gm)) sz) s (@HAppend.hAppend va_W va_W va_W _ (rdV X h0 hb n b_4a v_4b fd) (rcV X hn an sv dv_4c n0_4d n1_4e n2_4f n3_4g n4_4h g0 gs gn gm)) H locs := G
  rcases hq_4 with ⟨hi0_4, hi1_4, hi2_4, hi3_4, hi4_4, hi5_4⟩ | ⟨pp_4, hi0_4, hi1_4, hi2_4⟩
  · have hadv := rac_adv (T := fd) hs1.2 hi0_4 hi2_4
    have hadw := tE_le (T := fd) hadv.2
    refine lv_iinc (v := 1) (lv' := [(2, .int 1), (0, .ref h0), (1, .ref hn)]) zx zb dX6_takeRace_26 hl (k := 0) rfl (by decide) (by decide) rfl (fun ls hl => ?_)
    refine lv_aload_n zx zb dX6_takeRace_29 rfl (lv_at hl 1 rfl) ?_
    refine b_wv (cells' := 0) (slots' := 0) (wr := rcV X hn an sv dv_4c n0_4d n1_4e n2_4f n3_4g n4_4h g0 gs gn gm) G rfl rfl [0, 1] [2, 3, 4, 5, 6, 7, 8, 9, 10, 11, 12, 13, 14, 15, 16, 17] rfl rfl rfl rfl (n_V (As := []) (rest := []) (C := RX6) (T := TX6) (N := 7) (ci := 4) S G (x_skipBlanks l X h0 hb n b_4a v_4b fd hI_n hI_b_4a (by omega) H.size) gX6_takeRace_X6_skipBlanks rfl rfl rfl hdV_X6_skipBlanks ⟨Nat.le_of_ble_eq_true rfl, Nat.le_of_ble_eq_true rfl⟩ [0, 1] rfl rfl 0 rfl rfl rfl hl.1 (Nat.le_of_ble_eq_true rfl) dX6_takeRace_30 ⟨Nat.le_of_ble_eq_true rfl, Nat.le_of_ble_eq_true rfl⟩) (fun u_5 H locs hp_5 G => ?_)
    obtain ⟨b_5, rfl⟩ : ∃ z, z = u_5 := ⟨_, rfl⟩
    obtain ⟨hI_b_5, hq_5⟩ := hp_5
    have hO_b_5 := hI_b_5
    obtain ⟨hd0_b_5, hd1_b_5⟩ := hO_b_5
    have G : wd X (va_A (@HAppend.hAppend va_W va_W va_W _ (rdV X h0 hb n bd vd fd) (rcV X hn an sv dv n0 n1 n2 n3 n4 g0 gs gn gm)) sz) (va_A (@HAppend.hAppend va_W va_W va_W _ (rdV X h0 hb n bd vd fd) (rcV X hn an sv dv n0 n1 n2 n3 n4 g0 gs gn gm)) sz) s (@HAppend.hAppend va_W va_W va_W _ (rcV X hn an sv dv_4c n0_4d n1_4e n2_4f n3_4g n4_4h g0 gs gn gm) (rdV X h0 hb n b_5 v_4b fd)) H locs := G
    obtain ⟨hz0_5, hz1_5⟩ := hq_5
    refine lv_aload_n zx zb dX6_takeRace_33 rfl (lv_at hl 1 rfl) ?_
    refine r_get (C := RX6) (T := TX6) (N := 7) (ci := 4) (v := .int (v_4b 2)) S in_X6_takeRace_X6 G 16 rfl rfl 6 (by decide) lk_X6_takeRace_31 rfl dX6_takeRace_34 ?_
    refine lv_iconst (v := (-1)) zx zb dX6_takeRace_37 (by decide) ?_
    refine lv_icmp_ne (tgt := 59) zx zb dX6_takeRace_38 (by decide) (fun c_6 => absurd (hi4_4) c_6) (fun c_6 => ?_)
    refine lv_aload_n zx zb dX6_takeRace_41 rfl (lv_at hl 1 rfl) ?_
    refine r_get (C := RX6) (T := TX6) (N := 7) (ci := 4) (v := .int (nI (b_5 0))) S in_X6_takeRace_X6 G 16 rfl rfl 2 (by decide) lk_X6_takeRace_19 rfl dX6_takeRace_42 ?_
    refine lv_aload_n zx zb dX6_takeRace_45 rfl (lv_at hl 1 rfl) ?_
    refine r_get (C := RX6) (T := TX6) (N := 7) (ci := 4) (v := .int (nI n)) S in_X6_takeRace_X6 G 16 rfl rfl 1 (by decide) lk_X6_takeRace_15 rfl dX6_takeRace_46 ?_
    refine lv_icmp_ge (tgt := 59) zx zb dX6_takeRace_49 (by decide) (fun c_7 => ?_) (fun c_7 => ?_)
    · have fc_7 := j_le (a := n) (b := (b_5 0)) (by omega) (by omega) c_7
      refine lv_aload_n zx zb dX6_takeRace_59 rfl (lv_at hl 1 rfl) ?_
      refine r_get (C := RX6) (T := TX6) (N := 7) (ci := 4) (v := .int (v_4b 2)) S in_X6_takeRace_X6 G 16 rfl rfl 6 (by decide) lk_X6_takeRace_31 rfl dX6_takeRace_60 ?_
      refine lv_iconst (v := (-1)) zx zb dX6_takeRace_63 (by decide) ?_
      refine lv_icmp_ne (tgt := 71) zx zb dX6_takeRace_64 (by decide) (fun c_8 => absurd (hi4_4) c_8) (fun c_8 => ?_)
      refine lv_iload_n zx zb dX6_takeRace_67 rfl (lv_at hl 0 rfl) ?_
      refine lv_goto (tgt := 78) zx zb dX6_takeRace_68 (by decide) ?_
      exact e_int S zr zlk (vp_nar_int _) G (b_5, v_4b, sv, dv_4c, n0_4d, n1_4e, n2_4f, n3_4g, n4_4h) [16, 17, 0, 1, 2, 3, 4, 5, 6, 7, 8, 9, 10, 11, 12, 13, 14, 15] rfl rfl (Or.inr rfl) (⟨hI_b_5, hI_n0_4d, hI_n1_4e, hI_n2_4f, hI_n3_4g, hI_n4_4h, by have e0 : b_5 0 = t3 fd n s0 := (by rw [hz0_5, hi5_4]; rfl); have z0 : tK fd n (t3 fd n s0) = 0 := (by rw [← e0]; exact (tok_end (by first | omega | (dsimp only; omega))).2); have e : rdA fd n sv dv = (nI 1, (true, (0, (sv, upd (upd dv 0 (tV fd n (tN fd n s0))) 1 0)))) := (by rw [← hs0] at hi0_4 hi1_4 hi2_4 z0 ⊢; rw [rdA_n ⟨hi0_4, hi1_4⟩ hi2_4]; exact rdP_e z0); rw [e]; exact ⟨rfl, fun _ => ⟨⟨hi3_4.2.1, rfl, hi3_4.1⟩, hi3_4.2.2⟩, Or.inl ⟨rfl, nI_pos (by first | omega | (dsimp only; omega))⟩⟩⟩) dX6_takeRace_78
    · have fc_7 := j_nle (a := n) (b := (b_5 0)) (by omega) (by omega) c_7
      refine lv_iload_n zx zb dX6_takeRace_52 rfl (lv_at hl 0 rfl) ?_
      refine lv_sipush (v := 150) zx zb dX6_takeRace_53 (by decide) ?_
      refine lv_icmp_lt (tgt := 12) zx zb dX6_takeRace_56 (by decide) (fun c_9 => ?_) (fun c_9 => absurd (by decide) c_9)
      refine k_loop (P := ∀ (zm : Nat) (n12_2 : Nat) (sv12_0 : Nat → Int32) (dv12_0 : Nat → Int32) (n012_0 : Nat) (n112_0 : Nat) (b12_1 : Nat → Nat) (v12_1 : Nat → Int32) (H : Heap) (locs : List Loc) (ls : Array Slot), ((150 - n12_2) < zm) → ((b12_1 0 ≤ n ∧ 1 ≤ n12_2 ∧ 3 * n12_2 ≤ b12_1 0) ∧ scanP qB fd n (b12_1 0) = b12_1 0 ∧ ¬ tK fd n (b12_1 0) = 0 ∧ v12_1 2 = -1 ∧ rdP fd n (152 - n12_2) (b12_1 0) n12_2 n012_0 sv12_0 dv12_0 = rdA fd n sv dv) → n012_0 ≤ 6 → n112_0 ≤ 8 → InP b12_1 → (n12_2 ≤ 150) → wd X (va_A (@HAppend.hAppend va_W va_W va_W _ (rdV X h0 hb n bd vd fd) (rcV X hn an sv dv n0 n1 n2 n3 n4 g0 gs gn gm)) sz) (va_A (@HAppend.hAppend va_W va_W va_W _ (rdV X h0 hb n bd vd fd) (rcV X hn an sv dv n0 n1 n2 n3 n4 g0 gs gn gm)) sz) s (@HAppend.hAppend va_W va_W va_W _ (rcV X hn an sv12_0 dv12_0 n012_0 n112_0 n2_4f n3_4g n4_4h g0 gs gn gm) (rdV X h0 hb n b12_1 v12_1 fd)) H locs → lv_has ls 3 [(2, .int (nI n12_2)), (0, .ref h0), (1, .ref hn)] → W p l e _ s m _ below meth c H locs _ _ _ (F0 m 12 ls [])) (fun loop => loop ((150 - 1) + 1) 1 sv dv_4c n0_4d n1_4e b_5 v_4b _ _ _ (by omega) (by have e0 : b_5 0 = t3 fd n s0 := (by rw [hz0_5, hi5_4]; rfl); have e1 : scanP qB fd n (b_5 0) = b_5 0 := (by rw [hz0_5]; exact scan_id (by omega)); have e2 : tE fd n (t2 fd n s0) ≤ t3 fd n s0 ∧ t3 fd n s0 ≤ n := tN_le hadv.2; exact ⟨by omega, e1, fun z => absurd (tK_0 z) (by omega), hi4_4, by rw [e0, hi3_4.2.1, hi3_4.1, ← hs0]; rw [← hs0] at hi0_4 hi1_4 hi2_4; exact (rdA_n ⟨hi0_4, hi1_4⟩ hi2_4).symm⟩) hI_n0_4d hI_n1_4e hI_b_5 (by omega) G hl) ?_
      intro zm
      induction zm with
      | zero => intro n12_2 sv12_0 dv12_0 n012_0 n112_0 b12_1 v12_1 H locs ls zz q_x0 q_hI_n012_0 q_hI_n112_0 q_hI_b12_1 q_hk_n12_2 _ _; exact absurd zz (by omega)
      | succ zm ih12 =>
        intro n12_2 sv12_0 dv12_0 n012_0 n112_0 b12_1 v12_1 H locs ls zm_12 hx12_0 hI_n012_0 hI_n112_0 hI_b12_1 hk_n12_2 G hl
        have hO_b12_1 := hI_b12_1
        obtain ⟨hd0_b12_1, hd1_b12_1⟩ := hO_b12_1
        refine lv_aload_n zx zb dX6_takeRace_12 rfl (lv_at hl 1 rfl) ?_
        refine lv_aload_n zx zb dX6_takeRace_13 rfl (lv_at hl 2 rfl) ?_
        refine lv_iload_n zx zb dX6_takeRace_14 rfl (lv_at hl 0 rfl) ?_
        refine lv_if_ne (tgt := 22) zx zb dX6_takeRace_15 (by decide) (fun c_10 => ?_) (fun c_10 => absurd c_10 (fun q => absurd (j_eq (b := 0) (by omega) (by omega) q) (by omega)))
        refine lv_iconst (v := 0) zx zb dX6_takeRace_22 (by decide) ?_
        refine b_wv (cells' := 0) (slots' := 0) (wr := []) G rfl rfl [16, 17, 0, 1, 2, 3, 4, 5, 6, 7, 8, 9, 10, 11, 12, 13, 14, 15] [] rfl rfl rfl rfl (n_VS (As := [.ref hn, .int 0]) (rest := []) (C := RX6) (T := TX6) (N := 7) (ci := 4) S G hZ (x_takeItem l X K h0 hb n b12_1 v12_1 fd (b12_1 0) hn an sv12_0 dv12_0 n012_0 n112_0 n2_4f n3_4g n4_4h g0 gs gn gm hI_n hI_b12_1 hI_n012_0 hI_n112_0 hI_n2_4f hI_n3_4g hI_n4_4h (by omega) hx12_0.2.1 hx12_0.2.2.2.1 H.size) gX6_takeRace_X6_takeItem rfl rfl rfl hdV_X6_takeItem ⟨Nat.le_of_ble_eq_true rfl, Nat.le_of_ble_eq_true rfl⟩ [16, 17, 0, 1, 2, 3, 4, 5, 6, 7, 8, 9, 10, 11, 12, 13, 14, 15] rfl rfl 16 rfl rfl rfl hl.1 (Nat.le_of_ble_eq_true rfl) dX6_takeRace_23 ⟨Nat.le_of_ble_eq_true rfl, Nat.le_of_ble_eq_true rfl⟩) (fun u_11 H locs hp_11 G => ?_)
        obtain ⟨b_11a, v_11b, sv_11c, dv_11d, n0_11e, n1_11f⟩ := u_11
        try dsimp only at hp_11
        obtain ⟨hI_b_11a, hI_n0_11e, hI_n1_11f, hq_11⟩ := hp_11
        have hO_b_11a := hI_b_11a
        obtain ⟨hd0_b_11a, hd1_b_11a⟩ := hO_b_11a
        have G : wd X (va_A (@HAppend.hAppend va_W va_W va_W _ (rdV X h0 hb n bd vd fd) (rcV X hn an sv dv n0 n1 n2 n3 n4 g0 gs gn gm)) sz) (va_A (@HAppend.hAppend va_W va_W va_W _ (rdV X h0 hb n bd vd fd) (rcV X hn an sv dv n0 n1 n2 n3 n4 g0 gs gn gm)) sz) s (@HAppend.hAppend va_W va_W va_W _ (rdV X h0 hb n b_11a v_11b fd) (rcV X hn an sv_11c dv_11d n0_11e n1_11f n2_4f n3_4g n4_4h g0 gs gn gm)) H locs := G
        rcases hq_11 with ⟨hi0_11, ⟨hi1_11, hi2_11, hi3_11⟩, hi4_11, hi5_11⟩ | ⟨pp_11, hi0_11, hi1_11, hi2_11⟩
        · have hadv := it_adv (T := fd) (by omega) hx12_0.2.2.1 hi0_11
          have hadw := tE_le (T := fd) hadv.2
          refine lv_iinc (v := (nI (n12_2 + 1))) (lv' := [(2, .int (nI (n12_2 + 1))), (0, .ref h0), (1, .ref hn)]) zx zb dX6_takeRace_26 hl (k := 0) rfl (nI_add n12_2 1) (by decide) rfl (fun ls hl => ?_)
          refine lv_aload_n zx zb dX6_takeRace_29 rfl (lv_at hl 1 rfl) ?_
          refine b_wv (cells' := 0) (slots' := 0) (wr := rcV X hn an sv_11c dv_11d n0_11e n1_11f n2_4f n3_4g n4_4h g0 gs gn gm) G rfl rfl [0, 1] [2, 3, 4, 5, 6, 7, 8, 9, 10, 11, 12, 13, 14, 15, 16, 17] rfl rfl rfl rfl (n_V (As := []) (rest := []) (C := RX6) (T := TX6) (N := 7) (ci := 4) S G (x_skipBlanks l X h0 hb n b_11a v_11b fd hI_n hI_b_11a (by omega) H.size) gX6_takeRace_X6_skipBlanks rfl rfl rfl hdV_X6_skipBlanks ⟨Nat.le_of_ble_eq_true rfl, Nat.le_of_ble_eq_true rfl⟩ [0, 1] rfl rfl 0 rfl rfl rfl hl.1 (Nat.le_of_ble_eq_true rfl) dX6_takeRace_30 ⟨Nat.le_of_ble_eq_true rfl, Nat.le_of_ble_eq_true rfl⟩) (fun u_12 H locs hp_12 G => ?_)
          obtain ⟨b_12, rfl⟩ : ∃ z, z = u_12 := ⟨_, rfl⟩
          obtain ⟨hI_b_12, hq_12⟩ := hp_12
          have hO_b_12 := hI_b_12
          obtain ⟨hd0_b_12, hd1_b_12⟩ := hO_b_12
          have G : wd X (va_A (@HAppend.hAppend va_W va_W va_W _ (rdV X h0 hb n bd vd fd) (rcV X hn an sv dv n0 n1 n2 n3 n4 g0 gs gn gm)) sz) (va_A (@HAppend.hAppend va_W va_W va_W _ (rdV X h0 hb n bd vd fd) (rcV X hn an sv dv n0 n1 n2 n3 n4 g0 gs gn gm)) sz) s (@HAppend.hAppend va_W va_W va_W _ (rcV X hn an sv_11c dv_11d n0_11e n1_11f n2_4f n3_4g n4_4h g0 gs gn gm) (rdV X h0 hb n b_12 v_11b fd)) H locs := G
          obtain ⟨hz0_12, hz1_12⟩ := hq_12
          refine lv_aload_n zx zb dX6_takeRace_33 rfl (lv_at hl 1 rfl) ?_
          refine r_get (C := RX6) (T := TX6) (N := 7) (ci := 4) (v := .int (v_11b 2)) S in_X6_takeRace_X6 G 16 rfl rfl 6 (by decide) lk_X6_takeRace_31 rfl dX6_takeRace_34 ?_
          refine lv_iconst (v := (-1)) zx zb dX6_takeRace_37 (by decide) ?_
          refine lv_icmp_ne (tgt := 59) zx zb dX6_takeRace_38 (by decide) (fun c_13 => absurd (hi4_11) c_13) (fun c_13 => ?_)
          refine lv_aload_n zx zb dX6_takeRace_41 rfl (lv_at hl 1 rfl) ?_
          refine r_get (C := RX6) (T := TX6) (N := 7) (ci := 4) (v := .int (nI (b_12 0))) S in_X6_takeRace_X6 G 16 rfl rfl 2 (by decide) lk_X6_takeRace_19 rfl dX6_takeRace_42 ?_
          refine lv_aload_n zx zb dX6_takeRace_45 rfl (lv_at hl 1 rfl) ?_
          refine r_get (C := RX6) (T := TX6) (N := 7) (ci := 4) (v := .int (nI n)) S in_X6_takeRace_X6 G 16 rfl rfl 1 (by decide) lk_X6_takeRace_15 rfl dX6_takeRace_46 ?_
          refine lv_icmp_ge (tgt := 59) zx zb dX6_takeRace_49 (by decide) (fun c_14 => ?_) (fun c_14 => ?_)
          · have fc_14 := j_le (a := n) (b := (b_12 0)) (by omega) (by omega) c_14
            refine lv_aload_n zx zb dX6_takeRace_59 rfl (lv_at hl 1 rfl) ?_
            refine r_get (C := RX6) (T := TX6) (N := 7) (ci := 4) (v := .int (v_11b 2)) S in_X6_takeRace_X6 G 16 rfl rfl 6 (by decide) lk_X6_takeRace_31 rfl dX6_takeRace_60 ?_
            refine lv_iconst (v := (-1)) zx zb dX6_takeRace_63 (by decide) ?_
            refine lv_icmp_ne (tgt := 71) zx zb dX6_takeRace_64 (by decide) (fun c_15 => absurd (hi4_11) c_15) (fun c_15 => ?_)
            refine lv_iload_n zx zb dX6_takeRace_67 rfl (lv_at hl 0 rfl) ?_
            refine lv_goto (tgt := 78) zx zb dX6_takeRace_68 (by decide) ?_
            exact e_int S zr zlk (vp_nar_int _) G (b_12, v_11b, sv_11c, dv_11d, n0_11e, n1_11f, n2_4f, n3_4g, n4_4h) [16, 17, 0, 1, 2, 3, 4, 5, 6, 7, 8, 9, 10, 11, 12, 13, 14, 15] rfl rfl (Or.inr rfl) (⟨hI_b_12, hI_n0_11e, hI_n1_11f, hI_n2_4f, hI_n3_4g, hI_n4_4h, by have e0 : b_12 0 = tN fd n (itT fd n (b12_1 0) n012_0) := (by rw [hz0_12, hi5_11]; rfl); have z0 : tK fd n (tN fd n (itT fd n (b12_1 0) n012_0)) = 0 := (by rw [← e0]; exact (tok_end (by first | omega | (dsimp only; omega))).2); have e : rdA fd n sv dv = (nI (n12_2 + 1), (true, (itN fd n (b12_1 0) n012_0, (itS fd n (b12_1 0) n012_0 sv12_0, itD fd n (b12_1 0) n012_0 sv12_0 dv12_0)))) := (by rw [← hx12_0.2.2.2.2, show 152 - n12_2 = (151 - n12_2) + 1 from by first | omega | (dsimp only; omega), rdP_n hx12_0.2.2.1 hi0_11, show 151 - n12_2 = (150 - n12_2) + 1 from by first | omega | (dsimp only; omega)]; exact rdP_e z0); rw [e]; exact ⟨rfl, fun _ => ⟨⟨hi1_11, hi2_11, hi3_11⟩, hi3_4.2.2⟩, Or.inl ⟨rfl, nI_pos (by first | omega | (dsimp only; omega))⟩⟩⟩) dX6_takeRace_78
          · have fc_14 := j_nle (a := n) (b := (b_12 0)) (by omega) (by omega) c_14
            refine lv_iload_n zx zb dX6_takeRace_52 rfl (lv_at hl 0 rfl) ?_
            refine lv_sipush (v := 150) zx zb dX6_takeRace_53 (by decide) ?_
            refine lv_icmp_lt (tgt := 12) zx zb dX6_takeRace_56 (by decide) (fun c_16 => ?_) (fun c_16 => ?_)
            · have fc_16 := j_lt (a := (n12_2 + 1)) (b := 150) (by omega) (by omega) c_16
              exact ih12 (n12_2 + 1) sv_11c dv_11d n0_11e n1_11f b_12 v_11b _ _ _ (by omega) (by have e0 : b_12 0 = tN fd n (itT fd n (b12_1 0) n012_0) := (by rw [hz0_12, hi5_11]; rfl); have e1 : scanP qB fd n (b_12 0) = b_12 0 := (by rw [hz0_12]; exact scan_id (by omega)); have e2 := tN_le (T := fd) hadv.2; exact ⟨by omega, e1, fun z => absurd (tK_0 z) (by omega), hi4_11, by rw [e0, hi1_11, hi2_11, hi3_11, ← hx12_0.2.2.2.2, show 152 - n12_2 = (152 - (n12_2 + 1)) + 1 from by omega]; exact (rdP_n hx12_0.2.2.1 hi0_11).symm⟩) hI_n0_11e hI_n1_11f hI_b_12 (by omega) G hl
            · have fc_16 := j_nlt (a := (n12_2 + 1)) (b := 150) (by omega) (by omega) c_16
              refine lv_aload_n zx zb dX6_takeRace_59 rfl (lv_at hl 1 rfl) ?_
              refine r_get (C := RX6) (T := TX6) (N := 7) (ci := 4) (v := .int (v_11b 2)) S in_X6_takeRace_X6 G 16 rfl rfl 6 (by decide) lk_X6_takeRace_31 rfl dX6_takeRace_60 ?_
              refine lv_iconst (v := (-1)) zx zb dX6_takeRace_63 (by decide) ?_
              refine lv_icmp_ne (tgt := 71) zx zb dX6_takeRace_64 (by decide) (fun c_17 => absurd (hi4_11) c_17) (fun c_17 => ?_)
              refine lv_iload_n zx zb dX6_takeRace_67 rfl (lv_at hl 0 rfl) ?_
              refine lv_goto (tgt := 78) zx zb dX6_takeRace_68 (by decide) ?_
              exact e_int S zr zlk (vp_nar_int _) G (b_12, v_11b, sv_11c, dv_11d, n0_11e, n1_11f, n2_4f, n3_4g, n4_4h) [16, 17, 0, 1, 2, 3, 4, 5, 6, 7, 8, 9, 10, 11, 12, 13, 14, 15] rfl rfl (Or.inr rfl) (⟨hI_b_12, hI_n0_11e, hI_n1_11f, hI_n2_4f, hI_n3_4g, hI_n4_4h, by have e0 : b_12 0 = tN fd n (itT fd n (b12_1 0) n012_0) := (by rw [hz0_12, hi5_11]; rfl); have z0 : tK fd n (tN fd n (itT fd n (b12_1 0) n012_0)) = 0 := (by rw [← e0]; exact (tok_end (by first | omega | (dsimp only; omega))).2); have e : rdA fd n sv dv = (nI (n12_2 + 1), (true, (itN fd n (b12_1 0) n012_0, (itS fd n (b12_1 0) n012_0 sv12_0, itD fd n (b12_1 0) n012_0 sv12_0 dv12_0)))) := (by rw [← hx12_0.2.2.2.2, show 152 - n12_2 = (151 - n12_2) + 1 from by first | omega | (dsimp only; omega), rdP_n hx12_0.2.2.1 hi0_11, show 151 - n12_2 = (150 - n12_2) + 1 from by first | omega | (dsimp only; omega)]; exact rdP_e z0); rw [e]; exact ⟨rfl, fun _ => ⟨⟨hi1_11, hi2_11, hi3_11⟩, hi3_4.2.2⟩, Or.inl ⟨rfl, nI_pos (by first | omega | (dsimp only; omega))⟩⟩⟩) dX6_takeRace_78
        · refine lv_iinc (v := (nI (n12_2 + 1))) (lv' := [(2, .int (nI (n12_2 + 1))), (0, .ref h0), (1, .ref hn)]) zx zb dX6_takeRace_26 hl (k := 0) rfl (nI_add n12_2 1) (by decide) rfl (fun ls hl => ?_)
          refine lv_aload_n zx zb dX6_takeRace_29 rfl (lv_at hl 1 rfl) ?_
          refine b_wv (cells' := 0) (slots' := 0) (wr := rcV X hn an sv_11c dv_11d n0_11e n1_11f n2_4f n3_4g n4_4h g0 gs gn gm) G rfl rfl [0, 1] [2, 3, 4, 5, 6, 7, 8, 9, 10, 11, 12, 13, 14, 15, 16, 17] rfl rfl rfl rfl (n_V (As := []) (rest := []) (C := RX6) (T := TX6) (N := 7) (ci := 4) S G (x_skipBlanksS l X h0 hb n b_11a v_11b fd hI_n hI_b_11a H.size) gX6_takeRace_X6_skipBlanks rfl rfl rfl hdV_X6_skipBlanks ⟨Nat.le_of_ble_eq_true rfl, Nat.le_of_ble_eq_true rfl⟩ [0, 1] rfl rfl 0 rfl rfl rfl hl.1 (Nat.le_of_ble_eq_true rfl) dX6_takeRace_30 ⟨Nat.le_of_ble_eq_true rfl, Nat.le_of_ble_eq_true rfl⟩) (fun u_18 H locs hp_18 G => ?_)
          obtain ⟨b_18, rfl⟩ : ∃ z, z = u_18 := ⟨_, rfl⟩
          obtain ⟨hI_b_18, hq_18⟩ := hp_18
          have hO_b_18 := hI_b_18
          obtain ⟨hd0_b_18, hd1_b_18⟩ := hO_b_18
          have G : wd X (va_A (@HAppend.hAppend va_W va_W va_W _ (rdV X h0 hb n bd vd fd) (rcV X hn an sv dv n0 n1 n2 n3 n4 g0 gs gn gm)) sz) (va_A (@HAppend.hAppend va_W va_W va_W _ (rdV X h0 hb n bd vd fd) (rcV X hn an sv dv n0 n1 n2 n3 n4 g0 gs gn gm)) sz) s (@HAppend.hAppend va_W va_W va_W _ (rcV X hn an sv_11c dv_11d n0_11e n1_11f n2_4f n3_4g n4_4h g0 gs gn gm) (rdV X h0 hb n b_18 v_11b fd)) H locs := G
          refine lv_aload_n zx zb dX6_takeRace_33 rfl (lv_at hl 1 rfl) ?_
          refine r_get (C := RX6) (T := TX6) (N := 7) (ci := 4) (v := .int (v_11b 2)) S in_X6_takeRace_X6 G 16 rfl rfl 6 (by decide) lk_X6_takeRace_31 rfl dX6_takeRace_34 ?_
          refine lv_iconst (v := (-1)) zx zb dX6_takeRace_37 (by decide) ?_
          refine lv_icmp_ne (tgt := 59) zx zb dX6_takeRace_38 (by decide) (fun c_19 => ?_) (fun c_19 => absurd c_19 (k_nf hi1_11 (by omega)))
          refine lv_aload_n zx zb dX6_takeRace_59 rfl (lv_at hl 1 rfl) ?_
          refine r_get (C := RX6) (T := TX6) (N := 7) (ci := 4) (v := .int (v_11b 2)) S in_X6_takeRace_X6 G 16 rfl rfl 6 (by decide) lk_X6_takeRace_31 rfl dX6_takeRace_60 ?_
          refine lv_iconst (v := (-1)) zx zb dX6_takeRace_63 (by decide) ?_
          refine lv_icmp_ne (tgt := 71) zx zb dX6_takeRace_64 (by decide) (fun c_20 => ?_) (fun c_20 => absurd c_20 (k_nf hi1_11 (by omega)))
          refine lv_bipush (v := (-10)) zx zb dX6_takeRace_71 (by decide) ?_
          refine lv_aload_n zx zb dX6_takeRace_73 rfl (lv_at hl 1 rfl) ?_
          refine r_get (C := RX6) (T := TX6) (N := 7) (ci := 4) (v := .int (v_11b 2)) S in_X6_takeRace_X6 G 16 rfl rfl 6 (by decide) lk_X6_takeRace_31 rfl dX6_takeRace_74 ?_
          refine r_isub (v := ((-10) - (v_11b 2))) S rfl dX6_takeRace_77 ?_
          exact e_int S zr zlk (vp_nar_int _) G (b_18, v_11b, sv_11c, dv_11d, n0_11e, n1_11f, n2_4f, n3_4g, n4_4h) [16, 17, 0, 1, 2, 3, 4, 5, 6, 7, 8, 9, 10, 11, 12, 13, 14, 15] rfl rfl (Or.inr rfl) (⟨hI_b_18, hI_n0_11e, hI_n1_11f, hI_n2_4f, hI_n3_4g, hI_n4_4h, by have e : rdA fd n sv dv = (-10 - nI pp_11, (false, (n012_0, (sv12_0, dv12_0)))) := (by rw [← hx12_0.2.2.2.2, show 152 - n12_2 = (151 - n12_2) + 1 from by first | omega | (dsimp only; omega)]; exact rdP_f hx12_0.2.2.1 hi0_11); rw [e]; exact ⟨by rw [hi1_11], fun q => absurd (show false = true from q) (by decide), Or.inr ⟨rfl, by rw [hi1_11]; exact k_m10 (by first | omega | (dsimp only; omega))⟩⟩⟩) dX6_takeRace_78
  · refine lv_iinc (v := 1) (lv' := [(2, .int 1), (0, .ref h0), (1, .ref hn)]) zx zb dX6_takeRace_26 hl (k := 0) rfl (by decide) (by decide) rfl (fun ls hl => ?_)
    refine lv_aload_n zx zb dX6_takeRace_29 rfl (lv_at hl 1 rfl) ?_
    refine b_wv (cells' := 0) (slots' := 0) (wr := rcV X hn an sv dv_4c n0_4d n1_4e n2_4f n3_4g n4_4h g0 gs gn gm) G rfl rfl [0, 1] [2, 3, 4, 5, 6, 7, 8, 9, 10, 11, 12, 13, 14, 15, 16, 17] rfl rfl rfl rfl (n_V (As := []) (rest := []) (C := RX6) (T := TX6) (N := 7) (ci := 4) S G (x_skipBlanksS l X h0 hb n b_4a v_4b fd hI_n hI_b_4a H.size) gX6_takeRace_X6_skipBlanks rfl rfl rfl hdV_X6_skipBlanks ⟨Nat.le_of_ble_eq_true rfl, Nat.le_of_ble_eq_true rfl⟩ [0, 1] rfl rfl 0 rfl rfl rfl hl.1 (Nat.le_of_ble_eq_true rfl) dX6_takeRace_30 ⟨Nat.le_of_ble_eq_true rfl, Nat.le_of_ble_eq_true rfl⟩) (fun u_21 H locs hp_21 G => ?_)
    obtain ⟨b_21, rfl⟩ : ∃ z, z = u_21 := ⟨_, rfl⟩
    obtain ⟨hI_b_21, hq_21⟩ := hp_21
    have hO_b_21 := hI_b_21
    obtain ⟨hd0_b_21, hd1_b_21⟩ := hO_b_21
    have G : wd X (va_A (@HAppend.hAppend va_W va_W va_W _ (rdV X h0 hb n bd vd fd) (rcV X hn an sv dv n0 n1 n2 n3 n4 g0 gs gn gm)) sz) (va_A (@HAppend.hAppend va_W va_W va_W _ (rdV X h0 hb n bd vd fd) (rcV X hn an sv dv n0 n1 n2 n3 n4 g0 gs gn gm)) sz) s (@HAppend.hAppend va_W va_W va_W _ (rcV X hn an sv dv_4c n0_4d n1_4e n2_4f n3_4g n4_4h g0 gs gn gm) (rdV X h0 hb n b_21 v_4b fd)) H locs := G
    refine lv_aload_n zx zb dX6_takeRace_33 rfl (lv_at hl 1 rfl) ?_
    refine r_get (C := RX6) (T := TX6) (N := 7) (ci := 4) (v := .int (v_4b 2)) S in_X6_takeRace_X6 G 16 rfl rfl 6 (by decide) lk_X6_takeRace_31 rfl dX6_takeRace_34 ?_
    refine lv_iconst (v := (-1)) zx zb dX6_takeRace_37 (by decide) ?_
    refine lv_icmp_ne (tgt := 59) zx zb dX6_takeRace_38 (by decide) (fun c_22 => ?_) (fun c_22 => absurd c_22 (k_nf hi1_4 (by omega)))
    refine lv_aload_n zx zb dX6_takeRace_59 rfl (lv_at hl 1 rfl) ?_
    refine r_get (C := RX6) (T := TX6) (N := 7) (ci := 4) (v := .int (v_4b 2)) S in_X6_takeRace_X6 G 16 rfl rfl 6 (by decide) lk_X6_takeRace_31 rfl dX6_takeRace_60 ?_
    refine lv_iconst (v := (-1)) zx zb dX6_takeRace_63 (by decide) ?_
    refine lv_icmp_ne (tgt := 71) zx zb dX6_takeRace_64 (by decide) (fun c_23 => ?_) (fun c_23 => absurd c_23 (k_nf hi1_4 (by omega)))
    refine lv_bipush (v := (-10)) zx zb dX6_takeRace_71 (by decide) ?_
    refine lv_aload_n zx zb dX6_takeRace_73 rfl (lv_at hl 1 rfl) ?_
    refine r_get (C := RX6) (T := TX6) (N := 7) (ci := 4) (v := .int (v_4b 2)) S in_X6_takeRace_X6 G 16 rfl rfl 6 (by decide) lk_X6_takeRace_31 rfl dX6_takeRace_74 ?_
    refine r_isub (v := ((-10) - (v_4b 2))) S rfl dX6_takeRace_77 ?_
    exact e_int S zr zlk (vp_nar_int _) G (b_21, v_4b, sv, dv_4c, n0_4d, n1_4e, n2_4f, n3_4g, n4_4h) [16, 17, 0, 1, 2, 3, 4, 5, 6, 7, 8, 9, 10, 11, 12, 13, 14, 15] rfl rfl (Or.inr rfl) (⟨hI_b_21, hI_n0_4d, hI_n1_4e, hI_n2_4f, hI_n3_4g, hI_n4_4h, by have e : rdA fd n sv dv = (-10 - nI pp_4, (false, (0, (sv, dv)))) := (by rcases hi0_4 with ⟨q1, q2⟩ | ⟨q1, q2⟩; exact (rdA_w (by rw [hs0]; exact q1)).trans (by rw [q2, hs0]); exact rdA_f (by rw [hs0]; exact q1) (by rw [hs0]; exact q2)); rw [e]; exact ⟨by rw [hi1_4], fun q => absurd (show false = true from q) (by decide), Or.inr ⟨rfl, by rw [hi1_4]; exact k_m10 (by first | omega | (dsimp only; omega))⟩⟩⟩) dX6_takeRace_78
set_option maxHeartbeats 4000000 in
set_option maxRecDepth 100000 in
theorem x_read (l : Launch) (X : EX) (K : SK) (h0 : Nat) (nw : Nat) (sp : Nat) (xa : Nat → Nat) (la : Int64) (lb : Int64) (an : Nat → Nat) (sv : Nat → Int32) (dv : Nat → Int32) (n0 : Nat) (n1 : Nat) (n2 : Nat) (n3 : Nat) (n4 : Nat) (g0 : Nat → Int32) (gs : Nat → Int32) (gn : Nat → Int32) (gm : Nat → Int32) (adp : Nat → Nat) (svp : Nat → Int32) (dvp : Nat → Int32) (n0p : Nat) (n1p : Nat) (n2p : Nat) (n3p : Nat) (n4p : Nat) (g0p : Nat → Int32) (gsp : Nat → Int32) (gnp : Nat → Int32) (gmp : Nat → Int32) (hb : Nat) (n : Nat) (bd : Nat → Nat) (vd : Nat → Int32) (fd : Nat → Int32) (hI_n0 : n0 ≤ 6) (hI_n1 : n1 ≤ 8) (hI_n2 : n2 ≤ 5) (hI_n3 : n3 ≤ 6) (hI_n4 : n4 ≤ 6) (hI_n0p : n0p ≤ 6) (hI_n1p : n1p ≤ 8) (hI_n2p : n2p ≤ 5) (hI_n3p : n3p ≤ 6) (hI_n4p : n4p ≤ 6) (hI_n : n ≤ 150) (hI_bd : InP bd) (sz : Nat) : Met l yX10_read wsX10_read ({ frames := 7, cells := 0, slots := 0, locals := 151 } : Room) (pS X K [.ref h0] (@HAppend.hAppend va_W va_W va_W _ (xW h0 nw sp xa la lb) (@HAppend.hAppend va_W va_W va_W _ (rcV X nw an sv dv n0 n1 n2 n3 n4 g0 gs gn gm) (@HAppend.hAppend va_W va_W va_W _ (rcV X sp adp svp dvp n0p n1p n2p n3p n4p g0p gsp gnp gmp) (rdV X (xa 4) hb n bd vd fd)))) sz) (qI (fun (r : Int32) (u : Bool × (Nat → Int32) × (Nat → Int32) × (Nat) × (Nat) × (Nat) × (Nat) × (Nat) × (Nat → Nat) × (Nat → Int32)) => u.2.2.2.1 ≤ 6 ∧ u.2.2.2.2.1 ≤ 8 ∧ u.2.2.2.2.2.1 ≤ 5 ∧ u.2.2.2.2.2.2.1 ≤ 6 ∧ u.2.2.2.2.2.2.2.1 ≤ 6 ∧ InP u.2.2.2.2.2.2.2.2.1 ∧ (r = (rdA fd n svp dvp).1 ∧ ((u.1 = true ∧ (rdA fd n svp dvp).2.1 = true ∧ (u.2.2.2.1 = (rdA fd n svp dvp).2.2.1 ∧ u.2.1 = (rdA fd n svp dvp).2.2.2.1 ∧ u.2.2.1 = (rdA fd n svp dvp).2.2.2.2) ∧ (u.2.2.2.2.2.1 = 0 ∧ u.2.2.2.2.2.2.1 = 0 ∧ u.2.2.2.2.2.2.2.1 = 0)) ∨ (u.1 = false ∧ (rdA fd n svp dvp).2.1 = false)))) X (fun (u : Bool × (Nat → Int32) × (Nat → Int32) × (Nat) × (Nat) × (Nat) × (Nat) × (Nat) × (Nat → Nat) × (Nat → Int32)) => @HAppend.hAppend va_W va_W va_W _ (xW h0 (cond u.1 sp nw) (cond u.1 nw sp) xa la lb) (@HAppend.hAppend va_W va_W va_W _ (rcV X nw an sv dv n0 n1 n2 n3 n4 g0 gs gn gm) (@HAppend.hAppend va_W va_W va_W _ (rcV X sp adp u.2.1 u.2.2.1 u.2.2.2.1 u.2.2.2.2.1 u.2.2.2.2.2.1 u.2.2.2.2.2.2.1 u.2.2.2.2.2.2.2.1 g0p gsp gnp gmp) (rdV X (xa 4) hb n u.2.2.2.2.2.2.2.2.1 u.2.2.2.2.2.2.2.2.2 fd)))) (@HAppend.hAppend va_W va_W va_W _ (xW h0 nw sp xa la lb) (@HAppend.hAppend va_W va_W va_W _ (rcV X nw an sv dv n0 n1 n2 n3 n4 g0 gs gn gm) (@HAppend.hAppend va_W va_W va_W _ (rcV X sp adp svp dvp n0p n1p n2p n3p n4p g0p gsp gnp gmp) (rdV X (xa 4) hb n bd vd fd)))) sz) 0 0 (va_A (@HAppend.hAppend va_W va_W va_W _ (xW h0 nw sp xa la lb) (@HAppend.hAppend va_W va_W va_W _ (rcV X nw an sv dv n0 n1 n2 n3 n4 g0 gs gn gm) (@HAppend.hAppend va_W va_W va_W _ (rcV X sp adp svp dvp n0p n1p n2p n3p n4p g0p gsp gnp gmp) (rdV X (xa 4) hb n bd vd fd)))) sz) := by
  refine mk_metS (B := (va_A (@HAppend.hAppend va_W va_W va_W _ (xW h0 nw sp xa la lb) (@HAppend.hAppend va_W va_W va_W _ (rcV X nw an sv dv n0 n1 n2 n3 n4 g0 gs gn gm) (@HAppend.hAppend va_W va_W va_W _ (rcV X sp adp svp dvp n0p n1p n2p n3p n4p g0p gsp gnp gmp) (rdV X (xa 4) hb n bd vd fd)))) sz)) (A := (va_A (@HAppend.hAppend va_W va_W va_W _ (xW h0 nw sp xa la lb) (@HAppend.hAppend va_W va_W va_W _ (rcV X nw an sv dv n0 n1 n2 n3 n4 g0 gs gn gm) (@HAppend.hAppend va_W va_W va_W _ (rcV X sp adp svp dvp n0p n1p n2p n3p n4p g0p gsp gnp gmp) (rdV X (xa 4) hb n bd vd fd)))) sz)) (cc := cX10_read) (maxL := 3) (ret := (some .int)) (by decide) rfl (Nat.le_of_ble_eq_true rfl) k_w k_a (fun p e s m below meth c S zr zlk znm zsz G hZ ls hl => ?_)
  have S : CallFix p m c cX10_read 3 s _ wsX10_read RX10 := S
  have zx := S.1
  have zb := S.2.1
  have hl : lv_has ls 3 [(0, .ref h0)] := hl
  have hO_bd := hI_bd
  obtain ⟨hd0_bd, hd1_bd⟩ := hO_bd
  refine lv_aload_n zx zb dX10_read_0 rfl (lv_at hl 0 rfl) ?_
  refine r_get (C := RX10) (T := TX10) (N := 14) (ci := 8) (v := .ref (xa 4)) S in_X10_read_X10 G 0 rfl rfl 4 (by decide) lk_X10_read_30 rfl dX10_read_1 ?_
  refine lv_aload_n zx zb dX10_read_4 rfl (lv_at hl 0 rfl) ?_
  refine r_get (C := RX10) (T := TX10) (N := 14) (ci := 8) (v := .ref sp) S in_X10_read_X10 G 0 rfl rfl 1 (by decide) lk_X10_read_16 rfl dX10_read_5 ?_
  refine b_wi (cells' := 0) (slots' := 0) (wr := @HAppend.hAppend va_W va_W va_W _ (xW h0 nw sp xa la lb) (rcV X nw an sv dv n0 n1 n2 n3 n4 g0 gs gn gm)) G rfl rfl [33, 34, 17, 18, 19, 20, 21, 22, 23, 24, 25, 26, 27, 28, 29, 30, 31, 32] [0, 1, 2, 3, 4, 5, 6, 7, 8, 9, 10, 11, 12, 13, 14, 15, 16] rfl rfl rfl rfl (n_VS (As := [.ref sp]) (rest := []) (C := RX6) (T := TX6) (N := 7) (ci := 4) S G hZ (x_takeRace l X K (xa 4) hb n bd vd fd sp adp svp dvp n0p n1p n2p n3p n4p g0p gsp gnp gmp hI_n hI_bd hI_n0p hI_n1p hI_n2p hI_n3p hI_n4p s.heap.size) gX10_read_X6_takeRace rfl rfl rfl hdV_X6_takeRace ⟨Nat.le_of_ble_eq_true rfl, Nat.le_of_ble_eq_true rfl⟩ [33, 34, 17, 18, 19, 20, 21, 22, 23, 24, 25, 26, 27, 28, 29, 30, 31, 32] rfl rfl 33 rfl rfl rfl hl.1 (Nat.le_of_ble_eq_true rfl) dX10_read_8 ⟨Nat.le_of_ble_eq_true rfl, Nat.le_of_ble_eq_true rfl⟩) (fun r_1 u_1 H locs hp_1 G => ?_)
  obtain ⟨b_1a, v_1b, sv_1c, dv_1d, n0_1e, n1_1f, n2_1g, n3_1h, n4_1i⟩ := u_1
  try dsimp only at hp_1
  obtain ⟨hI_b_1a, hI_n0_1e, hI_n1_1f, hI_n2_1g, hI_n3_1h, hI_n4_1i, hq_1⟩ := hp_1
  have hO_b_1a := hI_b_1a
  obtain ⟨hd0_b_1a, hd1_b_1a⟩ := hO_b_1a
  have G : wd X (va_A (@HAppend.hAppend va_W va_W va_W _ (xW h0 nw sp xa la lb) (@HAppend.hAppend va_W va_W va_W _ (rcV X nw an sv dv n0 n1 n2 n3 n4 g0 gs gn gm) (@HAppend.hAppend va_W va_W va_W _ (rcV X sp adp svp dvp n0p n1p n2p n3p n4p g0p gsp gnp gmp) (rdV X (xa 4) hb n bd vd fd)))) sz) (va_A (@HAppend.hAppend va_W va_W va_W _ (xW h0 nw sp xa la lb) (@HAppend.hAppend va_W va_W va_W _ (rcV X nw an sv dv n0 n1 n2 n3 n4 g0 gs gn gm) (@HAppend.hAppend va_W va_W va_W _ (rcV X sp adp svp dvp n0p n1p n2p n3p n4p g0p gsp gnp gmp) (rdV X (xa 4) hb n bd vd fd)))) sz) s (@HAppend.hAppend va_W va_W va_W _ (xW h0 nw sp xa la lb) (@HAppend.hAppend va_W va_W va_W _ (rcV X nw an sv dv n0 n1 n2 n3 n4 g0 gs gn gm) (@HAppend.hAppend va_W va_W va_W _ (rdV X (xa 4) hb n b_1a v_1b fd) (rcV X sp adp sv_1c dv_1d n0_1e n1_1f n2_1g n3_1h n4_1i g0p gsp gnp gmp)))) H locs := G
  obtain ⟨hr0_1, hr1_1, hr2_1⟩ := hq_1
  refine lv_istore_n (lv' := [(1, .int r_1), (0, .ref h0)]) zx zb dX10_read_11 rfl hl (by decide) rfl (fun ls hl => ?_)
  refine lv_iload_n zx zb dX10_read_12 rfl (lv_at hl 0 rfl) ?_
  refine lv_if_lt (tgt := 34) zx zb dX10_read_13 (by decide) (fun c_2 => ?_) (fun c_2 => ?_)
  · refine lv_iload_n zx zb dX10_read_34 rfl (lv_at hl 0 rfl) ?_
    exact e_int S zr zlk (vp_nar_int _) G (false, sv_1c, dv_1d, n0_1e, n1_1f, n2_1g, n3_1h, n4_1i, b_1a, v_1b) [0, 1, 2, 3, 4, 5, 6, 7, 8, 9, 10, 11, 12, 13, 14, 15, 16, 19, 20, 21, 22, 23, 24, 25, 26, 27, 28, 29, 30, 31, 32, 33, 34, 17, 18] rfl rfl (Or.inr rfl) (⟨hI_n0_1e, hI_n1_1f, hI_n2_1g, hI_n3_1h, hI_n4_1i, hI_b_1a, ⟨hr0_1, Or.inr ⟨rfl, hr2_1.elim (fun q => absurd c_2 q.2) (fun q => q.1)⟩⟩⟩) dX10_read_35
  · refine lv_aload_n zx zb dX10_read_16 rfl (lv_at hl 1 rfl) ?_
    refine r_get (C := RX10) (T := TX10) (N := 14) (ci := 8) (v := .ref nw) S in_X10_read_X10 G 0 rfl rfl 0 (by decide) lk_X10_read_10 rfl dX10_read_17 ?_
    refine lv_astore_n (lv' := [(2, .ref nw), (1, .int r_1), (0, .ref h0)]) zx zb dX10_read_20 rfl hl (by decide) rfl (fun ls hl => ?_)
    refine lv_aload_n zx zb dX10_read_21 rfl (lv_at hl 2 rfl) ?_
    refine lv_aload_n zx zb dX10_read_22 rfl (lv_at hl 2 rfl) ?_
    refine r_get (C := RX10) (T := TX10) (N := 14) (ci := 8) (v := .ref sp) S in_X10_read_X10 G 0 rfl rfl 1 (by decide) lk_X10_read_16 rfl dX10_read_23 ?_
    refine r_put (C := RX10) (T := TX10) (N := 14) (ci := 8) (v := .ref sp) S in_X10_read_X10 tyX10_ok nmX10 G 0 rfl rfl 0 (by decide) lk_X10_read_10 rfl rfl rfl (Nat.le_of_ble_eq_true rfl) dX10_read_26 (fun H locs G => ?_)
    have G : wd X (va_A (@HAppend.hAppend va_W va_W va_W _ (xW h0 nw sp xa la lb) (@HAppend.hAppend va_W va_W va_W _ (rcV X nw an sv dv n0 n1 n2 n3 n4 g0 gs gn gm) (@HAppend.hAppend va_W va_W va_W _ (rcV X sp adp svp dvp n0p n1p n2p n3p n4p g0p gsp gnp gmp) (rdV X (xa 4) hb n bd vd fd)))) sz) (va_A (@HAppend.hAppend va_W va_W va_W _ (xW h0 nw sp xa la lb) (@HAppend.hAppend va_W va_W va_W _ (rcV X nw an sv dv n0 n1 n2 n3 n4 g0 gs gn gm) (@HAppend.hAppend va_W va_W va_W _ (rcV X sp adp svp dvp n0p n1p n2p n3p n4p g0p gsp gnp gmp) (rdV X (xa 4) hb n bd vd fd)))) sz) s (@HAppend.hAppend va_W va_W va_W _ (xW h0 sp sp xa la lb) (@HAppend.hAppend va_W va_W va_W _ (rcV X nw an sv dv n0 n1 n2 n3 n4 g0 gs gn gm) (@HAppend.hAppend va_W va_W va_W _ (rdV X (xa 4) hb n b_1a v_1b fd) (rcV X sp adp sv_1c dv_1d n0_1e n1_1f n2_1g n3_1h n4_1i g0p gsp gnp gmp)))) H locs := G
    refine lv_aload_n zx zb dX10_read_29 rfl (lv_at hl 2 rfl) ?_
    refine lv_aload_n zx zb dX10_read_30 rfl (lv_at hl 0 rfl) ?_
    refine r_put (C := RX10) (T := TX10) (N := 14) (ci := 8) (v := .ref nw) S in_X10_read_X10 tyX10_ok nmX10 G 0 rfl rfl 1 (by decide) lk_X10_read_16 rfl rfl rfl (Nat.le_of_ble_eq_true rfl) dX10_read_31 (fun H locs G => ?_)
    have G : wd X (va_A (@HAppend.hAppend va_W va_W va_W _ (xW h0 nw sp xa la lb) (@HAppend.hAppend va_W va_W va_W _ (rcV X nw an sv dv n0 n1 n2 n3 n4 g0 gs gn gm) (@HAppend.hAppend va_W va_W va_W _ (rcV X sp adp svp dvp n0p n1p n2p n3p n4p g0p gsp gnp gmp) (rdV X (xa 4) hb n bd vd fd)))) sz) (va_A (@HAppend.hAppend va_W va_W va_W _ (xW h0 nw sp xa la lb) (@HAppend.hAppend va_W va_W va_W _ (rcV X nw an sv dv n0 n1 n2 n3 n4 g0 gs gn gm) (@HAppend.hAppend va_W va_W va_W _ (rcV X sp adp svp dvp n0p n1p n2p n3p n4p g0p gsp gnp gmp) (rdV X (xa 4) hb n bd vd fd)))) sz) s (@HAppend.hAppend va_W va_W va_W _ (xW h0 sp nw xa la lb) (@HAppend.hAppend va_W va_W va_W _ (rcV X nw an sv dv n0 n1 n2 n3 n4 g0 gs gn gm) (@HAppend.hAppend va_W va_W va_W _ (rdV X (xa 4) hb n b_1a v_1b fd) (rcV X sp adp sv_1c dv_1d n0_1e n1_1f n2_1g n3_1h n4_1i g0p gsp gnp gmp)))) H locs := G
    refine lv_iload_n zx zb dX10_read_34 rfl (lv_at hl 1 rfl) ?_
    have ht : (rdA fd n svp dvp).2.1 = true := hr2_1.elim (fun q => q.1) (fun q => absurd q.2 c_2)
    exact e_int S zr zlk (vp_nar_int _) G (true, sv_1c, dv_1d, n0_1e, n1_1f, n2_1g, n3_1h, n4_1i, b_1a, v_1b) [0, 1, 2, 3, 4, 5, 6, 7, 8, 9, 10, 11, 12, 13, 14, 15, 16, 19, 20, 21, 22, 23, 24, 25, 26, 27, 28, 29, 30, 31, 32, 33, 34, 17, 18] rfl rfl (Or.inr rfl) (⟨hI_n0_1e, hI_n1_1f, hI_n2_1g, hI_n3_1h, hI_n4_1i, hI_b_1a, ⟨hr0_1, Or.inl ⟨rfl, ht, (hr1_1 ht).1, (hr1_1 ht).2⟩⟩⟩) dX10_read_35
