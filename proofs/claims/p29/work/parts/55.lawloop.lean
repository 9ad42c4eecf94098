theorem dL_law_18 : decode cL_law 18 = .ok (.iload_n 3, 1) := by decide +kernel
theorem dL_law_19 : decode cL_law 19 = .ok (.aload_n 0, 1) := by decide +kernel
theorem dL_law_20 : decode cL_law 20 = .ok (.arraylength, 1) := by decide +kernel
theorem dL_law_21 : decode cL_law 21 = .ok (.bipush 6, 2) := by decide +kernel
theorem dL_law_23 : decode cL_law 23 = .ok (.isub, 1) := by decide +kernel
theorem dL_law_24 : decode cL_law 24 = .ok (.if_icmp .gt 1259, 3) := by decide +kernel
theorem dL_law_27 : decode cL_law 27 = .ok (.aload_n 0, 1) := by decide +kernel
theorem dL_law_28 : decode cL_law 28 = .ok (.iload_n 3, 1) := by decide +kernel
theorem dL_law_29 : decode cL_law 29 = .ok (.iaload, 1) := by decide +kernel
theorem dL_law_30 : decode cL_law 30 = .ok (.bipush 63, 2) := by decide +kernel
theorem dL_law_32 : decode cL_law 32 = .ok (.iand, 1) := by decide +kernel
theorem dL_law_33 : decode cL_law 33 = .ok (.tableswitch 1244 0 36 #[163, 186, 229, 252, 265, 278, 301, 334, 367, 380, 413, 446, 469, 482, 505, 538, 581, 614, 657, 710, 743, 766, 829, 872, 895, 918, 941, 964, 987, 1030, 1083, 1116, 1139, 1162, 1185, 1208, 1231], 163) := by decide +kernel
theorem dL_law_1277 : decode cL_law 1277 = .ok (.iinc 3 6, 3) := by decide +kernel
theorem dL_law_1280 : decode cL_law 1280 = .ok (.goto (-1262), 3) := by decide +kernel
theorem dL_law_1283 : decode cL_law 1283 = .ok (.iconst 1, 1) := by decide +kernel
theorem dL_law_1284 : decode cL_law 1284 = .ok (.ireturn, 1) := by decide +kernel
theorem k_ts0_36 (x : Int32) : x = 0 ∨ x = 1 ∨ x = 2 ∨ x = 3 ∨ x = 4 ∨ x = 5 ∨ x = 6 ∨ x = 7 ∨ x = 8 ∨ x = 9 ∨ x = 10 ∨ x = 11 ∨ x = 12 ∨ x = 13 ∨ x = 14 ∨ x = 15 ∨ x = 16 ∨ x = 17 ∨ x = 18 ∨ x = 19 ∨ x = 20 ∨ x = 21 ∨ x = 22 ∨ x = 23 ∨ x = 24 ∨ x = 25 ∨ x = 26 ∨ x = 27 ∨ x = 28 ∨ x = 29 ∨ x = 30 ∨ x = 31 ∨ x = 32 ∨ x = 33 ∨ x = 34 ∨ x = 35 ∨ x = 36 ∨ (x.toInt < 0 ∨ 36 < x.toInt) := by
  by_cases h : 0 ≤ x.toInt ∧ x.toInt ≤ 36
  · have : x.toInt = 0 ∨ x.toInt = 1 ∨ x.toInt = 2 ∨ x.toInt = 3 ∨ x.toInt = 4 ∨ x.toInt = 5 ∨ x.toInt = 6 ∨ x.toInt = 7 ∨ x.toInt = 8 ∨ x.toInt = 9 ∨ x.toInt = 10 ∨ x.toInt = 11 ∨ x.toInt = 12 ∨ x.toInt = 13 ∨ x.toInt = 14 ∨ x.toInt = 15 ∨ x.toInt = 16 ∨ x.toInt = 17 ∨ x.toInt = 18 ∨ x.toInt = 19 ∨ x.toInt = 20 ∨ x.toInt = 21 ∨ x.toInt = 22 ∨ x.toInt = 23 ∨ x.toInt = 24 ∨ x.toInt = 25 ∨ x.toInt = 26 ∨ x.toInt = 27 ∨ x.toInt = 28 ∨ x.toInt = 29 ∨ x.toInt = 30 ∨ x.toInt = 31 ∨ x.toInt = 32 ∨ x.toInt = 33 ∨ x.toInt = 34 ∨ x.toInt = 35 ∨ x.toInt = 36 := by omega
    rcases this with q | q | q | q | q | q | q | q | q | q | q | q | q | q | q | q | q | q | q | q | q | q | q | q | q | q | q | q | q | q | q | q | q | q | q | q | q
    · exact Or.inl (k_of x 0 q (by decide))
    · exact Or.inr (Or.inl (k_of x 1 q (by decide)))
    · exact Or.inr (Or.inr (Or.inl (k_of x 2 q (by decide))))
    · exact Or.inr (Or.inr (Or.inr (Or.inl (k_of x 3 q (by decide)))))
    · exact Or.inr (Or.inr (Or.inr (Or.inr (Or.inl (k_of x 4 q (by decide))))))
    · exact Or.inr (Or.inr (Or.inr (Or.inr (Or.inr (Or.inl (k_of x 5 q (by decide)))))))
    · exact Or.inr (Or.inr (Or.inr (Or.inr (Or.inr (Or.inr (Or.inl (k_of x 6 q (by decide))))))))
    · exact Or.inr (Or.inr (Or.inr (Or.inr (Or.inr (Or.inr (Or.inr (Or.inl (k_of x 7 q (by decide)))))))))
    · exact Or.inr (Or.inr (Or.inr (Or.inr (Or.inr (Or.inr (Or.inr (Or.inr (Or.inl (k_of x 8 q (by decide))))))))))
    · exact Or.inr (Or.inr (Or.inr (Or.inr (Or.inr (Or.inr (Or.inr (Or.inr (Or.inr (Or.inl (k_of x 9 q (by decide)))))))))))
    · exact Or.inr (Or.inr (Or.inr (Or.inr (Or.inr (Or.inr (Or.inr (Or.inr (Or.inr (Or.inr (Or.inl (k_of x 10 q (by decide))))))))))))
    · exact Or.inr (Or.inr (Or.inr (Or.inr (Or.inr (Or.inr (Or.inr (Or.inr (Or.inr (Or.inr (Or.inr (Or.inl (k_of x 11 q (by decide)))))))))))))
    · exact Or.inr (Or.inr (Or.inr (Or.inr (Or.inr (Or.inr (Or.inr (Or.inr (Or.inr (Or.inr (Or.inr (Or.inr (Or.inl (k_of x 12 q (by decide))))))))))))))
    · exact Or.inr (Or.inr (Or.inr (Or.inr (Or.inr (Or.inr (Or.inr (Or.inr (Or.inr (Or.inr (Or.inr (Or.inr (Or.inr (Or.inl (k_of x 13 q (by decide)))))))))))))))
    · exact Or.inr (Or.inr (Or.inr (Or.inr (Or.inr (Or.inr (Or.inr (Or.inr (Or.inr (Or.inr (Or.inr (Or.inr (Or.inr (Or.inr (Or.inl (k_of x 14 q (by decide))))))))))))))))
    · exact Or.inr (Or.inr (Or.inr (Or.inr (Or.inr (Or.inr (Or.inr (Or.inr (Or.inr (Or.inr (Or.inr (Or.inr (Or.inr (Or.inr (Or.inr (Or.inl (k_of x 15 q (by decide)))))))))))))))))
    · exact Or.inr (Or.inr (Or.inr (Or.inr (Or.inr (Or.inr (Or.inr (Or.inr (Or.inr (Or.inr (Or.inr (Or.inr (Or.inr (Or.inr (Or.inr (Or.inr (Or.inl (k_of x 16 q (by decide))))))))))))))))))
    · exact Or.inr (Or.inr (Or.inr (Or.inr (Or.inr (Or.inr (Or.inr (Or.inr (Or.inr (Or.inr (Or.inr (Or.inr (Or.inr (Or.inr (Or.inr (Or.inr (Or.inr (Or.inl (k_of x 17 q (by decide)))))))))))))))))))
    · exact Or.inr (Or.inr (Or.inr (Or.inr (Or.inr (Or.inr (Or.inr (Or.inr (Or.inr (Or.inr (Or.inr (Or.inr (Or.inr (Or.inr (Or.inr (Or.inr (Or.inr (Or.inr (Or.inl (k_of x 18 q (by decide))))))))))))))))))))
    · exact Or.inr (Or.inr (Or.inr (Or.inr (Or.inr (Or.inr (Or.inr (Or.inr (Or.inr (Or.inr (Or.inr (Or.inr (Or.inr (Or.inr (Or.inr (Or.inr (Or.inr (Or.inr (Or.inr (Or.inl (k_of x 19 q (by decide)))))))))))))))))))))
    · exact Or.inr (Or.inr (Or.inr (Or.inr (Or.inr (Or.inr (Or.inr (Or.inr (Or.inr (Or.inr (Or.inr (Or.inr (Or.inr (Or.inr (Or.inr (Or.inr (Or.inr (Or.inr (Or.inr (Or.inr (Or.inl (k_of x 20 q (by decide))))))))))))))))))))))
    · exact Or.inr (Or.inr (Or.inr (Or.inr (Or.inr (Or.inr (Or.inr (Or.inr (Or.inr (Or.inr (Or.inr (Or.inr (Or.inr (Or.inr (Or.inr (Or.inr (Or.inr (Or.inr (Or.inr (Or.inr (Or.inr (Or.inl (k_of x 21 q (by decide)))))))))))))))))))))))
    · exact Or.inr (Or.inr (Or.inr (Or.inr (Or.inr (Or.inr (Or.inr (Or.inr (Or.inr (Or.inr (Or.inr (Or.inr (Or.inr (Or.inr (Or.inr (Or.inr (Or.inr (Or.inr (Or.inr (Or.inr (Or.inr (Or.inr (Or.inl (k_of x 22 q (by decide))))))))))))))))))))))))
    · exact Or.inr (Or.inr (Or.inr (Or.inr (Or.inr (Or.inr (Or.inr (Or.inr (Or.inr (Or.inr (Or.inr (Or.inr (Or.inr (Or.inr (Or.inr (Or.inr (Or.inr (Or.inr (Or.inr (Or.inr (Or.inr (Or.inr (Or.inr (Or.inl (k_of x 23 q (by decide)))))))))))))))))))))))))
    · exact Or.inr (Or.inr (Or.inr (Or.inr (Or.inr (Or.inr (Or.inr (Or.inr (Or.inr (Or.inr (Or.inr (Or.inr (Or.inr (Or.inr (Or.inr (Or.inr (Or.inr (Or.inr (Or.inr (Or.inr (Or.inr (Or.inr (Or.inr (Or.inr (Or.inl (k_of x 24 q (by decide))))))))))))))))))))))))))
    · exact Or.inr (Or.inr (Or.inr (Or.inr (Or.inr (Or.inr (Or.inr (Or.inr (Or.inr (Or.inr (Or.inr (Or.inr (Or.inr (Or.inr (Or.inr (Or.inr (Or.inr (Or.inr (Or.inr (Or.inr (Or.inr (Or.inr (Or.inr (Or.inr (Or.inr (Or.inl (k_of x 25 q (by decide)))))))))))))))))))))))))))
    · exact Or.inr (Or.inr (Or.inr (Or.inr (Or.inr (Or.inr (Or.inr (Or.inr (Or.inr (Or.inr (Or.inr (Or.inr (Or.inr (Or.inr (Or.inr (Or.inr (Or.inr (Or.inr (Or.inr (Or.inr (Or.inr (Or.inr (Or.inr (Or.inr (Or.inr (Or.inr (Or.inl (k_of x 26 q (by decide))))))))))))))))))))))))))))
    · exact Or.inr (Or.inr (Or.inr (Or.inr (Or.inr (Or.inr (Or.inr (Or.inr (Or.inr (Or.inr (Or.inr (Or.inr (Or.inr (Or.inr (Or.inr (Or.inr (Or.inr (Or.inr (Or.inr (Or.inr (Or.inr (Or.inr (Or.inr (Or.inr (Or.inr (Or.inr (Or.inr (Or.inl (k_of x 27 q (by decide)))))))))))))))))))))))))))))
    · exact Or.inr (Or.inr (Or.inr (Or.inr (Or.inr (Or.inr (Or.inr (Or.inr (Or.inr (Or.inr (Or.inr (Or.inr (Or.inr (Or.inr (Or.inr (Or.inr (Or.inr (Or.inr (Or.inr (Or.inr (Or.inr (Or.inr (Or.inr (Or.inr (Or.inr (Or.inr (Or.inr (Or.inr (Or.inl (k_of x 28 q (by decide))))))))))))))))))))))))))))))
    · exact Or.inr (Or.inr (Or.inr (Or.inr (Or.inr (Or.inr (Or.inr (Or.inr (Or.inr (Or.inr (Or.inr (Or.inr (Or.inr (Or.inr (Or.inr (Or.inr (Or.inr (Or.inr (Or.inr (Or.inr (Or.inr (Or.inr (Or.inr (Or.inr (Or.inr (Or.inr (Or.inr (Or.inr (Or.inr (Or.inl (k_of x 29 q (by decide)))))))))))))))))))))))))))))))
    · exact Or.inr (Or.inr (Or.inr (Or.inr (Or.inr (Or.inr (Or.inr (Or.inr (Or.inr (Or.inr (Or.inr (Or.inr (Or.inr (Or.inr (Or.inr (Or.inr (Or.inr (Or.inr (Or.inr (Or.inr (Or.inr (Or.inr (Or.inr (Or.inr (Or.inr (Or.inr (Or.inr (Or.inr (Or.inr (Or.inr (Or.inl (k_of x 30 q (by decide))))))))))))))))))))))))))))))))
    · exact Or.inr (Or.inr (Or.inr (Or.inr (Or.inr (Or.inr (Or.inr (Or.inr (Or.inr (Or.inr (Or.inr (Or.inr (Or.inr (Or.inr (Or.inr (Or.inr (Or.inr (Or.inr (Or.inr (Or.inr (Or.inr (Or.inr (Or.inr (Or.inr (Or.inr (Or.inr (Or.inr (Or.inr (Or.inr (Or.inr (Or.inr (Or.inl (k_of x 31 q (by decide)))))))))))))))))))))))))))))))))
    · exact Or.inr (Or.inr (Or.inr (Or.inr (Or.inr (Or.inr (Or.inr (Or.inr (Or.inr (Or.inr (Or.inr (Or.inr (Or.inr (Or.inr (Or.inr (Or.inr (Or.inr (Or.inr (Or.inr (Or.inr (Or.inr (Or.inr (Or.inr (Or.inr (Or.inr (Or.inr (Or.inr (Or.inr (Or.inr (Or.inr (Or.inr (Or.inr (Or.inl (k_of x 32 q (by decide))))))))))))))))))))))))))))))))))
    · exact Or.inr (Or.inr (Or.inr (Or.inr (Or.inr (Or.inr (Or.inr (Or.inr (Or.inr (Or.inr (Or.inr (Or.inr (Or.inr (Or.inr (Or.inr (Or.inr (Or.inr (Or.inr (Or.inr (Or.inr (Or.inr (Or.inr (Or.inr (Or.inr (Or.inr (Or.inr (Or.inr (Or.inr (Or.inr (Or.inr (Or.inr (Or.inr (Or.inr (Or.inl (k_of x 33 q (by decide)))))))))))))))))))))))))))))))))))
    · exact Or.inr (Or.inr (Or.inr (Or.inr (Or.inr (Or.inr (Or.inr (Or.inr (Or.inr (Or.inr (Or.inr (Or.inr (Or.inr (Or.inr (Or.inr (Or.inr (Or.inr (Or.inr (Or.inr (Or.inr (Or.inr (Or.inr (Or.inr (Or.inr (Or.inr (Or.inr (Or.inr (Or.inr (Or.inr (Or.inr (Or.inr (Or.inr (Or.inr (Or.inr (Or.inl (k_of x 34 q (by decide))))))))))))))))))))))))))))))))))))
    · exact Or.inr (Or.inr (Or.inr (Or.inr (Or.inr (Or.inr (Or.inr (Or.inr (Or.inr (Or.inr (Or.inr (Or.inr (Or.inr (Or.inr (Or.inr (Or.inr (Or.inr (Or.inr (Or.inr (Or.inr (Or.inr (Or.inr (Or.inr (Or.inr (Or.inr (Or.inr (Or.inr (Or.inr (Or.inr (Or.inr (Or.inr (Or.inr (Or.inr (Or.inr (Or.inr (Or.inl (k_of x 35 q (by decide)))))))))))))))))))))))))))))))))))))
    · exact Or.inr (Or.inr (Or.inr (Or.inr (Or.inr (Or.inr (Or.inr (Or.inr (Or.inr (Or.inr (Or.inr (Or.inr (Or.inr (Or.inr (Or.inr (Or.inr (Or.inr (Or.inr (Or.inr (Or.inr (Or.inr (Or.inr (Or.inr (Or.inr (Or.inr (Or.inr (Or.inr (Or.inr (Or.inr (Or.inr (Or.inr (Or.inr (Or.inr (Or.inr (Or.inr (Or.inr (Or.inl (k_of x 36 q (by decide))))))))))))))))))))))))))))))))))))))
  · exact Or.inr (Or.inr (Or.inr (Or.inr (Or.inr (Or.inr (Or.inr (Or.inr (Or.inr (Or.inr (Or.inr (Or.inr (Or.inr (Or.inr (Or.inr (Or.inr (Or.inr (Or.inr (Or.inr (Or.inr (Or.inr (Or.inr (Or.inr (Or.inr (Or.inr (Or.inr (Or.inr (Or.inr (Or.inr (Or.inr (Or.inr (Or.inr (Or.inr (Or.inr (Or.inr (Or.inr (Or.inr (by omega)))))))))))))))))))))))))))))))))))))
theorem k_head {zi L : Nat} (hL : L ≤ 3072) (hz : zi ≤ L) (c : ¬ nI L - nI 6 < nI zi) : zi + 6 ≤ L := by
  rcases Nat.lt_or_ge L (zi + 6) with q | q
  · exfalso
    apply c
    refine Int32.lt_iff_toInt_lt.mpr ?_
    rw [Int32.toInt_sub, nI_toInt (by omega), nI_toInt (by omega), nI_toInt (by omega), Int.bmod_eq_of_le (by omega) (by omega)]
    omega
  · exact q
section LC
variable {p : Program} {l : Launch} {e : Env} {s : State} {m : MethodId} {below : List Frame} {meth : Method} {c : Code} {b L : Nat} {xs : Nat → Int32} {X : EX} {K : SK} {h0 m0 zi : Nat} {H : Heap} {locs : List Loc} {ls : Array Slot} {Q : State → Prop}
set_option maxRecDepth 100000 in
set_option maxHeartbeats 8000000 in
/-- the loop, at its head: whatever is left of the script, the law ends with 1 -/
theorem law_loop (S : CallFix p m c cL_law 4 s #[Value.ref b] wsL_law RL) (zr : meth.sig.returnType = ret) (zlk : meth.locks = false) (hX : va_X b L xs s s.heap) (hbl : b < s.heap.size) (hL : L ≤ 3072) (hZ : sE K (fun q : Nat => s.heap.size ≤ q) s s.heap) : ∀ (zm zi : Nat) (H : Heap) (locs : List Loc) (ls : Array Slot), L + 1 ≤ zi + zm → zi ≤ L → LW X h0 m0 s H locs → lv_has ls 4 [(3, .int (nI zi)), (2, .ref m0), (1, .ref h0), (0, .ref b)] → W p l e room_1 s m #[Value.ref b] below meth c H locs 94 3522 (lw_Z below #[Value.ref b] s) (F0 m 18 ls []) := by
  intro zm
  induction zm with
  | zero => intro zi H locs ls h1 h2 _ _; exact absurd h1 (by omega)
  | succ zm ih =>
    intro zi H locs ls h1 h2 hW hl
    have zx := S.1
    have zb := S.2.1
    have hbA : ¬ (fun q : Nat => s.heap.size ≤ q) b := Nat.not_le.mpr hbl
    have hS : va_S (fun q : Nat => s.heap.size ≤ q) s.heap H locs := by
      exact LW_e hW (fun _ _ _ _ _ _ _ _ _ _ _ _ _ _ _ _ _ _ _ _ _ _ _ _ _ _ _ _ _ _ _ _ _ _ _ _ _ _ _ _ _ _ _ _ _ _ _ _ _ _ _ _ _ _ _ _ _ _ _ _ _ _ _ _ _ _ _ _ _ _ _ _ _ _ _ _ _ _ _ _ _ _ _ _ _ _ _ _ _ _ _ _ _ _ _ _ _ _ _ _ hIV hRL G => G.2.2.2.1)
    refine lv_iload_n zx zb dL_law_18 rfl (lv_at hl 0 rfl) ?_
    refine lv_aload_n zx zb dL_law_19 rfl (lv_at hl 3 rfl) ?_
    refine va_slen zx zb hX hbl hbA hS dL_law_20 ?_
    refine lv_bipush (v := 6) zx zb dL_law_21 (by decide) ?_
    refine r_isub (v := nI L - nI 6) S rfl dL_law_23 ?_
    refine lv_icmp_gt (tgt := 1283) zx zb dL_law_24 (by decide) (fun c1 => ?_) (fun c1 => ?_)
    · refine lv_iconst (v := 1) zx zb dL_law_1283 (by decide) ?_
      refine va_forget (fun q hq => hS.2.2 q hq) ?_
      refine W.widen (k := 600000) (n := 7302250) (Nat.le_of_ble_eq_true rfl) (Nat.le_of_ble_eq_true rfl) ?_
      exact lw_ret zx zb zr zlk dL_law_1284
    · have hz := k_head hL h2 c1
      have kk : ∀ (H : Heap) (locs : List Loc) (ls : Array Slot), LW X h0 m0 s H locs → lv_has ls 4 [(3, .int (nI zi)), (2, .ref m0), (1, .ref h0), (0, .ref b)] → W p l e room_1 s m #[Value.ref b] below meth c H locs 94 3522 (lw_Z below #[Value.ref b] s) (F0 m 1277 ls []) := by
        intro H locs ls hW hl
        refine lv_iinc (v := nI (zi + 6)) (lv' := [(3, .int (nI (zi + 6))), (2, .ref m0), (1, .ref h0), (0, .ref b)]) zx zb dL_law_1277 hl (k := 0) rfl (nI_add zi 6) (by decide) rfl (fun ls hl => ?_)
        refine lv_goto (tgt := 18) zx zb dL_law_1280 (by decide) ?_
        exact ih (zi + 6) H locs ls (by omega) (by omega) hW hl
      refine lv_aload_n zx zb dL_law_27 rfl (lv_at hl 3 rfl) ?_
      refine lv_iload_n zx zb dL_law_28 rfl (lv_at hl 0 rfl) ?_
      refine va_sld zx zb hX hbl hbA hS (vp_in_nI (by omega) (by omega)) dL_law_29 ?_
      refine lv_bipush (v := 63) zx zb dL_law_30 (by decide) ?_
      refine lv_iand zx zb dL_law_32 ?_
      refine k_itE (fun y => ?_)
      rcases k_ts0_36 y with w | w | w | w | w | w | w | w | w | w | w | w | w | w | w | w | w | w | w | w | w | w | w | w | w | w | w | w | w | w | w | w | w | w | w | w | w | w
      · refine k_it w ?_
        refine lv_tableIn (off := 163) (tgt := 196) zx zb dL_law_33 (by decide) (by decide) rfl (by decide) ?_
        exact lc_0 S hX hbl hL hz hZ hW hl kk
      · refine k_it w ?_
        refine lv_tableIn (off := 186) (tgt := 219) zx zb dL_law_33 (by decide) (by decide) rfl (by decide) ?_
        exact lc_1 S hX hbl hL hz hZ hW hl kk
      · refine k_it w ?_
        refine lv_tableIn (off := 229) (tgt := 262) zx zb dL_law_33 (by decide) (by decide) rfl (by decide) ?_
        exact lc_2 S hX hbl hL hz hZ hW hl kk
      · refine k_it w ?_
        refine lv_tableIn (off := 252) (tgt := 285) zx zb dL_law_33 (by decide) (by decide) rfl (by decide) ?_
        exact lc_3 S hX hbl hL hz hZ hW hl kk
      · refine k_it w ?_
        refine lv_tableIn (off := 265) (tgt := 298) zx zb dL_law_33 (by decide) (by decide) rfl (by decide) ?_
        exact lc_4 S hX hbl hL hz hZ hW hl kk
      · refine k_it w ?_
        refine lv_tableIn (off := 278) (tgt := 311) zx zb dL_law_33 (by decide) (by decide) rfl (by decide) ?_
        exact lc_5 S hX hbl hL hz hZ hW hl kk
      · refine k_it w ?_
        refine lv_tableIn (off := 301) (tgt := 334) zx zb dL_law_33 (by decide) (by decide) rfl (by decide) ?_
        exact lc_6 S hX hbl hL hz hZ hW hl kk
      · refine k_it w ?_
        refine lv_tableIn (off := 334) (tgt := 367) zx zb dL_law_33 (by decide) (by decide) rfl (by decide) ?_
        exact lc_7 S hX hbl hL hz hZ hW hl kk
      · refine k_it w ?_
        refine lv_tableIn (off := 367) (tgt := 400) zx zb dL_law_33 (by decide) (by decide) rfl (by decide) ?_
        exact lc_8 S hX hbl hL hz hZ hW hl kk
      · refine k_it w ?_
        refine lv_tableIn (off := 380) (tgt := 413) zx zb dL_law_33 (by decide) (by decide) rfl (by decide) ?_
        exact lc_9 S hX hbl hL hz hZ hW hl kk
      · refine k_it w ?_
        refine lv_tableIn (off := 413) (tgt := 446) zx zb dL_law_33 (by decide) (by decide) rfl (by decide) ?_
        exact lc_10 S hX hbl hL hz hZ hW hl kk
      · refine k_it w ?_
        refine lv_tableIn (off := 446) (tgt := 479) zx zb dL_law_33 (by decide) (by decide) rfl (by decide) ?_
        exact lc_11 S hX hbl hL hz hZ hW hl kk
      · refine k_it w ?_
        refine lv_tableIn (off := 469) (tgt := 502) zx zb dL_law_33 (by decide) (by decide) rfl (by decide) ?_
        exact lc_12 S hX hbl hL hz hZ hW hl kk
      · refine k_it w ?_
        refine lv_tableIn (off := 482) (tgt := 515) zx zb dL_law_33 (by decide) (by decide) rfl (by decide) ?_
        exact lc_13 S hX hbl hL hz hZ hW hl kk
      · refine k_it w ?_
        refine lv_tableIn (off := 505) (tgt := 538) zx zb dL_law_33 (by decide) (by decide) rfl (by decide) ?_
        exact lc_14 S hX hbl hL hz hZ hW hl kk
      · refine k_it w ?_
        refine lv_tableIn (off := 538) (tgt := 571) zx zb dL_law_33 (by decide) (by decide) rfl (by decide) ?_
        exact lc_15 S hX hbl hL hz hZ hW hl kk
      · refine k_it w ?_
        refine lv_tableIn (off := 581) (tgt := 614) zx zb dL_law_33 (by decide) (by decide) rfl (by decide) ?_
        exact lc_16 S hX hbl hL hz hZ hW hl kk
      · refine k_it w ?_
        refine lv_tableIn (off := 614) (tgt := 647) zx zb dL_law_33 (by decide) (by decide) rfl (by decide) ?_
        exact lc_17 S hX hbl hL hz hZ hW hl kk
      · refine k_it w ?_
        refine lv_tableIn (off := 657) (tgt := 690) zx zb dL_law_33 (by decide) (by decide) rfl (by decide) ?_
        exact lc_18 S hX hbl hL hz hZ hW hl kk
      · refine k_it w ?_
        refine lv_tableIn (off := 710) (tgt := 743) zx zb dL_law_33 (by decide) (by decide) rfl (by decide) ?_
        exact lc_19 S hX hbl hL hz hZ hW hl kk
      · refine k_it w ?_
        refine lv_tableIn (off := 743) (tgt := 776) zx zb dL_law_33 (by decide) (by decide) rfl (by decide) ?_
        exact lc_20 S hX hbl hL hz hZ hW hl kk
      · refine k_it w ?_
        refine lv_tableIn (off := 766) (tgt := 799) zx zb dL_law_33 (by decide) (by decide) rfl (by decide) ?_
        exact lc_21 S hX hbl hL hz hZ hW hl kk
      · refine k_it w ?_
        refine lv_tableIn (off := 829) (tgt := 862) zx zb dL_law_33 (by decide) (by decide) rfl (by decide) ?_
        exact lc_22 S hX hbl hL hz hZ hW hl kk
      · refine k_it w ?_
        refine lv_tableIn (off := 872) (tgt := 905) zx zb dL_law_33 (by decide) (by decide) rfl (by decide) ?_
        exact lc_23 S hX hbl hL hz hZ hW hl kk
      · refine k_it w ?_
        refine lv_tableIn (off := 895) (tgt := 928) zx zb dL_law_33 (by decide) (by decide) rfl (by decide) ?_
        exact lc_24 S hX hbl hL hz hZ hW hl kk
      · refine k_it w ?_
        refine lv_tableIn (off := 918) (tgt := 951) zx zb dL_law_33 (by decide) (by decide) rfl (by decide) ?_
        exact lc_25 S hX hbl hL hz hZ hW hl kk
      · refine k_it w ?_
        refine lv_tableIn (off := 941) (tgt := 974) zx zb dL_law_33 (by decide) (by decide) rfl (by decide) ?_
        exact lc_26 S hX hbl hL hz hZ hW hl kk
      · refine k_it w ?_
        refine lv_tableIn (off := 964) (tgt := 997) zx zb dL_law_33 (by decide) (by decide) rfl (by decide) ?_
        exact lc_27 S hX hbl hL hz hZ hW hl kk
      · refine k_it w ?_
        refine lv_tableIn (off := 987) (tgt := 1020) zx zb dL_law_33 (by decide) (by decide) rfl (by decide) ?_
        exact lc_28 S hX hbl hL hz hZ hW hl kk
      · refine k_it w ?_
        refine lv_tableIn (off := 1030) (tgt := 1063) zx zb dL_law_33 (by decide) (by decide) rfl (by decide) ?_
        exact lc_29 S hX hbl hL hz hZ hW hl kk
      · refine k_it w ?_
        refine lv_tableIn (off := 1083) (tgt := 1116) zx zb dL_law_33 (by decide) (by decide) rfl (by decide) ?_
        exact lc_30 S hX hbl hL hz hZ hW hl kk
      · refine k_it w ?_
        refine lv_tableIn (off := 1116) (tgt := 1149) zx zb dL_law_33 (by decide) (by decide) rfl (by decide) ?_
        exact lc_31 S hX hbl hL hz hZ hW hl kk
      · refine k_it w ?_
        refine lv_tableIn (off := 1139) (tgt := 1172) zx zb dL_law_33 (by decide) (by decide) rfl (by decide) ?_
        exact lc_32 S hX hbl hL hz hZ hW hl kk
      · refine k_it w ?_
        refine lv_tableIn (off := 1162) (tgt := 1195) zx zb dL_law_33 (by decide) (by decide) rfl (by decide) ?_
        exact lc_33 S hX hbl hL hz hZ hW hl kk
      · refine k_it w ?_
        refine lv_tableIn (off := 1185) (tgt := 1218) zx zb dL_law_33 (by decide) (by decide) rfl (by decide) ?_
        exact lc_34 S hX hbl hL hz hZ hW hl kk
      · refine k_it w ?_
        refine lv_tableIn (off := 1208) (tgt := 1241) zx zb dL_law_33 (by decide) (by decide) rfl (by decide) ?_
        exact lc_35 S hX hbl hL hz hZ hW hl kk
      · refine k_it w ?_
        refine lv_tableIn (off := 1231) (tgt := 1264) zx zb dL_law_33 (by decide) (by decide) rfl (by decide) ?_
        exact lc_36 S hX hbl hL hz hZ hW hl kk
      · refine lv_tableOut (tgt := 1277) zx zb dL_law_33 w (by decide) ?_
        exact kk H locs ls hW hl
end LC
