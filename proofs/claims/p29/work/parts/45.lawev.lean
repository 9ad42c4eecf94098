theorem ar_prim {ty : FieldType} {args : Array Value} {s : State} (h : (Cond.arrayClass ty).before args s = true) : ∃ cA : ClassId, ArrOfT s cA ty ∧ s.vm.findClass ("[" ++ ty.toString) = some cA := by
  obtain ⟨cA, kA, comp, h1, h2, h3⟩ := Cond.arrayClass_spec h
  exact ⟨cA, fun N z => ⟨(fun k h => by cases h), kA, h2, comp, h3⟩, h1⟩
theorem ar_ref {C : String} {args : Array Value} {s : State} (h : (Cond.arrayOver (.object C)).before args s = true) : ∃ cA : ClassId, ArrOfT s cA (.object C) ∧ va_RA s cA (.object C) := by
  obtain ⟨comp, cA, kA, h1, h2, h3, h4, h5⟩ := Cond.arrayOver_spec h
  exact ⟨cA, fun N z => ⟨(fun k h => by cases h), kA, h3, comp, h4⟩, kA, comp, h3, h4, h1, h5⟩
theorem le_iX0 : Cond.instantiable RX0 5 ∈ lw_tbl := (List.mem_of_getElem? (i := 294) (by decide +kernel))
theorem le_iX3 : Cond.instantiable RX3 8 ∈ lw_tbl := (List.mem_of_getElem? (i := 263) (by decide +kernel))
theorem le_iX4 : Cond.instantiable RX4 2 ∈ lw_tbl := (List.mem_of_getElem? (i := 90) (by decide +kernel))
theorem le_iX5 : Cond.instantiable RX5 8 ∈ lw_tbl := (List.mem_of_getElem? (i := 82) (by decide +kernel))
theorem le_iX6 : Cond.instantiable RX6 7 ∈ lw_tbl := (List.mem_of_getElem? (i := 217) (by decide +kernel))
theorem le_iX7 : Cond.instantiable RX7 5 ∈ lw_tbl := (List.mem_of_getElem? (i := 106) (by decide +kernel))
theorem le_iX8 : Cond.instantiable RX8 8 ∈ lw_tbl := (List.mem_of_getElem? (i := 129) (by decide +kernel))
theorem le_iX9 : Cond.instantiable RX9 2 ∈ lw_tbl := (List.mem_of_getElem? (i := 249) (by decide +kernel))
theorem le_iX10 : Cond.instantiable RX10 14 ∈ lw_tbl := (List.mem_of_getElem? (i := 74) (by decide +kernel))
theorem le_iX11 : Cond.instantiable RX11 18 ∈ lw_tbl := (List.mem_of_getElem? (i := 886) (by decide +kernel))
theorem le_aI : Cond.arrayClass .int ∈ lw_tbl := (List.mem_of_getElem? (i := 104) (by decide +kernel))
theorem le_aZ : Cond.arrayClass .boolean ∈ lw_tbl := (List.mem_of_getElem? (i := 245) (by decide +kernel))
theorem le_oX5 : Cond.arrayOver (.object RX5) ∈ lw_tbl := (List.mem_of_getElem? (i := 215) (by decide +kernel))
theorem le_oX8 : Cond.arrayOver (.object RX8) ∈ lw_tbl := (List.mem_of_getElem? (i := 88) (by decide +kernel))
theorem le_n0 : Cond.fieldLinkNest RX10 103 "EggSpoons$Reader" "length" "I" "EggSpoons" ∈ lw_tbl := (List.mem_of_getElem? (i := 224) (by decide +kernel))
theorem le_n1 : Cond.methodLinkNest RX10 29 yX6_init "EggSpoons" ∈ lw_tbl := (List.mem_of_getElem? (i := 218) (by decide +kernel))
theorem le_n2 : Cond.methodLinkNest RX10 47 yX8_init "EggSpoons" ∈ lw_tbl := (List.mem_of_getElem? (i := 247) (by decide +kernel))
theorem le_n3 : Cond.methodLinkNest RX10 57 yX9_init "EggSpoons" ∈ lw_tbl := (List.mem_of_getElem? (i := 250) (by decide +kernel))
theorem le_n4 : Cond.methodLinkNest RX10 64 yX3_init "EggSpoons" ∈ lw_tbl := (List.mem_of_getElem? (i := 264) (by decide +kernel))
theorem le_n5 : Cond.methodLinkNest RX10 71 yX0_init "EggSpoons" ∈ lw_tbl := (List.mem_of_getElem? (i := 295) (by decide +kernel))
theorem le_n6 : Cond.methodLinkNest RX5 29 yX4_init "EggSpoons" ∈ lw_tbl := (List.mem_of_getElem? (i := 91) (by decide +kernel))
theorem le_n7 : Cond.methodLinkNest RX5 49 yX8_init "EggSpoons" ∈ lw_tbl := (List.mem_of_getElem? (i := 130) (by decide +kernel))
theorem le_n8 : Cond.methodLinkNest RX10 243 yX3_ways "EggSpoons" ∈ lw_tbl := (List.mem_of_getElem? (i := 799) (by decide +kernel))
set_option maxRecDepth 100000 in
set_option maxHeartbeats 4000000 in
theorem law_ev {args : Array Value} {s : State} (hts : ∀ w ∈ lw_tbl, w.before args s = true) : ∃ X : EX, ev X s := by
  obtain ⟨c0, iS0, hKn0⟩ := u_known (C := RX0) (T := TX0) (N := 5) (n := 5) hts inX0 (hts _ le_iX0)
  obtain ⟨c1, iS1, hKn1⟩ := u_known (C := RX3) (T := TX3) (N := 8) (n := 8) hts inX3 (hts _ le_iX3)
  obtain ⟨c2, iS2, hKn2⟩ := u_known (C := RX4) (T := TX4) (N := 2) (n := 2) hts inX4 (hts _ le_iX4)
  obtain ⟨c3, iS3, hKn3⟩ := u_known (C := RX5) (T := TX5) (N := 8) (n := 8) hts inX5 (hts _ le_iX5)
  obtain ⟨c4, iS4, hKn4⟩ := u_known (C := RX6) (T := TX6) (N := 7) (n := 7) hts inX6 (hts _ le_iX6)
  obtain ⟨c5, iS5, hKn5⟩ := u_known (C := RX7) (T := TX7) (N := 5) (n := 5) hts inX7 (hts _ le_iX7)
  obtain ⟨c6, iS6, hKn6⟩ := u_known (C := RX8) (T := TX8) (N := 8) (n := 8) hts inX8 (hts _ le_iX8)
  obtain ⟨c7, iS7, hKn7⟩ := u_known (C := RX9) (T := TX9) (N := 2) (n := 2) hts inX9 (hts _ le_iX9)
  obtain ⟨c8, iS8, hKn8⟩ := u_known (C := RX10) (T := TX10) (N := 14) (n := 14) hts inX10 (hts _ le_iX10)
  obtain ⟨c9, iS9, hKn9⟩ := u_known (C := RX11) (T := TX11) (N := 18) (n := 18) hts inX11 (hts _ le_iX11)
  obtain ⟨aI, hI1, hI2⟩ := ar_prim (hts _ le_aI)
  obtain ⟨aZ, hZ1, hZ2⟩ := ar_prim (hts _ le_aZ)
  obtain ⟨aR, hR1, hR2⟩ := ar_ref (hts _ le_oX5)
  obtain ⟨aU, hU1, hU2⟩ := ar_ref (hts _ le_oX8)
  refine ⟨((fun k => [c0, c1, c2, c3, c4, c5, c6, c7, c8, c9].getD k c0, fun k => [iS0, iS1, iS2, iS3, iS4, iS5, iS6, iS7, iS8, iS9].getD k iS0), (aI, (aZ, (aR, aU)))), ⟨?_, ?_⟩, va_AO.of (hts _ le_oX5), va_AO.of (hts _ le_oX8), va_Nw.of rfl (hts _ le_n0), va_Nw.of rfl (hts _ le_n1), va_Nw.of rfl (hts _ le_n2), va_Nw.of rfl (hts _ le_n3), va_Nw.of rfl (hts _ le_n4), va_Nw.of rfl (hts _ le_n5), va_Nw.of rfl (hts _ le_n6), va_Nw.of rfl (hts _ le_n7), va_Nw.of rfl (hts _ le_n8)⟩
  · intro k q hq
    match k, hq with
    | 0, hq => cases hq; exact hKn0
    | 1, hq => cases hq; exact hKn1
    | 2, hq => cases hq; exact hKn2
    | 3, hq => cases hq; exact hKn3
    | 4, hq => cases hq; exact hKn4
    | 5, hq => cases hq; exact hKn5
    | 6, hq => cases hq; exact hKn6
    | 7, hq => cases hq; exact hKn7
    | 8, hq => cases hq; exact hKn8
    | 9, hq => cases hq; exact hKn9
    | k + 10, hq => simp [vwCl] at hq
  · intro k q hq
    match k, hq with
    | 0, hq => cases hq; exact ⟨hI1, hI2⟩
    | 1, hq => cases hq; exact ⟨hZ1, hZ2⟩
    | 2, hq => cases hq; exact ⟨hR1, hR2⟩
    | 3, hq => cases hq; exact ⟨hU1, hU2⟩
    | k + 4, hq => simp at hq
def sIx : List Nat := [44, 54, 64, 69, 74]
def sTm (i : Nat) : Term := Term.string RX6 (sIx.getD i 0)
theorem le_s0 : Cond.stringRef RX6 44 "race" ∈ lw_tbl := (List.mem_of_getElem? (i := 431) (by decide +kernel))
theorem le_s1 : Cond.stringRef RX6 54 "one" ∈ lw_tbl := (List.mem_of_getElem? (i := 497) (by decide +kernel))
theorem le_s2 : Cond.stringRef RX6 64 "speed" ∈ lw_tbl := (List.mem_of_getElem? (i := 503) (by decide +kernel))
theorem le_s3 : Cond.stringRef RX6 69 "start" ∈ lw_tbl := (List.mem_of_getElem? (i := 508) (by decide +kernel))
theorem le_s4 : Cond.stringRef RX6 74 "go" ∈ lw_tbl := (List.mem_of_getElem? (i := 520) (by decide +kernel))
theorem le_z0 : Cond.laysStatic "java/lang/String" "COMPACT_STRINGS" "Z" ∈ lw_tbl := (List.mem_of_getElem? (i := 445) (by decide +kernel))
theorem le_z1 : Cond.laysStatic "jdk/internal/util/Preconditions" "SIOOBE_FORMATTER" "Ljava/util/function/BiFunction;" ∈ lw_tbl := (List.mem_of_getElem? (i := 461) (by decide +kernel))
theorem le_z2 : Cond.initialized "java/lang/String" ∈ lw_tbl := (List.mem_of_getElem? (i := 64) (by decide +kernel))
theorem le_z3 : Cond.initialized "jdk/internal/util/Preconditions" ∈ lw_tbl := (List.mem_of_getElem? (i := 66) (by decide +kernel))
theorem c5 {i : Nat} (h : i < 5) : i = 0 ∨ i = 1 ∨ i = 2 ∨ i = 3 ∨ i = 4 := by omega
set_option maxRecDepth 100000 in
set_option maxHeartbeats 4000000 in
theorem ls_ex {args : Array Value} {s : State} (hs : ∀ c ∈ flatC (Jvm.Cond.and given_1 narrow_1), c.before args s = true) : ∀ i : Nat, i < 5 → (Cond.exactly (sTm i) "java/lang/String").before args s = true := by
  intro i hi
  rcases c5 hi with rfl | rfl | rfl | rfl | rfl <;> exact hs _ (by decide +kernel)
set_option maxRecDepth 100000 in
set_option maxHeartbeats 4000000 in
theorem ls_co {args : Array Value} {s : State} (hs : ∀ c ∈ flatC (Jvm.Cond.and given_1 narrow_1), c.before args s = true) : ∀ i : Nat, i < 5 → (Cond.eq (.field (sTm i) "java/lang/String" "coder" "B") (.int 0)).before args s = true := by
  intro i hi
  rcases c5 hi with rfl | rfl | rfl | rfl | rfl <;> exact hs _ (by decide +kernel)
set_option maxRecDepth 100000 in
set_option maxHeartbeats 4000000 in
theorem ls_ar {args : Array Value} {s : State} (hs : ∀ c ∈ flatC (Jvm.Cond.and given_1 narrow_1), c.before args s = true) : ∀ i : Nat, i < 5 → (Cond.arrayOf (.field (sTm i) "java/lang/String" "value" "[B") .byte).before args s = true := by
  intro i hi
  rcases c5 hi with rfl | rfl | rfl | rfl | rfl <;> exact hs _ (by decide +kernel)
set_option maxRecDepth 100000 in
set_option maxHeartbeats 4000000 in
theorem ls_le {args : Array Value} {s : State} (hs : ∀ c ∈ flatC (Jvm.Cond.and given_1 narrow_1), c.before args s = true) : ∀ i : Nat, i < 5 → (Cond.eq (.length (.field (sTm i) "java/lang/String" "value" "[B")) (.int (Int32.ofNat (sLen.getD i 0)))).before args s = true := by
  intro i hi
  rcases c5 hi with rfl | rfl | rfl | rfl | rfl <;> exact hs _ (by decide +kernel)
set_option maxRecDepth 100000 in
set_option maxHeartbeats 4000000 in
theorem ls_el {args : Array Value} {s : State} (hs : ∀ c ∈ flatC (Jvm.Cond.and given_1 narrow_1), c.before args s = true) : ∀ i : Nat, i < 5 → ∀ j : Nat, j < sLen.getD i 0 → (Cond.eq (.elem (.field (sTm i) "java/lang/String" "value" "[B") (.int (Int32.ofNat j))) (.int ((sByt.getD i []).getD j 0))).before args s = true := by
  intro i hi j hj
  have h5 := k_sl hi
  have hj5 : j < 5 := by omega
  rcases c5 hi with rfl | rfl | rfl | rfl | rfl <;> rcases c5 hj5 with rfl | rfl | rfl | rfl | rfl <;> first | exact hs _ (by decide +kernel) | exact absurd hj (by decide)
set_option maxRecDepth 100000 in
set_option maxHeartbeats 4000000 in
theorem ls_ne {args : Array Value} {s : State} (hs : ∀ c ∈ flatC (Jvm.Cond.and given_1 narrow_1), c.before args s = true) : ∀ i j : Nat, i < 5 → j < 5 → i ≠ j → (Cond.not (Cond.eq (sTm i) (sTm j))).before args s = true ∨ (Cond.not (Cond.eq (sTm j) (sTm i))).before args s = true := by
  intro i j hi hj hij
  rcases c5 hi with rfl | rfl | rfl | rfl | rfl <;> rcases c5 hj with rfl | rfl | rfl | rfl | rfl <;> first | exact absurd rfl hij | exact Or.inl (hs _ (by decide +kernel)) | exact Or.inr (hs _ (by decide +kernel))
/-- the five words are there at the start -/
theorem law_str {args : Array Value} {s : State} (h : (Jvm.Cond.and given_1 narrow_1).before args s = true) (hts : ∀ w ∈ lw_tbl, w.before args s = true) : ∃ K : SK, sE K (fun q : Nat => s.heap.size ≤ q) s s.heap := by
  have hs := flat_of_before _ h
  have hA : ∀ a : Nat, a < s.heap.size → ¬ (fun q : Nat => s.heap.size ≤ q) a := fun a h => Nat.not_le.mpr h
  obtain ⟨K, V, hS, he⟩ := vk_Sof (args := args) (s := s) (N := 5) (tm := sTm) (len := sLen) (byt := sByt) (A := fun q : Nat => s.heap.size ≤ q) (fun i hi => by have := k_sl hi; omega) (ls_ex hs) (ls_co hs) (ls_ar hs) (ls_le hs) (ls_el hs) (ls_ne hs) hA
  have hz : (Cond.eq (.static "java/lang/String" "COMPACT_STRINGS" "Z") (.int 1)).before args s = true := hs _ (by decide +kernel)
  have hq : (Cond.isRef (.static "jdk/internal/util/Preconditions" "SIOOBE_FORMATTER" "Ljava/util/function/BiFunction;")).before args s = true := hs _ (by decide +kernel)
  exact ⟨(K, V), ⟨hS, va_Zof (hts _ le_z0) (hts _ le_z2) (va_eqt hz) hA, va_Zqof (hts _ le_z1) (hts _ le_z3) hq hA⟩, vk_R.of (hts _ le_s0) (he 0 (by decide)), vk_R.of (hts _ le_s1) (he 1 (by decide)), vk_R.of (hts _ le_s2) (he 2 (by decide)), vk_R.of (hts _ le_s3) (he 3 (by decide)), vk_R.of (hts _ le_s4) (he 4 (by decide))⟩
