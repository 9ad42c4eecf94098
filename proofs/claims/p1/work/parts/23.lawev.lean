theorem ar_prim {ty : FieldType} {args : Array Value} {s : State} (h : (Cond.arrayClass ty).before args s = true) : ∃ cA : ClassId, ArrOfT s cA ty ∧ s.vm.findClass ("[" ++ ty.toString) = some cA := by
  obtain ⟨cA, kA, comp, h1, h2, h3⟩ := Cond.arrayClass_spec h
  exact ⟨cA, fun N z => ⟨(fun k h => by cases h), kA, h2, comp, h3⟩, h1⟩
theorem ar_ref {C : String} {args : Array Value} {s : State} (h : (Cond.arrayOver (.object C)).before args s = true) : ∃ cA : ClassId, ArrOfT s cA (.object C) ∧ va_RA s cA (.object C) := by
  obtain ⟨comp, cA, kA, h1, h2, h3, h4, h5⟩ := Cond.arrayOver_spec h
  exact ⟨cA, fun N z => ⟨(fun k h => by cases h), kA, h3, comp, h4⟩, kA, comp, h3, h4, h1, h5⟩
theorem le_iX0 : Cond.instantiable RX0 5 ∈ lw_tbl := (List.mem_of_getElem? (i := 294) (by decide +kernel))
theorem le_iX3 : Cond.instantiable RX3 8 ∈ lw_tbl := (List.mem_of_getElem? (i := 263) (by decide +kernel))
theorem le_iX4 : Cond.instantiable RX4 2 ∈ lw_tbl := (List.mem_of_getElem? (i := 90) (by decide +kernel))
theorem le_iX5 : Cond.instantiable RX5 8 ∈ lw_tbl := (List.mem_of_getElem? (i := 82) (by decide +kernel))
theorem le_iX6 : Cond.instantiable RX6 7 ∈ lw_tbl := (List.mem_of_getElem? (i := 217) (by decide +kernel))
theorem le_iX7 : Cond.instantiable RX7 5 ∈ lw_tbl := (List.mem_of_getElem? (i := 106) (by decide +kernel))
theorem le_iX8 : Cond.instantiable RX8 8 ∈ lw_tbl := (List.mem_of_getElem? (i := 129) (by decide +kernel))
theorem le_iX9 : Cond.instantiable RX9 2 ∈ lw_tbl := (List.mem_of_getElem? (i := 249) (by decide +kernel))
theorem le_iX10 : Cond.instantiable RX10 14 ∈ lw_tbl := (List.mem_of_getElem? (i := 74) (by decide +kernel))
theorem le_iX11 : Cond.instantiable RX11 18 ∈ lw_tbl := (List.mem_of_getElem? (i := 886) (by decide +kernel))
theorem le_aI : Cond.arrayClass .int ∈ lw_tbl := (List.mem_of_getElem? (i := 104) (by decide +kernel))
theorem le_aZ : Cond.arrayClass .boolean ∈ lw_tbl := (List.mem_of_getElem? (i := 245) (by decide +kernel))
theorem le_oX5 : Cond.arrayOver (.object RX5) ∈ lw_tbl := (List.mem_of_getElem? (i := 215) (by decide +kernel))
theorem le_oX8 : Cond.arrayOver (.object RX8) ∈ lw_tbl := (List.mem_of_getElem? (i := 88) (by decide +kernel))
theorem le_n0 : Cond.fieldLinkNest RX10 103 "EggSpoons$Reader" "length" "I" "EggSpoons" ∈ lw_tbl := (List.mem_of_getElem? (i := 224) (by decide +kernel))
theorem le_n1 : Cond.methodLinkNest RX10 29 yX6_init "EggSpoons" ∈ lw_tbl := (List.mem_of_getElem? (i := 218) (by decide +kernel))
theorem le_n2 : Cond.methodLinkNest RX10 47 yX8_init "EggSpoons" ∈ lw_tbl := (List.mem_of_getElem? (i := 247) (by decide +kernel))
theorem le_n3 : Cond.methodLinkNest RX10 57 yX9_init "EggSpoons" ∈ lw_tbl := (List.mem_of_getElem? (i := 250) (by decide +kernel))
theorem le_n4 : Cond.methodLinkNest RX10 64 yX3_init "EggSpoons" ∈ lw_tbl := (List.mem_of_getElem? (i := 264) (by decide +kernel))
theorem le_n5 : Cond.methodLinkNest RX10 71 yX0_init "EggSpoons" ∈ lw_tbl := (List.mem_of_getElem? (i := 295) (by decide +kernel))
theorem le_n6 : Cond.methodLinkNest RX5 29 yX4_init "EggSpoons" ∈ lw_tbl := (List.mem_of_getElem? (i := 91) (by decide +kernel))
theorem le_n7 : Cond.methodLinkNest RX5 49 yX8_init "EggSpoons" ∈ lw_tbl := (List.mem_of_getElem? (i := 130) (by decide +kernel))
set_option maxRecDepth 100000 in
set_option maxHeartbeats 4000000 in
theorem law_ev {args : Array Value} {s : State} (hts : ∀ w ∈ lw_tbl, w.before args s = true) : ∃ X : EX, ev X s := by
  obtain ⟨c0, iS0, hKn0⟩ := u_known (C := RX0) (T := TX0) (N := 5) (n := 5) hts inX0 (hts _ le_iX0)
  obtain ⟨c1, iS1, hKn1⟩ := u_known (C := RX3) (T := TX3) (N := 8) (n := 8) hts inX3 (hts _ le_iX3)
  obtain ⟨c2, iS2, hKn2⟩ := u_known (C := RX4) (T := TX4) (N := 2) (n := 2) hts inX4 (hts _ le_iX4)
  obtain ⟨c3, iS3, hKn3⟩ := u_known (C := RX5) (T := TX5) (N := 8) (n := 8) hts inX5 (hts _ le_iX5)
  obtain ⟨c4, iS4, hKn4⟩ := u_known (C := RX6) (T := TX6) (N := 7) (n := 7) hts inX6 (hts _ le_iX6)
  obtain ⟨c5, iS5, hKn5⟩ := u_known (C := RX7) (T := TX7) (N := 5) (n := 5) hts inX7 (hts _ le_iX7)
  obtain ⟨c6, iS6, hKn6⟩ := u_known (C := RX8) (T := TX8) (N := 8) (n := 8) hts inX8 (hts _ le_iX8)
  obtain ⟨c7, iS7, hKn7⟩ := u_known (C := RX9) (T := TX9) (N := 2) (n := 2) hts inX9 (hts _ le_iX9)
  obtain ⟨c8, iS8, hKn8⟩ := u_known (C := RX10) (T := TX10) (N := 14) (n := 14) hts inX10 (hts _ le_iX10)
  obtain ⟨c9, iS9, hKn9⟩ := u_known (C := RX11) (T := TX11) (N := 18) (n := 18) hts inX11 (hts _ le_iX11)
  obtain ⟨aI, hI1, hI2⟩ := ar_prim (hts _ le_aI)
  obtain ⟨aZ, hZ1, hZ2⟩ := ar_prim (hts _ le_aZ)
  obtain ⟨aR, hR1, hR2⟩ := ar_ref (hts _ le_oX5)
  obtain ⟨aU, hU1, hU2⟩ := ar_ref (hts _ le_oX8)
  refine ⟨((fun k => [c0, c1, c2, c3, c4, c5, c6, c7, c8, c9].getD k c0, fun k => [iS0, iS1, iS2, iS3, iS4, iS5, iS6, iS7, iS8, iS9].getD k iS0), (aI, (aZ, (aR, aU)))), ⟨?_, ?_⟩, va_AO.of (hts _ le_oX5), va_AO.of (hts _ le_oX8), va_Nw.of rfl (hts _ le_n0), va_Nw.of rfl (hts _ le_n1), va_Nw.of rfl (hts _ le_n2), va_Nw.of rfl (hts _ le_n3), va_Nw.of rfl (hts _ le_n4), va_Nw.of rfl (hts _ le_n5), va_Nw.of rfl (hts _ le_n6), va_Nw.of rfl (hts _ le_n7)⟩
  · intro k q hq
    match k, hq with
    | 0, hq => cases hq; exact hKn0
    | 1, hq => cases hq; exact hKn1
    | 2, hq => cases hq; exact hKn2
    | 3, hq => cases hq; exact hKn3
    | 4, hq => cases hq; exact hKn4
    | 5, hq => cases hq; exact hKn5
    | 6, hq => cases hq; exact hKn6
    | 7, hq => cases hq; exact hKn7
    | 8, hq => cases hq; exact hKn8
    | 9, hq => cases hq; exact hKn9
    | k + 10, hq => simp [vwCl] at hq
  · intro k q hq
    match k, hq with
    | 0, hq => cases hq; exact ⟨hI1, hI2⟩
    | 1, hq => cases hq; exact ⟨hZ1, hZ2⟩
    | 2, hq => cases hq; exact ⟨hR1, hR2⟩
    | 3, hq => cases hq; exact ⟨hU1, hU2⟩
    | k + 4, hq => simp at hq
