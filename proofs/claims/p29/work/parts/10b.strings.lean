set_option maxRecDepth 20000 in
theorem ggJ0_charAt_5068e_J0_isLatin1_aae02 : GoodIn wsJ0_charAt_5068e wsJ0_isLatin1_aae02 := goodIn_r _ [6, 7, 8] rfl (by decide +kernel)
set_option maxRecDepth 20000 in
theorem gJ0_charAt_5068e_J0_isLatin1_aae02 : GoodIn wsJ0_charAt_5068e (wsV RJ0 492 RJ0 yJ0_isLatin1_aae02 wsJ0_isLatin1_aae02) := goodIn_app (goodIn_of _ (by decide +kernel)) ggJ0_charAt_5068e_J0_isLatin1_aae02
set_option maxRecDepth 20000 in
theorem ggJ0_charAt_5068e_J1_charAt_3b067 : GoodIn wsJ0_charAt_5068e wsJ1_charAt_3b067 := goodIn_r _ [12, 13, 14, 5, 15, 16, 17, 18, 19, 20] rfl (by decide +kernel)
set_option maxRecDepth 20000 in
theorem gJ0_charAt_5068e_J1_charAt_3b067 : GoodIn wsJ0_charAt_5068e (va_wsS RJ0 495 yJ1_charAt_3b067 wsJ1_charAt_3b067) := goodIn_app (goodIn_of _ (by decide +kernel)) ggJ0_charAt_5068e_J1_charAt_3b067
set_option maxRecDepth 20000 in
theorem ggJ0_checkIndex_df160_J3_checkIndex_8e157 : GoodIn wsJ0_checkIndex_df160 wsJ3_checkIndex_8e157 := goodIn_r _ [5] rfl (by decide +kernel)
set_option maxRecDepth 20000 in
theorem gJ0_checkIndex_df160_J3_checkIndex_8e157 : GoodIn wsJ0_checkIndex_df160 (va_wsS RJ0 1059 yJ3_checkIndex_8e157 wsJ3_checkIndex_8e157) := goodIn_app (goodIn_of _ (by decide +kernel)) ggJ0_checkIndex_df160_J3_checkIndex_8e157
set_option maxRecDepth 20000 in
theorem ggJ0_length_8abf5_J0_coder_7d493 : GoodIn wsJ0_length_8abf5 wsJ0_coder_7d493 := goodIn_r _ [6, 7, 8] rfl (by decide +kernel)
set_option maxRecDepth 20000 in
theorem gJ0_length_8abf5_J0_coder_7d493 : GoodIn wsJ0_length_8abf5 (wsV RJ0 335 RJ0 yJ0_coder_7d493 wsJ0_coder_7d493) := goodIn_app (goodIn_of _ (by decide +kernel)) ggJ0_length_8abf5_J0_coder_7d493
set_option maxRecDepth 20000 in
theorem ggJ1_charAt_3b067_J0_checkIndex_df160 : GoodIn wsJ1_charAt_3b067 wsJ0_checkIndex_df160 := goodIn_r _ [4, 5, 6, 7, 8, 9] rfl (by decide +kernel)
set_option maxRecDepth 20000 in
theorem gJ1_charAt_3b067_J0_checkIndex_df160 : GoodIn wsJ1_charAt_3b067 (va_wsS RJ1 9 yJ0_checkIndex_df160 wsJ0_checkIndex_df160) := goodIn_app (goodIn_of _ (by decide +kernel)) ggJ1_charAt_3b067_J0_checkIndex_df160
theorem dJ0_charAt_5068e_0 : decode cJ0_charAt_5068e 0 = .ok (.aload_n 0, 1) := by decide +kernel
theorem dJ0_charAt_5068e_1 : decode cJ0_charAt_5068e 1 = .ok (.invokevirtual 492, 3) := by decide +kernel
theorem dJ0_charAt_5068e_11 : decode cJ0_charAt_5068e 11 = .ok (.iload_n 1, 1) := by decide +kernel
theorem dJ0_charAt_5068e_12 : decode cJ0_charAt_5068e 12 = .ok (.invokestatic 495, 3) := by decide +kernel
theorem dJ0_charAt_5068e_15 : decode cJ0_charAt_5068e 15 = .ok (.ireturn, 1) := by decide +kernel
theorem dJ0_charAt_5068e_4 : decode cJ0_charAt_5068e 4 = .ok (.ifCond .eq 12, 3) := by decide +kernel
theorem dJ0_charAt_5068e_7 : decode cJ0_charAt_5068e 7 = .ok (.aload_n 0, 1) := by decide +kernel
theorem dJ0_charAt_5068e_8 : decode cJ0_charAt_5068e 8 = .ok (.getfield 9, 3) := by decide +kernel
theorem dJ0_checkIndex_df160_0 : decode cJ0_checkIndex_df160 0 = .ok (.iload_n 0, 1) := by decide +kernel
theorem dJ0_checkIndex_df160_1 : decode cJ0_checkIndex_df160 1 = .ok (.iload_n 1, 1) := by decide +kernel
theorem dJ0_checkIndex_df160_2 : decode cJ0_checkIndex_df160 2 = .ok (.getstatic 1053, 3) := by decide +kernel
theorem dJ0_checkIndex_df160_5 : decode cJ0_checkIndex_df160 5 = .ok (.invokestatic 1059, 3) := by decide +kernel
theorem dJ0_checkIndex_df160_8 : decode cJ0_checkIndex_df160 8 = .ok (.pop, 1) := by decide +kernel
theorem dJ0_checkIndex_df160_9 : decode cJ0_checkIndex_df160 9 = .ok (.return_, 1) := by decide +kernel
theorem dJ0_coder_7d493_0 : decode cJ0_coder_7d493 0 = .ok (.getstatic 38, 3) := by decide +kernel
theorem dJ0_coder_7d493_10 : decode cJ0_coder_7d493 10 = .ok (.goto 4, 3) := by decide +kernel
theorem dJ0_coder_7d493_14 : decode cJ0_coder_7d493 14 = .ok (.ireturn, 1) := by decide +kernel
theorem dJ0_coder_7d493_3 : decode cJ0_coder_7d493 3 = .ok (.ifCond .eq 10, 3) := by decide +kernel
theorem dJ0_coder_7d493_6 : decode cJ0_coder_7d493 6 = .ok (.aload_n 0, 1) := by decide +kernel
theorem dJ0_coder_7d493_7 : decode cJ0_coder_7d493 7 = .ok (.getfield 15, 3) := by decide +kernel
theorem dJ0_isLatin1_aae02_0 : decode cJ0_isLatin1_aae02 0 = .ok (.getstatic 38, 3) := by decide +kernel
theorem dJ0_isLatin1_aae02_10 : decode cJ0_isLatin1_aae02 10 = .ok (.ifCond .ne 7, 3) := by decide +kernel
theorem dJ0_isLatin1_aae02_13 : decode cJ0_isLatin1_aae02 13 = .ok (.iconst 1, 1) := by decide +kernel
theorem dJ0_isLatin1_aae02_14 : decode cJ0_isLatin1_aae02 14 = .ok (.goto 4, 3) := by decide +kernel
theorem dJ0_isLatin1_aae02_18 : decode cJ0_isLatin1_aae02 18 = .ok (.ireturn, 1) := by decide +kernel
theorem dJ0_isLatin1_aae02_3 : decode cJ0_isLatin1_aae02 3 = .ok (.ifCond .eq 14, 3) := by decide +kernel
theorem dJ0_isLatin1_aae02_6 : decode cJ0_isLatin1_aae02 6 = .ok (.aload_n 0, 1) := by decide +kernel
theorem dJ0_isLatin1_aae02_7 : decode cJ0_isLatin1_aae02 7 = .ok (.getfield 15, 3) := by decide +kernel
theorem dJ0_length_8abf5_0 : decode cJ0_length_8abf5 0 = .ok (.aload_n 0, 1) := by decide +kernel
theorem dJ0_length_8abf5_1 : decode cJ0_length_8abf5 1 = .ok (.getfield 9, 3) := by decide +kernel
theorem dJ0_length_8abf5_10 : decode cJ0_length_8abf5 10 = .ok (.ireturn, 1) := by decide +kernel
theorem dJ0_length_8abf5_4 : decode cJ0_length_8abf5 4 = .ok (.arraylength, 1) := by decide +kernel
theorem dJ0_length_8abf5_5 : decode cJ0_length_8abf5 5 = .ok (.aload_n 0, 1) := by decide +kernel
theorem dJ0_length_8abf5_6 : decode cJ0_length_8abf5 6 = .ok (.invokevirtual 335, 3) := by decide +kernel
theorem dJ0_length_8abf5_9 : decode cJ0_length_8abf5 9 = .ok (.ishr, 1) := by decide +kernel
theorem dJ1_charAt_3b067_0 : decode cJ1_charAt_3b067 0 = .ok (.iload_n 1, 1) := by decide +kernel
theorem dJ1_charAt_3b067_1 : decode cJ1_charAt_3b067 1 = .ok (.aload_n 0, 1) := by decide +kernel
theorem dJ1_charAt_3b067_12 : decode cJ1_charAt_3b067 12 = .ok (.iand, 1) := by decide +kernel
theorem dJ1_charAt_3b067_13 : decode cJ1_charAt_3b067 13 = .ok (.i2c, 1) := by decide +kernel
theorem dJ1_charAt_3b067_14 : decode cJ1_charAt_3b067 14 = .ok (.ireturn, 1) := by decide +kernel
theorem dJ1_charAt_3b067_2 : decode cJ1_charAt_3b067 2 = .ok (.arraylength, 1) := by decide +kernel
theorem dJ1_charAt_3b067_3 : decode cJ1_charAt_3b067 3 = .ok (.invokestatic 9, 3) := by decide +kernel
theorem dJ1_charAt_3b067_6 : decode cJ1_charAt_3b067 6 = .ok (.aload_n 0, 1) := by decide +kernel
theorem dJ1_charAt_3b067_7 : decode cJ1_charAt_3b067 7 = .ok (.iload_n 1, 1) := by decide +kernel
theorem dJ1_charAt_3b067_8 : decode cJ1_charAt_3b067 8 = .ok (.baload, 1) := by decide +kernel
theorem dJ1_charAt_3b067_9 : decode cJ1_charAt_3b067 9 = .ok (.sipush 255, 3) := by decide +kernel
theorem dJ3_checkIndex_8e157_0 : decode cJ3_checkIndex_8e157 0 = .ok (.iload_n 0, 1) := by decide +kernel
theorem dJ3_checkIndex_8e157_1 : decode cJ3_checkIndex_8e157 1 = .ok (.ifCond .lt 8, 3) := by decide +kernel
theorem dJ3_checkIndex_8e157_16 : decode cJ3_checkIndex_8e157 16 = .ok (.iload_n 0, 1) := by decide +kernel
theorem dJ3_checkIndex_8e157_17 : decode cJ3_checkIndex_8e157 17 = .ok (.ireturn, 1) := by decide +kernel
theorem dJ3_checkIndex_8e157_4 : decode cJ3_checkIndex_8e157 4 = .ok (.iload_n 0, 1) := by decide +kernel
theorem dJ3_checkIndex_8e157_5 : decode cJ3_checkIndex_8e157 5 = .ok (.iload_n 1, 1) := by decide +kernel
theorem dJ3_checkIndex_8e157_6 : decode cJ3_checkIndex_8e157 6 = .ok (.if_icmp .lt 10, 3) := by decide +kernel
/-! the reader's five words: Strings outside every world, which nobody changes -/
def sLen : List Nat := [4, 3, 5, 5, 2]
def sByt : List (List Int32) := [[114, 97, 99, 101], [111, 110, 101], [115, 112, 101, 101, 100], [115, 116, 97, 114, 116], [103, 111]]
abbrev SK : Type := (Nat → Nat) × (Nat → Nat)
def sE (K : SK) (A : Nat → Prop) (U : State) (H : Heap) : Prop := (vk_S 5 sLen sByt K.1 K.2 A U H ∧ va_Z "java/lang/String" "COMPACT_STRINGS" "Z" (.int 1) A U H ∧ va_Zq "jdk/internal/util/Preconditions" "SIOOBE_FORMATTER" "Ljava/util/function/BiFunction;" A U H) ∧ (vk_R RX6 44 "race" (K.1 0) U ∧ vk_R RX6 54 "one" (K.1 1) U ∧ vk_R RX6 64 "speed" (K.1 2) U ∧ vk_R RX6 69 "start" (K.1 3) U ∧ vk_R RX6 74 "go" (K.1 4) U)
theorem sE.go {K : SK} {A B : Nat → Prop} {s U : State} {H : Heap} {locs : List Loc} (hZ : sE K A s s.heap) (hS : va_S A s.heap H locs) (hU : U.heap = H) (hW : s.WarmedH U.vm) (hAB : ∀ q, B q → A q) : sE K B U U.heap := by
  obtain ⟨⟨h1, h2, h3⟩, r0, r1, r2, r3, r4⟩ := hZ
  have q : ∀ a : Nat, a < s.heap.size → ¬ A a → U.heap[a]? = s.heap[a]? := by
    rw [hU]
    exact hS.2.1
  exact ⟨⟨((h1.kept q).moved hW.alike).narrow hAB, ((h2.kept q).moved hW.alike).narrow hAB, ((h3.kept q).moved hW.alike).narrow hAB⟩, vk_R.warm hW r0, vk_R.warm hW r1, vk_R.warm hW r2, vk_R.warm hW r3, vk_R.warm hW r4⟩
theorem sE.narrow {K : SK} {A B : Nat → Prop} {U : State} {H : Heap} (hZ : sE K A U H) (hAB : ∀ q, B q → A q) : sE K B U H := by
  obtain ⟨⟨h1, h2, h3⟩, r⟩ := hZ
  exact ⟨⟨h1.narrow hAB, h2.narrow hAB, h3.narrow hAB⟩, r⟩
theorem sE.call {K : SK} {A : Nat → Prop} {U : State} {g : JFrame} {mk : MethodId} {a : Array Value} (hZ : sE K A U U.heap) : sE K A (U.calling g mk a) (U.calling g mk a).heap := by
  obtain ⟨⟨h1, h2, h3⟩, r0, r1, r2, r3, r4⟩ := hZ
  exact ⟨⟨vk_S.moved (u := U) (U := U.calling g mk a) (Vm.Alike.refl U.vm) h1, va_Z.moved (u := U) (U := U.calling g mk a) (Vm.Alike.refl U.vm) h2, va_Zq.moved (u := U) (U := U.calling g mk a) (Vm.Alike.refl U.vm) h3⟩, vk_R.same (u := U) (U := U.calling g mk a) rfl r0, vk_R.same (u := U) (U := U.calling g mk a) rfl r1, vk_R.same (u := U) (U := U.calling g mk a) rfl r2, vk_R.same (u := U) (U := U.calling g mk a) rfl r3, vk_R.same (u := U) (U := U.calling g mk a) rfl r4⟩
/-- a contract's start, with the five words there -/
def pS (X : EX) (K : SK) (av : List Value) (ws : va_W) (sz : Nat) : Array Value → State → Prop := va_Pc av (fun U => (U.heap.size = sz ∧ va_P X.1 vwCl ws U.heap ∧ ev X U ∧ va_D (fun _ => True) ws) ∧ sE K (va_A ws sz) U U.heap)
theorem pS_blind {X : EX} {K : SK} {av : List Value} {ws : va_W} {sz : Nat} : FrameBlind (pS X K av ws sz) := fun a U g mk q => by
  obtain ⟨q0, ⟨q1, qP, qE, qD⟩, qZ⟩ := q
  exact ⟨q0, ⟨q1, qP, ev_call qE, qD⟩, sE.call qZ⟩
section EKs
variable {p : Program} {l : Launch} {e : Env} {R : Room} {s : State} {m : MethodId} {args : Array Value} {below : List Frame} {meth : Method} {c : Code} {H : Heap} {locs : List Loc} {cells slots : Nat} {Q : State → Prop}
variable {cc : ByteArray} {pc nL : Nat} {ls : Array Slot} {rest : List Value} {X : EX} {K : SK} {A B : Nat → Prop} {a : Nat} {ws : va_W} {Ts : List Cond} {own : String}
theorem wd_preS {wc : va_W} {As : List Value} (G : wd X A A s ws H locs) (hZ : sE K A s s.heap) (is : List Nat) (hs : is.map (fun i => ws[i]?) = wc.map some) (hn : va_nd is = true) : ∀ U : State, U.heap = H → s.WarmedH U.vm → pS X K As wc H.size As.toArray U := fun U hU hW =>
  ⟨rfl, ⟨by rw [hU], by rw [hU]; exact G.2.1.sub is (mp_fm hs), ev_warm G.1 hW, (G.2.2.1.sub is hn hs).weaken (fun _ _ _ _ => trivial)⟩, sE.go hZ G.2.2.2.1 hU hW (va_free G.2.2.1 G.2.2.2.1 G.2.2.2.2 is hs)⟩
theorem wd_preS0 {As : List Value} (G : wd X B A s ws H locs) (hZ : sE K A s s.heap) : ∀ U : State, U.heap = H → s.WarmedH U.vm → pS X K As [] H.size As.toArray U := fun U hU hW =>
  ⟨rfl, ⟨by rw [hU], fun k q h => by simp at h, ev_warm G.1 hW, ⟨fun i j p q h => by simp at h, fun k q h => by simp at h⟩⟩, sE.go hZ G.2.2.2.1 hU hW (ro_F G)⟩
theorem mk_metS {y : MethodName} {wy wy' : List Cond} {rm : Room} {av : List Value} {ce : va_W} {sz : Nat} {Qc : Array Value → State → Outcome → State → Prop} {mc ms maxL : Nat} {free : Addr → Prop} {ret : Option FieldType} (hy : plainName y.cls = true) (hw : wy = Cond.code y cc maxL ret :: wy') (hlen : (lg_sl av).length ≤ maxL) (hB : va_D (fun _ => True) ce → va_D B ce) (hA : ∀ q, sz ≤ q → A q)
    (body : ∀ (p : Program) (e : Env) (s : State) (m : MethodId) (below : List Frame) (meth : Method) (c : Code), CallFix p m c cc maxL s av.toArray wy y.cls → meth.sig.returnType = ret → meth.locks = false → meth.name = y.name → s.heap.size = sz → wd X B A s ce s.heap [] → sE K (va_A ce sz) s s.heap → ∀ ls : Array Slot, lv_has ls maxL (lv_args 0 av) → W p l e rm s m av.toArray below meth c s.heap [] 0 0 (MQ below Qc av.toArray s mc ms free) (F0 m 0 ls [])) : Met l y wy rm (pS X K av ce sz) Qc mc ms free := by
  refine Met.ofW (cc := cc) (maxL := maxL) (ret := ret) hy hw ?_
  intro p e s m args below meth c s₁ Bd hml hv
  obtain ⟨rfl, ⟨hsz, hP, hE, hD0⟩, hZ⟩ := hv
  have hown : s.vm.findClass y.cls = some m.cls := findClass_of_methodNamed Bd.named
  have hl := lv_entry av hlen
  rw [lg_entry_eq]
  exact body p e s m below meth c ⟨Bd.exec, Bd.bytes, hml, hown, atoms_spec (ws := wy) Bd.pre⟩ Bd.returns Bd.notSynchronized (name_of_methodNamed Bd.named Bd.method).1 hsz ⟨hE, hP, hB hD0, va_S.rf, fun q h => hA q (by rw [← hsz]; exact h)⟩ hZ _ hl
section ERs
variable {y : MethodName} {bytes : ByteArray} {maxL mc ms n index : Nat} {ret : Option FieldType} {wy wy' : List Cond} {rm : Room} {Qc : Array Value → State → Outcome → State → Prop} {free : Addr → Prop} {b : Nat} {As : List Value} {wc : va_W}
theorem n_VS {C : String} {T : u_T} {N ci : Nat} {fs : List Value} (S : CallFix p m c cc nL s args Ts own) (G : wd X A A s ws H locs) (hZ : sE K A s s.heap) (hM : Met l y wy rm (pS X K (.ref b :: As) wc H.size) Qc mc ms free) (hg : GoodIn Ts (wsV own index C y wy)) (hw : wy = Cond.code y bytes maxL ret :: wy') (hrc : rm.cells = mc) (hrs : rm.slots = ms) (hd : y.cls = C ∧ y.cls ≠ "java/lang/invoke/MethodHandle" ∧ y.cls ≠ "java/lang/invoke/VarHandle" ∧ (parseMethodDescriptor y.desc).map (fun d => d.parameters.length) = some n) (hR : rm.frames + 1 ≤ R.frames ∧ 8 + (maxL + 11) + rm.locals ≤ R.locals) (is : List Nat) (hs : is.map (fun i => ws[i]?) = wc.map some) (hnd : va_nd is = true) (q0 : Nat) (he : ws[q0]? = some (b, .inr (ci, fs))) (hc : vwCl[ci]? = some (C, T, N)) (hn : As.length = n) (hsz : ls.size = nL) (hst : (rest.map fun v => v.category).sum ≤ 8) (hdg : decode cc pc = .ok (.invokevirtual index, 3)) (hf : cells + mc ≤ R.cells ∧ slots + ms ≤ R.slots) : va_Run p l e R s m args below meth c H locs cells slots mc ms (F0 m pc ls (As.reverse ++ .ref b :: rest)) rest (Qc (Value.ref b :: As).toArray) free :=
  va_runV S hM (cwV n S.2.2.2.2 hg hw hrc hrs hd hR) ⟨pS_blind, va_recv G.1.1 G.2.1 hc he, wd_preS G hZ is hs hnd⟩ rfl hn hsz rfl (lv_room hst) hdg hf
theorem n_VZ {i : Nat} (S : CallFix p m c cc nL s args Ts own) (G : wd X B A s ws H locs) (hZ : sE K A s s.heap) (hM : Met l y wy rm (pS X K (.ref (K.1 i) :: As) [] H.size) Qc mc ms free) (hg : GoodIn Ts (wsV own index RJ0 y wy)) (hw : wy = Cond.code y bytes maxL ret :: wy') (hrc : rm.cells = mc) (hrs : rm.slots = ms) (hd : y.cls = RJ0 ∧ y.cls ≠ "java/lang/invoke/MethodHandle" ∧ y.cls ≠ "java/lang/invoke/VarHandle" ∧ (parseMethodDescriptor y.desc).map (fun d => d.parameters.length) = some n) (hR : rm.frames + 1 ≤ R.frames ∧ 8 + (maxL + 11) + rm.locals ≤ R.locals) (hi : i < 5) (hn : As.length = n) (hsz : ls.size = nL) (hst : (rest.map fun v => v.category).sum ≤ 8) (hdg : decode cc pc = .ok (.invokevirtual index, 3)) (hf : cells + mc ≤ R.cells ∧ slots + ms ≤ R.slots) : va_Run p l e R s m args below meth c H locs cells slots mc ms (F0 m pc ls (As.reverse ++ .ref (K.1 i) :: rest)) rest (Qc (Value.ref (K.1 i) :: As).toArray) free :=
  va_runV S hM (cwV n S.2.2.2.2 hg hw hrc hrs hd hR) ⟨pS_blind, vk_recv hZ.1.1 hi G.2.2.2.1, wd_preS0 G hZ⟩ rfl hn hsz rfl (lv_room hst) hdg hf
theorem n_SZ (S : CallFix p m c cc nL s args Ts own) (G : wd X B A s ws H locs) (hZ : sE K A s s.heap) (hM : Met l y wy rm (pS X K As [] H.size) Qc mc ms free) (hg : GoodIn Ts (va_wsS own index y wy)) (hw : wy = Cond.code y bytes maxL ret :: wy') (hrc : rm.cells = mc) (hrs : rm.slots = ms) (hd : y.cls ≠ "java/lang/invoke/MethodHandle" ∧ y.cls ≠ "java/lang/invoke/VarHandle" ∧ (parseMethodDescriptor y.desc).map (fun d => d.parameters.length) = some n) (hR : rm.frames + 1 ≤ R.frames ∧ 8 + (maxL + 11) + rm.locals ≤ R.locals) (hn : As.length = n) (hsz : ls.size = nL) (hst : (rest.map fun v => v.category).sum ≤ 8) (hdg : decode cc pc = .ok (.invokestatic index, 3)) (hf : cells + mc ≤ R.cells ∧ slots + ms ≤ R.slots) : va_Run p l e R s m args below meth c H locs cells slots mc ms (F0 m pc ls (As.reverse ++ rest)) rest (Qc As.toArray) free :=
  va_runS S hM (va_cwS n S.2.2.2.2 hg hw hrc hrs hd hR) ⟨pS_blind, wd_preS0 G hZ⟩ rfl hn hsz rfl (lv_room hst) hdg hf
end ERs
section ECs
variable {mc ms cells' slots' : Nat} {ag : Array Value} {st0 : List Value} {S0 : Type} {w1 : S0 → va_W} {fc wr : va_W}
end ECs
end EKs
theorem k_sl {i : Nat} (hi : i < 5) : sLen.getD i 0 ≤ 5 := by
  have : i = 0 ∨ i = 1 ∨ i = 2 ∨ i = 3 ∨ i = 4 := by omega
  rcases this with rfl | rfl | rfl | rfl | rfl <;> decide
-- ---- the library's own methods over such a word
theorem mj_cs : Cond.fieldLink RJ0 38 "java/lang/String" "COMPACT_STRINGS" "Z" ∈ wsJ0_coder_7d493 := by decide +kernel
theorem mj_cd : Cond.fieldLink RJ0 15 "java/lang/String" "coder" "B" ∈ wsJ0_coder_7d493 := by decide +kernel
set_option maxHeartbeats 4000000 in
set_option maxRecDepth 100000 in
theorem z_coder (l : Launch) (X : EX) (K : SK) (i : Nat) (hi : i < 5) (sz : Nat) : Met l yJ0_coder_7d493 wsJ0_coder_7d493 ({ frames := 0, cells := 0, slots := 0, locals := 0 } : Room) (pS X K [.ref (K.1 i)] [] sz) (qI (fun (r : Int32) (u : Unit) => r = 0) X (fun (u : Unit) => []) [] sz) 0 0 (va_A [] sz) := by
  refine mk_metS (B := (fun _ => True)) (A := (va_A [] sz)) (cc := cJ0_coder_7d493) (maxL := 1) (ret := (some .byte)) (by decide) rfl (Nat.le_of_ble_eq_true rfl) k_ro k_a (fun p e s m below meth c S zr zlk znm zsz G hZ ls hl => ?_)
  have S : CallFix p m c cJ0_coder_7d493 1 s _ wsJ0_coder_7d493 RJ0 := S
  have zx := S.1
  have zb := S.2.1
  have hl : lv_has ls 1 [(0, .ref (K.1 i))] := hl
  refine va_gets zx zb hZ.1.2.1 G.2.2.2.1 S.2.2.2.1 (S.2.2.2.2 _ mj_cs) (fun _ h => h) dJ0_coder_7d493_0 ?_
  refine lv_if_eq (tgt := 13) zx zb dJ0_coder_7d493_3 (by decide) (fun c_1 => absurd c_1 (by decide)) (fun c_1 => ?_)
  refine lv_aload_n zx zb dJ0_coder_7d493_6 rfl (lv_at hl 0 rfl) ?_
  refine vk_getf zx zb (hZ.1.1.1 i hi).2.1 G.2.2.2.1 S.2.2.2.1 (S.2.2.2.2 _ mj_cd) (fun _ h => h) dJ0_coder_7d493_7 ?_
  refine lv_goto (tgt := 14) zx zb dJ0_coder_7d493_10 (by decide) ?_
  exact e_int S zr zlk (by first | rfl | decide) G () [] rfl rfl (Or.inl rfl) rfl dJ0_coder_7d493_14
theorem mj_cs2 : Cond.fieldLink RJ0 38 "java/lang/String" "COMPACT_STRINGS" "Z" ∈ wsJ0_isLatin1_aae02 := by decide +kernel
theorem mj_cd2 : Cond.fieldLink RJ0 15 "java/lang/String" "coder" "B" ∈ wsJ0_isLatin1_aae02 := by decide +kernel
set_option maxHeartbeats 4000000 in
set_option maxRecDepth 100000 in
theorem z_isLatin1 (l : Launch) (X : EX) (K : SK) (i : Nat) (hi : i < 5) (sz : Nat) : Met l yJ0_isLatin1_aae02 wsJ0_isLatin1_aae02 ({ frames := 0, cells := 0, slots := 0, locals := 0 } : Room) (pS X K [.ref (K.1 i)] [] sz) (qI (fun (r : Int32) (u : Unit) => r = 1) X (fun (u : Unit) => []) [] sz) 0 0 (va_A [] sz) := by
  refine mk_metS (B := (fun _ => True)) (A := (va_A [] sz)) (cc := cJ0_isLatin1_aae02) (maxL := 1) (ret := (some .boolean)) (by decide) rfl (Nat.le_of_ble_eq_true rfl) k_ro k_a (fun p e s m below meth c S zr zlk znm zsz G hZ ls hl => ?_)
  have S : CallFix p m c cJ0_isLatin1_aae02 1 s _ wsJ0_isLatin1_aae02 RJ0 := S
  have zx := S.1
  have zb := S.2.1
  have hl : lv_has ls 1 [(0, .ref (K.1 i))] := hl
  refine va_gets zx zb hZ.1.2.1 G.2.2.2.1 S.2.2.2.1 (S.2.2.2.2 _ mj_cs2) (fun _ h => h) dJ0_isLatin1_aae02_0 ?_
  refine lv_if_eq (tgt := 17) zx zb dJ0_isLatin1_aae02_3 (by decide) (fun c_1 => absurd c_1 (by decide)) (fun c_1 => ?_)
  refine lv_aload_n zx zb dJ0_isLatin1_aae02_6 rfl (lv_at hl 0 rfl) ?_
  refine vk_getf zx zb (hZ.1.1.1 i hi).2.1 G.2.2.2.1 S.2.2.2.1 (S.2.2.2.2 _ mj_cd2) (fun _ h => h) dJ0_isLatin1_aae02_7 ?_
  refine lv_if_ne (tgt := 17) zx zb dJ0_isLatin1_aae02_10 (by decide) (fun c_2 => absurd (by decide) c_2) (fun c_2 => ?_)
  refine lv_iconst (v := 1) zx zb dJ0_isLatin1_aae02_13 (by decide) ?_
  refine lv_goto (tgt := 18) zx zb dJ0_isLatin1_aae02_14 (by decide) ?_
  exact e_int S zr zlk (by first | rfl | decide) G () [] rfl rfl (Or.inl rfl) rfl dJ0_isLatin1_aae02_18
theorem mj_va : Cond.fieldLink RJ0 9 "java/lang/String" "value" "[B" ∈ wsJ0_length_8abf5 := by decide +kernel
theorem hdV_J0_coder : yJ0_coder_7d493.cls = RJ0 ∧ yJ0_coder_7d493.cls ≠ "java/lang/invoke/MethodHandle" ∧ yJ0_coder_7d493.cls ≠ "java/lang/invoke/VarHandle" ∧ (parseMethodDescriptor yJ0_coder_7d493.desc).map (fun d => d.parameters.length) = some 0 := by decide +kernel
set_option maxHeartbeats 4000000 in
set_option maxRecDepth 100000 in
theorem z_length (l : Launch) (X : EX) (K : SK) (i : Nat) (hi : i < 5) (sz : Nat) : Met l yJ0_length_8abf5 wsJ0_length_8abf5 ({ frames := 1, cells := 0, slots := 0, locals := 20 } : Room) (pS X K [.ref (K.1 i)] [] sz) (qI (fun (r : Int32) (u : Unit) => r = nI (sLen.getD i 0)) X (fun (u : Unit) => []) [] sz) 0 0 (va_A [] sz) := by
  refine mk_metS (B := (fun _ => True)) (A := (va_A [] sz)) (cc := cJ0_length_8abf5) (maxL := 1) (ret := (some .int)) (by decide) rfl (Nat.le_of_ble_eq_true rfl) k_ro k_a (fun p e s m below meth c S zr zlk znm zsz G hZ ls hl => ?_)
  have S : CallFix p m c cJ0_length_8abf5 1 s _ wsJ0_length_8abf5 RJ0 := S
  have zx := S.1
  have zb := S.2.1
  have hl : lv_has ls 1 [(0, .ref (K.1 i))] := hl
  refine lv_aload_n zx zb dJ0_length_8abf5_0 rfl (lv_at hl 0 rfl) ?_
  refine vk_getf zx zb (hZ.1.1.1 i hi).2.2.1 G.2.2.2.1 S.2.2.2.1 (S.2.2.2.2 _ mj_va) (fun _ h => h) dJ0_length_8abf5_1 ?_
  refine va_tlen (v := nI (sLen.getD i 0)) zx zb (hZ.1.1.1 i hi).2.2.2 G.2.2.2.1 rfl dJ0_length_8abf5_4 ?_
  refine lv_aload_n zx zb dJ0_length_8abf5_5 rfl (lv_at hl 0 rfl) ?_
  refine o_ri (cells' := 0) (slots' := 0) G rfl rfl (n_VZ (As := []) (rest := [.int (nI (sLen.getD i 0))]) S G hZ (z_coder l X K i hi s.heap.size) gJ0_length_8abf5_J0_coder_7d493 rfl rfl rfl hdV_J0_coder ⟨Nat.le_of_ble_eq_true rfl, Nat.le_of_ble_eq_true rfl⟩ hi rfl hl.1 (Nat.le_of_ble_eq_true rfl) dJ0_length_8abf5_6 ⟨Nat.le_of_ble_eq_true rfl, Nat.le_of_ble_eq_true rfl⟩) (fun r_1 u_1 H locs hp_1 G => ?_)
  obtain rfl := hp_1
  refine lv_ishr zx zb dJ0_length_8abf5_9 ?_
  refine k_it (sc_shr0 (by have := k_sl hi; omega)) ?_
  exact e_int S zr zlk (vp_nar_int _) G () [] rfl rfl (Or.inl rfl) rfl dJ0_length_8abf5_10
-- ---- an index within
set_option maxHeartbeats 4000000 in
set_option maxRecDepth 100000 in
theorem z_check3n (l : Launch) (X : EX) (K : SK) (k n : Nat) (hk : k < n) (hn : n < 2 ^ 31) (sz : Nat) : Met l yJ3_checkIndex_8e157 wsJ3_checkIndex_8e157 ({ frames := 0, cells := 0, slots := 0, locals := 0 } : Room) (pS X K [.int (nI k), .int (nI n), .null] [] sz) (qI (fun (r : Int32) (u : Unit) => True) X (fun (u : Unit) => []) [] sz) 0 0 (va_A [] sz) := by
  refine mk_metS (B := (fun _ => True)) (A := (va_A [] sz)) (cc := cJ3_checkIndex_8e157) (maxL := 3) (ret := (some .int)) (by decide) rfl (Nat.le_of_ble_eq_true rfl) k_ro k_a (fun p e s m below meth c S zr zlk znm zsz G hZ ls hl => ?_)
  have S : CallFix p m c cJ3_checkIndex_8e157 3 s _ wsJ3_checkIndex_8e157 RJ3 := S
  have zx := S.1
  have zb := S.2.1
  have hl : lv_has ls 3 [(0, .int (nI k)), (1, .int (nI n)), (2, .null)] := hl
  refine lv_iload_n zx zb dJ3_checkIndex_8e157_0 rfl (lv_at hl 0 rfl) ?_
  refine lv_if_lt (tgt := 9) zx zb dJ3_checkIndex_8e157_1 (by decide) (fun c_1 => absurd c_1 (nI_pos (by omega))) (fun c_1 => ?_)
  refine lv_iload_n zx zb dJ3_checkIndex_8e157_4 rfl (lv_at hl 0 rfl) ?_
  refine lv_iload_n zx zb dJ3_checkIndex_8e157_5 rfl (lv_at hl 1 rfl) ?_
  refine lv_icmp_lt (tgt := 16) zx zb dJ3_checkIndex_8e157_6 (by decide) (fun c_2 => ?_) (fun c_2 => absurd ((nI_ltI (by omega) hn).mpr hk) c_2)
  refine lv_iload_n zx zb dJ3_checkIndex_8e157_16 rfl (lv_at hl 0 rfl) ?_
  exact e_int S zr zlk (vp_nar_int _) G () [] rfl rfl (Or.inl rfl) trivial dJ3_checkIndex_8e157_17
set_option maxHeartbeats 4000000 in
set_option maxRecDepth 100000 in
theorem z_check3r (l : Launch) (X : EX) (K : SK) (k n t : Nat) (hk : k < n) (hn : n < 2 ^ 31) (sz : Nat) : Met l yJ3_checkIndex_8e157 wsJ3_checkIndex_8e157 ({ frames := 0, cells := 0, slots := 0, locals := 0 } : Room) (pS X K [.int (nI k), .int (nI n), .ref t] [] sz) (qI (fun (r : Int32) (u : Unit) => True) X (fun (u : Unit) => []) [] sz) 0 0 (va_A [] sz) := by
  refine mk_metS (B := (fun _ => True)) (A := (va_A [] sz)) (cc := cJ3_checkIndex_8e157) (maxL := 3) (ret := (some .int)) (by decide) rfl (Nat.le_of_ble_eq_true rfl) k_ro k_a (fun p e s m below meth c S zr zlk znm zsz G hZ ls hl => ?_)
  have S : CallFix p m c cJ3_checkIndex_8e157 3 s _ wsJ3_checkIndex_8e157 RJ3 := S
  have zx := S.1
  have zb := S.2.1
  have hl : lv_has ls 3 [(0, .int (nI k)), (1, .int (nI n)), (2, .ref t)] := hl
  refine lv_iload_n zx zb dJ3_checkIndex_8e157_0 rfl (lv_at hl 0 rfl) ?_
  refine lv_if_lt (tgt := 9) zx zb dJ3_checkIndex_8e157_1 (by decide) (fun c_1 => absurd c_1 (nI_pos (by omega))) (fun c_1 => ?_)
  refine lv_iload_n zx zb dJ3_checkIndex_8e157_4 rfl (lv_at hl 0 rfl) ?_
  refine lv_iload_n zx zb dJ3_checkIndex_8e157_5 rfl (lv_at hl 1 rfl) ?_
  refine lv_icmp_lt (tgt := 16) zx zb dJ3_checkIndex_8e157_6 (by decide) (fun c_2 => ?_) (fun c_2 => absurd ((nI_ltI (by omega) hn).mpr hk) c_2)
  refine lv_iload_n zx zb dJ3_checkIndex_8e157_16 rfl (lv_at hl 0 rfl) ?_
  exact e_int S zr zlk (vp_nar_int _) G () [] rfl rfl (Or.inl rfl) trivial dJ3_checkIndex_8e157_17
theorem mj_fo : Cond.fieldLink RJ0 1053 "jdk/internal/util/Preconditions" "SIOOBE_FORMATTER" "Ljava/util/function/BiFunction;" ∈ wsJ0_checkIndex_df160 := by decide +kernel
theorem hdS_J3_check : yJ3_checkIndex_8e157.cls ≠ "java/lang/invoke/MethodHandle" ∧ yJ3_checkIndex_8e157.cls ≠ "java/lang/invoke/VarHandle" ∧ (parseMethodDescriptor yJ3_checkIndex_8e157.desc).map (fun d => d.parameters.length) = some 3 := by decide +kernel
set_option maxHeartbeats 4000000 in
set_option maxRecDepth 100000 in
theorem z_check0 (l : Launch) (X : EX) (K : SK) (k n : Nat) (hk : k < n) (hn : n < 2 ^ 31) (sz : Nat) : Met l yJ0_checkIndex_df160 wsJ0_checkIndex_df160 ({ frames := 1, cells := 0, slots := 0, locals := 22 } : Room) (pS X K [.int (nI k), .int (nI n)] [] sz) (qV (fun (u : Unit) => True) X (fun (u : Unit) => []) [] sz) 0 0 (va_A [] sz) := by
  refine mk_metS (B := (fun _ => True)) (A := (va_A [] sz)) (cc := cJ0_checkIndex_df160) (maxL := 2) (ret := none) (by decide) rfl (Nat.le_of_ble_eq_true rfl) k_ro k_a (fun p e s m below meth c S zr zlk znm zsz G hZ ls hl => ?_)
  have S : CallFix p m c cJ0_checkIndex_df160 2 s _ wsJ0_checkIndex_df160 RJ0 := S
  have zx := S.1
  have zb := S.2.1
  have hl : lv_has ls 2 [(0, .int (nI k)), (1, .int (nI n))] := hl
  refine lv_iload_n zx zb dJ0_checkIndex_df160_0 rfl (lv_at hl 0 rfl) ?_
  refine lv_iload_n zx zb dJ0_checkIndex_df160_1 rfl (lv_at hl 1 rfl) ?_
  rcases hZ.1.2.2 with hF | ⟨t, hF⟩
  · refine va_gets zx zb hF G.2.2.2.1 S.2.2.2.1 (S.2.2.2.2 _ mj_fo) (fun _ h => h) dJ0_checkIndex_df160_2 ?_
    refine o_ri (cells' := 0) (slots' := 0) G rfl rfl (n_SZ (As := [.int (nI k), .int (nI n), .null]) (rest := []) S G hZ (z_check3n l X K k n hk hn s.heap.size) gJ0_checkIndex_df160_J3_checkIndex_8e157 rfl rfl rfl hdS_J3_check ⟨Nat.le_of_ble_eq_true rfl, Nat.le_of_ble_eq_true rfl⟩ rfl hl.1 (Nat.le_of_ble_eq_true rfl) dJ0_checkIndex_df160_5 ⟨Nat.le_of_ble_eq_true rfl, Nat.le_of_ble_eq_true rfl⟩) (fun r_1 u_1 H locs hp_1 G => ?_)
    refine lv_pop zx zb dJ0_checkIndex_df160_8 rfl ?_
    exact e_void S zr zlk G () [] rfl rfl (Or.inl rfl) trivial dJ0_checkIndex_df160_9
  · refine va_gets zx zb hF G.2.2.2.1 S.2.2.2.1 (S.2.2.2.2 _ mj_fo) (fun _ h => h) dJ0_checkIndex_df160_2 ?_
    refine o_ri (cells' := 0) (slots' := 0) G rfl rfl (n_SZ (As := [.int (nI k), .int (nI n), .ref t]) (rest := []) S G hZ (z_check3r l X K k n t hk hn s.heap.size) gJ0_checkIndex_df160_J3_checkIndex_8e157 rfl rfl rfl hdS_J3_check ⟨Nat.le_of_ble_eq_true rfl, Nat.le_of_ble_eq_true rfl⟩ rfl hl.1 (Nat.le_of_ble_eq_true rfl) dJ0_checkIndex_df160_5 ⟨Nat.le_of_ble_eq_true rfl, Nat.le_of_ble_eq_true rfl⟩) (fun r_1 u_1 H locs hp_1 G => ?_)
    refine lv_pop zx zb dJ0_checkIndex_df160_8 rfl ?_
    exact e_void S zr zlk G () [] rfl rfl (Or.inl rfl) trivial dJ0_checkIndex_df160_9
theorem hdS_J0_check : yJ0_checkIndex_df160.cls ≠ "java/lang/invoke/MethodHandle" ∧ yJ0_checkIndex_df160.cls ≠ "java/lang/invoke/VarHandle" ∧ (parseMethodDescriptor yJ0_checkIndex_df160.desc).map (fun d => d.parameters.length) = some 2 := by decide +kernel
set_option maxHeartbeats 4000000 in
set_option maxRecDepth 100000 in
theorem z_charAt1 (l : Launch) (X : EX) (K : SK) (i k : Nat) (hi : i < 5) (hk : k < sLen.getD i 0) (sz : Nat) : Met l yJ1_charAt_3b067 wsJ1_charAt_3b067 ({ frames := 2, cells := 0, slots := 0, locals := 43 } : Room) (pS X K [.ref (K.2 i), .int (nI k)] [] sz) (qI (fun (r : Int32) (u : Unit) => r = (sByt.getD i []).getD k 0 &&& 255) X (fun (u : Unit) => []) [] sz) 0 0 (va_A [] sz) := by
  refine mk_metS (B := (fun _ => True)) (A := (va_A [] sz)) (cc := cJ1_charAt_3b067) (maxL := 2) (ret := (some .char)) (by decide) rfl (Nat.le_of_ble_eq_true rfl) k_ro k_a (fun p e s m below meth c S zr zlk znm zsz G hZ ls hl => ?_)
  have S : CallFix p m c cJ1_charAt_3b067 2 s _ wsJ1_charAt_3b067 RJ1 := S
  have zx := S.1
  have zb := S.2.1
  have h5 := k_sl hi
  have hl : lv_has ls 2 [(0, .ref (K.2 i)), (1, .int (nI k))] := hl
  refine lv_iload_n zx zb dJ1_charAt_3b067_0 rfl (lv_at hl 1 rfl) ?_
  refine lv_aload_n zx zb dJ1_charAt_3b067_1 rfl (lv_at hl 0 rfl) ?_
  refine va_tlen (v := nI (sLen.getD i 0)) zx zb (hZ.1.1.1 i hi).2.2.2 G.2.2.2.1 rfl dJ1_charAt_3b067_2 ?_
  refine o_rv (cells' := 0) (slots' := 0) G rfl rfl (n_SZ (As := [.int (nI k), .int (nI (sLen.getD i 0))]) (rest := []) S G hZ (z_check0 l X K k (sLen.getD i 0) hk (by omega) s.heap.size) gJ1_charAt_3b067_J0_checkIndex_df160 rfl rfl rfl hdS_J0_check ⟨Nat.le_of_ble_eq_true rfl, Nat.le_of_ble_eq_true rfl⟩ rfl hl.1 (Nat.le_of_ble_eq_true rfl) dJ1_charAt_3b067_3 ⟨Nat.le_of_ble_eq_true rfl, Nat.le_of_ble_eq_true rfl⟩) (fun u_1 H locs hp_1 G => ?_)
  refine lv_aload_n zx zb dJ1_charAt_3b067_6 rfl (lv_at hl 0 rfl) ?_
  refine lv_iload_n zx zb dJ1_charAt_3b067_7 rfl (lv_at hl 1 rfl) ?_
  refine va_tb (v := .int ((sByt.getD i []).getD k 0)) zx zb (hZ.1.1.1 i hi).2.2.2 G.2.2.2.1 (vp_in_nI hk (by omega)) (by rw [nI_clamp (by omega)]) dJ1_charAt_3b067_8 ?_
  refine lv_sipush (v := 255) zx zb dJ1_charAt_3b067_9 (by decide) ?_
  refine lv_iand zx zb dJ1_charAt_3b067_12 ?_
  refine lv_i2c (v := (sByt.getD i []).getD k 0 &&& 255) zx zb dJ1_charAt_3b067_13 (sc_c2 _) ?_
  exact e_int S zr zlk (sc_nar _) G () [] rfl rfl (Or.inl rfl) rfl dJ1_charAt_3b067_14
theorem mj_va2 : Cond.fieldLink RJ0 9 "java/lang/String" "value" "[B" ∈ wsJ0_charAt_5068e := by decide +kernel
theorem hdV_J0_isLatin1 : yJ0_isLatin1_aae02.cls = RJ0 ∧ yJ0_isLatin1_aae02.cls ≠ "java/lang/invoke/MethodHandle" ∧ yJ0_isLatin1_aae02.cls ≠ "java/lang/invoke/VarHandle" ∧ (parseMethodDescriptor yJ0_isLatin1_aae02.desc).map (fun d => d.parameters.length) = some 0 := by decide +kernel
theorem hdS_J1_charAt : yJ1_charAt_3b067.cls ≠ "java/lang/invoke/MethodHandle" ∧ yJ1_charAt_3b067.cls ≠ "java/lang/invoke/VarHandle" ∧ (parseMethodDescriptor yJ1_charAt_3b067.desc).map (fun d => d.parameters.length) = some 2 := by decide +kernel
set_option maxHeartbeats 4000000 in
set_option maxRecDepth 100000 in
theorem z_charAt (l : Launch) (X : EX) (K : SK) (i k : Nat) (hi : i < 5) (hk : k < sLen.getD i 0) (sz : Nat) : Met l yJ0_charAt_5068e wsJ0_charAt_5068e ({ frames := 3, cells := 0, slots := 0, locals := 64 } : Room) (pS X K [.ref (K.1 i), .int (nI k)] [] sz) (qI (fun (r : Int32) (u : Unit) => r = (sByt.getD i []).getD k 0 &&& 255) X (fun (u : Unit) => []) [] sz) 0 0 (va_A [] sz) := by
  refine mk_metS (B := (fun _ => True)) (A := (va_A [] sz)) (cc := cJ0_charAt_5068e) (maxL := 2) (ret := (some .char)) (by decide) rfl (Nat.le_of_ble_eq_true rfl) k_ro k_a (fun p e s m below meth c S zr zlk znm zsz G hZ ls hl => ?_)
  have S : CallFix p m c cJ0_charAt_5068e 2 s _ wsJ0_charAt_5068e RJ0 := S
  have zx := S.1
  have zb := S.2.1
  have hl : lv_has ls 2 [(0, .ref (K.1 i)), (1, .int (nI k))] := hl
  refine lv_aload_n zx zb dJ0_charAt_5068e_0 rfl (lv_at hl 0 rfl) ?_
  refine o_ri (cells' := 0) (slots' := 0) G rfl rfl (n_VZ (As := []) (rest := []) S G hZ (z_isLatin1 l X K i hi s.heap.size) gJ0_charAt_5068e_J0_isLatin1_aae02 rfl rfl rfl hdV_J0_isLatin1 ⟨Nat.le_of_ble_eq_true rfl, Nat.le_of_ble_eq_true rfl⟩ hi rfl hl.1 (Nat.le_of_ble_eq_true rfl) dJ0_charAt_5068e_1 ⟨Nat.le_of_ble_eq_true rfl, Nat.le_of_ble_eq_true rfl⟩) (fun r_1 u_1 H locs hp_1 G => ?_)
  obtain rfl := hp_1
  refine lv_if_eq (tgt := 16) zx zb dJ0_charAt_5068e_4 (by decide) (fun c_1 => absurd c_1 (by decide)) (fun c_1 => ?_)
  refine lv_aload_n zx zb dJ0_charAt_5068e_7 rfl (lv_at hl 0 rfl) ?_
  refine vk_getf zx zb (hZ.1.1.1 i hi).2.2.1 G.2.2.2.1 S.2.2.2.1 (S.2.2.2.2 _ mj_va2) (fun _ h => h) dJ0_charAt_5068e_8 ?_
  refine lv_iload_n zx zb dJ0_charAt_5068e_11 rfl (lv_at hl 1 rfl) ?_
  refine o_ri (cells' := 0) (slots' := 0) G rfl rfl (n_SZ (As := [.ref (K.2 i), .int (nI k)]) (rest := []) S G hZ (z_charAt1 l X K i k hi hk H.size) gJ0_charAt_5068e_J1_charAt_3b067 rfl rfl rfl hdS_J1_charAt ⟨Nat.le_of_ble_eq_true rfl, Nat.le_of_ble_eq_true rfl⟩ rfl hl.1 (Nat.le_of_ble_eq_true rfl) dJ0_charAt_5068e_12 ⟨Nat.le_of_ble_eq_true rfl, Nat.le_of_ble_eq_true rfl⟩) (fun r_2 u_2 H locs hp_2 G => ?_)
  obtain rfl := hp_2
  exact e_int S zr zlk (sc_nar _) G () [] rfl rfl (Or.inl rfl) rfl dJ0_charAt_5068e_15
