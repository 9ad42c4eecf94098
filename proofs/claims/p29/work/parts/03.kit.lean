/-! the worlds of this class: one environment, one form of contract, one row an instruction -/
abbrev EX : Type := va_G × (ClassId × (ClassId × (ClassId × ClassId)))
abbrev ex_T (X : EX) : List (ClassId × FieldType) := [(X.2.1, .int), (X.2.2.1, .boolean), (X.2.2.2.1, .object RX5), (X.2.2.2.2, .object RX8)]
/-- what holds of the launch's tables all along: classes, array classes, links between nest mates -/
def ev (X : EX) (U : State) : Prop := va_K X.1 vwCl (ex_T X) U ∧ va_AO RX5 U ∧ va_AO RX8 U ∧ va_Nw (.fieldLinkNest RX10 103 "EggSpoons$Reader" "length" "I" "EggSpoons") U ∧ va_Nw (.methodLinkNest RX10 29 yX6_init "EggSpoons") U ∧ va_Nw (.methodLinkNest RX10 47 yX8_init "EggSpoons") U ∧ va_Nw (.methodLinkNest RX10 57 yX9_init "EggSpoons") U ∧ va_Nw (.methodLinkNest RX10 64 yX3_init "EggSpoons") U ∧ va_Nw (.methodLinkNest RX10 71 yX0_init "EggSpoons") U ∧ va_Nw (.methodLinkNest RX5 29 yX4_init "EggSpoons") U ∧ va_Nw (.methodLinkNest RX5 49 yX8_init "EggSpoons") U ∧ va_Nw (.methodLinkNest RX10 243 yX3_ways "EggSpoons") U
theorem ev_warm {X : EX} {s U : State} (h : ev X s) (hW : s.WarmedH U.vm) : ev X U := by
  obtain ⟨h1, h2, h3, h4, h5, h6, h7, h8, h9, h10, h11, h12⟩ := h
  exact ⟨va_K.moved hW.alike h1, h2.moved hW.alike, h3.moved hW.alike, va_Nw.warmF hW h4, va_Nw.warmM hW h5, va_Nw.warmM hW h6, va_Nw.warmM hW h7, va_Nw.warmM hW h8, va_Nw.warmM hW h9, va_Nw.warmM hW h10, va_Nw.warmM hW h11, va_Nw.warmM hW h12⟩
theorem ev_call {X : EX} {U : State} {g : JFrame} {mk : MethodId} {a : Array Value} (h : ev X U) : ev X (U.calling g mk a) := by
  obtain ⟨h1, h2, h3, h4, h5, h6, h7, h8, h9, h10, h11, h12⟩ := h
  exact ⟨va_K.moved (u := U) (U := U.calling g mk a) (Vm.Alike.refl U.vm) h1, va_AO.moved (u := U) (U := U.calling g mk a) (Vm.Alike.refl U.vm) h2, va_AO.moved (u := U) (U := U.calling g mk a) (Vm.Alike.refl U.vm) h3, va_Nw.same rfl (rfl : U.vm = (U.calling g mk a).vm) h4, va_Nw.same rfl (rfl : U.vm = (U.calling g mk a).vm) h5, va_Nw.same rfl (rfl : U.vm = (U.calling g mk a).vm) h6, va_Nw.same rfl (rfl : U.vm = (U.calling g mk a).vm) h7, va_Nw.same rfl (rfl : U.vm = (U.calling g mk a).vm) h8, va_Nw.same rfl (rfl : U.vm = (U.calling g mk a).vm) h9, va_Nw.same rfl (rfl : U.vm = (U.calling g mk a).vm) h10, va_Nw.same rfl (rfl : U.vm = (U.calling g mk a).vm) h11, va_Nw.same rfl (rfl : U.vm = (U.calling g mk a).vm) h12⟩
/-- the world at a point of a walk: the cells ws, apart and of kind B; nothing outside A has changed since the entry -/
def wd (X : EX) (B A : Nat → Prop) (s : State) (ws : va_W) (H : Heap) (locs : List Loc) : Prop := ev X s ∧ va_P X.1 vwCl ws H ∧ va_D B ws ∧ va_S A s.heap H locs ∧ ∀ q, s.heap.size ≤ q → A q
/-- a contract's start -/
def pE (X : EX) (av : List Value) (ws : va_W) (sz : Nat) : Array Value → State → Prop := va_Pc av (fun U => U.heap.size = sz ∧ va_P X.1 vwCl ws U.heap ∧ ev X U ∧ va_D (fun _ => True) ws)
/-- a contract's end: the answer, the cells that come back; fc are the cells that may have been written -/
abbrev qI {S : Type} (post : Int32 → S → Prop) (X : EX) (w1 : S → va_W) (fc : va_W) (sz : Nat) : Array Value → State → Outcome → State → Prop := va_Qi post (fun u t => va_P X.1 vwCl (w1 u) t.heap ∧ va_D (va_A fc sz) (w1 u)) (va_A fc sz)
abbrev qL {S : Type} (post : Int64 → S → Prop) (X : EX) (w1 : S → va_W) (fc : va_W) (sz : Nat) : Array Value → State → Outcome → State → Prop := va_Ql post (fun u t => va_P X.1 vwCl (w1 u) t.heap ∧ va_D (va_A fc sz) (w1 u)) (va_A fc sz)
abbrev qV {S : Type} (post : S → Prop) (X : EX) (w1 : S → va_W) (fc : va_W) (sz : Nat) : Array Value → State → Outcome → State → Prop := va_Qv post (fun u t => va_P X.1 vwCl (w1 u) t.heap ∧ va_D (va_A fc sz) (w1 u)) (va_A fc sz)
theorem pE_blind {X : EX} {av : List Value} {ws : va_W} {sz : Nat} : FrameBlind (pE X av ws sz) := fun a U g mk q => by
  obtain ⟨q0, q1, qP, qE, qD⟩ := q
  exact ⟨q0, q1, qP, ev_call qE, qD⟩
theorem mp_fm {ws wc : va_W} {is : List Nat} (hs : is.map (fun i => ws[i]?) = wc.map some) : is.filterMap (fun i => ws[i]?) = wc := by
  have h := congrArg (List.filterMap (fun x => x)) hs
  rw [List.filterMap_map, List.filterMap_map] at h
  have h2 : List.filterMap ((fun x => x) ∘ some) wc = wc := List.filterMap_some
  rw [h2] at h
  exact h
theorem wd_pre {X : EX} {B A : Nat → Prop} {s : State} {ws wc : va_W} {H : Heap} {locs : List Loc} {As : List Value} (G : wd X B A s ws H locs) (is : List Nat) (hs : is.map (fun i => ws[i]?) = wc.map some) (hn : va_nd is = true) : ∀ U : State, U.heap = H → s.WarmedH U.vm → pE X As wc H.size As.toArray U := fun U hU hW =>
  ⟨rfl, by rw [hU], by rw [hU]; exact G.2.1.sub is (mp_fm hs), ev_warm G.1 hW, (G.2.2.1.sub is hn hs).weaken (fun _ _ _ _ => trivial)⟩
section EK
variable {p : Program} {l : Launch} {e : Env} {R : Room} {s : State} {m : MethodId} {args : Array Value} {below : List Frame} {meth : Method} {c : Code} {H : Heap} {locs : List Loc} {cells slots : Nat} {Q : State → Prop}
variable {cc : ByteArray} {pc nL : Nat} {ls : Array Slot} {rest : List Value} {X : EX} {A B : Nat → Prop} {a : Nat} {ws : va_W} {Ts : List Cond} {own : String}
theorem mk_met {y : MethodName} {wy wy' : List Cond} {rm : Room} {av : List Value} {ce : va_W} {sz : Nat} {Qc : Array Value → State → Outcome → State → Prop} {mc ms maxL : Nat} {free : Addr → Prop} {ret : Option FieldType} (hy : plainName y.cls = true) (hw : wy = Cond.code y cc maxL ret :: wy') (hlen : (lg_sl av).length ≤ maxL) (hB : va_D (fun _ => True) ce → va_D B ce) (hA : ∀ q, sz ≤ q → A q)
    (body : ∀ (p : Program) (e : Env) (s : State) (m : MethodId) (below : List Frame) (meth : Method) (c : Code), CallFix p m c cc maxL s av.toArray wy y.cls → meth.sig.returnType = ret → meth.locks = false → meth.name = y.name → s.heap.size = sz → wd X B A s ce s.heap [] → ∀ ls : Array Slot, lv_has ls maxL (lv_args 0 av) → W p l e rm s m av.toArray below meth c s.heap [] 0 0 (MQ below Qc av.toArray s mc ms free) (F0 m 0 ls [])) : Met l y wy rm (pE X av ce sz) Qc mc ms free := by
  refine Met.ofW (cc := cc) (maxL := maxL) (ret := ret) hy hw ?_
  intro p e s m args below meth c s₁ Bd hml hv
  obtain ⟨rfl, hsz, hP, hE, hD0⟩ := hv
  have hown : s.vm.findClass y.cls = some m.cls := findClass_of_methodNamed Bd.named
  have hl := lv_entry av hlen
  rw [lg_entry_eq]
  exact body p e s m below meth c ⟨Bd.exec, Bd.bytes, hml, hown, atoms_spec (ws := wy) Bd.pre⟩ Bd.returns Bd.notSynchronized (name_of_methodNamed Bd.named Bd.method).1 hsz ⟨hE, hP, hB hD0, va_S.rf, fun q h => hA q (by rw [← hsz]; exact h)⟩ _ hl
theorem k_ro {ce : va_W} : va_D (fun _ => True) ce → va_D (fun _ => True) ce := fun h => h
theorem k_w {ce : va_W} {sz : Nat} : va_D (fun _ => True) ce → va_D (va_A ce sz) ce := fun h => h.self
theorem k_a {ce : va_W} {sz : Nat} : ∀ q, sz ≤ q → va_A ce sz q := fun _ h => Or.inr h
-- fields
theorem r_get {C : String} {T : u_T} {N ci index : Nat} (S : CallFix p m c cc nL s args Ts own) (hin : ∀ w ∈ u_ws C T N, w ∈ Ts) (G : wd X B A s ws H locs) (q0 : Nat) {fs : List Value} (he : ws[q0]? = some (a, .inr (ci, fs))) (hc : vwCl[ci]? = some (C, T, N)) (k : Nat) (hk : k < N) (hlink : Cond.fieldLink own index (T k).1 (T k).2.1 (T k).2.2.1 ∈ Ts) {v : Value} (hv : fs[k]? = some v) (hdg : decode cc pc = .ok (.getfield index, 3))
    (kk : W p l e R s m args below meth c H locs cells slots Q (F0 m (pc + 3) ls (v :: rest))) : W p l e R s m args below meth c H locs cells slots Q (F0 m pc ls (.ref a :: rest)) :=
  va_get S.1 S.2.1 S.2.2.2.2 hin S.2.2.2.1 G.1.1 G.2.1 q0 he hc k hk (S.2.2.2.2 _ hlink) (fun _ h => h) hv hdg kk
theorem r_getN {C host : String} {T : u_T} {N ci index : Nat} (S : CallFix p m c cc nL s args Ts own) (hin : ∀ w ∈ u_ws C T N, w ∈ Ts) (G : wd X B A s ws H locs) (q0 : Nat) {fs : List Value} (he : ws[q0]? = some (a, .inr (ci, fs))) (hc : vwCl[ci]? = some (C, T, N)) (k : Nat) (hk : k < N) (hlink : va_Nw (Cond.fieldLinkNest own index (T k).1 (T k).2.1 (T k).2.2.1 host) s) {v : Value} (hv : fs[k]? = some v) (hdg : decode cc pc = .ok (.getfield index, 3))
    (kk : W p l e R s m args below meth c H locs cells slots Q (F0 m (pc + 3) ls (v :: rest))) : W p l e R s m args below meth c H locs cells slots Q (F0 m pc ls (.ref a :: rest)) :=
  va_getN S.1 S.2.1 S.2.2.2.2 hin S.2.2.2.1 G.1.1 G.2.1 q0 he hc k hk (va_Nw.use rfl hlink) (fun _ h => h) hv hdg kk
theorem r_put {C : String} {T : u_T} {N ci index : Nat} (S : CallFix p m c cc nL s args Ts own) (hin : ∀ w ∈ u_ws C T N, w ∈ Ts) {ty0 : Nat → FieldType} (hty : ∀ k, k < N → parseFieldDescriptor (T k).2.2.1 = some (ty0 k)) (hnm : ∀ a, a < N → ∀ b, b < N → a ≠ b → (T a).2.1 ≠ (T b).2.1) (G : wd X A A s ws H locs) (q0 : Nat) {fs : List Value} (he : ws[q0]? = some (a, .inr (ci, fs))) (hc : vwCl[ci]? = some (C, T, N)) (k : Nat) (hk : k < N) (hlink : Cond.fieldLink own index (T k).1 (T k).2.1 (T k).2.2.1 ∈ Ts) (hfin : (T k).2.2.2 = false) {v : Value} (hn : narrow (ty0 k) v = v) (hfit : fits (ty0 k) v = true) (hl : k < fs.length) (hdg : decode cc pc = .ok (.putfield index, 3))
    (kk : ∀ (H1 : Heap) (locs1 : List Loc), wd X A A s (ws.set q0 (a, .inr (ci, fs.set k v))) H1 locs1 → W p l e R s m args below meth c H1 locs1 cells slots Q (F0 m (pc + 3) ls rest)) : W p l e R s m args below meth c H locs cells slots Q (F0 m pc ls (v :: .ref a :: rest)) :=
  va_put S.1 S.2.1 S.2.2.2.2 hin ty0 hty hnm S.2.2.2.1 G.1.1 G.2.1 G.2.2.1 G.2.2.2.1 q0 he hc k hk (S.2.2.2.2 _ hlink) (fun _ h => h) hfin (hty k hk) hn hfit hl hdg (fun H1 locs1 h1 h2 h3 => kk H1 locs1 ⟨G.1, h1, h2, h3, G.2.2.2.2⟩)
theorem r_putN {C host : String} {T : u_T} {N ci index : Nat} (S : CallFix p m c cc nL s args Ts own) (hin : ∀ w ∈ u_ws C T N, w ∈ Ts) {ty0 : Nat → FieldType} (hty : ∀ k, k < N → parseFieldDescriptor (T k).2.2.1 = some (ty0 k)) (hnm : ∀ a, a < N → ∀ b, b < N → a ≠ b → (T a).2.1 ≠ (T b).2.1) (G : wd X A A s ws H locs) (q0 : Nat) {fs : List Value} (he : ws[q0]? = some (a, .inr (ci, fs))) (hc : vwCl[ci]? = some (C, T, N)) (k : Nat) (hk : k < N) (hlink : va_Nw (Cond.fieldLinkNest own index (T k).1 (T k).2.1 (T k).2.2.1 host) s) (hfin : (T k).2.2.2 = false) {v : Value} (hn : narrow (ty0 k) v = v) (hfit : fits (ty0 k) v = true) (hl : k < fs.length) (hdg : decode cc pc = .ok (.putfield index, 3))
    (kk : ∀ (H1 : Heap) (locs1 : List Loc), wd X A A s (ws.set q0 (a, .inr (ci, fs.set k v))) H1 locs1 → W p l e R s m args below meth c H1 locs1 cells slots Q (F0 m (pc + 3) ls rest)) : W p l e R s m args below meth c H locs cells slots Q (F0 m pc ls (v :: .ref a :: rest)) :=
  va_putN S.1 S.2.1 S.2.2.2.2 hin ty0 hty hnm S.2.2.2.1 G.1.1 G.2.1 G.2.2.1 G.2.2.2.1 q0 he hc k hk (va_Nw.use rfl hlink) (fun _ h => h) hfin (hty k hk) hn hfit hl hdg (fun H1 locs1 h1 h2 h3 => kk H1 locs1 ⟨G.1, h1, h2, h3, G.2.2.2.2⟩)
theorem r_putF {C : String} {T : u_T} {N ci index : Nat} (S : CallFix p m c cc nL s args Ts own) (hin : ∀ w ∈ u_ws C T N, w ∈ Ts) {ty0 : Nat → FieldType} (hty : ∀ k, k < N → parseFieldDescriptor (T k).2.2.1 = some (ty0 k)) (hnm : ∀ a, a < N → ∀ b, b < N → a ≠ b → (T a).2.1 ≠ (T b).2.1) (G : wd X A A s ws H locs) (q0 : Nat) {fs : List Value} (he : ws[q0]? = some (a, .inr (ci, fs))) (hc : vwCl[ci]? = some (C, T, N)) (k : Nat) (hk : k < N) (hlink : Cond.fieldLink own index (T k).1 (T k).2.1 (T k).2.2.1 ∈ Ts) (hfin : (T k).2.2.2 = true) (hin2 : meth.name = "<init>") (hdecl : (T k).1 = own) {v : Value} (hn : narrow (ty0 k) v = v) (hfit : fits (ty0 k) v = true) (hl : k < fs.length) (hdg : decode cc pc = .ok (.putfield index, 3))
    (kk : ∀ (H1 : Heap) (locs1 : List Loc), wd X A A s (ws.set q0 (a, .inr (ci, fs.set k v))) H1 locs1 → W p l e R s m args below meth c H1 locs1 cells slots Q (F0 m (pc + 3) ls rest)) : W p l e R s m args below meth c H locs cells slots Q (F0 m pc ls (v :: .ref a :: rest)) :=
  va_putF S.1 S.2.1 S.2.2.2.2 hin ty0 hty hnm S.2.2.2.1 G.1.1 G.2.1 G.2.2.1 G.2.2.2.1 q0 he hc k hk (S.2.2.2.2 _ hlink) (fun _ h => h) hfin hin2 hdecl (hty k hk) hn hfit hl hdg (fun H1 locs1 h1 h2 h3 => kk H1 locs1 ⟨G.1, h1, h2, h3, G.2.2.2.2⟩)
-- arrays
theorem r_iald (S : CallFix p m c cc nL s args Ts own) (G : wd X B A s ws H locs) (q0 : Nat) {n : Nat} {f : Nat → Int32} (ha : ws[q0]? = some (a, .inl (X.2.1, n, .inl f))) {i v : Int32} (hin : vp_in i n) (hv : f i.toNatClampNeg = v) (hdg : decode cc pc = .ok (.iaload, 1))
    (kk : W p l e R s m args below meth c H locs cells slots Q (F0 m (pc + 1) ls (.int v :: rest))) : W p l e R s m args below meth c H locs cells slots Q (F0 m pc ls (.int i :: .ref a :: rest)) :=
  va_iald S.1 S.2.1 G.1.1 G.2.1 q0 0 ha rfl hin hdg (by rw [hv]; exact kk)
theorem r_zald (S : CallFix p m c cc nL s args Ts own) (G : wd X B A s ws H locs) (q0 : Nat) {n : Nat} {f : Nat → Int32} (ha : ws[q0]? = some (a, .inl (X.2.2.1, n, .inl f))) {i v : Int32} (hin : vp_in i n) (hv : f i.toNatClampNeg = v) (hdg : decode cc pc = .ok (.baload, 1))
    (kk : W p l e R s m args below meth c H locs cells slots Q (F0 m (pc + 1) ls (.int v :: rest))) : W p l e R s m args below meth c H locs cells slots Q (F0 m pc ls (.int i :: .ref a :: rest)) :=
  va_zald S.1 S.2.1 G.1.1 G.2.1 q0 1 ha rfl hin hdg (by rw [hv]; exact kk)
theorem r_iast (S : CallFix p m c cc nL s args Ts own) (G : wd X A A s ws H locs) (q0 : Nat) {n : Nat} {f : Nat → Int32} (ha : ws[q0]? = some (a, .inl (X.2.1, n, .inl f))) {i x : Int32} (hin : vp_in i n) (hdg : decode cc pc = .ok (.iastore, 1))
    (kk : ∀ (H1 : Heap) (locs1 : List Loc), wd X A A s (ws.set q0 (a, .inl (X.2.1, n, .inl (upd f i.toNatClampNeg x)))) H1 locs1 → W p l e R s m args below meth c H1 locs1 cells slots Q (F0 m (pc + 1) ls rest)) : W p l e R s m args below meth c H locs cells slots Q (F0 m pc ls (.int x :: .int i :: .ref a :: rest)) :=
  va_iast S.1 S.2.1 G.1.1 G.2.1 G.2.2.1 G.2.2.2.1 q0 0 ha rfl hin hdg (fun H1 locs1 h1 h2 h3 => kk H1 locs1 ⟨G.1, h1, h2, h3, G.2.2.2.2⟩)
theorem r_zast (S : CallFix p m c cc nL s args Ts own) (G : wd X A A s ws H locs) (q0 : Nat) {n : Nat} {f : Nat → Int32} (ha : ws[q0]? = some (a, .inl (X.2.2.1, n, .inl f))) {i x : Int32} (hin : vp_in i n) (hdg : decode cc pc = .ok (.bastore, 1))
    (kk : ∀ (H1 : Heap) (locs1 : List Loc), wd X A A s (ws.set q0 (a, .inl (X.2.2.1, n, .inl (upd f i.toNatClampNeg (vp_nar .boolean x))))) H1 locs1 → W p l e R s m args below meth c H1 locs1 cells slots Q (F0 m (pc + 1) ls rest)) : W p l e R s m args below meth c H locs cells slots Q (F0 m pc ls (.int x :: .int i :: .ref a :: rest)) :=
  va_zast S.1 S.2.1 G.1.1 G.2.1 G.2.2.1 G.2.2.2.1 q0 1 ha rfl hin hdg (fun H1 locs1 h1 h2 h3 => kk H1 locs1 ⟨G.1, h1, h2, h3, G.2.2.2.2⟩)
theorem r_alen (S : CallFix p m c cc nL s args Ts own) (G : wd X B A s ws H locs) (q0 t0 : Nat) {cA : ClassId} {x : vp_A} {ty : FieldType} (ha : ws[q0]? = some (a, .inl (cA, x))) (ht : (ex_T X)[t0]? = some (cA, ty)) {v : Int32} (hv : Int32.ofNat x.1 = v) (hdg : decode cc pc = .ok (.arraylength, 1))
    (kk : W p l e R s m args below meth c H locs cells slots Q (F0 m (pc + 1) ls (.int v :: rest))) : W p l e R s m args below meth c H locs cells slots Q (F0 m pc ls (.ref a :: rest)) :=
  va_alen S.1 S.2.1 G.1.1 G.2.1 q0 t0 ha ht hv hdg kk
theorem r_aald (S : CallFix p m c cc nL s args Ts own) (G : wd X B A s ws H locs) (q0 t0 : Nat) {cA : ClassId} {C : String} {n : Nat} {f : Nat → Option Nat} (ha : ws[q0]? = some (a, .inl (cA, n, .inr (.inr (.inr (.inr f)))))) (ht : (ex_T X)[t0]? = some (cA, .object C)) {i : Int32} {b : Nat} (hin : vp_in i n) (hv : f i.toNatClampNeg = some b) (hdg : decode cc pc = .ok (.aaload, 1))
    (kk : W p l e R s m args below meth c H locs cells slots Q (F0 m (pc + 1) ls (.ref b :: rest))) : W p l e R s m args below meth c H locs cells slots Q (F0 m pc ls (.int i :: .ref a :: rest)) :=
  va_aldq S.1 S.2.1 G.1.1 G.2.1 q0 t0 ha ht hin hdg (by rw [hv]; exact kk)
theorem r_aast (S : CallFix p m c cc nL s args Ts own) (G : wd X A A s ws H locs) (q0 t0 qk ci : Nat) {cA : ClassId} {r : vw_C} {n v : Nat} {vs : List Value} {f : Nat → Option Nat} (ha : ws[q0]? = some (a, .inl (cA, n, .inr (.inr (.inr (.inr f)))))) (ht : (ex_T X)[t0]? = some (cA, .object r.1)) (hv : ws[qk]? = some (v, .inr (ci, vs))) (hc : vwCl[ci]? = some r) {i : Int32} (hin : vp_in i n) (hdg : decode cc pc = .ok (.aastore, 1))
    (kk : ∀ (H1 : Heap) (locs1 : List Loc), wd X A A s (ws.set q0 (a, .inl (cA, n, .inr (.inr (.inr (.inr (va_up f i.toNatClampNeg (some v)))))))) H1 locs1 → W p l e R s m args below meth c H1 locs1 cells slots Q (F0 m (pc + 1) ls rest)) : W p l e R s m args below meth c H locs cells slots Q (F0 m pc ls (.ref v :: .int i :: .ref a :: rest)) :=
  va_astq S.1 S.2.1 G.1.1 G.2.1 G.2.2.1 G.2.2.2.1 q0 t0 qk ci ha ht hv hc hin hdg (fun H1 locs1 h1 h2 h3 => kk H1 locs1 ⟨G.1, h1, h2, h3, G.2.2.2.2⟩)
theorem ra_one {U : State} {c1 c2 : ClassId} {ty : FieldType} (h1 : va_RA U c1 ty) (h2 : va_RA U c2 ty) : c1 = c2 := by
  cases ty with
  | object C =>
    obtain ⟨k1, d1, -, -, -, e1⟩ := h1
    obtain ⟨k2, d2, -, -, -, e2⟩ := h2
    exact Option.some.inj (e1.symm.trans e2)
  | _ => exact Option.some.inj (Eq.trans (Eq.symm h1) h2)
theorem r_newi {cells' slots' : Nat} (S : CallFix p m c cc nL s args Ts own) (G : wd X A A s ws H locs) (hcl : Cond.arrayClass .int ∈ Ts) {n : Int32} (N' : Nat) (hn : ¬ n < 0) (hN : n.toNatClampNeg = N') (hby : N' * 4 ≤ 536870912) (e1 : cells + 1 = cells') (e2 : slots + N' = slots') (hcells : cells' ≤ R.cells) (hslots : slots' ≤ R.slots) (hdg : decode cc pc = .ok (.newarray .int, 2))
    (kk : ∀ (q : Nat) (H1 : Heap), wd X A A s (ws ++ [(q, .inl (X.2.1, N', .inl (fun _ => 0)))]) H1 locs → W p l e R s m args below meth c H1 locs cells' slots' Q (F0 m (pc + 2) ls (.ref q :: rest))) : W p l e R s m args below meth c H locs cells slots Q (F0 m pc ls (.int n :: rest)) := by
  subst e1; subst e2
  refine va_newa (atype := .int) (ty := .int) S.1 S.2.1 (S.2.2.2.2 _ hcl) rfl G.1.1 G.2.1 G.2.2.1 G.2.2.2.1 G.2.2.2.2 (a0 := (N', .inl (fun _ => 0))) (fun cA => by rw [vp_cell_i]; rfl) hn hN hby hcells hslots hdg (fun q cA H1 hK hP hD hS => ?_)
  have hc : cA = X.2.1 := ra_one (hK.2 4 (cA, .int) rfl).2 (hK.2 0 (X.2.1, .int) rfl).2
  subst hc
  exact kk q H1 ⟨G.1, hP, hD, hS, G.2.2.2.2⟩
theorem r_newz {cells' slots' : Nat} (S : CallFix p m c cc nL s args Ts own) (G : wd X A A s ws H locs) (hcl : Cond.arrayClass .boolean ∈ Ts) {n : Int32} (N' : Nat) (hn : ¬ n < 0) (hN : n.toNatClampNeg = N') (hby : N' * 1 ≤ 536870912) (e1 : cells + 1 = cells') (e2 : slots + N' = slots') (hcells : cells' ≤ R.cells) (hslots : slots' ≤ R.slots) (hdg : decode cc pc = .ok (.newarray .boolean, 2))
    (kk : ∀ (q : Nat) (H1 : Heap), wd X A A s (ws ++ [(q, .inl (X.2.2.1, N', .inl (fun _ => 0)))]) H1 locs → W p l e R s m args below meth c H1 locs cells' slots' Q (F0 m (pc + 2) ls (.ref q :: rest))) : W p l e R s m args below meth c H locs cells slots Q (F0 m pc ls (.int n :: rest)) := by
  subst e1; subst e2
  refine va_newa (atype := .boolean) (ty := .boolean) S.1 S.2.1 (S.2.2.2.2 _ hcl) rfl G.1.1 G.2.1 G.2.2.1 G.2.2.2.1 G.2.2.2.2 (a0 := (N', .inl (fun _ => 0))) (fun cA => by rw [vp_cell_i]; rfl) hn hN hby hcells hslots hdg (fun q cA H1 hK hP hD hS => ?_)
  have hc : cA = X.2.2.1 := ra_one (hK.2 4 (cA, .boolean) rfl).2 (hK.2 1 (X.2.2.1, .boolean) rfl).2
  subst hc
  exact kk q H1 ⟨G.1, hP, hD, hS, G.2.2.2.2⟩
theorem r_newq {C : String} {index cells' slots' : Nat} (t0 : Nat) {cA : ClassId} (S : CallFix p m c cc nL s args Ts own) (G : wd X A A s ws H locs) (hlk : Cond.classLink own index C ∈ Ts) (hov : va_AO C s) (ht : (ex_T X)[t0]? = some (cA, .object C)) {n : Int32} (N' : Nat) (hn : ¬ n < 0) (hN : n.toNatClampNeg = N') (hby : N' * 4 ≤ 536870912) (e1 : cells + 1 = cells') (e2 : slots + N' = slots') (hcells : cells' ≤ R.cells) (hslots : slots' ≤ R.slots) (hdg : decode cc pc = .ok (.anewarray index, 3))
    (kk : ∀ (q : Nat) (H1 : Heap), wd X A A s (ws ++ [(q, .inl (cA, N', .inr (.inr (.inr (.inr (fun _ => none))))))]) H1 locs → W p l e R s m args below meth c H1 locs cells' slots' Q (F0 m (pc + 3) ls (.ref q :: rest))) : W p l e R s m args below meth c H locs cells slots Q (F0 m pc ls (.int n :: rest)) := by
  subst e1; subst e2
  refine va_newq S.1 S.2.1 S.2.2.2.1 (S.2.2.2.2 _ hlk) hov G.1.1 G.2.1 G.2.2.1 G.2.2.2.1 G.2.2.2.2 hn hN hby hcells hslots hdg (fun q cB H1 hK hP hD hS => ?_)
  have hc : cB = cA := ra_one (hK.2 4 (cB, .object C) rfl).2 (G.1.1.2 t0 (cA, .object C) ht).2
  subst hc
  exact kk q H1 ⟨G.1, hP, hD, hS, G.2.2.2.2⟩
theorem r_new {C : String} {T : u_T} {N ci index cells' slots' : Nat} (S : CallFix p m c cc nL s args Ts own) (hin : ∀ w ∈ u_ws C T N, w ∈ Ts) {ty0 : Nat → FieldType} (hty : ∀ k, k < N → parseFieldDescriptor (T k).2.2.1 = some (ty0 k)) (G : wd X A A s ws H locs) (hlk : Cond.classLink own index C ∈ Ts) (hinst : Cond.instantiable C N ∈ Ts) (hini : Cond.initialized C ∈ Ts) (hc : vwCl[ci]? = some (C, T, N)) (fs : List Value) (hfs : (List.range N).map (fun j => defaultValue (ty0 j)) = (List.range N).map (fun j => vp_V fs j)) (e1 : cells + 1 = cells') (e2 : slots + N = slots') (hcells : cells' ≤ R.cells) (hslots : slots' ≤ R.slots) (hdg : decode cc pc = .ok (.new index, 3))
    (kk : ∀ (q : Nat) (H1 : Heap), wd X A A s (ws ++ [(q, .inr (ci, fs))]) H1 locs → W p l e R s m args below meth c H1 locs cells' slots' Q (F0 m (pc + 3) ls (.ref q :: rest))) : W p l e R s m args below meth c H locs cells slots Q (F0 m pc ls rest) := by
  subst e1; subst e2
  refine va_new S.1 S.2.1 S.2.2.2.2 hin ty0 hty S.2.2.2.1 (S.2.2.2.2 _ hlk) (S.2.2.2.2 _ hinst) (S.2.2.2.2 _ hini) G.1.1 G.2.1 G.2.2.1 G.2.2.2.1 G.2.2.2.2 hc (fs := fs) (fun j hj => ?_) hcells hslots hdg (fun q H1 hP hD hS => kk q H1 ⟨G.1, hP, hD, hS, G.2.2.2.2⟩)
  have h := congrArg (fun l => l[j]?) hfs
  simp only [List.getElem?_map, List.getElem?_range hj, Option.map_some] at h
  exact Option.some.inj h
theorem r_obj {idx : Nat} (S : CallFix p m c cc nL s args Ts own) (hsz : ls.size = nL) (hlink : Cond.methodLink own idx objectInit ∈ Ts) (hinst : Cond.instanceMethod objectInit ∈ Ts) (hcode : Cond.code objectInit ⟨#[0xb1]⟩ 1 none ∈ Ts) (hd : decode cc pc = .ok (.invokespecial idx, 3)) (hfr : 1 ≤ R.frames) (hlo : (rest.map fun v => v.category).sum + 12 ≤ R.locals)
    (kk : W p l e R s m args below meth c H locs cells slots Q (F0 m (pc + 3) ls rest)) : W p l e R s m args below meth c H locs cells slots Q (F0 m pc ls (.ref a :: rest)) :=
  W.objInit S.1 S.2.1 S.2.2.2.1 (S.2.2.2.2 _ hlink) (S.2.2.2.2 _ hinst) (S.2.2.2.2 _ hcode) rfl (hsz.trans S.2.2.1.symm) rfl hd hfr (by show 2 * 0 + _ + 12 ≤ _; omega) kk
-- arithmetic with a name for the result
theorem r_iadd (S : CallFix p m c cc nL s args Ts own) {x y v : Int32} (hv : x + y = v) (hdg : decode cc pc = .ok (.iadd, 1)) (kk : W p l e R s m args below meth c H locs cells slots Q (F0 m (pc + 1) ls (.int v :: rest))) : W p l e R s m args below meth c H locs cells slots Q (F0 m pc ls (.int y :: .int x :: rest)) := lv_iadd S.1 S.2.1 hdg (by rw [hv]; exact kk)
theorem r_isub (S : CallFix p m c cc nL s args Ts own) {x y v : Int32} (hv : x - y = v) (hdg : decode cc pc = .ok (.isub, 1)) (kk : W p l e R s m args below meth c H locs cells slots Q (F0 m (pc + 1) ls (.int v :: rest))) : W p l e R s m args below meth c H locs cells slots Q (F0 m pc ls (.int y :: .int x :: rest)) := lv_isub S.1 S.2.1 hdg (by rw [hv]; exact kk)
theorem r_imul (S : CallFix p m c cc nL s args Ts own) {x y v : Int32} (hv : x * y = v) (hdg : decode cc pc = .ok (.imul, 1)) (kk : W p l e R s m args below meth c H locs cells slots Q (F0 m (pc + 1) ls (.int v :: rest))) : W p l e R s m args below meth c H locs cells slots Q (F0 m pc ls (.int y :: .int x :: rest)) := lv_imul S.1 S.2.1 hdg (by rw [hv]; exact kk)
theorem r_ladd (S : CallFix p m c cc nL s args Ts own) {x y v : Int64} (hv : x + y = v) (hdg : decode cc pc = .ok (.ladd, 1)) (kk : W p l e R s m args below meth c H locs cells slots Q (F0 m (pc + 1) ls (.long v :: rest))) : W p l e R s m args below meth c H locs cells slots Q (F0 m pc ls (.long y :: .long x :: rest)) := lv_ladd S.1 S.2.1 hdg (by rw [hv]; exact kk)
theorem r_lmul (S : CallFix p m c cc nL s args Ts own) {x y v : Int64} (hv : x * y = v) (hdg : decode cc pc = .ok (.lmul, 1)) (kk : W p l e R s m args below meth c H locs cells slots Q (F0 m (pc + 1) ls (.long v :: rest))) : W p l e R s m args below meth c H locs cells slots Q (F0 m pc ls (.long y :: .long x :: rest)) := lv_lmul S.1 S.2.1 hdg (by rw [hv]; exact kk)
-- ends
theorem e_int {S0 : Type} {post : Int32 → S0 → Prop} {w1 : S0 → va_W} {fc : va_W} {v : Int32} {sz : Nat} {ty : FieldType} (S : CallFix p m c cc nL s args Ts own) (hr : meth.sig.returnType = some ty) (hlk : meth.locks = false) (hn : narrow ty (.int v) = .int v) (G : wd X B (va_A fc sz) s ws H locs) (u : S0) (is : List Nat) (hs : is.map (fun i => ws[i]?) = (w1 u).map some) (hnd : va_nd is = true) (hBA : w1 u = [] ∨ B = va_A fc sz) (hp : post v u) (hdg : decode cc pc = .ok (.ireturn, 1)) : W p l e R s m args below meth c H locs cells slots (MQ below (qI post X w1 fc sz) args s cells slots (va_A fc sz)) (F0 m pc ls [.int v]) := by
  refine W.zret S.1 S.2.1 hr hn (fun t ht hW => ⟨⟨v, u, rfl, hp, ?_, ?_⟩, G.2.2.2.1.F ht⟩) G.2.2.2.1.2.2 hdg hlk
  · rw [ht]; exact G.2.1.sub is (mp_fm hs)
  · rcases hBA with h | h
    · rw [h]; exact ⟨fun i j p q h => by simp at h, fun k q h => by simp at h⟩
    · rw [← h]; exact G.2.2.1.sub is hnd hs
theorem e_long {S0 : Type} {post : Int64 → S0 → Prop} {w1 : S0 → va_W} {fc : va_W} {v : Int64} {sz : Nat} (S : CallFix p m c cc nL s args Ts own) (hr : meth.sig.returnType = some .long) (hlk : meth.locks = false) (G : wd X B (va_A fc sz) s ws H locs) (u : S0) (is : List Nat) (hs : is.map (fun i => ws[i]?) = (w1 u).map some) (hnd : va_nd is = true) (hBA : w1 u = [] ∨ B = va_A fc sz) (hp : post v u) (hdg : decode cc pc = .ok (.lreturn, 1)) : W p l e R s m args below meth c H locs cells slots (MQ below (qL post X w1 fc sz) args s cells slots (va_A fc sz)) (F0 m pc ls [.long v]) := by
  refine W.lret S.1 S.2.1 hr (fun t ht hW => ⟨⟨v, u, rfl, hp, ?_, ?_⟩, G.2.2.2.1.F ht⟩) G.2.2.2.1.2.2 hdg hlk
  · rw [ht]; exact G.2.1.sub is (mp_fm hs)
  · rcases hBA with h | h
    · rw [h]; exact ⟨fun i j p q h => by simp at h, fun k q h => by simp at h⟩
    · rw [← h]; exact G.2.2.1.sub is hnd hs
theorem e_void {S0 : Type} {post : S0 → Prop} {w1 : S0 → va_W} {fc : va_W} {sz : Nat} (S : CallFix p m c cc nL s args Ts own) (hr : meth.sig.returnType = none) (hlk : meth.locks = false) (G : wd X B (va_A fc sz) s ws H locs) (u : S0) (is : List Nat) (hs : is.map (fun i => ws[i]?) = (w1 u).map some) (hnd : va_nd is = true) (hBA : w1 u = [] ∨ B = va_A fc sz) (hp : post u) (hdg : decode cc pc = .ok (.return_, 1)) : W p l e R s m args below meth c H locs cells slots (MQ below (qV post X w1 fc sz) args s cells slots (va_A fc sz)) (F0 m pc ls []) := by
  refine W.vret S.1 S.2.1 hr (fun t ht hW => ⟨⟨u, rfl, hp, ?_, ?_⟩, G.2.2.2.1.F ht⟩) G.2.2.2.1.2.2 hdg hlk
  · rw [ht]; exact G.2.1.sub is (mp_fm hs)
  · rcases hBA with h | h
    · rw [h]; exact ⟨fun i j p q h => by simp at h, fun k q h => by simp at h⟩
    · rw [← h]; exact G.2.2.1.sub is hnd hs
-- calls: the run of the callee
section ER
variable {y : MethodName} {bytes : ByteArray} {maxL mc ms n index : Nat} {ret : Option FieldType} {wy wy' : List Cond} {rm : Room} {Qc : Array Value → State → Outcome → State → Prop} {free : Addr → Prop} {b : Nat} {As : List Value} {wc : va_W}
theorem n_V {C : String} {T : u_T} {N ci : Nat} {fs : List Value} (S : CallFix p m c cc nL s args Ts own) (G : wd X B A s ws H locs) (hM : Met l y wy rm (pE X (.ref b :: As) wc H.size) Qc mc ms free) (hg : GoodIn Ts (wsV own index C y wy)) (hw : wy = Cond.code y bytes maxL ret :: wy') (hrc : rm.cells = mc) (hrs : rm.slots = ms) (hd : y.cls = C ∧ y.cls ≠ "java/lang/invoke/MethodHandle" ∧ y.cls ≠ "java/lang/invoke/VarHandle" ∧ (parseMethodDescriptor y.desc).map (fun d => d.parameters.length) = some n) (hR : rm.frames + 1 ≤ R.frames ∧ 8 + (maxL + 11) + rm.locals ≤ R.locals) (is : List Nat) (hs : is.map (fun i => ws[i]?) = wc.map some) (hnd : va_nd is = true) (q0 : Nat) (he : ws[q0]? = some (b, .inr (ci, fs))) (hc : vwCl[ci]? = some (C, T, N)) (hn : As.length = n) (hsz : ls.size = nL) (hst : (rest.map fun v => v.category).sum ≤ 8) (hdg : decode cc pc = .ok (.invokevirtual index, 3)) (hf : cells + mc ≤ R.cells ∧ slots + ms ≤ R.slots) : va_Run p l e R s m args below meth c H locs cells slots mc ms (F0 m pc ls (As.reverse ++ .ref b :: rest)) rest (Qc (Value.ref b :: As).toArray) free :=
  va_runV S hM (cwV n S.2.2.2.2 hg hw hrc hrs hd hR) ⟨pE_blind, va_recv G.1.1 G.2.1 hc he, wd_pre G is hs hnd⟩ rfl hn hsz rfl (lv_room hst) hdg hf
theorem n_S (S : CallFix p m c cc nL s args Ts own) (G : wd X B A s ws H locs) (hM : Met l y wy rm (pE X As wc H.size) Qc mc ms free) (hg : GoodIn Ts (va_wsS own index y wy)) (hw : wy = Cond.code y bytes maxL ret :: wy') (hrc : rm.cells = mc) (hrs : rm.slots = ms) (hd : y.cls ≠ "java/lang/invoke/MethodHandle" ∧ y.cls ≠ "java/lang/invoke/VarHandle" ∧ (parseMethodDescriptor y.desc).map (fun d => d.parameters.length) = some n) (hR : rm.frames + 1 ≤ R.frames ∧ 8 + (maxL + 11) + rm.locals ≤ R.locals) (is : List Nat) (hs : is.map (fun i => ws[i]?) = wc.map some) (hnd : va_nd is = true) (hn : As.length = n) (hsz : ls.size = nL) (hst : (rest.map fun v => v.category).sum ≤ 8) (hdg : decode cc pc = .ok (.invokestatic index, 3)) (hf : cells + mc ≤ R.cells ∧ slots + ms ≤ R.slots) : va_Run p l e R s m args below meth c H locs cells slots mc ms (F0 m pc ls (As.reverse ++ rest)) rest (Qc As.toArray) free :=
  va_runS S hM (va_cwS n S.2.2.2.2 hg hw hrc hrs hd hR) ⟨pE_blind, wd_pre G is hs hnd⟩ rfl hn hsz rfl (lv_room hst) hdg hf
theorem n_I (S : CallFix p m c cc nL s args Ts own) (G : wd X B A s ws H locs) (hM : Met l y wy rm (pE X (.ref b :: As) wc H.size) Qc mc ms free) (hg : GoodIn Ts wy) (hw : wy = Cond.code y bytes maxL none :: wy') (hrc : rm.cells = mc) (hrs : rm.slots = ms) (hini : Cond.initialized y.cls ∈ Ts) (hlk : Cond.methodLink own index y ∈ Ts) (hin : Cond.instanceMethod y ∈ Ts) (hy1 : y.name = "<init>") (hd : y.cls ≠ "java/lang/invoke/MethodHandle" ∧ y.cls ≠ "java/lang/invoke/VarHandle" ∧ (parseMethodDescriptor y.desc).map (fun d => d.parameters.length) = some n) (hR : rm.frames + 1 ≤ R.frames ∧ 8 + (maxL + 11) + rm.locals ≤ R.locals) (is : List Nat) (hs : is.map (fun i => ws[i]?) = wc.map some) (hnd : va_nd is = true) (hn : As.length = n) (hsz : ls.size = nL) (hst : (rest.map fun v => v.category).sum ≤ 8) (hdg : decode cc pc = .ok (.invokespecial index, 3)) (hf : cells + mc ≤ R.cells ∧ slots + ms ≤ R.slots) : va_Run p l e R s m args below meth c H locs cells slots mc ms (F0 m pc ls (As.reverse ++ .ref b :: rest)) rest (Qc (Value.ref b :: As).toArray) free :=
  va_runI S hM (cwI n S.2.2.2.2 hg hw hrc hrs (S.2.2.2.2 _ hini) (S.2.2.2.2 _ hlk) (S.2.2.2.2 _ hin) hy1 hd hR) ⟨pE_blind, wd_pre G is hs hnd⟩ rfl hn hsz rfl (lv_room hst) hdg hf
theorem n_IN {host : String} (S : CallFix p m c cc nL s args Ts own) (G : wd X B A s ws H locs) (hM : Met l y wy rm (pE X (.ref b :: As) wc H.size) Qc mc ms free) (hg : GoodIn Ts wy) (hw : wy = Cond.code y bytes maxL none :: wy') (hrc : rm.cells = mc) (hrs : rm.slots = ms) (hini : Cond.initialized y.cls ∈ Ts) (hlk : va_Nw (.methodLinkNest own index y host) s) (hin : Cond.instanceMethod y ∈ Ts) (hy1 : y.name = "<init>") (hd : y.cls ≠ "java/lang/invoke/MethodHandle" ∧ y.cls ≠ "java/lang/invoke/VarHandle" ∧ (parseMethodDescriptor y.desc).map (fun d => d.parameters.length) = some n) (hR : rm.frames + 1 ≤ R.frames ∧ 8 + (maxL + 11) + rm.locals ≤ R.locals) (is : List Nat) (hs : is.map (fun i => ws[i]?) = wc.map some) (hnd : va_nd is = true) (hn : As.length = n) (hsz : ls.size = nL) (hst : (rest.map fun v => v.category).sum ≤ 8) (hdg : decode cc pc = .ok (.invokespecial index, 3)) (hf : cells + mc ≤ R.cells ∧ slots + ms ≤ R.slots) : va_Run p l e R s m args below meth c H locs cells slots mc ms (F0 m pc ls (As.reverse ++ .ref b :: rest)) rest (Qc (Value.ref b :: As).toArray) free :=
  va_runIN S hM ⟨va_cnB n S.2.2.2.2 hg hw hrc hrs hlk (S.2.2.2.2 _ hini) hd hR, hy1, S.2.2.2.2 _ hin⟩ ⟨pE_blind, wd_pre G is hs hnd⟩ rfl hn hsz rfl (lv_room hst) hdg hf
theorem n_SN {host : String} (S : CallFix p m c cc nL s args Ts own) (G : wd X B A s ws H locs) (hM : Met l y wy rm (pE X As wc H.size) Qc mc ms free) (hg : GoodIn Ts wy) (hw : wy = Cond.code y bytes maxL ret :: wy') (hrc : rm.cells = mc) (hrs : rm.slots = ms) (hini : Cond.initialized y.cls ∈ Ts) (hlk : va_Nw (.methodLinkNest own index y host) s) (hst0 : Cond.static y ∈ Ts) (hd : y.cls ≠ "java/lang/invoke/MethodHandle" ∧ y.cls ≠ "java/lang/invoke/VarHandle" ∧ (parseMethodDescriptor y.desc).map (fun d => d.parameters.length) = some n) (hR : rm.frames + 1 ≤ R.frames ∧ 8 + (maxL + 11) + rm.locals ≤ R.locals) (is : List Nat) (hs : is.map (fun i => ws[i]?) = wc.map some) (hnd : va_nd is = true) (hn : As.length = n) (hsz : ls.size = nL) (hst : (rest.map fun v => v.category).sum ≤ 8) (hdg : decode cc pc = .ok (.invokestatic index, 3)) (hf : cells + mc ≤ R.cells ∧ slots + ms ≤ R.slots) : va_Run p l e R s m args below meth c H locs cells slots mc ms (F0 m pc ls (As.reverse ++ rest)) rest (Qc As.toArray) free :=
  va_runSN S hM ⟨va_cnB n S.2.2.2.2 hg hw hrc hrs hlk (S.2.2.2.2 _ hini) hd hR, S.2.2.2.2 _ hst0, trivial⟩ ⟨pE_blind, wd_pre G is hs hnd⟩ rfl hn hsz rfl (lv_room hst) hdg hf
end ER
-- calls: what is behind them
section EC
variable {mc ms cells' slots' : Nat} {ag : Array Value} {st0 : List Value} {S0 : Type} {w1 : S0 → va_W} {fc wr : va_W}
theorem ro_F (G : wd X B A s ws H locs) : ∀ q, va_A [] H.size q → A q := fun q h => by
  rcases h with ⟨k, e, hk⟩ | h
  · simp at hk
  · exact G.2.2.2.2 q (Nat.le_trans G.2.2.2.1.1 h)
theorem ro_G {H1 : Heap} {locs1 : List Loc} (G : wd X B A s ws H locs) (hk : ∀ q : Nat, q < H.size → ¬ va_A [] H.size q → H1[q]? = H[q]?) (hS : va_S A s.heap H1 locs1) : wd X B A s ws H1 locs1 :=
  ⟨G.1, G.2.1.kept (fun k q hq => hk q.1 ((G.2.1 k q hq).lt) (fun h => by
    rcases h with ⟨k', e', hk'⟩ | h
    · simp at hk'
    · exact absurd ((G.2.1 k q hq).lt) (Nat.not_lt.mpr h))), G.2.2.1, hS, G.2.2.2.2⟩
theorem o_ri {post : Int32 → S0 → Prop} (G : wd X B A s ws H locs) (e1 : cells + mc = cells') (e2 : slots + ms = slots') (hr : va_Run p l e R s m args below meth c H locs cells slots mc ms (F0 m pc ls st0) rest (qI post X w1 [] H.size ag) (va_A [] H.size))
    (kk : ∀ (r : Int32) (u : S0) (H1 : Heap) (locs1 : List Loc), post r u → wd X B A s ws H1 locs1 → W p l e R s m args below meth c H1 locs1 cells' slots' Q (F0 m (pc + 3) ls (.int r :: rest))) : W p l e R s m args below meth c H locs cells slots Q (F0 m pc ls st0) := by
  subst e1; subst e2
  exact va_calli hr G.2.2.2.1 (fun q _ h => ro_F G q h) (ro_F G) (fun r u t H1 locs1 ht hvm hp hB hz hk hS => kk r u H1 locs1 hp (ro_G G hk hS))
theorem o_rl {post : Int64 → S0 → Prop} (G : wd X B A s ws H locs) (e1 : cells + mc = cells') (e2 : slots + ms = slots') (hr : va_Run p l e R s m args below meth c H locs cells slots mc ms (F0 m pc ls st0) rest (qL post X w1 [] H.size ag) (va_A [] H.size))
    (kk : ∀ (r : Int64) (u : S0) (H1 : Heap) (locs1 : List Loc), post r u → wd X B A s ws H1 locs1 → W p l e R s m args below meth c H1 locs1 cells' slots' Q (F0 m (pc + 3) ls (.long r :: rest))) : W p l e R s m args below meth c H locs cells slots Q (F0 m pc ls st0) := by
  subst e1; subst e2
  exact va_calll hr G.2.2.2.1 (fun q _ h => ro_F G q h) (ro_F G) (fun r u t H1 locs1 ht hvm hp hB hz hk hS => kk r u H1 locs1 hp (ro_G G hk hS))
theorem o_wi {post : Int32 → S0 → Prop} (G : wd X A A s ws H locs) (e1 : cells + mc = cells') (e2 : slots + ms = slots') (isC isR : List Nat) (hC : isC.map (fun i => ws[i]?) = fc.map some) (hR : isR.map (fun i => ws[i]?) = wr.map some) (hn : va_nd isR = true) (hdis : ∀ i ∈ isR, i ∉ isC) (hr : va_Run p l e R s m args below meth c H locs cells slots mc ms (F0 m pc ls st0) rest (qI post X w1 fc H.size ag) (va_A fc H.size))
    (kk : ∀ (r : Int32) (u : S0) (H1 : Heap) (locs1 : List Loc), post r u → wd X A A s (wr ++ w1 u) H1 locs1 → W p l e R s m args below meth c H1 locs1 cells' slots' Q (F0 m (pc + 3) ls (.int r :: rest))) : W p l e R s m args below meth c H locs cells slots Q (F0 m pc ls st0) := by
  subst e1; subst e2
  have hF := va_free G.2.2.1 G.2.2.2.1 G.2.2.2.2 isC hC
  refine va_calli hr G.2.2.2.1 (fun q _ h => hF q h) hF (fun r u t H1 locs1 ht hvm hp hB hz hk hS => ?_)
  obtain ⟨hP1, hD1⟩ := hB
  rw [ht] at hP1
  obtain ⟨hP2, hD2⟩ := va_join G.2.1 G.2.2.1 isC isR hC hR hn hdis hk hF hP1 hD1
  exact kk r u H1 locs1 hp ⟨G.1, hP2, hD2, hS, G.2.2.2.2⟩
theorem o_wl {post : Int64 → S0 → Prop} (G : wd X A A s ws H locs) (e1 : cells + mc = cells') (e2 : slots + ms = slots') (isC isR : List Nat) (hC : isC.map (fun i => ws[i]?) = fc.map some) (hR : isR.map (fun i => ws[i]?) = wr.map some) (hn : va_nd isR = true) (hdis : ∀ i ∈ isR, i ∉ isC) (hr : va_Run p l e R s m args below meth c H locs cells slots mc ms (F0 m pc ls st0) rest (qL post X w1 fc H.size ag) (va_A fc H.size))
    (kk : ∀ (r : Int64) (u : S0) (H1 : Heap) (locs1 : List Loc), post r u → wd X A A s (wr ++ w1 u) H1 locs1 → W p l e R s m args below meth c H1 locs1 cells' slots' Q (F0 m (pc + 3) ls (.long r :: rest))) : W p l e R s m args below meth c H locs cells slots Q (F0 m pc ls st0) := by
  subst e1; subst e2
  have hF := va_free G.2.2.1 G.2.2.2.1 G.2.2.2.2 isC hC
  refine va_calll hr G.2.2.2.1 (fun q _ h => hF q h) hF (fun r u t H1 locs1 ht hvm hp hB hz hk hS => ?_)
  obtain ⟨hP1, hD1⟩ := hB
  rw [ht] at hP1
  obtain ⟨hP2, hD2⟩ := va_join G.2.1 G.2.2.1 isC isR hC hR hn hdis hk hF hP1 hD1
  exact kk r u H1 locs1 hp ⟨G.1, hP2, hD2, hS, G.2.2.2.2⟩
theorem o_wv {post : S0 → Prop} (G : wd X A A s ws H locs) (e1 : cells + mc = cells') (e2 : slots + ms = slots') (isC isR : List Nat) (hC : isC.map (fun i => ws[i]?) = fc.map some) (hR : isR.map (fun i => ws[i]?) = wr.map some) (hn : va_nd isR = true) (hdis : ∀ i ∈ isR, i ∉ isC) (hr : va_Run p l e R s m args below meth c H locs cells slots mc ms (F0 m pc ls st0) rest (qV post X w1 fc H.size ag) (va_A fc H.size))
    (kk : ∀ (u : S0) (H1 : Heap) (locs1 : List Loc), post u → wd X A A s (wr ++ w1 u) H1 locs1 → W p l e R s m args below meth c H1 locs1 cells' slots' Q (F0 m (pc + 3) ls rest)) : W p l e R s m args below meth c H locs cells slots Q (F0 m pc ls st0) := by
  subst e1; subst e2
  have hF := va_free G.2.2.1 G.2.2.2.1 G.2.2.2.2 isC hC
  refine va_callv hr G.2.2.2.1 (fun q _ h => hF q h) hF (fun u t H1 locs1 ht hvm hp hB hz hk hS => ?_)
  obtain ⟨hP1, hD1⟩ := hB
  rw [ht] at hP1
  obtain ⟨hP2, hD2⟩ := va_join G.2.1 G.2.2.1 isC isR hC hR hn hdis hk hF hP1 hD1
  exact kk u H1 locs1 hp ⟨G.1, hP2, hD2, hS, G.2.2.2.2⟩
end EC
end EK
