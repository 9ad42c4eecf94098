theorem k_cut {P G : Prop} (h : P → G) (q : P) : G := h q
theorem j_eq {a b : Nat} (ha : a < 2 ^ 31) (hb : b < 2 ^ 31) (c : nI a = nI b) : a = b := (nI_eq ha hb).mp c
theorem j_ne {a b : Nat} (c : ¬ nI a = nI b) : ¬ a = b := fun q => c (by rw [q])
theorem j_lt {a b : Nat} (ha : a < 2 ^ 31) (hb : b < 2 ^ 31) (c : nI a < nI b) : a < b := (nI_ltI ha hb).mp c
theorem j_nlt {a b : Nat} (ha : a < 2 ^ 31) (hb : b < 2 ^ 31) (c : ¬ nI a < nI b) : b ≤ a := Nat.not_lt.mp (fun q => c ((nI_ltI ha hb).mpr q))
theorem j_le {a b : Nat} (ha : a < 2 ^ 31) (hb : b < 2 ^ 31) (c : nI a ≤ nI b) : a ≤ b := (nI_leI ha hb).mp c
theorem j_nle {a b : Nat} (ha : a < 2 ^ 31) (hb : b < 2 ^ 31) (c : ¬ nI a ≤ nI b) : b < a := Nat.not_le.mp (fun q => c ((nI_leI ha hb).mpr q))
theorem k_6c {j : Nat} (h : j < 6) : j = 0 ∨ j = 1 ∨ j = 2 ∨ j = 3 ∨ j = 4 ∨ j = 5 := by omega
theorem k_2c {j : Nat} (h : j < 2) : j = 0 ∨ j = 1 := by omega
theorem k_of (x : Int32) (n : Nat) : x.toInt = (n : Int) → n < 2 ^ 31 → x = nI n := fun h hn => Int32.toInt_inj.mp (h.trans (nI_toInt hn).symm)
theorem k_ts1_5 (x : Int32) : x = 1 ∨ x = 2 ∨ x = 3 ∨ x = 4 ∨ x = 5 ∨ (x.toInt < 1 ∨ 5 < x.toInt) := by
  by_cases h : 1 ≤ x.toInt ∧ x.toInt ≤ 5
  · have : x.toInt = 1 ∨ x.toInt = 2 ∨ x.toInt = 3 ∨ x.toInt = 4 ∨ x.toInt = 5 := by omega
    rcases this with q | q | q | q | q
    · exact Or.inl (k_of x 1 q (by decide))
    · exact Or.inr (Or.inl (k_of x 2 q (by decide)))
    · exact Or.inr (Or.inr (Or.inl (k_of x 3 q (by decide))))
    · exact Or.inr (Or.inr (Or.inr (Or.inl (k_of x 4 q (by decide)))))
    · exact Or.inr (Or.inr (Or.inr (Or.inr (Or.inl (k_of x 5 q (by decide))))))
  · exact Or.inr (Or.inr (Or.inr (Or.inr (Or.inr (by omega)))))
section EKg
variable {p : Program} {l : Launch} {e : Env} {R : Room} {s : State} {m : MethodId} {args : Array Value} {below : List Frame} {meth : Method} {c : Code} {H : Heap} {locs : List Loc} {cells slots : Nat} {Q : State → Prop}
variable {cc : ByteArray} {pc nL : Nat} {ls : Array Slot} {rest : List Value} {X : EX} {A B : Nat → Prop} {a : Nat} {ws : va_W} {Ts : List Cond} {own : String}
theorem k_itE {v0 : Int32} (kk : ∀ v : Int32, W p l e R s m args below meth c H locs cells slots Q (F0 m pc ls (.int v :: rest))) : W p l e R s m args below meth c H locs cells slots Q (F0 m pc ls (.int v0 :: rest)) := kk v0
theorem k_ldE {v0 : Int64} (kk : ∀ v : Int64, W p l e R s m args below meth c H locs cells slots Q (F0 m pc ls (.long v :: rest))) : W p l e R s m args below meth c H locs cells slots Q (F0 m pc ls (.long v0 :: rest)) := kk v0
theorem k_cutW {g0 : JFrame} {PP : (JFrame → Heap → List Loc → Prop) → Prop} (h : PP (fun g H' locs' => W p l e R s m args below meth c H' locs' cells slots Q g) → W p l e R s m args below meth c H locs cells slots Q g0) (q : PP (fun g H' locs' => W p l e R s m args below meth c H' locs' cells slots Q g)) : W p l e R s m args below meth c H locs cells slots Q g0 := h q
theorem dis_of {isR isC : List Nat} (h : (isR.all fun i => !(isC.contains i)) = true) : ∀ i ∈ isR, i ∉ isC := fun i hi hc => by
  have h1 := List.all_eq_true.mp h i hi
  simp [List.contains_iff_mem, hc] at h1
variable {mc ms cells' slots' : Nat} {ag : Array Value} {st0 : List Value} {S0 : Type} {w1 : S0 → va_W} {fc wr : va_W}
theorem b_wi {post : Int32 → S0 → Prop} (G : wd X A A s ws H locs) (e1 : cells + mc = cells') (e2 : slots + ms = slots') (isC isR : List Nat) (hC : isC.map (fun i => ws[i]?) = fc.map some) (hR : isR.map (fun i => ws[i]?) = wr.map some) (hn : va_nd isR = true) (hdis : (isR.all fun i => !(isC.contains i)) = true) (hr : va_Run p l e R s m args below meth c H locs cells slots mc ms (F0 m pc ls st0) rest (qI post X w1 fc H.size ag) (va_A fc H.size))
    (kk : ∀ (r : Int32) (u : S0) (H1 : Heap) (locs1 : List Loc), post r u → wd X A A s (wr ++ w1 u) H1 locs1 → W p l e R s m args below meth c H1 locs1 cells' slots' Q (F0 m (pc + 3) ls (.int r :: rest))) : W p l e R s m args below meth c H locs cells slots Q (F0 m pc ls st0) := o_wi G e1 e2 isC isR hC hR hn (dis_of hdis) hr kk
theorem b_wl {post : Int64 → S0 → Prop} (G : wd X A A s ws H locs) (e1 : cells + mc = cells') (e2 : slots + ms = slots') (isC isR : List Nat) (hC : isC.map (fun i => ws[i]?) = fc.map some) (hR : isR.map (fun i => ws[i]?) = wr.map some) (hn : va_nd isR = true) (hdis : (isR.all fun i => !(isC.contains i)) = true) (hr : va_Run p l e R s m args below meth c H locs cells slots mc ms (F0 m pc ls st0) rest (qL post X w1 fc H.size ag) (va_A fc H.size))
    (kk : ∀ (r : Int64) (u : S0) (H1 : Heap) (locs1 : List Loc), post r u → wd X A A s (wr ++ w1 u) H1 locs1 → W p l e R s m args below meth c H1 locs1 cells' slots' Q (F0 m (pc + 3) ls (.long r :: rest))) : W p l e R s m args below meth c H locs cells slots Q (F0 m pc ls st0) := o_wl G e1 e2 isC isR hC hR hn (dis_of hdis) hr kk
theorem b_wv {post : S0 → Prop} (G : wd X A A s ws H locs) (e1 : cells + mc = cells') (e2 : slots + ms = slots') (isC isR : List Nat) (hC : isC.map (fun i => ws[i]?) = fc.map some) (hR : isR.map (fun i => ws[i]?) = wr.map some) (hn : va_nd isR = true) (hdis : (isR.all fun i => !(isC.contains i)) = true) (hr : va_Run p l e R s m args below meth c H locs cells slots mc ms (F0 m pc ls st0) rest (qV post X w1 fc H.size ag) (va_A fc H.size))
    (kk : ∀ (u : S0) (H1 : Heap) (locs1 : List Loc), post u → wd X A A s (wr ++ w1 u) H1 locs1 → W p l e R s m args below meth c H1 locs1 cells' slots' Q (F0 m (pc + 3) ls rest)) : W p l e R s m args below meth c H locs cells slots Q (F0 m pc ls st0) := o_wv G e1 e2 isC isR hC hR hn (dis_of hdis) hr kk
theorem r_copyN {idx : Nat} {a0 n0 n1 : Nat} {f g : Nat → Int32} {sp dp n : Nat} (S : CallFix p m c cc nL s args Ts own) (hsz : ls.size = nL) (G : wd X A A s ws H locs) (hlink : Cond.methodLink own idx arraycopyName ∈ Ts) (hnat : Cond.native arraycopyName ∈ Ts) (hstat : Cond.static arraycopyName ∈ Ts) (hini : Cond.initialized "java/lang/System" ∈ Ts) (q0 q1 : Nat) (ha0 : ws[q0]? = some (a0, .inl (X.2.1, n0, .inl f))) (ha1 : ws[q1]? = some (a, .inl (X.2.1, n1, .inl g))) (h1 : sp + n ≤ n0) (h2 : dp + n ≤ n1) (b1 : sp < 2 ^ 31) (b2 : dp < 2 ^ 31) (b3 : n < 2 ^ 31) (hfr : 1 ≤ R.frames) (hlo : (rest.map fun v => v.category).sum + (nativeFrameWords "java/lang/System" "arraycopy" 5 + 11) ≤ R.locals) (hdg : decode cc pc = .ok (.invokestatic idx, 3))
    (kk : ∀ (cw : Nat → Int32) (H1 : Heap) (locs1 : List Loc), wd X A A s (ws.set q1 (a, .inl (X.2.1, n1, .inl cw))) H1 locs1 → W p l e R s m args below meth c H1 locs1 cells slots Q (F0 m (pc + 3) ls rest)) : W p l e R s m args below meth c H locs cells slots Q (F0 m pc ls (.int (nI n) :: .int (nI dp) :: .ref a :: .int (nI sp) :: .ref a0 :: rest)) :=
  va_copyi S.1 S.2.1 (S.2.2.1.trans hsz.symm) S.2.2.2.1 (S.2.2.2.2 _ hlink) (S.2.2.2.2 _ hnat) (S.2.2.2.2 _ hstat) (S.2.2.2.2 _ hini) G.1.1 G.2.1 G.2.2.1 G.2.2.2.1 q0 q1 0 0 ha0 ha1 rfl rfl rfl (nI_pos b1) (nI_pos b2) (nI_pos b3) (by rw [nI_clamp b1, nI_clamp b3]; exact h1) (by rw [nI_clamp b2, nI_clamp b3]; exact h2) (fun _ _ => rfl) hfr hlo hdg (fun H1 locs1 h1 h2 h3 => kk _ H1 locs1 ⟨G.1, h1, h2, h3, G.2.2.2.2⟩)
theorem r_mminE {idx : Nat} {x y : Int32} (S : CallFix p m c cc nL s args Ts own) (hsz : ls.size = nL) (hlink : Cond.methodLink own idx Lib.Math.min.name ∈ Ts) (hstat : Cond.static Lib.Math.min.name ∈ Ts) (hini : Cond.initialized "java/lang/Math" ∈ Ts) (hcode : Cond.code Lib.Math.min.name Lib.Math.min.code 2 (some .int) ∈ Ts) (hfr : 1 ≤ R.frames) (hlo : (rest.map fun v => v.category).sum + 13 ≤ R.locals) (hc : cells ≤ R.cells) (hs : slots ≤ R.slots) (hdg : decode cc pc = .ok (.invokestatic idx, 3))
    (kk : ∀ v : Int32, W p l e R s m args below meth c H locs cells slots Q (F0 m (pc + 3) ls (.int v :: rest))) : W p l e R s m args below meth c H locs cells slots Q (F0 m pc ls (.int y :: .int x :: rest)) :=
  va_mmin S.1 S.2.1 (S.2.2.1.trans hsz.symm) S.2.2.2.1 (S.2.2.2.2 _ hlink) (S.2.2.2.2 _ hstat) (S.2.2.2.2 _ hini) (S.2.2.2.2 _ hcode) hfr hlo hc hs hdg (kk _)
theorem r_mmaxE {idx : Nat} {x y : Int32} (S : CallFix p m c cc nL s args Ts own) (hsz : ls.size = nL) (hlink : Cond.methodLink own idx Lib.Math.max.name ∈ Ts) (hstat : Cond.static Lib.Math.max.name ∈ Ts) (hini : Cond.initialized "java/lang/Math" ∈ Ts) (hcode : Cond.code Lib.Math.max.name Lib.Math.max.code 2 (some .int) ∈ Ts) (hfr : 1 ≤ R.frames) (hlo : (rest.map fun v => v.category).sum + 13 ≤ R.locals) (hc : cells ≤ R.cells) (hs : slots ≤ R.slots) (hdg : decode cc pc = .ok (.invokestatic idx, 3))
    (kk : ∀ v : Int32, W p l e R s m args below meth c H locs cells slots Q (F0 m (pc + 3) ls (.int v :: rest))) : W p l e R s m args below meth c H locs cells slots Q (F0 m pc ls (.int y :: .int x :: rest)) :=
  va_mmax S.1 S.2.1 (S.2.2.1.trans hsz.symm) S.2.2.2.1 (S.2.2.2.2 _ hlink) (S.2.2.2.2 _ hstat) (S.2.2.2.2 _ hini) (S.2.2.2.2 _ hcode) hfr hlo hc hs hdg (kk _)
theorem r_mabsE {idx : Nat} {x : Int32} (S : CallFix p m c cc nL s args Ts own) (hsz : ls.size = nL) (hlink : Cond.methodLink own idx Lib.Math.abs.name ∈ Ts) (hstat : Cond.static Lib.Math.abs.name ∈ Ts) (hini : Cond.initialized "java/lang/Math" ∈ Ts) (hcode : Cond.code Lib.Math.abs.name Lib.Math.abs.code 1 (some .int) ∈ Ts) (hfr : 1 ≤ R.frames) (hlo : (rest.map fun v => v.category).sum + 13 ≤ R.locals) (hc : cells ≤ R.cells) (hs : slots ≤ R.slots) (hdg : decode cc pc = .ok (.invokestatic idx, 3))
    (kk : ∀ v : Int32, W p l e R s m args below meth c H locs cells slots Q (F0 m (pc + 3) ls (.int v :: rest))) : W p l e R s m args below meth c H locs cells slots Q (F0 m pc ls (.int x :: rest)) :=
  va_mabs S.1 S.2.1 (S.2.2.1.trans hsz.symm) S.2.2.2.1 (S.2.2.2.2 _ hlink) (S.2.2.2.2 _ hstat) (S.2.2.2.2 _ hini) (S.2.2.2.2 _ hcode) hfr (by omega) hc hs hdg (kk _)
theorem r_mminP {idx : Nat} {x y : Int32} (S : CallFix p m c cc nL s args Ts own) (hsz : ls.size = nL) (hlink : Cond.methodLink own idx Lib.Math.min.name ∈ Ts) (hstat : Cond.static Lib.Math.min.name ∈ Ts) (hini : Cond.initialized "java/lang/Math" ∈ Ts) (hcode : Cond.code Lib.Math.min.name Lib.Math.min.code 2 (some .int) ∈ Ts) (hfr : 1 ≤ R.frames) (hlo : (rest.map fun v => v.category).sum + 13 ≤ R.locals) (hc : cells ≤ R.cells) (hs : slots ≤ R.slots) (hdg : decode cc pc = .ok (.invokestatic idx, 3)) (h6 : x ≤ 60)
    (kk : ∀ v : Int32, v ≤ 60 → W p l e R s m args below meth c H locs cells slots Q (F0 m (pc + 3) ls (.int v :: rest))) : W p l e R s m args below meth c H locs cells slots Q (F0 m pc ls (.int x :: .int y :: rest)) :=
  va_mmin S.1 S.2.1 (S.2.2.1.trans hsz.symm) S.2.2.2.1 (S.2.2.2.2 _ hlink) (S.2.2.2.2 _ hstat) (S.2.2.2.2 _ hini) (S.2.2.2.2 _ hcode) hfr hlo hc hs hdg (kk _ (by
    by_cases h : x < y
    · rw [if_pos h]; exact h6
    · rw [if_neg h]; exact Int32.le_trans (Int32.not_lt.mp h) h6))
end EKg
theorem k_le60 {x : Int32} {k : Nat} (h1 : nI k ≤ x) (h2 : x ≤ 60) (hk : k < 2 ^ 31) : k ≤ 60 := j_le (b := 60) hk (by decide) (Int32.le_trans h1 h2)
theorem k_r60 {k : Nat} (hk : k ≤ 60) : (-1 : Int32) ≤ nI k ∧ nI k ≤ 60 := ⟨Int32.le_trans (by decide) (nI_pos' (by omega)), nI_le (b := 60) hk (by decide)⟩
theorem k_ix {x : Int32} {n : Nat} (hn : n < 2 ^ 31) (h0 : ¬ x < 0) (h1 : ¬ nI n ≤ x) : ∃ j : Nat, j < n ∧ x = nI j := by
  rcases pk_ix x hn with h | h | ⟨j, hj, rfl⟩
  · exact absurd h h0
  · exact absurd h h1
  · exact ⟨j, hj, rfl⟩
theorem k_m60 {r : Int32} (h : (-1 : Int32) ≤ r ∧ r ≤ 60) : r - 1 ≤ 60 := by
  have h1 := Int32.le_iff_toInt_le.mp h.1
  have h2 := Int32.le_iff_toInt_le.mp h.2
  have e1 : (-1 : Int32).toInt = -1 := by decide
  have e2 : (60 : Int32).toInt = 60 := by decide
  have e3 : (1 : Int32).toInt = 1 := by decide
  rw [e1] at h1
  rw [e2] at h2
  refine Int32.le_iff_toInt_le.mpr ?_
  rw [Int32.toInt_sub, e2, e3]
  have : (r.toInt - 1).bmod (2 ^ 32) = r.toInt - 1 := by
    apply Int.bmod_eq_of_le <;> omega
  rw [this]
  omega
theorem k_60a {r : Int32} (h : (-1 : Int32) ≤ r ∧ r ≤ 60) : r ≤ 60 := h.2
theorem k_ts0_8 (x : Int32) : x = 0 ∨ x = 1 ∨ x = 2 ∨ x = 3 ∨ x = 4 ∨ x = 5 ∨ x = 6 ∨ x = 7 ∨ x = 8 ∨ (x.toInt < 0 ∨ 8 < x.toInt) := by
  by_cases h : 0 ≤ x.toInt ∧ x.toInt ≤ 8
  · have : x.toInt = 0 ∨ x.toInt = 1 ∨ x.toInt = 2 ∨ x.toInt = 3 ∨ x.toInt = 4 ∨ x.toInt = 5 ∨ x.toInt = 6 ∨ x.toInt = 7 ∨ x.toInt = 8 := by omega
    rcases this with q | q | q | q | q | q | q | q | q
    · exact Or.inl (k_of x 0 q (by decide))
    · exact Or.inr (Or.inl (k_of x 1 q (by decide)))
    · exact Or.inr (Or.inr (Or.inl (k_of x 2 q (by decide))))
    · exact Or.inr (Or.inr (Or.inr (Or.inl (k_of x 3 q (by decide)))))
    · exact Or.inr (Or.inr (Or.inr (Or.inr (Or.inl (k_of x 4 q (by decide))))))
    · exact Or.inr (Or.inr (Or.inr (Or.inr (Or.inr (Or.inl (k_of x 5 q (by decide)))))))
    · exact Or.inr (Or.inr (Or.inr (Or.inr (Or.inr (Or.inr (Or.inl (k_of x 6 q (by decide))))))))
    · exact Or.inr (Or.inr (Or.inr (Or.inr (Or.inr (Or.inr (Or.inr (Or.inl (k_of x 7 q (by decide)))))))))
    · exact Or.inr (Or.inr (Or.inr (Or.inr (Or.inr (Or.inr (Or.inr (Or.inr (Or.inl (k_of x 8 q (by decide))))))))))
  · exact Or.inr (Or.inr (Or.inr (Or.inr (Or.inr (Or.inr (Or.inr (Or.inr (Or.inr (by omega)))))))))
theorem k_ts0_10 (x : Int32) : x = 0 ∨ x = 1 ∨ x = 2 ∨ x = 3 ∨ x = 4 ∨ x = 5 ∨ x = 6 ∨ x = 7 ∨ x = 8 ∨ x = 9 ∨ x = 10 ∨ (x.toInt < 0 ∨ 10 < x.toInt) := by
  by_cases h : 0 ≤ x.toInt ∧ x.toInt ≤ 10
  · have : x.toInt = 0 ∨ x.toInt = 1 ∨ x.toInt = 2 ∨ x.toInt = 3 ∨ x.toInt = 4 ∨ x.toInt = 5 ∨ x.toInt = 6 ∨ x.toInt = 7 ∨ x.toInt = 8 ∨ x.toInt = 9 ∨ x.toInt = 10 := by omega
    rcases this with q | q | q | q | q | q | q | q | q | q | q
    · exact Or.inl (k_of x 0 q (by decide))
    · exact Or.inr (Or.inl (k_of x 1 q (by decide)))
    · exact Or.inr (Or.inr (Or.inl (k_of x 2 q (by decide))))
    · exact Or.inr (Or.inr (Or.inr (Or.inl (k_of x 3 q (by decide)))))
    · exact Or.inr (Or.inr (Or.inr (Or.inr (Or.inl (k_of x 4 q (by decide))))))
    · exact Or.inr (Or.inr (Or.inr (Or.inr (Or.inr (Or.inl (k_of x 5 q (by decide)))))))
    · exact Or.inr (Or.inr (Or.inr (Or.inr (Or.inr (Or.inr (Or.inl (k_of x 6 q (by decide))))))))
    · exact Or.inr (Or.inr (Or.inr (Or.inr (Or.inr (Or.inr (Or.inr (Or.inl (k_of x 7 q (by decide)))))))))
    · exact Or.inr (Or.inr (Or.inr (Or.inr (Or.inr (Or.inr (Or.inr (Or.inr (Or.inl (k_of x 8 q (by decide))))))))))
    · exact Or.inr (Or.inr (Or.inr (Or.inr (Or.inr (Or.inr (Or.inr (Or.inr (Or.inr (Or.inl (k_of x 9 q (by decide)))))))))))
    · exact Or.inr (Or.inr (Or.inr (Or.inr (Or.inr (Or.inr (Or.inr (Or.inr (Or.inr (Or.inr (Or.inl (k_of x 10 q (by decide))))))))))))
  · exact Or.inr (Or.inr (Or.inr (Or.inr (Or.inr (Or.inr (Or.inr (Or.inr (Or.inr (Or.inr (Or.inr (by omega)))))))))))
theorem k_in02 {x : Int32} (h : (0 : Int32) ≤ x ∧ x ≤ 2) : vp_in x 3 := by
  rcases k_012 h with rfl | rfl | rfl <;> exact k_vp (by decide)
theorem k_in01 {x : Int32} (h : (0 : Int32) ≤ x ∧ x ≤ 1) : vp_in x 2 := by
  rcases k_01 h with rfl | rfl <;> exact k_vp (by decide)
theorem k_lt60 {x : Int32} {k : Nat} (h1 : nI k < x) (h2 : x ≤ 60) (hk : k < 2 ^ 31) : k < 60 := by
  have h3 := Int32.lt_iff_toInt_lt.mp h1
  have h4 := Int32.le_iff_toInt_le.mp h2
  have e : (60 : Int32).toInt = 60 := by decide
  rw [e] at h4
  rw [nI_toInt hk] at h3
  omega
theorem k_minN {a c : Nat} (h : a ≤ c) (hc : c < 2 ^ 31) : (if nI a < nI c then nI a else nI c) = nI a := by
  by_cases q : nI a < nI c
  · rw [if_pos q]
  · rw [if_neg q]
    have := j_nlt (by omega) hc q
    rw [show a = c by omega]
theorem k_nat01 {x : Int32} (h : (0 : Int32) ≤ x ∧ x ≤ 1) : ∃ j : Nat, j < 2 ∧ x = nI j := by
  rcases k_01 h with rfl | rfl
  · exact ⟨0, by decide, rfl⟩
  · exact ⟨1, by decide, rfl⟩
theorem k_nat6 {x : Int32} (h : (0 : Int32) ≤ x ∧ x ≤ 6) : ∃ j : Nat, j < 7 ∧ x = nI j := by
  obtain ⟨j, hj, rfl⟩ := nI_of2 (x := x) (M := 6) (n := 6) (by decide) (Int32.not_lt.mpr h.1) h.2
  exact ⟨j, by omega, rfl⟩
theorem k_sm {a : Int} (h1 : -1000 ≤ a) (h2 : a ≤ 1000) : a.bmod (2 ^ 32) = a := by
  apply Int.bmod_eq_of_le <;> omega
theorem k_tu {k : Nat} {x r : Int32} (hk : k ≤ 30) (hx : x ≤ 60) (hlt : nI k < x) (h1 : (-1 : Int32) ≤ r ∧ r ≤ 60) (h2 : r ≤ x - nI k ∨ r ≤ 0) : (-1 : Int32) ≤ nI k + r ∧ nI k + r ≤ 60 := by
  have a1 := Int32.le_iff_toInt_le.mp h1.1
  have a2 := Int32.le_iff_toInt_le.mp h1.2
  have a3 := Int32.le_iff_toInt_le.mp hx
  have a4 := Int32.lt_iff_toInt_lt.mp hlt
  have e1 : (-1 : Int32).toInt = -1 := by decide
  have e2 : (60 : Int32).toInt = 60 := by decide
  have e0 : (0 : Int32).toInt = 0 := by decide
  have ek : (nI k).toInt = (k : Int) := nI_toInt (by omega)
  rw [e1] at a1
  rw [e2] at a2 a3
  rw [ek] at a4
  have es : (nI k + r).toInt = (k : Int) + r.toInt := by rw [Int32.toInt_add, ek]; exact k_sm (by omega) (by omega)
  have hb : r.toInt ≤ x.toInt - k ∨ r.toInt ≤ 0 := by
    rcases h2 with q | q
    · left
      have q2 := Int32.le_iff_toInt_le.mp q
      rw [Int32.toInt_sub, ek, k_sm (by omega) (by omega)] at q2
      exact q2
    · right
      have q2 := Int32.le_iff_toInt_le.mp q
      rw [e0] at q2
      exact q2
  constructor
  · refine Int32.le_iff_toInt_le.mpr ?_
    rw [e1, es]
    omega
  · refine Int32.le_iff_toInt_le.mpr ?_
    rw [e2, es]
    omega
theorem k_s60 {k : Nat} {x : Int32} (hk : k ≤ 30) (hx : x ≤ 60) (hlt : nI k < x) : x - nI k ≤ 60 := by
  have a3 := Int32.le_iff_toInt_le.mp hx
  have a4 := Int32.lt_iff_toInt_lt.mp hlt
  have e2 : (60 : Int32).toInt = 60 := by decide
  have ek : (nI k).toInt = (k : Int) := nI_toInt (by omega)
  rw [e2] at a3
  rw [ek] at a4
  refine Int32.le_iff_toInt_le.mpr ?_
  rw [e2, Int32.toInt_sub, ek, k_sm (by omega) (by omega)]
  omega
theorem k_lnz {y : Int64} (h : ¬ lg_cmp y (Int32.toInt64 0) = 0) : ¬ y = 0 := fun q => h (by rw [q]; decide)
theorem k_lnz2 {y : Int64} (h : ¬ lg_cmp y (Int32.toInt64 0) ≤ 0) : ¬ y = 0 := fun q => h (by rw [q]; decide)
theorem k_7c {j : Nat} (h : j < 7) : j = 0 ∨ j = 1 ∨ j = 2 ∨ j = 3 ∨ j = 4 ∨ j = 5 ∨ j = 6 := by omega
