section EKb
variable {p : Program} {l : Launch} {e : Env} {R : Room} {s : State} {m : MethodId} {args : Array Value} {below : List Frame} {meth : Method} {c : Code} {H : Heap} {locs : List Loc} {cells slots : Nat} {Q : State → Prop}
variable {cc : ByteArray} {pc nL : Nat} {ls : Array Slot} {rest : List Value} {X : EX} {A B : Nat → Prop} {a : Nat} {ws : va_W} {Ts : List Cond} {own : String}
theorem k_ld {v v0 : Int64} (hv : v0 = v) (kk : W p l e R s m args below meth c H locs cells slots Q (F0 m pc ls (.long v :: rest))) : W p l e R s m args below meth c H locs cells slots Q (F0 m pc ls (.long v0 :: rest)) := by rw [hv]; exact kk
theorem k_it {v v0 : Int32} (hv : v0 = v) (kk : W p l e R s m args below meth c H locs cells slots Q (F0 m pc ls (.int v :: rest))) : W p l e R s m args below meth c H locs cells slots Q (F0 m pc ls (.int v0 :: rest)) := by rw [hv]; exact kk
theorem o_rv {mc ms cells' slots' : Nat} {ag : Array Value} {st0 : List Value} {S0 : Type} {w1 : S0 → va_W} {post : S0 → Prop} (G : wd X B A s ws H locs) (e1 : cells + mc = cells') (e2 : slots + ms = slots') (hr : va_Run p l e R s m args below meth c H locs cells slots mc ms (F0 m pc ls st0) rest (qV post X w1 [] H.size ag) (va_A [] H.size))
    (kk : ∀ (u : S0) (H1 : Heap) (locs1 : List Loc), post u → wd X B A s ws H1 locs1 → W p l e R s m args below meth c H1 locs1 cells' slots' Q (F0 m (pc + 3) ls rest)) : W p l e R s m args below meth c H locs cells slots Q (F0 m pc ls st0) := by
  subst e1; subst e2
  exact va_callv hr G.2.2.2.1 (fun q _ h => ro_F G q h) (ro_F G) (fun u t H1 locs1 ht hvm hp hB hz hk hS => kk u H1 locs1 hp (ro_G G hk hS))
theorem wd_sub {ws' : va_W} (G : wd X B A s ws H locs) (is : List Nat) (hs : is.map (fun i => ws[i]?) = ws'.map some) (hn : va_nd is = true) : wd X B A s ws' H locs :=
  ⟨G.1, G.2.1.sub is (mp_fm hs), G.2.2.1.sub is hn hs, G.2.2.2.1, G.2.2.2.2⟩
theorem r_mmin {idx : Nat} {x y v : Int32} (S : CallFix p m c cc nL s args Ts own) (hsz : ls.size = nL) (hlink : Cond.methodLink own idx Lib.Math.min.name ∈ Ts) (hstat : Cond.static Lib.Math.min.name ∈ Ts) (hini : Cond.initialized "java/lang/Math" ∈ Ts) (hcode : Cond.code Lib.Math.min.name Lib.Math.min.code 2 (some .int) ∈ Ts) (hfr : 1 ≤ R.frames) (hlo : (rest.map fun v => v.category).sum + 13 ≤ R.locals) (hc : cells ≤ R.cells) (hs : slots ≤ R.slots) (hv : (if y < x then y else x) = v) (hdg : decode cc pc = .ok (.invokestatic idx, 3))
    (kk : W p l e R s m args below meth c H locs cells slots Q (F0 m (pc + 3) ls (.int v :: rest))) : W p l e R s m args below meth c H locs cells slots Q (F0 m pc ls (.int y :: .int x :: rest)) :=
  va_mmin S.1 S.2.1 (S.2.2.1.trans hsz.symm) S.2.2.2.1 (S.2.2.2.2 _ hlink) (S.2.2.2.2 _ hstat) (S.2.2.2.2 _ hini) (S.2.2.2.2 _ hcode) hfr hlo hc hs hdg (by rw [hv]; exact kk)
theorem r_copy0 {idx : Nat} {a0 n0 n1 : Nat} {f g : Nat → Int32} (S : CallFix p m c cc nL s args Ts own) (hsz : ls.size = nL) (G : wd X A A s ws H locs) (hlink : Cond.methodLink own idx arraycopyName ∈ Ts) (hnat : Cond.native arraycopyName ∈ Ts) (hstat : Cond.static arraycopyName ∈ Ts) (hini : Cond.initialized "java/lang/System" ∈ Ts) (q0 q1 : Nat) (ha0 : ws[q0]? = some (a0, .inl (X.2.1, n0, .inl f))) (ha1 : ws[q1]? = some (a, .inl (X.2.1, n1, .inl g))) (hfr : 1 ≤ R.frames) (hlo : (rest.map fun v => v.category).sum + (nativeFrameWords "java/lang/System" "arraycopy" 5 + 11) ≤ R.locals) (hdg : decode cc pc = .ok (.invokestatic idx, 3))
    (kk : ∀ (H1 : Heap) (locs1 : List Loc), wd X A A s (ws.set q1 (a, .inl (X.2.1, n1, .inl g))) H1 locs1 → W p l e R s m args below meth c H1 locs1 cells slots Q (F0 m (pc + 3) ls rest)) : W p l e R s m args below meth c H locs cells slots Q (F0 m pc ls (.int 0 :: .int 0 :: .ref a :: .int 0 :: .ref a0 :: rest)) := by
  refine va_copyi S.1 S.2.1 (S.2.2.1.trans hsz.symm) S.2.2.2.1 (S.2.2.2.2 _ hlink) (S.2.2.2.2 _ hnat) (S.2.2.2.2 _ hstat) (S.2.2.2.2 _ hini) G.1.1 G.2.1 G.2.2.1 G.2.2.2.1 q0 q1 0 0 ha0 ha1 rfl rfl rfl (by decide) (by decide) (by decide) (Nat.zero_le _) (Nat.zero_le _) (fun i hi => absurd hi (Nat.not_lt_zero i)) hfr hlo hdg (fun H1 locs1 h1 h2 h3 => kk H1 locs1 ⟨G.1, ?_, ?_, h3, G.2.2.2.2⟩)
  · have e : va_cpy f g (0 : Int32).toNatClampNeg (0 : Int32).toNatClampNeg (0 : Int32).toNatClampNeg = g := by
      funext j
      exact pk_cpy_out (Or.inr (Nat.zero_le _))
    rw [e] at h1; exact h1
  · have e : va_cpy f g (0 : Int32).toNatClampNeg (0 : Int32).toNatClampNeg (0 : Int32).toNatClampNeg = g := by
      funext j
      exact pk_cpy_out (Or.inr (Nat.zero_le _))
    rw [e] at h2; exact h2
end EKb
theorem k_in {x : Int32} {n : Nat} (hn : n < 2 ^ 31) (h0 : ¬ x < 0) (h1 : ¬ nI n ≤ x) : vp_in x n := by
  rcases pk_ix x hn with h | h | ⟨j, hj, rfl⟩
  · exact absurd h h0
  · exact absurd h h1
  · exact vp_in_nI hj hn
theorem k_01 {x : Int32} (h : (0 : Int32) ≤ x ∧ x ≤ 1) : x = 0 ∨ x = 1 := by
  obtain ⟨j, hj, rfl⟩ := nI_of2 (x := x) (M := 1) (n := 1) (by decide) (Int32.not_lt.mpr h.1) h.2
  have : j = 0 ∨ j = 1 := by omega
  rcases this with rfl | rfl
  · exact Or.inl rfl
  · exact Or.inr rfl
theorem k_012 {x : Int32} (h : (0 : Int32) ≤ x ∧ x ≤ 2) : x = 0 ∨ x = 1 ∨ x = 2 := by
  obtain ⟨j, hj, rfl⟩ := nI_of2 (x := x) (M := 2) (n := 2) (by decide) (Int32.not_lt.mpr h.1) h.2
  have : j = 0 ∨ j = 1 ∨ j = 2 := by omega
  rcases this with rfl | rfl | rfl
  · exact Or.inl rfl
  · exact Or.inr (Or.inl rfl)
  · exact Or.inr (Or.inr rfl)
theorem k_10 {x : Int32} (h : (0 : Int32) ≤ x ∧ x ≤ 10) : x = 0 ∨ x = 1 ∨ x = 2 ∨ x = 3 ∨ x = 4 ∨ x = 5 ∨ x = 6 ∨ x = 7 ∨ x = 8 ∨ x = 9 ∨ x = 10 := by
  obtain ⟨j, hj, rfl⟩ := nI_of2 (x := x) (M := 10) (n := 10) (by decide) (Int32.not_lt.mpr h.1) h.2
  have : j = 0 ∨ j = 1 ∨ j = 2 ∨ j = 3 ∨ j = 4 ∨ j = 5 ∨ j = 6 ∨ j = 7 ∨ j = 8 ∨ j = 9 ∨ j = 10 := by omega
  rcases this with rfl | rfl | rfl | rfl | rfl | rfl | rfl | rfl | rfl | rfl | rfl <;> first | exact Or.inl rfl | exact Or.inr (Or.inl rfl) | decide
theorem k_le32 (a b : Int32) : a ≤ b ↔ a.toInt ≤ b.toInt := Int32.le_iff_toInt_le
theorem k_lt32 (a b : Int32) : a < b ↔ a.toInt < b.toInt := Int32.lt_iff_toInt_lt
/-- eleven cases, or outside -/
theorem k_sw (x : Int32) : ((0 : Int32) ≤ x ∧ x ≤ 10) ∨ ((x.toInt < 0 ∨ 10 < x.toInt) ∧ ¬ ((0 : Int32) ≤ x ∧ x ≤ 10)) := by
  by_cases h : (0 : Int32) ≤ x ∧ x ≤ 10
  · exact Or.inl h
  · refine Or.inr ⟨?_, h⟩
    rw [k_le32, k_le32] at h
    have h0 : (0 : Int32).toInt = 0 := by decide
    have h1 : (10 : Int32).toInt = 10 := by decide
    rw [h0, h1] at h
    omega
theorem k_l64 (x y : Int32) : x.toInt64 < y.toInt64 ↔ x < y := by
  rw [Int64.lt_iff_toInt_lt, Int32.lt_iff_toInt_lt, Int32.toInt_toInt64, Int32.toInt_toInt64]
theorem k_cmp (a b : Int32) : (b < a ∧ lg_cmp a.toInt64 b.toInt64 = 1) ∨ (a = b ∧ lg_cmp a.toInt64 b.toInt64 = 0) ∨ (a < b ∧ lg_cmp a.toInt64 b.toInt64 = -1) := by
  have h : a.toInt < b.toInt ∨ a.toInt = b.toInt ∨ b.toInt < a.toInt := by omega
  rcases h with h | h | h
  · have h1 : a < b := Int32.lt_iff_toInt_lt.mpr h
    have h2 : ¬ b.toInt64 < a.toInt64 := fun q => by
      have q2 := Int32.lt_iff_toInt_lt.mp ((k_l64 b a).mp q)
      omega
    have h3 : ¬ a.toInt64 = b.toInt64 := fun q => by
      have q2 := (k_l64 a b).mpr h1
      rw [q] at q2
      exact Int64.lt_irrefl q2
    refine Or.inr (Or.inr ⟨h1, ?_⟩)
    unfold lg_cmp
    rw [if_neg h2, if_neg h3]
  · have h1 : a = b := Int32.toInt_inj.mp h
    subst h1
    refine Or.inr (Or.inl ⟨rfl, ?_⟩)
    unfold lg_cmp
    rw [if_neg Int64.lt_irrefl, if_pos rfl]
  · have h1 : b < a := Int32.lt_iff_toInt_lt.mpr h
    refine Or.inl ⟨h1, ?_⟩
    unfold lg_cmp
    rw [if_pos ((k_l64 b a).mpr h1)]
theorem k_lc1 {a b : Int32} : lg_cmp a.toInt64 b.toInt64 < 0 ↔ a < b := by
  rcases k_cmp a b with ⟨h, e⟩ | ⟨h, e⟩ | ⟨h, e⟩
  · rw [e]; exact ⟨fun q => absurd q (by decide), fun q => absurd (Int32.lt_trans q h) Int32.lt_irrefl⟩
  · rw [e]; subst h; exact ⟨fun q => absurd q (by decide), fun q => absurd q Int32.lt_irrefl⟩
  · rw [e]; exact ⟨fun _ => h, fun _ => by decide⟩
theorem k_lc2 {a b : Int32} : 0 < lg_cmp a.toInt64 b.toInt64 ↔ b < a := by
  rcases k_cmp a b with ⟨h, e⟩ | ⟨h, e⟩ | ⟨h, e⟩
  · rw [e]; exact ⟨fun _ => h, fun _ => by decide⟩
  · rw [e]; subst h; exact ⟨fun q => absurd q (by decide), fun q => absurd q Int32.lt_irrefl⟩
  · rw [e]; exact ⟨fun q => absurd q (by decide), fun q => absurd (Int32.lt_trans q h) Int32.lt_irrefl⟩
theorem k_p0 {x : Int32} (h : x = 0) : (if x = 0 then Int32.toInt64 0 else if x = 1 then Int32.toInt64 1 else Int32.toInt64 (-2)) = Int32.toInt64 0 := if_pos h
theorem k_p1 {x : Int32} (h : ((0 : Int32) ≤ x ∧ x ≤ 1) ∧ ¬ x = 0) : (if x = 0 then Int32.toInt64 0 else if x = 1 then Int32.toInt64 1 else Int32.toInt64 (-2)) = Int32.toInt64 1 := by
  rw [if_neg h.2]
  rcases k_01 h.1 with q | q
  · exact absurd q h.2
  · exact if_pos q
theorem k_p2 {x : Int32} (h : ¬ ((0 : Int32) ≤ x ∧ x ≤ 1)) : (if x = 0 then Int32.toInt64 0 else if x = 1 then Int32.toInt64 1 else Int32.toInt64 (-2)) = Int32.toInt64 (-2) := by
  rw [if_neg (fun q => h (by rw [q]; decide)), if_neg (fun q => h (by rw [q]; decide))]
theorem k_ge {E k : Nat} (hE : E < 2 ^ 31) (hk : k ≤ E) (c : nI E ≤ nI k) : k = E := by
  have := (nI_leI hE (by omega)).mp c
  omega
theorem k_lt {E k : Nat} (hE : E < 2 ^ 31) (hk : k ≤ E) (c : ¬ nI E ≤ nI k) : k < E := by
  rcases Nat.lt_or_ge k E with h | h
  · exact h
  · exact absurd ((nI_leI hE (by omega)).mpr h) c
theorem k_n60 {x lo : Int32} (hlo : (0 : Int32) ≤ lo) (h : lo ≤ x ∧ x ≤ 60) : ∃ N : Nat, N ≤ 60 ∧ x = nI N := by
  refine nI_of2 (x := x) (M := 60) (n := 60) (by decide) ?_ h.2
  exact Int32.not_lt.mpr (Int32.le_trans hlo h.1)
theorem k_loop {P G : Prop} (h : P → G) (q : P) : G := h q
theorem k_seed {x : Int32} (h : (0 : Int32) ≤ x ∧ x ≤ 999999) : ∃ z : Nat, z < 2147483648 ∧ x = nI z := by
  obtain ⟨j, hj, rfl⟩ := nI_of2 (x := x) (M := 999999) (n := 999999) (by decide) (Int32.not_lt.mpr h.1) h.2
  exact ⟨j, by omega, rfl⟩
theorem k_rx {z : Nat} (hz : z < 2147483648) : ∃ z1 : Nat, z1 < 2147483648 ∧ ((lN z * (Int32.toInt64 1103515245)) + (Int32.toInt64 12345)) - ((lN z * (Int32.toInt64 1103515245)) + (Int32.toInt64 12345)) / 2147483648 * 2147483648 = lN z1 := by
  refine ⟨(z * 1103515245 + 12345) % 2147483648, Nat.mod_lt _ (by decide), ?_⟩
  have e1 : Int32.toInt64 1103515245 = lN 1103515245 := by decide
  have e2 : Int32.toInt64 12345 = lN 12345 := by decide
  have e3 : (2147483648 : Int64) = lN 2147483648 := rfl
  rw [e1, e2, e3, lN_mul, lN_add]
  exact pk_lRem (by omega) (by decide) (by decide)
theorem k_ri {z : Nat} (hz : z < 2147483648) : ∃ j : Nat, j < 6 ∧ Int64.toInt32 ((lN z / (Int32.toInt64 65536)) - (lN z / (Int32.toInt64 65536)) / (Int32.toInt64 6) * (Int32.toInt64 6)) = nI j := by
  refine ⟨z / 65536 % 6, Nat.mod_lt _ (by decide), ?_⟩
  have e1 : Int32.toInt64 65536 = lN 65536 := by decide
  have e2 : Int32.toInt64 6 = lN 6 := by decide
  rw [e1, e2, pk_lDiv (by omega) (by decide) (by decide), pk_lRem (by omega) (by decide) (by decide), lN_i]
theorem k_vp {i : Int32} {n : Nat} (h : ¬ (i < 0 ∨ n ≤ i.toNatClampNeg)) : vp_in i n := h
theorem k_up0 {g : Nat → Int32} {k : Nat} (h : ∀ j : Nat, j < k → g j = 0) : ∀ j : Nat, j < k + 1 → upd g k 0 j = 0 := fun j hj => by
  by_cases e : j = k
  · subst e; exact pk_us
  · rw [pk_un e]; exact h j (by omega)
theorem k_upge {g f : Nat → Int32} {k : Nat} (hk : k < 123) (h : ∀ j : Nat, 123 ≤ j → g j = f j) (x : Int32) : ∀ j : Nat, 123 ≤ j → upd g k x j = f j := fun j hj => by
  rw [pk_un (by omega)]; exact h j hj
theorem k_uplt {g f : Nat → Int32} {k : Nat} (hk : 123 ≤ k) (h : ∀ j : Nat, j < 123 → g j = f j) (x : Int32) : ∀ j : Nat, j < 123 → upd g k x j = f j := fun j hj => by
  rw [pk_un (by omega)]; exact h j hj
theorem k_upeq {g f : Nat → Int32} {k : Nat} (h : ∀ j : Nat, j < k → g j = f j) : ∀ j : Nat, j < k + 1 → upd g k (f k) j = f j := fun j hj => by
  by_cases e : j = k
  · subst e; exact pk_us
  · rw [pk_un e]; exact h j (by omega)
theorem k_beg {g f : Nat → Int32} {x : Int32} (h1 : ∀ j : Nat, j < 123 → g j = 0) (h2 : ∀ j : Nat, 123 ≤ j → g j = f j) : (∀ j : Nat, j < 123 → j ≠ 36 → upd g 36 x j = 0) ∧ upd g 36 x 36 = x ∧ ∀ j : Nat, 123 ≤ j → upd g 36 x j = f j :=
  ⟨fun j h q => by rw [pk_un q]; exact h1 j h, pk_us, fun j h => by rw [pk_un (by omega)]; exact h2 j h⟩
theorem k_ini {u : Nat → Int32} {x : Int32} (h : (∀ j : Nat, j < 123 → j ≠ 36 → u j = 0) ∧ u 36 = x ∧ ∀ j : Nat, 123 ≤ j → u j = (fun _ => 0) j) {j : Nat} (hj : j ≠ 36) : u j = 0 := by
  rcases Nat.lt_or_ge j 123 with q | q
  · exact h.1 j q hj
  · exact h.2.2 j q
theorem k_q1 {x : Int32} (h0 : ¬ x = 0) (h1 : x = 1) : (if x = 0 then Int32.toInt64 0 else if x = 1 then Int32.toInt64 1 else Int32.toInt64 (-2)) = Int32.toInt64 1 := by rw [if_neg h0, if_pos h1]
theorem k_q2 {x : Int32} (h0 : ¬ x = 0) (h1 : ¬ x = 1) : (if x = 0 then Int32.toInt64 0 else if x = 1 then Int32.toInt64 1 else Int32.toInt64 (-2)) = Int32.toInt64 (-2) := by rw [if_neg h0, if_neg h1]
