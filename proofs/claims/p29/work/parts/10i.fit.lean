/-! what fits what was told: sets as plain functions -/
def rowA (f : Nat → Int32) (j : Nat) : Nat → Int32 := fun k => f (k * 5 + j)
def fitP (n : Nat) (w L t s x : Nat → Int32) (i kd : Int32) : Prop := ∀ k : Nat, k < n → w k = i → reachP kd (L k) (t k) (s k) = x k
def eggP (n : Nat) (w t x : Nat → Int32) (i kd : Int32) : Prop := ∀ k : Nat, k < n → w k = i → limitP kd (t k) = x k
theorem fitP_0 {w L t s x : Nat → Int32} {i kd : Int32} : fitP 0 w L t s x i kd := fun k h => absurd h (Nat.not_lt_zero k)
theorem eggP_0 {w t x : Nat → Int32} {i kd : Int32} : eggP 0 w t x i kd := fun k h => absurd h (Nat.not_lt_zero k)
theorem fitP_s {n : Nat} {w L t s x : Nat → Int32} {i kd : Int32} (h : fitP n w L t s x i kd) (c : w n = i → reachP kd (L n) (t n) (s n) = x n) : fitP (n + 1) w L t s x i kd := fun k hk => by
  rcases Nat.lt_or_ge k n with q | q
  · exact h k q
  · rw [show k = n by omega]; exact c
theorem eggP_s {n : Nat} {w t x : Nat → Int32} {i kd : Int32} (h : eggP n w t x i kd) (c : w n = i → limitP kd (t n) = x n) : eggP (n + 1) w t x i kd := fun k hk => by
  rcases Nat.lt_or_ge k n with q | q
  · exact h k q
  · rw [show k = n by omega]; exact c
theorem fitP_m {n m : Nat} {w L t s x : Nat → Int32} {i kd : Int32} (h : ¬ fitP n w L t s x i kd) (hm : n ≤ m) : ¬ fitP m w L t s x i kd := fun q => h (fun k hk => q k (by omega))
theorem eggP_m {n m : Nat} {w t x : Nat → Int32} {i kd : Int32} (h : ¬ eggP n w t x i kd) (hm : n ≤ m) : ¬ eggP m w t x i kd := fun q => h (fun k hk => q k (by omega))
noncomputable def bitF (P : Prop) (k : Nat) : Int32 := haveI : Decidable (P) := Classical.propDecidable _; if P then 1 <<< (nI k &&& 31) else 0
theorem bitF_t {P : Prop} {k : Nat} (h : P) : bitF P k = 1 <<< (nI k &&& 31) := if_pos h
theorem bitF_f {P : Prop} {k : Nat} (h : ¬ P) : bitF P k = 0 := if_neg h
noncomputable def setF (P : Nat → Prop) (lo : Nat) : Nat → Int32
  | 0 => 0
  | m + 1 => setF P lo m ||| bitF (P (lo + m)) (lo + m)
theorem setF_n {P : Nat → Prop} {lo k : Nat} (h : lo ≤ k) : setF P lo (k + 1 - lo) = setF P lo (k - lo) ||| bitF (P k) k := by
  rw [show k + 1 - lo = (k - lo) + 1 from by omega, setF, show lo + (k - lo) = k from by omega]
noncomputable def ansF (P : Prop) (v : Int32) : Int32 := haveI : Decidable (P) := Classical.propDecidable _; if P then v else -2
theorem ansF_t {P : Prop} {v : Int32} (h : P) : ansF P v = v := if_pos h
theorem ansF_f {P : Prop} {v : Int32} (h : ¬ P) : ansF P v = -2 := if_neg h
/-! rows told -/
def app5 (f : Nat → Int32) (n : Nat) (a b c d e : Int32) : Nat → Int32 := upd (upd (upd (upd (upd f (n * 5 + 0) a) (n * 5 + 1) b) (n * 5 + 2) c) (n * 5 + 3) d) (n * 5 + 4) e
noncomputable def apgF (P : Prop) (M n : Nat) (f g : Nat → Int32) : Int32 × Nat × (Nat → Int32) := haveI : Decidable (P) := Classical.propDecidable _; if P then (if n < M then (nI (n + 1), (n + 1, g)) else (-4, (n, f))) else (-2, (n, f))
theorem apgF_n {P : Prop} {M n : Nat} {f g : Nat → Int32} (h : ¬ P) : apgF P M n f g = (-2, (n, f)) := if_neg h
theorem apgF_f {P : Prop} {M n : Nat} {f g : Nat → Int32} (h : P) (c : ¬ n < M) : apgF P M n f g = (-4, (n, f)) := (if_pos h).trans (if_neg c)
theorem apgF_p {P : Prop} {M n : Nat} {f g : Nat → Int32} (h : P) (c : n < M) : apgF P M n f g = (nI (n + 1), (n + 1, g)) := (if_pos h).trans (if_pos c)
def seenM (f : Nat → Int32) (n : Nat) (a b c d : Int32) : Nat → Int32 := upd (upd (upd (upd (upd f (55 + (4 * n)) a) ((55 + (4 * n)) + 1) b) ((55 + (4 * n)) + 2) c) ((55 + (4 * n)) + 3) d) 1 (nI (n + 1))
def noteM (f : Nat → Int32) (n : Nat) (a b c d e : Int32) : Nat → Int32 := upd (upd (upd (upd (upd (upd f (75 + (5 * n)) a) ((75 + (5 * n)) + 1) b) ((75 + (5 * n)) + 2) c) ((75 + (5 * n)) + 3) d) ((75 + (5 * n)) + 4) e) 2 (nI (n + 1))
def markM (f : Nat → Int32) (n : Nat) (a b c : Int32) : Nat → Int32 := upd (upd (upd (upd f (105 + (3 * n)) a) ((105 + (3 * n)) + 1) b) ((105 + (3 * n)) + 2) c) 3 (nI (n + 1))
/-- the told part of the reference's row is as it was -/
def kpM (f g : Nat → Int32) : Prop := ∀ j : Nat, 37 ≤ j → j < 123 → g j = f j
theorem kp_r {f : Nat → Int32} : kpM f f := fun _ _ _ => rfl
theorem kp_t {f g h : Nat → Int32} (a : kpM f g) (b : kpM g h) : kpM f h := fun j h1 h2 => (b j h1 h2).trans (a j h1 h2)
theorem kp_u {f g h : Nat → Int32} {j : Nat} {x : Int32} (a : kpM f g) (e : h = upd g j x) (hj : j < 37 ∨ 123 ≤ j) : kpM f h := fun q h1 h2 => by
  rw [e, upd_ne (by omega)]; exact a q h1 h2
theorem kp_g {f : Nat → Int32} {i : Nat} (hi : i < 6) : kpM f (goM f i) := fun q h1 h2 => goM_ne (by omega) (by omega) (by omega) (by omega)
section EKx
variable {p : Program} {l : Launch} {e : Env} {R : Room} {s : State} {m : MethodId} {args : Array Value} {below : List Frame} {meth : Method} {c : Code} {H : Heap} {locs : List Loc} {cells slots : Nat} {Q : State → Prop}
variable {cc : ByteArray} {pc nL : Nat} {ls : Array Slot} {rest : List Value} {X : EX} {A B : Nat → Prop} {a : Nat} {ws : va_W} {Ts : List Cond} {own : String}
/-- rows copied from their first cell on: what lies there then -/
theorem r_copyX {idx : Nat} {a0 n0 n1 : Nat} {f g : Nat → Int32} {n : Nat} (S : CallFix p m c cc nL s args Ts own) (hsz : ls.size = nL) (G : wd X A A s ws H locs) (hlink : Cond.methodLink own idx arraycopyName ∈ Ts) (hnat : Cond.native arraycopyName ∈ Ts) (hstat : Cond.static arraycopyName ∈ Ts) (hini : Cond.initialized "java/lang/System" ∈ Ts) (q0 q1 : Nat) (ha0 : ws[q0]? = some (a0, .inl (X.2.1, n0, .inl f))) (ha1 : ws[q1]? = some (a, .inl (X.2.1, n1, .inl g))) (h1 : n ≤ n0) (h2 : n ≤ n1) (b3 : n < 2 ^ 31) (hfr : 1 ≤ R.frames) (hlo : (rest.map fun v => v.category).sum + (nativeFrameWords "java/lang/System" "arraycopy" 5 + 11) ≤ R.locals) (hdg : decode cc pc = .ok (.invokestatic idx, 3))
    (kk : ∀ (cw : Nat → Int32) (H1 : Heap) (locs1 : List Loc), (∀ q : Nat, q < n → cw q = f q) → wd X A A s (ws.set q1 (a, .inl (X.2.1, n1, .inl cw))) H1 locs1 → W p l e R s m args below meth c H1 locs1 cells slots Q (F0 m (pc + 3) ls rest)) : W p l e R s m args below meth c H locs cells slots Q (F0 m pc ls (.int (nI n) :: .int 0 :: .ref a :: .int 0 :: .ref a0 :: rest)) :=
  va_copyi S.1 S.2.1 (S.2.2.1.trans hsz.symm) S.2.2.2.1 (S.2.2.2.2 _ hlink) (S.2.2.2.2 _ hnat) (S.2.2.2.2 _ hstat) (S.2.2.2.2 _ hini) G.1.1 G.2.1 G.2.2.1 G.2.2.2.1 q0 q1 0 0 ha0 ha1 rfl rfl rfl (by decide) (by decide) (nI_pos b3) (by rw [nI_clamp b3]; show 0 + n ≤ n0; omega) (by rw [nI_clamp b3]; show 0 + n ≤ n1; omega) (fun _ _ => rfl) hfr hlo hdg (fun H1 locs1 h1 h2 h3 => kk _ H1 locs1 (fun q hq => by
    rw [nI_clamp b3]
    show va_cpy f g 0 0 n q = f q
    unfold va_cpy
    simp [hq]) ⟨G.1, h1, h2, h3, G.2.2.2.2⟩)
end EKx
theorem cpl {v w a : Nat → Int32} {j : Nat} (h : ∀ q : Nat, q < 3 * j → v q = w q) (h0 : a 0 = w (3 * j + 0)) (h1 : a 1 = w (3 * j + 1)) (h2 : a 2 = w (3 * j + 2)) : ∀ q : Nat, q < 3 * (j + 1) → ovr v (3 * j) 3 a q = w q := fun q hq => by
  by_cases z : 3 * j ≤ q ∧ q < 3 * j + 3
  · rw [ovr_in z]
    have : q = 3 * j + 0 ∨ q = 3 * j + 1 ∨ q = 3 * j + 2 := by omega
    rcases this with e | e | e
    · rw [e, Nat.add_sub_cancel_left]; exact h0
    · rw [e, Nat.add_sub_cancel_left]; exact h1
    · rw [e, Nat.add_sub_cancel_left]; exact h2
  · rw [ovr_ne z]; exact h q (by omega)
/-! copies -/
def cpyP (v' s' n' m' v s n m : Nat → Int32) (a b c : Nat) : Prop := (∀ q : Nat, q < 18 → v' q = v q) ∧ (∀ q : Nat, q < a * 5 → s' q = s q) ∧ (∀ q : Nat, q < b * 5 → n' q = n q) ∧ (∀ q : Nat, q < c * 5 → m' q = m q)
def samP (v' s' n' m' v s n m : Nat → Int32) : Prop := v' = v ∧ s' = s ∧ n' = n ∧ m' = m
theorem samP_r {v s n m : Nat → Int32} : samP v s n m v s n m := ⟨rfl, rfl, rfl, rfl⟩
noncomputable def onxF (P : Prop) (n : Nat) (f g : Nat → Int32) : Int32 × Nat × (Nat → Int32) := haveI : Decidable (P) := Classical.propDecidable _; if P then (if n < 6 then (nI n, (n + 1, g)) else (-4, (n, f))) else (-2, (n, f))
theorem onxF_n {P : Prop} {n : Nat} {f g : Nat → Int32} (h : ¬ P) : onxF P n f g = (-2, (n, f)) := if_neg h
theorem onxF_f {P : Prop} {n : Nat} {f g : Nat → Int32} (h : P) (c : ¬ n < 6) : onxF P n f g = (-4, (n, f)) := (if_pos h).trans (if_neg c)
theorem onxF_p {P : Prop} {n : Nat} {f g : Nat → Int32} (h : P) (c : n < 6) : onxF P n f g = (nI n, (n + 1, g)) := (if_pos h).trans (if_pos c)
theorem k_no01 {x : Int32} {Q : Prop} (h : ¬ ((0 : Int32) ≤ x ∧ x ≤ 1)) : (x = 0 → Q) ∧ (x = 1 → Q) := ⟨fun e => absurd (by subst e; decide) h, fun e => absurd (by subst e; decide) h⟩
def kepM (x : Int32) (f k k' : Nat → Int32) : Prop := (x = 0 → (∀ q : Nat, q < 371 → k' q = f q) ∧ ∀ q : Nat, q < 371 → k' (371 + q) = k (371 + q)) ∧ (x = 1 → (∀ q : Nat, q < 371 → k' (371 + q) = f q) ∧ ∀ q : Nat, q < 371 → k' q = k q) ∧ (¬ ((0 : Int32) ≤ x ∧ x ≤ 1) → k' = k)
def takM (x : Int32) (z k f f' : Nat → Int32) : Prop := (x = 0 → ¬ z 0 = 0 → ∀ q : Nat, q < 371 → f' q = k q) ∧ (x = 1 → ¬ z 1 = 0 → ∀ q : Nat, q < 371 → f' q = k (371 + q)) ∧ ((¬ ((0 : Int32) ≤ x ∧ x ≤ 1) ∨ (x = 0 ∧ z 0 = 0) ∨ (x = 1 ∧ z 1 = 0)) → f' = f)
theorem kep_n {x : Int32} {f k : Nat → Int32} (h : ¬ ((0 : Int32) ≤ x ∧ x ≤ 1)) : kepM x f k k := ⟨(k_no01 h).1, (k_no01 h).2, fun _ => rfl⟩
theorem kep_0 {f k k' : Nat → Int32} (a : ∀ q : Nat, q < 371 → k' (0 + q) = f q) (b : ∀ q : Nat, q < 371 → k' (371 + q) = k (371 + q)) : kepM 0 f k k' := ⟨fun _ => ⟨fun q hq => by have := a q hq; rw [Nat.zero_add] at this; exact this, b⟩, fun e => absurd e (by decide), fun h => absurd (by decide) h⟩
theorem kep_1 {f k k' : Nat → Int32} (a : ∀ q : Nat, q < 371 → k' (371 + q) = f q) (b : ∀ q : Nat, q < 371 → k' q = k q) : kepM 1 f k k' := ⟨fun e => absurd e (by decide), fun _ => ⟨a, b⟩, fun h => absurd (by decide) h⟩
theorem tak_n {x : Int32} {z k f : Nat → Int32} (h : ¬ ((0 : Int32) ≤ x ∧ x ≤ 1)) : takM x z k f f := ⟨(k_no01 h).1, (k_no01 h).2, fun _ => rfl⟩
theorem tak_0n {z k f : Nat → Int32} (h : z 0 = 0) : takM 0 z k f f := ⟨fun _ q => absurd h q, fun e => absurd e (by decide), fun _ => rfl⟩
theorem tak_1n {z k f : Nat → Int32} (h : z 1 = 0) : takM 1 z k f f := ⟨fun e => absurd e (by decide), fun _ q => absurd h q, fun _ => rfl⟩
theorem tak_0p {z k f f' : Nat → Int32} (h : ¬ z 0 = 0) (a : ∀ q : Nat, q < 371 → f' q = k (0 + q)) : takM 0 z k f f' := ⟨fun _ _ q hq => by have := a q hq; rw [Nat.zero_add] at this; exact this, fun e => absurd e (by decide), fun w => by
  rcases w with w | w | w
  · exact absurd (by decide) w
  · exact absurd w.2 h
  · exact absurd w.1 (by decide)⟩
theorem tak_1p {z k f f' : Nat → Int32} (h : ¬ z 1 = 0) (a : ∀ q : Nat, q < 371 → f' q = k (371 + q)) : takM 1 z k f f' := ⟨fun e => absurd e (by decide), fun _ _ q hq => a q hq, fun w => by
  rcases w with w | w | w
  · exact absurd (by decide) w
  · exact absurd w.1 (by decide)
  · exact absurd w.2 h⟩
theorem k_oth {f g h : Nat → Int32} {j : Nat} {x : Int32} {P : Nat → Prop} (e : g = upd f j x) (q : ∀ i : Nat, P i → f i = h i) (hj : ∀ i : Nat, P i → i ≠ j) : ∀ i : Nat, P i → g i = h i := fun i hi => by rw [e, upd_ne (hj i hi)]; exact q i hi
