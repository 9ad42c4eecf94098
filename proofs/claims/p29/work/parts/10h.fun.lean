/-! what calls answer and leave, as plain functions of the counts -/
abbrev Q4 := Nat × Nat × Nat × Nat
def thP (n : Nat) (x : Int32) : Prop := ∃ j : Nat, j < n ∧ x = nI j
theorem k_nix0 {x : Int32} {n : Nat} (hn : n ≤ 1000) (h : x < 0) : ¬ thP n x := fun ⟨j, hj, e⟩ => by subst e; exact absurd h (nI_pos (by omega))
theorem k_nix1 {x : Int32} {n : Nat} (hn : n ≤ 1000) (h : nI n ≤ x) : ¬ thP n x := fun ⟨j, hj, e⟩ => by subst e; exact absurd (j_le (by omega) (by omega) h) (by omega)
theorem k_nix2 {x : Int32} {n : Nat} (hn : n ≤ 1000) (h : ¬ ((0 : Int32) ≤ x ∧ x ≤ nI n - 1)) : ¬ thP n x := fun ⟨j, hj, e⟩ => by
  subst e
  refine h ⟨nI_pos' (by omega), Int32.le_iff_toInt_le.mpr ?_⟩
  have e1 : (1 : Int32).toInt = 1 := by decide
  rw [Int32.toInt_sub, e1, nI_toInt (by omega), nI_toInt (by omega), k_sm (by omega) (by omega)]
  omega
theorem k_is2 {x : Int32} (h : (0 : Int32) ≤ x ∧ x ≤ 2) (h0 : ¬ x = 0) (h1 : ¬ x = 1) : x = 2 := by
  obtain ⟨j, ⟨ja, jb⟩, rfl⟩ := k_natR (a := 0) (b := 2) h rfl rfl (by decide) (by decide)
  have : j = 0 ∨ j = 1 ∨ j = 2 := by omega
  rcases this with rfl | rfl | rfl
  · exact absurd rfl h0
  · exact absurd rfl h1
  · rfl
noncomputable def raceF (x : Int32) (N : Q4) : Int32 × Q4 := haveI : Decidable ((10 : Int32) ≤ x ∧ x ≤ 60) := Classical.propDecidable _; if (10 : Int32) ≤ x ∧ x ≤ 60 then (nI N.1, (0, 0, 0, 0)) else (-2, N)
noncomputable def oneF (P : Prop) (n : Nat) : Int32 × Nat := haveI : Decidable (P) := Classical.propDecidable _; if P then (if n < 6 then (nI n, n + 1) else (-4, n)) else (-2, n)
noncomputable def appF (P : Prop) (M n : Nat) : Int32 × Nat := haveI : Decidable (P) := Classical.propDecidable _; if P then (if n < M then (nI (n + 1), n + 1) else (-4, n)) else (-2, n)
noncomputable def stuF (P : Prop) : Int32 := haveI : Decidable (P) := Classical.propDecidable _; if P then 1 else -2
def forF (x : Int32) (a b c : Nat) : Int32 × Nat × Nat × Nat := if x = 0 then (nI a, (0, b, c)) else if x = 1 then (nI b, (a, 0, c)) else if x = 2 then (nI c, (a, b, 0)) else (-2, (a, b, c))
noncomputable def typF (x : Int32) (n : Nat) (f : Nat → Int32) : Int32 × Nat × (Nat → Int32) := haveI : Decidable ((0 : Int32) ≤ x ∧ x ≤ 127) := Classical.propDecidable _; if (0 : Int32) ≤ x ∧ x ≤ 127 then (if n < 150 then (nI (n + 1), (n + 1, upd f n x)) else (-4, (n, f))) else (-2, (n, f))
def imgF (x : Int32) (f : Nat → Int32) (N P Q : Q4) : Int32 × (Nat → Int32) × Q4 × Q4 := if x = 0 then (1, (upd f 0 1, (N, Q))) else if x = 1 then (1, (upd f 1 1, (P, N))) else (-2, (f, (P, Q)))
def frmF (x : Int32) (f : Nat → Int32) (N P Q : Q4) : Int32 × Q4 := if x = 0 then (if f 0 = 0 then (-3, N) else (1, P)) else if x = 1 then (if f 1 = 0 then (-3, N) else (1, Q)) else (-2, N)
theorem raceF_n {x : Int32} {N : Q4} (h : ¬ ((10 : Int32) ≤ x ∧ x ≤ 60)) : raceF x N = (-2, N) := if_neg h
theorem raceF_p {x : Int32} {N : Q4} (h : (10 : Int32) ≤ x ∧ x ≤ 60) : raceF x N = (nI N.1, (0, 0, 0, 0)) := if_pos h
theorem oneF_n {P : Prop} {n : Nat} (h : ¬ P) : oneF P n = (-2, n) := if_neg h
theorem oneF_f {P : Prop} {n : Nat} (h : P) (c : ¬ n < 6) : oneF P n = (-4, n) := (if_pos h).trans (if_neg c)
theorem oneF_p {P : Prop} {n : Nat} (h : P) (c : n < 6) : oneF P n = (nI n, n + 1) := (if_pos h).trans (if_pos c)
theorem appF_n {P : Prop} {M n : Nat} (h : ¬ P) : appF P M n = (-2, n) := if_neg h
theorem appF_f {P : Prop} {M n : Nat} (h : P) (c : ¬ n < M) : appF P M n = (-4, n) := (if_pos h).trans (if_neg c)
theorem appF_p {P : Prop} {M n : Nat} (h : P) (c : n < M) : appF P M n = (nI (n + 1), n + 1) := (if_pos h).trans (if_pos c)
theorem stuF_n {P : Prop} (h : ¬ P) : stuF P = -2 := if_neg h
theorem stuF_p {P : Prop} (h : P) : stuF P = 1 := if_pos h
theorem forF_n {x : Int32} {a b c : Nat} (h : ¬ ((0 : Int32) ≤ x ∧ x ≤ 2)) : forF x a b c = (-2, (a, b, c)) := (if_neg (fun e => h (by subst e; decide))).trans ((if_neg (fun e => h (by subst e; decide))).trans (if_neg (fun e => h (by subst e; decide))))
theorem forF_0 {x : Int32} {a b c : Nat} (h : x = 0) : forF x a b c = (nI a, (0, b, c)) := if_pos h
theorem forF_1 {x : Int32} {a b c : Nat} (h : x = 1) : forF x a b c = (nI b, (a, 0, c)) := by subst h; rfl
theorem forF_2 {x : Int32} {a b c : Nat} (h : x = 2) : forF x a b c = (nI c, (a, b, 0)) := by subst h; rfl
theorem typF_n {x : Int32} {n : Nat} {f : Nat → Int32} (h : ¬ ((0 : Int32) ≤ x ∧ x ≤ 127)) : typF x n f = (-2, (n, f)) := if_neg h
theorem typF_f {x : Int32} {n : Nat} {f : Nat → Int32} (h : (0 : Int32) ≤ x ∧ x ≤ 127) (c : ¬ n < 150) : typF x n f = (-4, (n, f)) := (if_pos h).trans (if_neg c)
theorem typF_p {x : Int32} {n : Nat} {f : Nat → Int32} (h : (0 : Int32) ≤ x ∧ x ≤ 127) (c : n < 150) : typF x n f = (nI (n + 1), (n + 1, upd f n x)) := (if_pos h).trans (if_pos c)
theorem imgF_n {x : Int32} {f : Nat → Int32} {N P Q : Q4} (h : ¬ ((0 : Int32) ≤ x ∧ x ≤ 1)) : imgF x f N P Q = (-2, (f, (P, Q))) := (if_neg (fun e => h (by subst e; decide))).trans (if_neg (fun e => h (by subst e; decide)))
theorem frmF_n {x : Int32} {f : Nat → Int32} {N P Q : Q4} (h : ¬ ((0 : Int32) ≤ x ∧ x ≤ 1)) : frmF x f N P Q = (-2, N) := (if_neg (fun e => h (by subst e; decide))).trans (if_neg (fun e => h (by subst e; decide)))
theorem frmF_0n {f : Nat → Int32} {N P Q : Q4} (h : f 0 = 0) : frmF 0 f N P Q = (-3, N) := (if_pos rfl).trans (if_pos h)
theorem frmF_0p {f : Nat → Int32} {N P Q : Q4} (h : ¬ f 0 = 0) : frmF 0 f N P Q = (1, P) := (if_pos rfl).trans (if_neg h)
theorem frmF_1n {f : Nat → Int32} {N P Q : Q4} (h : f 1 = 0) : frmF 1 f N P Q = (-3, N) := (if_neg (by decide)).trans ((if_pos rfl).trans (if_pos h))
theorem frmF_1p {f : Nat → Int32} {N P Q : Q4} (h : ¬ f 1 = 0) : frmF 1 f N P Q = (1, Q) := (if_neg (by decide)).trans ((if_pos rfl).trans (if_neg h))
theorem k_cpo {f g w : Nat → Int32} {j k o : Nat} (e : g = upd f j (w k)) (ej : j = o + k) (q : ∀ i : Nat, i < k → f (o + i) = w i) : ∀ i : Nat, i < k + 1 → g (o + i) = w i := by
  subst e; subst ej
  intro i hi
  by_cases z : i = k
  · rw [z]; exact upd_eq
  · exact (upd_ne (by omega)).trans (q i (by omega))
