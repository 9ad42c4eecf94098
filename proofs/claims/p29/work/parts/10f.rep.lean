theorem upd_nD {D : Nat → Int32} {c j k : Nat} {x : Int32} (h : k ≠ j) : upd (fun i => D (c + i)) j x k = D (c + k) := upd_ne h
theorem upd_nD2 {D : Nat → Int32} {c j i k : Nat} {x y : Int32} (h : k ≠ i) (g : k ≠ j) : upd (upd (fun q => D (c + q)) j x) i y k = D (c + k) := (upd_ne h).trans (upd_ne g)
theorem upd_nQ {f : Nat → Int32} {i j : Nat} {x y : Int32} (h : j ≠ i) : upd (upd f j x) i y j = x := (upd_ne h).trans upd_eq
/-! the reference's row stands for a race: sv, dv of the class, c runners -/
theorem ovr_in {v u : Nat → Int32} {o n q : Nat} (h : o ≤ q ∧ q < o + n) : ovr v o n u q = u (q - o) := if_pos h
theorem ovr_ne {v u : Nat → Int32} {o n q : Nat} (h : ¬ (o ≤ q ∧ q < o + n)) : ovr v o n u q = v q := if_neg h
def homR (h d : Int32) : Prop := (d = -1 ∧ h = 0) ∨ (¬ d = -1 ∧ h = d ∧ 0 < h)
/-- one runner -/
def RepO (sv dv f : Nat → Int32) (i : Nat) : Prop := (f (37 + i) = sv (3 * i) ∧ f (43 + i) = sv (3 * i + 1) ∧ f (49 + i) = sv (3 * i + 2)) ∧ (f (11 + i) = dv (10 + 5 * i) ∧ f (5 + i) = dv (11 + 5 * i) ∧ f (17 + i) = dv (12 + 5 * i) ∧ f (23 + i) = dv (13 + 5 * i)) ∧ homR (f (29 + i)) (dv (14 + 5 * i)) ∧ f (17 + i) ≤ 99
def RepZ (f : Nat → Int32) (i : Nat) : Prop := f (5 + i) = 0 ∧ f (17 + i) = 0 ∧ f (23 + i) = 0 ∧ f (29 + i) = 0
def RepM (sv dv : Nat → Int32) (c : Nat) (f : Nat → Int32) : Prop := (f 36 = dv 0 ∧ f 35 = dv 1) ∧ (∀ i : Nat, i < c → RepO sv dv f i) ∧ ∀ i : Nat, c ≤ i → i < 6 → RepZ f i
def farM (f : Nat → Int32) (i : Nat) : Int32 := reachP (f (37 + i)) (f (43 + i)) (f 35) (f (11 + i))
def drpM (f : Nat → Int32) (i : Nat) : Nat → Int32 := upd (upd f (17 + i) (f (17 + i) + (if 99 ≤ f (17 + i) then 0 else 1))) (23 + i) 2
def movM (f : Nat → Int32) (i : Nat) : Nat → Int32 := upd (upd f (5 + i) (f (5 + i) + farM f i)) (29 + i) (if f (5 + i) + farM f i < f 36 then 0 else f 35)
def goM (f : Nat → Int32) (i : Nat) : Nat → Int32 := if f (23 + i) ≤ 0 then (if farM f i ≤ limitP (f (49 + i)) (f 35) then movM f i else drpM f i) else upd f (23 + i) (f (23 + i) - 1)
/-- what another runner's numbers leave alone -/
theorem RepO_o {sv D f f' : Nat → Int32} {e : Nat → Int32} {i k : Nat} (hik : i ≠ k) (hi : i < 6) (hk : k < 6) (h : RepO sv D f i) (hf : ∀ q : Nat, q ≠ 5 + k → q ≠ 17 + k → q ≠ 23 + k → q ≠ 29 + k → f' q = f q) : RepO sv (ovr D (10 + 5 * k) 5 e) f' i := by
  obtain ⟨⟨a1, a2, a3⟩, ⟨b1, b2, b3, b4⟩, hh, hd⟩ := h
  have g : ∀ j : Nat, j < 5 → ovr D (10 + 5 * k) 5 e (10 + 5 * i + j) = D (10 + 5 * i + j) := fun j hj => ovr_ne (by omega)
  have g0 := g 0 (by decide)
  have g1 := g 1 (by decide)
  have g2 := g 2 (by decide)
  have g3 := g 3 (by decide)
  have g4 := g 4 (by decide)
  rw [show 10 + 5 * i + 0 = 10 + 5 * i from rfl] at g0
  rw [show 10 + 5 * i + 1 = 11 + 5 * i from by omega] at g1
  rw [show 10 + 5 * i + 2 = 12 + 5 * i from by omega] at g2
  rw [show 10 + 5 * i + 3 = 13 + 5 * i from by omega] at g3
  rw [show 10 + 5 * i + 4 = 14 + 5 * i from by omega] at g4
  have w : ∀ o : Nat, (o = 5 ∨ o = 11 ∨ o = 17 ∨ o = 23 ∨ o = 29 ∨ o = 37 ∨ o = 43 ∨ o = 49) → f' (o + i) = f (o + i) := fun o ho => hf _ (by omega) (by omega) (by omega) (by omega)
  refine ⟨⟨(w 37 (by omega)).trans a1, (w 43 (by omega)).trans a2, (w 49 (by omega)).trans a3⟩, ⟨?_, ?_, ?_, ?_⟩, ?_, ?_⟩
  · rw [w 11 (by omega), g0]; exact b1
  · rw [w 5 (by omega), g1]; exact b2
  · rw [w 17 (by omega), g2]; exact b3
  · rw [w 23 (by omega), g3]; exact b4
  · rw [w 29 (by omega), g4]; exact hh
  · rw [w 17 (by omega)]; exact hd
/-- the runner whose turn it is, not home: what the reference does is what the class does -/
theorem RepO_s {sv D f : Nat → Int32} {k : Nat} (hk : k < 6) (ht : 0 < D 1) (hL : f 36 = D 0) (hT : f 35 = D 1) (h : RepO sv D f k) (hn : ¬ 0 < f (29 + k)) : RepO sv (ovr D (10 + 5 * k) 5 (stepP (fun j => sv (3 * k + j)) (fun j => D (10 + 5 * k + j)) (D 1) (D 0))) (goM f k) k := by
  obtain ⟨⟨a1, a2, a3⟩, ⟨b1, b2, b3, b4⟩, hh, hd⟩ := h
  have hd4 : D (10 + 5 * k + 4) = -1 ∧ f (29 + k) = 0 := by
    rw [show 10 + 5 * k + 4 = 14 + 5 * k from by omega]
    rcases hh with q | q
    · exact q
    · exact absurd q.2.2 hn
  have ht1 : ¬ D 1 = -1 := fun q => by rw [q] at ht; exact absurd ht (by decide)
  have c1 : f (11 + k) = D (10 + 5 * k + 0) := b1
  have c2 : f (5 + k) = D (10 + 5 * k + 1) := b2.trans (congrArg D (by omega))
  have c3 : f (17 + k) = D (10 + 5 * k + 2) := b3.trans (congrArg D (by omega))
  have c4 : f (23 + k) = D (10 + 5 * k + 3) := b4.trans (congrArg D (by omega))
  have hfar : farM f k = reachP (sv (3 * k + 0)) (sv (3 * k + 1)) (D 1) (D (10 + 5 * k + 0)) := by
    unfold farM
    rw [a1, a2, hT, c1]; rfl
  have hlim : limitP (f (49 + k)) (f 35) = limitP (sv (3 * k + 2)) (D 1) := by rw [a3, hT]
  -- the five numbers of the class behind it
  have g : ∀ (e : Nat → Int32) (j : Nat), j < 5 → ovr D (10 + 5 * k) 5 e (10 + 5 * k + j) = e j := fun e j hj => by
    rw [ovr_in (by omega)]
    exact congrArg e (by omega)
  have g0 : ∀ e : Nat → Int32, ovr D (10 + 5 * k) 5 e (10 + 5 * k) = e 0 := fun e => g e 0 (by decide)
  have g1 : ∀ e : Nat → Int32, ovr D (10 + 5 * k) 5 e (11 + 5 * k) = e 1 := fun e => (congrArg _ (by omega)).trans (g e 1 (by decide))
  have g2 : ∀ e : Nat → Int32, ovr D (10 + 5 * k) 5 e (12 + 5 * k) = e 2 := fun e => (congrArg _ (by omega)).trans (g e 2 (by decide))
  have g3 : ∀ e : Nat → Int32, ovr D (10 + 5 * k) 5 e (13 + 5 * k) = e 3 := fun e => (congrArg _ (by omega)).trans (g e 3 (by decide))
  have g4 : ∀ e : Nat → Int32, ovr D (10 + 5 * k) 5 e (14 + 5 * k) = e 4 := fun e => (congrArg _ (by omega)).trans (g e 4 (by decide))
  unfold RepO
  rw [g0, g1, g2, g3, g4]
  unfold stepP goM
  rw [if_pos hd4.1]
  by_cases w : D (10 + 5 * k + 3) ≤ 0
  · rw [if_pos w, if_pos (show f (23 + k) ≤ 0 by rw [c4]; exact w)]
    by_cases z : reachP (sv (3 * k + 0)) (sv (3 * k + 1)) (D 1) (D (10 + 5 * k + 0)) ≤ limitP (sv (3 * k + 2)) (D 1)
    · rw [if_pos z, if_pos (show farM f k ≤ limitP (f (49 + k)) (f 35) by rw [hfar, hlim]; exact z)]
      have hp : f (5 + k) + farM f k = D (10 + 5 * k + 1) + reachP (sv (3 * k + 0)) (sv (3 * k + 1)) (D 1) (D (10 + 5 * k + 0)) := by rw [hfar, c2]
      have m : ∀ q : Nat, q ≠ 5 + k → q ≠ 29 + k → movM f k q = f q := fun q h1 h2 => (upd_ne h2).trans (upd_ne h1)
      have m5 : movM f k (5 + k) = f (5 + k) + farM f k := (upd_ne (by omega)).trans upd_eq
      have m29 : movM f k (29 + k) = if f (5 + k) + farM f k < f 36 then 0 else f 35 := upd_eq
      by_cases y : D (10 + 5 * k + 1) + reachP (sv (3 * k + 0)) (sv (3 * k + 1)) (D 1) (D (10 + 5 * k + 0)) < D 0
      · rw [if_pos y]
        refine ⟨⟨(m _ (by omega) (by omega)).trans a1, (m _ (by omega) (by omega)).trans a2, (m _ (by omega) (by omega)).trans a3⟩, ⟨(m _ (by omega) (by omega)).trans (c1.trans (upd_nD (by decide)).symm), m5.trans (hp.trans upd_eq.symm), (m _ (by omega) (by omega)).trans (c3.trans (upd_nD (by decide)).symm), (m _ (by omega) (by omega)).trans (c4.trans (upd_nD (by decide)).symm)⟩, Or.inl ⟨(upd_nD (by decide)).trans hd4.1, m29.trans (if_pos (by rw [hp, hL]; exact y))⟩, by rw [m _ (by omega) (by omega)]; exact hd⟩
      · rw [if_neg y]
        refine ⟨⟨(m _ (by omega) (by omega)).trans a1, (m _ (by omega) (by omega)).trans a2, (m _ (by omega) (by omega)).trans a3⟩, ⟨(m _ (by omega) (by omega)).trans (c1.trans (upd_nD2 (by decide) (by decide)).symm), m5.trans (hp.trans (upd_nQ (by decide)).symm), (m _ (by omega) (by omega)).trans (c3.trans (upd_nD2 (by decide) (by decide)).symm), (m _ (by omega) (by omega)).trans (c4.trans (upd_nD2 (by decide) (by decide)).symm)⟩, Or.inr ⟨fun q => ht1 (upd_eq.symm.trans q), ?_, ?_⟩, by rw [m _ (by omega) (by omega)]; exact hd⟩
        · rw [m29, if_neg (by rw [hp, hL]; exact y), hT]
          exact upd_eq.symm
        · rw [m29, if_neg (by rw [hp, hL]; exact y), hT]
          exact ht
    · rw [if_neg z, if_neg (show ¬ farM f k ≤ limitP (f (49 + k)) (f 35) by rw [hfar, hlim]; exact z)]
      have m : ∀ q : Nat, q ≠ 17 + k → q ≠ 23 + k → drpM f k q = f q := fun q h1 h2 => (upd_ne h2).trans (upd_ne h1)
      have m17 : drpM f k (17 + k) = f (17 + k) + (if 99 ≤ f (17 + k) then 0 else 1) := (upd_ne (by omega)).trans upd_eq
      have m23 : drpM f k (23 + k) = 2 := upd_eq
      have hdr : f (17 + k) + (if 99 ≤ f (17 + k) then 0 else 1) = if 99 ≤ D (10 + 5 * k + 2) then 99 else D (10 + 5 * k + 2) + 1 := by
        by_cases q : 99 ≤ f (17 + k)
        · rw [if_pos q, if_pos (by rw [← c3]; exact q)]
          have : f (17 + k) = 99 := Int32.le_antisymm hd q
          rw [this]; decide
        · rw [if_neg q, if_neg (by rw [← c3]; exact q), c3]
      have h99 : (if 99 ≤ D (10 + 5 * k + 2) then 99 else D (10 + 5 * k + 2) + 1) ≤ 99 := by
        by_cases q : 99 ≤ D (10 + 5 * k + 2)
        · rw [if_pos q]; decide
        · rw [if_neg q]
          have q2 := Int32.lt_iff_toInt_lt.mp (Int32.not_le.mp q)
          have e99 : (99 : Int32).toInt = 99 := by decide
          have e1 : (1 : Int32).toInt = 1 := by decide
          refine Int32.le_iff_toInt_le.mpr ?_
          rw [e99] at q2
          have lo := Int32.le_toInt (D (10 + 5 * k + 2))
          rw [Int32.toInt_add, e1, e99, Int.bmod_eq_of_le (by omega) (by omega)]
          omega
      refine ⟨⟨(m _ (by omega) (by omega)).trans a1, (m _ (by omega) (by omega)).trans a2, (m _ (by omega) (by omega)).trans a3⟩, ⟨(m _ (by omega) (by omega)).trans (c1.trans (upd_nD2 (by decide) (by decide)).symm), (m _ (by omega) (by omega)).trans (c2.trans (upd_nD2 (by decide) (by decide)).symm), m17.trans (hdr.trans (upd_nQ (by decide)).symm), m23.trans upd_eq.symm⟩, Or.inl ⟨(upd_nD2 (by decide) (by decide)).trans hd4.1, (m _ (by omega) (by omega)).trans hd4.2⟩, by rw [m17, hdr]; exact h99⟩
  · rw [if_neg w, if_neg (show ¬ f (23 + k) ≤ 0 by rw [c4]; exact w)]
    have m : ∀ q : Nat, q ≠ 23 + k → upd f (23 + k) (f (23 + k) - 1) q = f q := fun q h1 => upd_ne h1
    refine ⟨⟨(m _ (by omega)).trans a1, (m _ (by omega)).trans a2, (m _ (by omega)).trans a3⟩, ⟨(m _ (by omega)).trans (c1.trans (upd_nD (by decide)).symm), (m _ (by omega)).trans (c2.trans (upd_nD (by decide)).symm), (m _ (by omega)).trans (c3.trans (upd_nD (by decide)).symm), upd_eq.trans ((congrArg (· - 1) c4).trans upd_eq.symm)⟩, Or.inl ⟨(upd_nD (by decide)).trans hd4.1, (m _ (by omega)).trans hd4.2⟩, by rw [m _ (by omega)]; exact hd⟩
/-- the runner whose turn it is, home: nothing -/
theorem RepO_h {sv D f : Nat → Int32} {k : Nat} (hk : k < 6) (h : RepO sv D f k) (hn : 0 < f (29 + k)) : stepP (fun j => sv (3 * k + j)) (fun j => D (10 + 5 * k + j)) (D 1) (D 0) = (fun j => D (10 + 5 * k + j)) := by
  obtain ⟨-, -, hh, -⟩ := h
  have : ¬ D (10 + 5 * k + 4) = -1 := by
    rw [show 10 + 5 * k + 4 = 14 + 5 * k from by omega]
    rcases hh with q | q
    · rw [q.2] at hn; exact absurd hn (by decide)
    · exact q.1
  unfold stepP
  rw [if_neg this]
theorem ovr_id {D : Nat → Int32} {o n : Nat} : ovr D o n (fun j => D (o + j)) = D := by
  funext q
  by_cases h : o ≤ q ∧ q < o + n
  · rw [ovr_in h, show o + (q - o) = q from by omega]
  · rw [ovr_ne h]
theorem goM_ne {f : Nat → Int32} {k q : Nat} (h1 : q ≠ 5 + k) (h2 : q ≠ 17 + k) (h3 : q ≠ 23 + k) (h4 : q ≠ 29 + k) : goM f k q = f q := by
  unfold goM
  by_cases a : f (23 + k) ≤ 0
  · rw [if_pos a]
    by_cases b : farM f k ≤ limitP (f (49 + k)) (f 35)
    · rw [if_pos b]; exact (upd_ne h4).trans (upd_ne h1)
    · rw [if_neg b]; exact (upd_ne h3).trans (upd_ne h2)
  · rw [if_neg a]; exact upd_ne h3
/-- a tick of the reference, one runner farther -/
theorem RepM_h {sv dv f : Nat → Int32} {c k : Nat} (hc : c ≤ 6) (hk : k < c) (h : RepM sv (gK sv dv k) c f) (hn : 0 < f (29 + k)) : RepM sv (gK sv dv (k + 1)) c f := by
  have e : gK sv dv (k + 1) = gK sv dv k := by
    rw [gK, RepO_h (by omega) (h.2.1 k hk) hn]
    exact ovr_id
  rw [e]
  exact h
theorem RepM_g {sv dv f : Nat → Int32} {c k : Nat} (hc : c ≤ 6) (hk : k < c) (ht : 0 < gK sv dv k 1) (h : RepM sv (gK sv dv k) c f) (hn : ¬ 0 < f (29 + k)) : RepM sv (gK sv dv (k + 1)) c (goM f k) := by
  rw [gK]
  obtain ⟨⟨h36, h35⟩, hO, hZ⟩ := h
  refine ⟨⟨?_, ?_⟩, fun i hi => ?_, fun i h1 h2 => ?_⟩
  · rw [goM_ne (by omega) (by omega) (by omega) (by omega), ovr_ne (by omega)]; exact h36
  · rw [goM_ne (by omega) (by omega) (by omega) (by omega), ovr_ne (by omega)]; exact h35
  · by_cases q : i = k
    · subst q
      exact RepO_s (by omega) ht h36 h35 (hO i hi) hn
    · exact RepO_o q (by omega) (by omega) (hO i hi) (fun q a1 a2 a3 a4 => goM_ne a1 a2 a3 a4)
  · obtain ⟨z1, z2, z3, z4⟩ := hZ i h1 h2
    exact ⟨(goM_ne (by omega) (by omega) (by omega) (by omega)).trans z1, (goM_ne (by omega) (by omega) (by omega) (by omega)).trans z2, (goM_ne (by omega) (by omega) (by omega) (by omega)).trans z3, (goM_ne (by omega) (by omega) (by omega) (by omega)).trans z4⟩
theorem gK_1 {sv dv : Nat → Int32} : ∀ k : Nat, gK sv dv k 1 = dv 1 + 1 := by
  intro k
  induction k with
  | zero => exact upd_eq
  | succ k ih => rw [gK, ovr_ne (by omega)]; exact ih
theorem gK_0 {sv dv : Nat → Int32} : ∀ k : Nat, gK sv dv k 0 = dv 0 := by
  intro k
  induction k with
  | zero => exact upd_ne (by decide)
  | succ k ih => rw [gK, ovr_ne (by omega)]; exact ih
