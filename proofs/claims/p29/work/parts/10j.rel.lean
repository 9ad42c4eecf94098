/-! what was told, on both sides -/
def REL (n0 n2 n3 n4 : Nat) (sv gs gn gm f : Nat → Int32) : Prop := (∀ i : Nat, i < n0 → f (37 + i) = sv (3 * i) ∧ f (43 + i) = sv (3 * i + 1) ∧ (0 : Int32) ≤ sv (3 * i + 1)) ∧ (∀ k : Nat, k < n2 → f (55 + (4 * k)) = gs (k * 5 + 0) ∧ f ((55 + (4 * k)) + 1) = gs (k * 5 + 2) ∧ f ((55 + (4 * k)) + 2) = gs (k * 5 + 3) ∧ f ((55 + (4 * k)) + 3) = gs (k * 5 + 4)) ∧ (∀ k : Nat, k < n3 → f (75 + (5 * k)) = gn (k * 5 + 0) ∧ f ((75 + (5 * k)) + 1) = gn (k * 5 + 1) ∧ f ((75 + (5 * k)) + 2) = gn (k * 5 + 2) ∧ f ((75 + (5 * k)) + 3) = gn (k * 5 + 3) ∧ f ((75 + (5 * k)) + 4) = gn (k * 5 + 4)) ∧ (∀ k : Nat, k < n4 → f (105 + (3 * k)) = gm (k * 5 + 0) ∧ f ((105 + (3 * k)) + 1) = gm (k * 5 + 2) ∧ f ((105 + (3 * k)) + 2) = gm (k * 5 + 4))
section RL
variable {n0 n2 n3 n4 m0 m2 m3 m4 : Nat} {sv gs gn gm f g sv' gs' gn' gm' : Nat → Int32}
theorem REL_0 : REL 0 0 0 0 sv gs gn gm f := ⟨fun i h => absurd h (Nat.not_lt_zero i), fun i h => absurd h (Nat.not_lt_zero i), fun i h => absurd h (Nat.not_lt_zero i), fun i h => absurd h (Nat.not_lt_zero i)⟩
theorem REL_le (h : REL n0 n2 n3 n4 sv gs gn gm f) (a : m0 ≤ n0) (b : m2 ≤ n2) (c : m3 ≤ n3) (d : m4 ≤ n4) : REL m0 m2 m3 m4 sv gs gn gm f := ⟨fun i hi => h.1 i (by omega), fun i hi => h.2.1 i (by omega), fun i hi => h.2.2.1 i (by omega), fun i hi => h.2.2.2 i (by omega)⟩
/-- both sides hold the same told cells -/
theorem REL_cp (h : REL n0 n2 n3 n4 sv gs gn gm f) (b0 : n0 ≤ 6) (b2 : n2 ≤ 5) (b3 : n3 ≤ 6) (b4 : n4 ≤ 6) (c : cpyP sv' gs' gn' gm' sv gs gn gm n2 n3 n4) (k : ∀ j : Nat, 37 ≤ j → j < 123 → g j = f j) : REL n0 n2 n3 n4 sv' gs' gn' gm' g := by
  obtain ⟨h0, h2, h3, h4⟩ := h
  obtain ⟨c0, c2, c3, c4⟩ := c
  refine ⟨fun i hi => ?_, fun i hi => ?_, fun i hi => ?_, fun i hi => ?_⟩
  · obtain ⟨a, b, w⟩ := h0 i hi
    rw [k _ (by omega) (by omega), k _ (by omega) (by omega), c0 _ (by omega), c0 _ (by omega)]
    exact ⟨a, b, w⟩
  · obtain ⟨a, b, c, d⟩ := h2 i hi
    rw [k _ (by omega) (by omega), k _ (by omega) (by omega), k _ (by omega) (by omega), k _ (by omega) (by omega), c2 _ (by omega), c2 _ (by omega), c2 _ (by omega), c2 _ (by omega)]
    exact ⟨a, b, c, d⟩
  · obtain ⟨a, b, c, d, e⟩ := h3 i hi
    rw [k _ (by omega) (by omega), k _ (by omega) (by omega), k _ (by omega) (by omega), k _ (by omega) (by omega), k _ (by omega) (by omega), c3 _ (by omega), c3 _ (by omega), c3 _ (by omega), c3 _ (by omega), c3 _ (by omega)]
    exact ⟨a, b, c, d, e⟩
  · obtain ⟨a, b, c⟩ := h4 i hi
    rw [k _ (by omega) (by omega), k _ (by omega) (by omega), k _ (by omega) (by omega), c4 _ (by omega), c4 _ (by omega), c4 _ (by omega)]
    exact ⟨a, b, c⟩
theorem cpyP_r {a b c : Nat} : cpyP sv gs gn gm sv gs gn gm a b c := ⟨fun _ _ => rfl, fun _ _ => rfl, fun _ _ => rfl, fun _ _ => rfl⟩
theorem REL_kp (h : REL n0 n2 n3 n4 sv gs gn gm f) (b0 : n0 ≤ 6) (b2 : n2 ≤ 5) (b3 : n3 ≤ 6) (b4 : n4 ≤ 6) (k : kpM f g) : REL n0 n2 n3 n4 sv gs gn gm g := REL_cp h b0 b2 b3 b4 cpyP_r k
theorem REL_race {x r : Int32} (h : REL n0 n2 n3 n4 sv gs gn gm f) (e : (r, (m0, m2, m3, m4)) = raceF x (n0, n2, n3, n4)) (k : ¬ ((10 : Int32) ≤ x ∧ x ≤ 60) → g = f) : REL m0 m2 m3 m4 sv gs gn gm g := by
  by_cases c : (10 : Int32) ≤ x ∧ x ≤ 60
  · rw [raceF_p c] at e
    obtain ⟨-, rfl, rfl, rfl, rfl⟩ := by simpa only [Prod.mk.injEq] using e
    exact REL_0
  · rw [raceF_n c] at e
    obtain ⟨-, rfl, rfl, rfl, rfl⟩ := by simpa only [Prod.mk.injEq] using e
    rw [k c]; exact h
theorem REL_for {x r : Int32} (h : REL n0 n2 n3 n4 sv gs gn gm f) (b0 : n0 ≤ 6) (b2 : n2 ≤ 5) (b3 : n3 ≤ 6) (b4 : n4 ≤ 6) (e : (r, (m2, m3, m4)) = forF x n2 n3 n4) (k : kpM f g) : REL n0 m2 m3 m4 sv gs gn gm g := by
  have z : m2 ≤ n2 ∧ m3 ≤ n3 ∧ m4 ≤ n4 := by
    unfold forF at e
    split at e
    · obtain ⟨-, rfl, rfl, rfl⟩ := by simpa only [Prod.mk.injEq] using e
      omega
    · split at e
      · obtain ⟨-, rfl, rfl, rfl⟩ := by simpa only [Prod.mk.injEq] using e
        omega
      · split at e
        · obtain ⟨-, rfl, rfl, rfl⟩ := by simpa only [Prod.mk.injEq] using e
          omega
        · obtain ⟨-, rfl, rfl, rfl⟩ := by simpa only [Prod.mk.injEq] using e
          omega
  exact REL_le (REL_kp h b0 b2 b3 b4 k) (Nat.le_refl _) z.1 z.2.1 z.2.2
theorem REL_read {dv : Nat → Int32} {c : Nat} (h : RepM sv dv c f) (w : ∀ j : Nat, j < c → (0 : Int32) ≤ sv (3 * j + 1)) : REL c 0 0 0 sv gs gn gm f := ⟨fun i hi => ⟨(h.2.1 i hi).1.1, (h.2.1 i hi).1.2.1, w i hi⟩, fun i h => absurd h (Nat.not_lt_zero i), fun i h => absurd h (Nat.not_lt_zero i), fun i h => absurd h (Nat.not_lt_zero i)⟩
theorem REL_one {P : Prop} {r r2 x : Int32} {k l e : Int32} (h : REL n0 n2 n3 n4 sv gs gn gm f) (hP : P → (0 : Int32) ≤ l) (b2 : n2 ≤ 5) (b3 : n3 ≤ 6) (b4 : n4 ≤ 6) (e1 : (r, (m0, sv')) = onxF P n0 sv (addS sv n0 k l e)) (e2 : (r2, (m2, g)) = onxF P n0 f (upd (layM f n0 k l e) 4 x)) : REL m0 n2 n3 n4 sv' gs gn gm g := by
  by_cases p : P
  · by_cases c : n0 < 6
    · rw [onxF_p p c] at e1 e2
      obtain ⟨-, rfl, rfl⟩ := by simpa only [Prod.mk.injEq] using e1
      obtain ⟨-, -, rfl⟩ := by simpa only [Prod.mk.injEq] using e2
      obtain ⟨h0, h2, h3, h4⟩ := h
      have m : ∀ q : Nat, 55 ≤ q → upd (layM f n0 k l e) 4 x q = f q := fun q hq => (upd_ne (by omega)).trans (layM_ne (by omega) (by omega) (by omega) (by omega) (by omega))
      refine ⟨fun i hi => ?_, fun i hi => ?_, fun i hi => ?_, fun i hi => ?_⟩
      · by_cases q : i = n0
        · subst q
          have s0 : addS sv i k l e (3 * i) = k := (ovr_in (by omega)).trans (by rw [Nat.sub_self]; rfl)
          have s1 : addS sv i k l e (3 * i + 1) = l := (ovr_in (by omega)).trans (by rw [show 3 * i + 1 - 3 * i = 1 from by omega]; rfl)
          rw [s0, s1]
          exact ⟨(upd_ne (by omega)).trans ((upd_ne (by omega)).trans ((upd_ne (by omega)).trans ((upd_ne (by omega)).trans ((upd_ne (by omega)).trans upd_eq)))), (upd_ne (by omega)).trans ((upd_ne (by omega)).trans ((upd_ne (by omega)).trans ((upd_ne (by omega)).trans upd_eq))), hP p⟩
        · obtain ⟨a, b, w⟩ := h0 i (by omega)
          have g1 : upd (layM f n0 k l e) 4 x (37 + i) = f (37 + i) := (upd_ne (by omega)).trans (layM_ne (by omega) (by omega) (by omega) (by omega) (by omega))
          have g2 : upd (layM f n0 k l e) 4 x (43 + i) = f (43 + i) := (upd_ne (by omega)).trans (layM_ne (by omega) (by omega) (by omega) (by omega) (by omega))
          rw [g1, g2, show addS sv n0 k l e (3 * i) = sv (3 * i) from ovr_ne (by omega), show addS sv n0 k l e (3 * i + 1) = sv (3 * i + 1) from ovr_ne (by omega)]
          exact ⟨a, b, w⟩
      · rw [m _ (by omega), m _ (by omega), m _ (by omega), m _ (by omega)]; exact h2 i hi
      · rw [m _ (by omega), m _ (by omega), m _ (by omega), m _ (by omega), m _ (by omega)]; exact h3 i hi
      · rw [m _ (by omega), m _ (by omega), m _ (by omega)]; exact h4 i hi
    · rw [onxF_f p c] at e1 e2
      obtain ⟨-, rfl, rfl⟩ := by simpa only [Prod.mk.injEq] using e1
      obtain ⟨-, -, rfl⟩ := by simpa only [Prod.mk.injEq] using e2
      exact h
  · rw [onxF_n p] at e1 e2
    obtain ⟨-, rfl, rfl⟩ := by simpa only [Prod.mk.injEq] using e1
    obtain ⟨-, -, rfl⟩ := by simpa only [Prod.mk.injEq] using e2
    exact h
theorem REL_seen {P : Prop} {r r2 : Int32} {x1 x2 x3 x4 : Int32} {k2 : Nat} (h : REL n0 n2 n3 n4 sv gs gn gm f) (b0 : n0 ≤ 6) (b2 : n2 ≤ 5) (b3 : n3 ≤ 6) (b4 : n4 ≤ 6) (e1 : (r, (m2, gs')) = apgF P 5 n2 gs (app5 gs n2 x1 0 x2 x3 x4)) (e2 : (r2, (k2, g)) = apgF P 5 n2 f (seenM f n2 x1 x2 x3 x4)) : REL n0 m2 n3 n4 sv gs' gn gm g := by
  by_cases p : P
  · by_cases c : n2 < 5
    · rw [apgF_p p c] at e1 e2
      obtain ⟨-, rfl, rfl⟩ := by simpa only [Prod.mk.injEq] using e1
      obtain ⟨-, -, rfl⟩ := by simpa only [Prod.mk.injEq] using e2
      obtain ⟨h0, h2, h3, h4⟩ := h
      have m : ∀ q : Nat, q ≠ 1 → q ≠ (55 + (4 * n2)) → q ≠ ((55 + (4 * n2)) + 1) → q ≠ ((55 + (4 * n2)) + 2) → q ≠ ((55 + (4 * n2)) + 3) → seenM f n2 x1 x2 x3 x4 q = f q := fun q hz h0 h1 h2 h3 => (upd_ne hz).trans ((upd_ne h3).trans ((upd_ne h2).trans ((upd_ne h1).trans (upd_ne h0))))
      have a : ∀ q : Nat, q < n2 * 5 → app5 gs n2 x1 0 x2 x3 x4 q = gs q := fun q hq => (upd_ne (by omega)).trans ((upd_ne (by omega)).trans ((upd_ne (by omega)).trans ((upd_ne (by omega)).trans (upd_ne (by omega)))))
      refine ⟨fun i hi => ?_, fun i hi => ?_, fun i hi => ?_, fun i hi => ?_⟩
      · rw [m _ (by omega) (by omega) (by omega) (by omega) (by omega), m _ (by omega) (by omega) (by omega) (by omega) (by omega)]; exact h0 i hi
      · by_cases q : i = n2
        · subst q
          exact ⟨((upd_ne (by omega)).trans ((upd_ne (by omega)).trans ((upd_ne (by omega)).trans ((upd_ne (by omega)).trans (upd_eq))))).trans ((upd_ne (by omega)).trans ((upd_ne (by omega)).trans ((upd_ne (by omega)).trans ((upd_ne (by omega)).trans (upd_eq))))).symm, ((upd_ne (by omega)).trans ((upd_ne (by omega)).trans ((upd_ne (by omega)).trans (upd_eq)))).trans ((upd_ne (by omega)).trans ((upd_ne (by omega)).trans (upd_eq))).symm, ((upd_ne (by omega)).trans ((upd_ne (by omega)).trans (upd_eq))).trans ((upd_ne (by omega)).trans (upd_eq)).symm, ((upd_ne (by omega)).trans (upd_eq)).trans (upd_eq).symm⟩
        · rw [m _ (by omega) (by omega) (by omega) (by omega) (by omega), m _ (by omega) (by omega) (by omega) (by omega) (by omega), m _ (by omega) (by omega) (by omega) (by omega) (by omega), m _ (by omega) (by omega) (by omega) (by omega) (by omega), a _ (by omega), a _ (by omega), a _ (by omega), a _ (by omega)]; exact h2 i (by omega)
      · rw [m _ (by omega) (by omega) (by omega) (by omega) (by omega), m _ (by omega) (by omega) (by omega) (by omega) (by omega), m _ (by omega) (by omega) (by omega) (by omega) (by omega), m _ (by omega) (by omega) (by omega) (by omega) (by omega), m _ (by omega) (by omega) (by omega) (by omega) (by omega)]; exact h3 i hi
      · rw [m _ (by omega) (by omega) (by omega) (by omega) (by omega), m _ (by omega) (by omega) (by omega) (by omega) (by omega), m _ (by omega) (by omega) (by omega) (by omega) (by omega)]; exact h4 i hi
    · rw [apgF_f p c] at e1 e2
      obtain ⟨-, rfl, rfl⟩ := by simpa only [Prod.mk.injEq] using e1
      obtain ⟨-, -, rfl⟩ := by simpa only [Prod.mk.injEq] using e2
      exact h
  · rw [apgF_n p] at e1 e2
    obtain ⟨-, rfl, rfl⟩ := by simpa only [Prod.mk.injEq] using e1
    obtain ⟨-, -, rfl⟩ := by simpa only [Prod.mk.injEq] using e2
    exact h
theorem REL_note {P : Prop} {r r2 : Int32} {x1 x2 x3 x4 x5 : Int32} {k2 : Nat} (h : REL n0 n2 n3 n4 sv gs gn gm f) (b0 : n0 ≤ 6) (b2 : n2 ≤ 5) (b3 : n3 ≤ 6) (b4 : n4 ≤ 6) (e1 : (r, (m3, gn')) = apgF P 6 n3 gn (app5 gn n3 x1 x2 x3 x4 x5)) (e2 : (r2, (k2, g)) = apgF P 6 n3 f (noteM f n3 x1 x2 x3 x4 x5)) : REL n0 n2 m3 n4 sv gs gn' gm g := by
  by_cases p : P
  · by_cases c : n3 < 6
    · rw [apgF_p p c] at e1 e2
      obtain ⟨-, rfl, rfl⟩ := by simpa only [Prod.mk.injEq] using e1
      obtain ⟨-, -, rfl⟩ := by simpa only [Prod.mk.injEq] using e2
      obtain ⟨h0, h2, h3, h4⟩ := h
      have m : ∀ q : Nat, q ≠ 2 → q ≠ (75 + (5 * n3)) → q ≠ ((75 + (5 * n3)) + 1) → q ≠ ((75 + (5 * n3)) + 2) → q ≠ ((75 + (5 * n3)) + 3) → q ≠ ((75 + (5 * n3)) + 4) → noteM f n3 x1 x2 x3 x4 x5 q = f q := fun q hz h0 h1 h2 h3 h4 => (upd_ne hz).trans ((upd_ne h4).trans ((upd_ne h3).trans ((upd_ne h2).trans ((upd_ne h1).trans (upd_ne h0)))))
      have a : ∀ q : Nat, q < n3 * 5 → app5 gn n3 x1 x2 x3 x4 x5 q = gn q := fun q hq => (upd_ne (by omega)).trans ((upd_ne (by omega)).trans ((upd_ne (by omega)).trans ((upd_ne (by omega)).trans (upd_ne (by omega)))))
      refine ⟨fun i hi => ?_, fun i hi => ?_, fun i hi => ?_, fun i hi => ?_⟩
      · rw [m _ (by omega) (by omega) (by omega) (by omega) (by omega) (by omega), m _ (by omega) (by omega) (by omega) (by omega) (by omega) (by omega)]; exact h0 i hi
      · rw [m _ (by omega) (by omega) (by omega) (by omega) (by omega) (by omega), m _ (by omega) (by omega) (by omega) (by omega) (by omega) (by omega), m _ (by omega) (by omega) (by omega) (by omega) (by omega) (by omega), m _ (by omega) (by omega) (by omega) (by omega) (by omega) (by omega)]; exact h2 i hi
      · by_cases q : i = n3
        · subst q
          exact ⟨((upd_ne (by omega)).trans ((upd_ne (by omega)).trans ((upd_ne (by omega)).trans ((upd_ne (by omega)).trans ((upd_ne (by omega)).trans (upd_eq)))))).trans ((upd_ne (by omega)).trans ((upd_ne (by omega)).trans ((upd_ne (by omega)).trans ((upd_ne (by omega)).trans (upd_eq))))).symm, ((upd_ne (by omega)).trans ((upd_ne (by omega)).trans ((upd_ne (by omega)).trans ((upd_ne (by omega)).trans (upd_eq))))).trans ((upd_ne (by omega)).trans ((upd_ne (by omega)).trans ((upd_ne (by omega)).trans (upd_eq)))).symm, ((upd_ne (by omega)).trans ((upd_ne (by omega)).trans ((upd_ne (by omega)).trans (upd_eq)))).trans ((upd_ne (by omega)).trans ((upd_ne (by omega)).trans (upd_eq))).symm, ((upd_ne (by omega)).trans ((upd_ne (by omega)).trans (upd_eq))).trans ((upd_ne (by omega)).trans (upd_eq)).symm, ((upd_ne (by omega)).trans (upd_eq)).trans (upd_eq).symm⟩
        · rw [m _ (by omega) (by omega) (by omega) (by omega) (by omega) (by omega), m _ (by omega) (by omega) (by omega) (by omega) (by omega) (by omega), m _ (by omega) (by omega) (by omega) (by omega) (by omega) (by omega), m _ (by omega) (by omega) (by omega) (by omega) (by omega) (by omega), m _ (by omega) (by omega) (by omega) (by omega) (by omega) (by omega), a _ (by omega), a _ (by omega), a _ (by omega), a _ (by omega), a _ (by omega)]; exact h3 i (by omega)
      · rw [m _ (by omega) (by omega) (by omega) (by omega) (by omega) (by omega), m _ (by omega) (by omega) (by omega) (by omega) (by omega) (by omega), m _ (by omega) (by omega) (by omega) (by omega) (by omega) (by omega)]; exact h4 i hi
    · rw [apgF_f p c] at e1 e2
      obtain ⟨-, rfl, rfl⟩ := by simpa only [Prod.mk.injEq] using e1
      obtain ⟨-, -, rfl⟩ := by simpa only [Prod.mk.injEq] using e2
      exact h
  · rw [apgF_n p] at e1 e2
    obtain ⟨-, rfl, rfl⟩ := by simpa only [Prod.mk.injEq] using e1
    obtain ⟨-, -, rfl⟩ := by simpa only [Prod.mk.injEq] using e2
    exact h
theorem REL_mark {P : Prop} {r r2 : Int32} {x1 x2 x3 : Int32} {k2 : Nat} (h : REL n0 n2 n3 n4 sv gs gn gm f) (b0 : n0 ≤ 6) (b2 : n2 ≤ 5) (b3 : n3 ≤ 6) (b4 : n4 ≤ 6) (e1 : (r, (m4, gm')) = apgF P 6 n4 gm (app5 gm n4 x1 0 x2 0 x3)) (e2 : (r2, (k2, g)) = apgF P 6 n4 f (markM f n4 x1 x2 x3)) : REL n0 n2 n3 m4 sv gs gn gm' g := by
  by_cases p : P
  · by_cases c : n4 < 6
    · rw [apgF_p p c] at e1 e2
      obtain ⟨-, rfl, rfl⟩ := by simpa only [Prod.mk.injEq] using e1
      obtain ⟨-, -, rfl⟩ := by simpa only [Prod.mk.injEq] using e2
      obtain ⟨h0, h2, h3, h4⟩ := h
      have m : ∀ q : Nat, q ≠ 3 → q ≠ (105 + (3 * n4)) → q ≠ ((105 + (3 * n4)) + 1) → q ≠ ((105 + (3 * n4)) + 2) → markM f n4 x1 x2 x3 q = f q := fun q hz h0 h1 h2 => (upd_ne hz).trans ((upd_ne h2).trans ((upd_ne h1).trans (upd_ne h0)))
      have a : ∀ q : Nat, q < n4 * 5 → app5 gm n4 x1 0 x2 0 x3 q = gm q := fun q hq => (upd_ne (by omega)).trans ((upd_ne (by omega)).trans ((upd_ne (by omega)).trans ((upd_ne (by omega)).trans (upd_ne (by omega)))))
      refine ⟨fun i hi => ?_, fun i hi => ?_, fun i hi => ?_, fun i hi => ?_⟩
      · rw [m _ (by omega) (by omega) (by omega) (by omega), m _ (by omega) (by omega) (by omega) (by omega)]; exact h0 i hi
      · rw [m _ (by omega) (by omega) (by omega) (by omega), m _ (by omega) (by omega) (by omega) (by omega), m _ (by omega) (by omega) (by omega) (by omega), m _ (by omega) (by omega) (by omega) (by omega)]; exact h2 i hi
      · rw [m _ (by omega) (by omega) (by omega) (by omega), m _ (by omega) (by omega) (by omega) (by omega), m _ (by omega) (by omega) (by omega) (by omega), m _ (by omega) (by omega) (by omega) (by omega), m _ (by omega) (by omega) (by omega) (by omega)]; exact h3 i hi
      · by_cases q : i = n4
        · subst q
          exact ⟨((upd_ne (by omega)).trans ((upd_ne (by omega)).trans ((upd_ne (by omega)).trans (upd_eq)))).trans ((upd_ne (by omega)).trans ((upd_ne (by omega)).trans ((upd_ne (by omega)).trans ((upd_ne (by omega)).trans (upd_eq))))).symm, ((upd_ne (by omega)).trans ((upd_ne (by omega)).trans (upd_eq))).trans ((upd_ne (by omega)).trans ((upd_ne (by omega)).trans (upd_eq))).symm, ((upd_ne (by omega)).trans (upd_eq)).trans (upd_eq).symm⟩
        · rw [m _ (by omega) (by omega) (by omega) (by omega), m _ (by omega) (by omega) (by omega) (by omega), m _ (by omega) (by omega) (by omega) (by omega), a _ (by omega), a _ (by omega), a _ (by omega)]; exact h4 i (by omega)
    · rw [apgF_f p c] at e1 e2
      obtain ⟨-, rfl, rfl⟩ := by simpa only [Prod.mk.injEq] using e1
      obtain ⟨-, -, rfl⟩ := by simpa only [Prod.mk.injEq] using e2
      exact h
  · rw [apgF_n p] at e1 e2
    obtain ⟨-, rfl, rfl⟩ := by simpa only [Prod.mk.injEq] using e1
    obtain ⟨-, -, rfl⟩ := by simpa only [Prod.mk.injEq] using e2
    exact h
theorem apgF_rn {P : Prop} {M n m : Nat} {f g h : Nat → Int32} {r : Int32} (e : (r, (m, h)) = apgF P M n f g) : (r, m) = appF P M n := by
  by_cases p : P
  · by_cases c : n < M
    · rw [apgF_p p c] at e; rw [appF_p p c]
      obtain ⟨rfl, rfl, -⟩ := by simpa only [Prod.mk.injEq] using e
      rfl
    · rw [apgF_f p c] at e; rw [appF_f p c]
      obtain ⟨rfl, rfl, -⟩ := by simpa only [Prod.mk.injEq] using e
      rfl
  · rw [apgF_n p] at e; rw [appF_n p]
    obtain ⟨rfl, rfl, -⟩ := by simpa only [Prod.mk.injEq] using e
    rfl
theorem onxF_rn {P : Prop} {n m : Nat} {f g h : Nat → Int32} {r : Int32} (e : (r, (m, h)) = onxF P n f g) : (r, m) = oneF P n := by
  by_cases p : P
  · by_cases c : n < 6
    · rw [onxF_p p c] at e; rw [oneF_p p c]
      obtain ⟨rfl, rfl, -⟩ := by simpa only [Prod.mk.injEq] using e
      rfl
    · rw [onxF_f p c] at e; rw [oneF_f p c]
      obtain ⟨rfl, rfl, -⟩ := by simpa only [Prod.mk.injEq] using e
      rfl
  · rw [onxF_n p] at e; rw [oneF_n p]
    obtain ⟨rfl, rfl, -⟩ := by simpa only [Prod.mk.injEq] using e
    rfl
theorem fitP_c {n : Nat} {w L t s x w' L' t' s' x' : Nat → Int32} {i kd : Int32} (h : ∀ k : Nat, k < n → w' k = w k ∧ L' k = L k ∧ t' k = t k ∧ s' k = s k ∧ x' k = x k) : fitP n w L t s x i kd = fitP n w' L' t' s' x' i kd := propext ⟨fun q k hk e => by
  obtain ⟨a, b, c, d, z⟩ := h k hk
  rw [b, c, d, z]; exact q k hk (a ▸ e), fun q k hk e => by
  obtain ⟨a, b, c, d, z⟩ := h k hk
  rw [← b, ← c, ← d, ← z]; exact q k hk (a.trans e)⟩
theorem eggP_c {n : Nat} {w t x w' t' x' : Nat → Int32} {i kd : Int32} (h : ∀ k : Nat, k < n → w' k = w k ∧ t' k = t k ∧ x' k = x k) : eggP n w t x i kd = eggP n w' t' x' i kd := propext ⟨fun q k hk e => by
  obtain ⟨a, b, c⟩ := h k hk
  rw [b, c]; exact q k hk (a ▸ e), fun q k hk e => by
  obtain ⟨a, b, c⟩ := h k hk
  rw [← b, ← c]; exact q k hk (a.trans e)⟩
theorem REL_is {x : Int32} (h : REL n0 n2 n3 n4 sv gs gn gm f) : (fun l : Nat => fitP n3 (rowA gn 0) (rowA gn 1) (rowA gn 2) (rowA gn 3) (rowA gn 4) x (nI l)) = (fun l : Nat => fitP n3 (fun k => f (75 + (5 * k))) (fun k => f ((75 + (5 * k)) + 1)) (fun k => f ((75 + (5 * k)) + 2)) (fun k => f ((75 + (5 * k)) + 3)) (fun k => f ((75 + (5 * k)) + 4)) x (nI l)) := by
  funext l
  exact fitP_c (fun k hk => h.2.2.1 k hk)
theorem REL_kinds {x : Int32} (h : REL n0 n2 n3 n4 sv gs gn gm f) : (fun l : Nat => eggP n4 (rowA gm 0) (rowA gm 2) (rowA gm 4) x (nI l)) = (fun l : Nat => eggP n4 (fun k => f (105 + (3 * k))) (fun k => f ((105 + (3 * k)) + 1)) (fun k => f ((105 + (3 * k)) + 2)) x (nI l)) := by
  funext l
  exact eggP_c (fun k hk => h.2.2.2 k hk)
theorem REL_legs {i : Nat} (h : REL n0 n2 n3 n4 sv gs gn gm f) (hi : i < n0) : (fun l : Nat => fitP n2 (rowA gs 0) (fun _ => nI l) (rowA gs 2) (rowA gs 3) (rowA gs 4) (nI i) (sv (3 * i))) = (fun l : Nat => fitP n2 (fun k => f (55 + (4 * k))) (fun _ => nI l) (fun k => f ((55 + (4 * k)) + 1)) (fun k => f ((55 + (4 * k)) + 2)) (fun k => f ((55 + (4 * k)) + 3)) (nI i) (f (37 + i))) := by
  funext l
  rw [(h.1 i hi).1]
  exact fitP_c (fun k hk => ⟨(h.2.1 k hk).1, rfl, (h.2.1 k hk).2.1, (h.2.1 k hk).2.2.1, (h.2.1 k hk).2.2.2⟩)
variable {p0 p2 p3 p4 q0 q2 q3 q4 p0' p2' p3' p4' q0' q2' q3' q4' : Nat} {svp gsp gnp gmp svq gsq gnq gmq svp' gsp' gnp' gmp' svq' gsq' gnq' gmq' k k' z z' : Nat → Int32}
theorem k_x01 {x : Int32} (h0 : ¬ x = 0) (h1 : ¬ x = 1) : ¬ ((0 : Int32) ≤ x ∧ x ≤ 1) := fun h => by
  obtain ⟨j, hj, rfl⟩ := k_nat01 h
  have : j = 0 ∨ j = 1 := by omega
  rcases this with rfl | rfl
  · exact h0 rfl
  · exact h1 rfl
theorem REL_img {x r : Int32} (hN : REL n0 n2 n3 n4 sv gs gn gm f) (hP : REL p0 p2 p3 p4 svp gsp gnp gmp k) (hQ : REL q0 q2 q3 q4 svq gsq gnq gmq (fun j => k (371 + j))) (bN : n0 ≤ 6 ∧ n2 ≤ 5 ∧ n3 ≤ 6 ∧ n4 ≤ 6) (bP : p0 ≤ 6 ∧ p2 ≤ 5 ∧ p3 ≤ 6 ∧ p4 ≤ 6) (bQ : q0 ≤ 6 ∧ q2 ≤ 5 ∧ q3 ≤ 6 ∧ q4 ≤ 6)
    (e : (r, (z', ((p0', p2', p3', p4'), (q0', q2', q3', q4')))) = imgF x z (n0, n2, n3, n4) (p0, p2, p3, p4) (q0, q2, q3, q4)) (c : (x = 0 → cpyP svp' gsp' gnp' gmp' sv gs gn gm n2 n3 n4 ∧ samP svq' gsq' gnq' gmq' svq gsq gnq gmq) ∧ (x = 1 → cpyP svq' gsq' gnq' gmq' sv gs gn gm n2 n3 n4 ∧ samP svp' gsp' gnp' gmp' svp gsp gnp gmp) ∧ (¬ ((0 : Int32) ≤ x ∧ x ≤ 1) → samP svp' gsp' gnp' gmp' svp gsp gnp gmp ∧ samP svq' gsq' gnq' gmq' svq gsq gnq gmq)) (m : kepM x f k k') : REL p0' p2' p3' p4' svp' gsp' gnp' gmp' k' ∧ REL q0' q2' q3' q4' svq' gsq' gnq' gmq' (fun j => k' (371 + j)) := by
  by_cases h0 : x = 0
  · subst h0
    have e2 : (r, (z', ((p0', p2', p3', p4'), (q0', q2', q3', q4')))) = (1, (upd z 0 1, ((n0, n2, n3, n4), (q0, q2, q3, q4)))) := e
    simp only [Prod.mk.injEq] at e2
    obtain ⟨-, -, ⟨rfl, rfl, rfl, rfl⟩, rfl, rfl, rfl, rfl⟩ := e2
    obtain ⟨cp, rfl, rfl, rfl, rfl⟩ := c.1 rfl
    obtain ⟨a, b⟩ := m.1 rfl
    exact ⟨REL_cp hN bN.1 bN.2.1 bN.2.2.1 bN.2.2.2 cp (fun j h1 h2 => a j (by omega)), REL_cp hQ bQ.1 bQ.2.1 bQ.2.2.1 bQ.2.2.2 cpyP_r (fun j h1 h2 => b j (by omega))⟩
  · by_cases h1 : x = 1
    · subst h1
      have e2 : (r, (z', ((p0', p2', p3', p4'), (q0', q2', q3', q4')))) = (1, (upd z 1 1, ((p0, p2, p3, p4), (n0, n2, n3, n4)))) := e
      simp only [Prod.mk.injEq] at e2
      obtain ⟨-, -, ⟨rfl, rfl, rfl, rfl⟩, rfl, rfl, rfl, rfl⟩ := e2
      obtain ⟨cp, rfl, rfl, rfl, rfl⟩ := c.2.1 rfl
      obtain ⟨a, b⟩ := m.2.1 rfl
      exact ⟨REL_cp hP bP.1 bP.2.1 bP.2.2.1 bP.2.2.2 cpyP_r (fun j h1 h2 => b j (by omega)), REL_cp hN bN.1 bN.2.1 bN.2.2.1 bN.2.2.2 cp (fun j h1 h2 => a j (by omega))⟩
    · have hn := k_x01 h0 h1
      rw [imgF_n hn] at e
      simp only [Prod.mk.injEq] at e
      obtain ⟨-, -, ⟨rfl, rfl, rfl, rfl⟩, rfl, rfl, rfl, rfl⟩ := e
      obtain ⟨⟨rfl, rfl, rfl, rfl⟩, rfl, rfl, rfl, rfl⟩ := c.2.2 hn
      rw [m.2.2 hn]
      exact ⟨hP, hQ⟩
theorem REL_frm {x r : Int32} (hN : REL n0 n2 n3 n4 sv gs gn gm f) (hP : REL p0 p2 p3 p4 svp gsp gnp gmp k) (hQ : REL q0 q2 q3 q4 svq gsq gnq gmq (fun j => k (371 + j))) (bP : p0 ≤ 6 ∧ p2 ≤ 5 ∧ p3 ≤ 6 ∧ p4 ≤ 6) (bQ : q0 ≤ 6 ∧ q2 ≤ 5 ∧ q3 ≤ 6 ∧ q4 ≤ 6)
    (e : (r, (m0, m2, m3, m4)) = frmF x z (n0, n2, n3, n4) (p0, p2, p3, p4) (q0, q2, q3, q4)) (c : (x = 0 → ¬ z 0 = 0 → cpyP sv' gs' gn' gm' svp gsp gnp gmp p2 p3 p4) ∧ (x = 1 → ¬ z 1 = 0 → cpyP sv' gs' gn' gm' svq gsq gnq gmq q2 q3 q4) ∧ ((¬ ((0 : Int32) ≤ x ∧ x ≤ 1) ∨ (x = 0 ∧ z 0 = 0) ∨ (x = 1 ∧ z 1 = 0)) → samP sv' gs' gn' gm' sv gs gn gm)) (m : takM x z k f g) : REL m0 m2 m3 m4 sv' gs' gn' gm' g := by
  by_cases h0 : x = 0
  · subst h0
    by_cases w : z 0 = 0
    · rw [frmF_0n w] at e
      simp only [Prod.mk.injEq] at e
      obtain ⟨-, rfl, rfl, rfl, rfl⟩ := e
      obtain ⟨rfl, rfl, rfl, rfl⟩ := c.2.2 (Or.inr (Or.inl ⟨rfl, w⟩))
      rw [m.2.2 (Or.inr (Or.inl ⟨rfl, w⟩))]
      exact hN
    · rw [frmF_0p w] at e
      simp only [Prod.mk.injEq] at e
      obtain ⟨-, rfl, rfl, rfl, rfl⟩ := e
      exact REL_cp hP bP.1 bP.2.1 bP.2.2.1 bP.2.2.2 (c.1 rfl w) (fun j h1 h2 => m.1 rfl w j (by omega))
  · by_cases h1 : x = 1
    · subst h1
      by_cases w : z 1 = 0
      · rw [frmF_1n w] at e
        simp only [Prod.mk.injEq] at e
        obtain ⟨-, rfl, rfl, rfl, rfl⟩ := e
        obtain ⟨rfl, rfl, rfl, rfl⟩ := c.2.2 (Or.inr (Or.inr ⟨rfl, w⟩))
        rw [m.2.2 (Or.inr (Or.inr ⟨rfl, w⟩))]
        exact hN
      · rw [frmF_1p w] at e
        simp only [Prod.mk.injEq] at e
        obtain ⟨-, rfl, rfl, rfl, rfl⟩ := e
        exact REL_cp hQ bQ.1 bQ.2.1 bQ.2.2.1 bQ.2.2.2 (c.2.1 rfl w) (fun j h1 h2 => m.2.1 rfl w j (by omega))
    · have hn := k_x01 h0 h1
      rw [frmF_n hn] at e
      simp only [Prod.mk.injEq] at e
      obtain ⟨-, rfl, rfl, rfl, rfl⟩ := e
      obtain ⟨rfl, rfl, rfl, rfl⟩ := c.2.2 (Or.inl hn)
      rw [m.2.2 (Or.inl hn)]
      exact hN
end RL
