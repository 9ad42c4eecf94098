section RLk
variable {n0 n2 n3 n4 : Nat} {sv gs gn gm f : Nat → Int32}
theorem ans2 {P : Prop} {g : Int32 → Int32 → Int32} {a b c d : Int32} (h1 : a = b) (h2 : c = d) : ansF P (g a c) = ansF P (g b d) := by rw [h1, h2]
theorem REL_lg (h : REL n0 n2 n3 n4 sv gs gn gm f) : ∀ j : Nat, j < n0 → (0 : Int32) ≤ sv (3 * j + 1) := fun j hj => (h.1 j hj).2.2
theorem REL_tel {x : Int32} (h : REL n0 n2 n3 n4 sv gs gn gm f) (b0 : n0 ≤ 6) : ansF (thP n0 x) (telF (setF (fun l => fitP n2 (rowA gs 0) (fun _ => nI l) (rowA gs 2) (rowA gs 3) (rowA gs 4) x (sv (3 * x.toNatClampNeg))) 1 9) (sv (3 * x.toNatClampNeg))) = ansF (thP n0 x) (telF (setF (fun l => fitP n2 (fun k => f (55 + (4 * k))) (fun _ => nI l) (fun k => f ((55 + (4 * k)) + 1)) (fun k => f ((55 + (4 * k)) + 2)) (fun k => f ((55 + (4 * k)) + 3)) x (f (37 + x.toNatClampNeg))) 1 9) (f (37 + x.toNatClampNeg))) := by
  by_cases p : thP n0 x
  · obtain ⟨j, hj, e⟩ := p
    subst e
    rw [nI_clamp (by omega)]
    exact ans2 (g := telF) (congrArg (fun z => setF z 1 9) (REL_legs h hj)) (h.1 j hj).1.symm
  · rw [ansF_f p, ansF_f p]
theorem REL_loo {x : Int32} (h : REL n0 n2 n3 n4 sv gs gn gm f) (b0 : n0 ≤ 6) : ansF (thP n0 x) (looF (setF (fun l => fitP n3 (rowA gn 0) (rowA gn 1) (rowA gn 2) (rowA gn 3) (rowA gn 4) x (nI l)) 0 6) (sv (3 * x.toNatClampNeg + 1))) = ansF (thP n0 x) (looF (setF (fun l => fitP n3 (fun k => f (75 + (5 * k))) (fun k => f ((75 + (5 * k)) + 1)) (fun k => f ((75 + (5 * k)) + 2)) (fun k => f ((75 + (5 * k)) + 3)) (fun k => f ((75 + (5 * k)) + 4)) x (nI l)) 0 6) (f (43 + x.toNatClampNeg))) := by
  by_cases p : thP n0 x
  · obtain ⟨j, hj, e⟩ := p
    subst e
    rw [nI_clamp (by omega)]
    exact ans2 (g := looF) (congrArg (fun z => setF z 0 6) (REL_is (x := nI j) h)) (h.1 j hj).2.1.symm
  · rw [ansF_f p, ansF_f p]
theorem REL_ask {x : Int32} (h : REL n0 n2 n3 n4 sv gs gn gm f) : ansF (thP n0 x) (askF (setF (fun l => eggP n4 (rowA gm 0) (rowA gm 2) (rowA gm 4) x (nI l)) 0 6)) = ansF (thP n0 x) (askF (setF (fun l => eggP n4 (fun k => f (105 + (3 * k))) (fun k => f ((105 + (3 * k)) + 1)) (fun k => f ((105 + (3 * k)) + 2)) x (nI l)) 0 6)) := congrArg (fun z => ansF (thP n0 x) (askF (setF z 0 6))) (REL_kinds (x := x) h)
end RLk
/-! who is read has legs -/
theorem leg_add {sv : Nat → Int32} {c : Nat} {k l e : Int32} (h : ∀ j : Nat, j < c → (0 : Int32) ≤ sv (3 * j + 1)) (hl : (0 : Int32) ≤ l) : ∀ j : Nat, j < c + 1 → (0 : Int32) ≤ addS sv c k l e (3 * j + 1) := fun j hj => by
  by_cases q : j = c
  · subst q
    rw [show addS sv j k l e (3 * j + 1) = l from (ovr_in (by omega)).trans (by rw [show 3 * j + 1 - 3 * j = 1 from by omega]; rfl)]
    exact hl
  · rw [show addS sv c k l e (3 * j + 1) = sv (3 * j + 1) from ovr_ne (by omega)]
    exact h j (by omega)
theorem leg_one {T : Nat → Int32} {n s : Nat} (h : oneC T n s = none) : (0 : Int32) ≤ tV T n (t2 T n s) := by
  unfold oneC at h
  by_cases a : numB T n (tN T n s) 0 5 = true
  · rw [chk_t a] at h
    by_cases b : numB T n (t2 T n s) 1 9 = true
    · exact Int32.le_trans (by decide) (numB_t.mp b).2.1
    · rw [chk_f (Bool.eq_false_iff.mpr b)] at h
      exact absurd h (by simp)
  · rw [chk_f (Bool.eq_false_iff.mpr a)] at h
    exact absurd h (by simp)
theorem leg_rdP {T : Nat → Int32} {n : Nat} : ∀ (k s i c : Nat) (sv dv : Nat → Int32), (∀ j : Nat, j < c → (0 : Int32) ≤ sv (3 * j + 1)) → (rdP T n k s i c sv dv).2.1 = true → ∀ j : Nat, j < (rdP T n k s i c sv dv).2.2.1 → (0 : Int32) ≤ (rdP T n k s i c sv dv).2.2.2.1 (3 * j + 1) := by
  intro k
  induction k with
  | zero => intro s i c sv dv _ h; exact absurd (show false = true from h) (by decide)
  | succ k ih =>
    intro s i c sv dv hl h
    by_cases z : tK T n s = 0
    · rw [rdP_e z]; exact hl
    · cases q : itF T n s c dv with
      | some p => rw [rdP_f z q] at h; exact absurd (show false = true from h) (by decide)
      | none =>
        rw [rdP_n z q] at h ⊢
        refine ih _ _ _ _ _ ?_ h
        by_cases w : kindI T n s c = 1
        · obtain ⟨a1, -, a3, a4, -⟩ := it_1 (sv := sv) (dv := dv) w
          rw [a3, a4]
          exact leg_add hl (leg_one (a1.symm.trans q))
        · rw [show itN T n s c = c from if_neg w, show itS T n s c sv = sv from if_neg w]
          exact hl
theorem leg_rdA {T : Nat → Int32} {n : Nat} {sv dv : Nat → Int32} (h : (rdA T n sv dv).2.1 = true) : ∀ j : Nat, j < (rdA T n sv dv).2.2.1 → (0 : Int32) ≤ (rdA T n sv dv).2.2.2.1 (3 * j + 1) := by
  by_cases a : tK T n (scanP qB T n 0) = 1 ∧ wrdB T n (scanP qB T n 0) 0 = true
  · cases q : racC T n (scanP qB T n 0) with
    | some p => rw [rdA_f a q] at h; exact absurd (show false = true from h) (by decide)
    | none =>
      rw [rdA_n a q] at h ⊢
      exact leg_rdP _ _ _ _ _ _ (fun j hj => absurd hj (Nat.not_lt_zero j)) h
  · rw [rdA_w a] at h; exact absurd (show false = true from h) (by decide)
