/-! the reference reads: its token stands for the one at s -/
def tkM (T : Nat → Int32) (n : Nat) (t : Nat → Nat) (v : Nat → Int32) (s : Nat) : Prop := t 0 = s ∧ t 0 + t 1 = tE T n s ∧ v 0 = tK T n s ∧ (tK T n s = 2 → v 1 = tV T n s) ∧ s ≤ n
theorem gI_0 {sv dv : Nat → Int32} {n : Nat} : ∀ k : Nat, gI sv n dv k 0 = dv 0 := by
  intro k
  induction k with
  | zero => rfl
  | succ k ih => rw [gI, gP, gK_0]; exact ih
theorem gI_1 {sv dv : Nat → Int32} {n tk : Nat} (h : dv 1 = nI tk) : ∀ k : Nat, gI sv n dv k 1 = nI (tk + k) := by
  intro k
  induction k with
  | zero => exact h
  | succ k ih =>
    rw [gI, gP, gK_1, ih]
    exact nI_add (tk + k) 1
/-- a tick begins -/
theorem RepM_t {sv dv f : Nat → Int32} {c : Nat} (hc : c ≤ 6) (h : RepM sv dv c f) : RepM sv (gK sv dv 0) c (upd f 35 (f 35 + 1)) := by
  obtain ⟨⟨h36, h35⟩, hO, hZ⟩ := h
  have w : ∀ q : Nat, q ≠ 35 → upd f 35 (f 35 + 1) q = f q := fun q h => upd_ne h
  have g : ∀ q : Nat, q ≠ 1 → gK sv dv 0 q = dv q := fun q h => upd_ne h
  refine ⟨⟨?_, ?_⟩, fun i hi => ?_, fun i h1 h2 => ?_⟩
  · rw [w 36 (by decide), g 0 (by decide)]; exact h36
  · rw [upd_eq, gK_1, h35]
  · obtain ⟨⟨a1, a2, a3⟩, ⟨b1, b2, b3, b4⟩, hh, hd⟩ := hO i hi
    refine ⟨⟨(w _ (by omega)).trans a1, (w _ (by omega)).trans a2, (w _ (by omega)).trans a3⟩, ⟨?_, ?_, ?_, ?_⟩, ?_, ?_⟩
    · rw [w _ (by omega), g _ (by omega)]; exact b1
    · rw [w _ (by omega), g _ (by omega)]; exact b2
    · rw [w _ (by omega), g _ (by omega)]; exact b3
    · rw [w _ (by omega), g _ (by omega)]; exact b4
    · rw [w _ (by omega), g _ (by omega)]; exact hh
    · rw [w _ (by omega)]; exact hd
  · obtain ⟨z1, z2, z3, z4⟩ := hZ i h1 h2
    exact ⟨(w _ (by omega)).trans z1, (w _ (by omega)).trans z2, (w _ (by omega)).trans z3, (w _ (by omega)).trans z4⟩
/-- a race begun -/
theorem RepM_b {sv dv f : Nat → Int32} {x : Int32} (h : ∀ j : Nat, j < 123 → j ≠ 36 → f j = 0) (hx : f 36 = x) : RepM sv (upd (upd dv 0 x) 1 0) 0 f := by
  refine ⟨⟨?_, ?_⟩, fun i hi => absurd hi (Nat.not_lt_zero i), fun i h1 h2 => ⟨h _ (by omega) (by omega), h _ (by omega) (by omega), h _ (by omega) (by omega), h _ (by omega) (by omega)⟩⟩
  · rw [hx]; exact ((upd_ne (by decide)).trans upd_eq).symm
  · rw [h 35 (by decide) (by decide)]; exact upd_eq.symm
def layM (f : Nat → Int32) (c : Nat) (k l e : Int32) : Nat → Int32 := upd (upd (upd (upd (upd f (37 + c) k) (43 + c) l) (49 + c) e) (11 + c) 4) 0 (nI (c + 1))
theorem layM_ne {f : Nat → Int32} {c q : Nat} {k l e : Int32} (h0 : q ≠ 0) (h1 : q ≠ 37 + c) (h2 : q ≠ 43 + c) (h3 : q ≠ 49 + c) (h4 : q ≠ 11 + c) : layM f c k l e q = f q := (upd_ne h0).trans ((upd_ne h4).trans ((upd_ne h3).trans ((upd_ne h2).trans (upd_ne h1))))
/-- one who comes -/
theorem RepM_l {sv dv f : Nat → Int32} {c : Nat} {k l e : Int32} (hc : c < 6) (h : RepM sv dv c f) : RepM (addS sv c k l e) (addD dv c) (c + 1) (layM f c k l e) := by
  obtain ⟨⟨h36, h35⟩, hO, hZ⟩ := h
  have gs : ∀ q : Nat, ¬ (3 * c ≤ q ∧ q < 3 * c + 3) → addS sv c k l e q = sv q := fun q h => ovr_ne h
  have gd : ∀ q : Nat, ¬ (10 + 5 * c ≤ q ∧ q < 10 + 5 * c + 5) → addD dv c q = dv q := fun q h => ovr_ne h
  have m : ∀ q : Nat, q ≠ 0 → q ≠ 37 + c → q ≠ 43 + c → q ≠ 49 + c → q ≠ 11 + c → layM f c k l e q = f q := fun q a1 a2 a3 a4 a5 => layM_ne a1 a2 a3 a4 a5
  refine ⟨⟨?_, ?_⟩, fun i hi => ?_, fun i h1 h2 => ?_⟩
  · rw [m _ (by omega) (by omega) (by omega) (by omega) (by omega), gd _ (by omega)]; exact h36
  · rw [m _ (by omega) (by omega) (by omega) (by omega) (by omega), gd _ (by omega)]; exact h35
  · by_cases q : i = c
    · subst q
      obtain ⟨z1, z2, z3, z4⟩ := hZ i (Nat.le_refl _) hc
      have s0 : addS sv i k l e (3 * i) = k := (ovr_in (by omega)).trans (by rw [Nat.sub_self]; rfl)
      have s1 : addS sv i k l e (3 * i + 1) = l := (ovr_in (by omega)).trans (by rw [show 3 * i + 1 - 3 * i = 1 from by omega]; rfl)
      have s2 : addS sv i k l e (3 * i + 2) = e := (ovr_in (by omega)).trans (by rw [show 3 * i + 2 - 3 * i = 2 from by omega]; rfl)
      have d0 : addD dv i (10 + 5 * i) = 4 := (ovr_in (by omega)).trans (by rw [Nat.sub_self]; rfl)
      have d1 : addD dv i (11 + 5 * i) = 0 := (ovr_in (by omega)).trans (by rw [show 11 + 5 * i - (10 + 5 * i) = 1 from by omega]; rfl)
      have d2 : addD dv i (12 + 5 * i) = 0 := (ovr_in (by omega)).trans (by rw [show 12 + 5 * i - (10 + 5 * i) = 2 from by omega]; rfl)
      have d3 : addD dv i (13 + 5 * i) = 0 := (ovr_in (by omega)).trans (by rw [show 13 + 5 * i - (10 + 5 * i) = 3 from by omega]; rfl)
      have d4 : addD dv i (14 + 5 * i) = -1 := (ovr_in (by omega)).trans (by rw [show 14 + 5 * i - (10 + 5 * i) = 4 from by omega]; rfl)
      refine ⟨⟨?_, ?_, ?_⟩, ⟨?_, ?_, ?_, ?_⟩, Or.inl ⟨d4, ?_⟩, ?_⟩
      · rw [s0]; exact (upd_ne (by omega)).trans ((upd_ne (by omega)).trans ((upd_ne (by omega)).trans ((upd_ne (by omega)).trans upd_eq)))
      · rw [s1]; exact (upd_ne (by omega)).trans ((upd_ne (by omega)).trans ((upd_ne (by omega)).trans upd_eq))
      · rw [s2]; exact (upd_ne (by omega)).trans ((upd_ne (by omega)).trans upd_eq)
      · rw [d0]; exact (upd_ne (by omega)).trans upd_eq
      · rw [d1, m _ (by omega) (by omega) (by omega) (by omega) (by omega)]; exact z1
      · rw [d2, m _ (by omega) (by omega) (by omega) (by omega) (by omega)]; exact z2
      · rw [d3, m _ (by omega) (by omega) (by omega) (by omega) (by omega)]; exact z3
      · rw [m _ (by omega) (by omega) (by omega) (by omega) (by omega)]; exact z4
      · rw [m _ (by omega) (by omega) (by omega) (by omega) (by omega), z2]; decide
    · obtain ⟨⟨a1, a2, a3⟩, ⟨b1, b2, b3, b4⟩, hh, hd⟩ := hO i (by omega)
      refine ⟨⟨?_, ?_, ?_⟩, ⟨?_, ?_, ?_, ?_⟩, ?_, ?_⟩
      · rw [m _ (by omega) (by omega) (by omega) (by omega) (by omega), gs _ (by omega)]; exact a1
      · rw [m _ (by omega) (by omega) (by omega) (by omega) (by omega), gs _ (by omega)]; exact a2
      · rw [m _ (by omega) (by omega) (by omega) (by omega) (by omega), gs _ (by omega)]; exact a3
      · rw [m _ (by omega) (by omega) (by omega) (by omega) (by omega), gd _ (by omega)]; exact b1
      · rw [m _ (by omega) (by omega) (by omega) (by omega) (by omega), gd _ (by omega)]; exact b2
      · rw [m _ (by omega) (by omega) (by omega) (by omega) (by omega), gd _ (by omega)]; exact b3
      · rw [m _ (by omega) (by omega) (by omega) (by omega) (by omega), gd _ (by omega)]; exact b4
      · rw [m _ (by omega) (by omega) (by omega) (by omega) (by omega), gd _ (by omega)]; exact hh
      · rw [m _ (by omega) (by omega) (by omega) (by omega) (by omega)]; exact hd
  · obtain ⟨z1, z2, z3, z4⟩ := hZ i (by omega) h2
    exact ⟨(m _ (by omega) (by omega) (by omega) (by omega) (by omega)).trans z1, (m _ (by omega) (by omega) (by omega) (by omega) (by omega)).trans z2, (m _ (by omega) (by omega) (by omega) (by omega) (by omega)).trans z3, (m _ (by omega) (by omega) (by omega) (by omega) (by omega)).trans z4⟩
/-- one number of a runner's told anew: his pace, his place -/
theorem RepM_u {sv dv f : Nat → Int32} {c j o d : Nat} {x : Int32} (hc : c ≤ 6) (hj : j < c) (ho : (o = 11 ∧ d = 10) ∨ (o = 5 ∧ d = 11)) (h : RepM sv dv c f) : RepM sv (upd dv (d + 5 * j) x) c (upd f (o + j) x) := by
  obtain ⟨⟨h36, h35⟩, hO, hZ⟩ := h
  refine ⟨⟨?_, ?_⟩, fun i hi => ?_, fun i h1 h2 => ?_⟩
  · rw [upd_ne (by omega), upd_ne (by omega)]; exact h36
  · rw [upd_ne (by omega), upd_ne (by omega)]; exact h35
  · obtain ⟨⟨a1, a2, a3⟩, ⟨b1, b2, b3, b4⟩, hh, hd⟩ := hO i hi
    refine ⟨⟨(upd_ne (by omega)).trans a1, (upd_ne (by omega)).trans a2, (upd_ne (by omega)).trans a3⟩, ⟨?_, ?_, ?_, ?_⟩, ?_, ?_⟩
    · by_cases q : i = j ∧ o = 11
      · obtain ⟨rfl, rfl⟩ := q
        rw [show d = 10 from by omega, upd_eq, upd_eq]
      · rw [upd_ne (by omega), upd_ne (by omega)]; exact b1
    · by_cases q : i = j ∧ o = 5
      · obtain ⟨rfl, rfl⟩ := q
        rw [show d = 11 from by omega, upd_eq, upd_eq]
      · rw [upd_ne (by omega), upd_ne (by omega)]; exact b2
    · rw [upd_ne (by omega), upd_ne (by omega)]; exact b3
    · rw [upd_ne (by omega), upd_ne (by omega)]; exact b4
    · rw [upd_ne (by omega), upd_ne (by omega)]; exact hh
    · rw [upd_ne (by omega)]; exact hd
  · obtain ⟨z1, z2, z3, z4⟩ := hZ i h1 h2
    exact ⟨(upd_ne (by omega)).trans z1, (upd_ne (by omega)).trans z2, (upd_ne (by omega)).trans z3, (upd_ne (by omega)).trans z4⟩
/-- home or not, on both sides -/
theorem RepM_hm {sv dv f : Nat → Int32} {c j : Nat} (h : RepM sv dv c f) (hj : j < c) : dv (14 + 5 * j) = -1 ↔ ¬ 0 < f (29 + j) := by
  rcases (h.2.1 j hj).2.2.1 with q | q
  · exact ⟨fun _ z => by rw [q.2] at z; exact absurd z (by decide), fun _ => q.1⟩
  · exact ⟨fun z => absurd z q.1, fun z => absurd q.2.2 z⟩
/-- how far a head start may go -/
theorem k_mst {dv : Nat → Int32} (h1 : 10 ≤ dv 0) (h2 : dv 0 ≤ 60) : mstP dv = if dv 0 ≤ 30 then dv 0 - 1 else 30 := by
  have a := Int32.le_iff_toInt_le.mp h1
  have b := Int32.le_iff_toInt_le.mp h2
  have e10 : (10 : Int32).toInt = 10 := by decide
  have e60 : (60 : Int32).toInt = 60 := by decide
  have e30 : (30 : Int32).toInt = 30 := by decide
  have e1 : (1 : Int32).toInt = 1 := by decide
  rw [e10] at a
  rw [e60] at b
  have s : (dv 0 - 1).toInt = (dv 0).toInt - 1 := by rw [Int32.toInt_sub, e1, k_sm (by omega) (by omega)]
  unfold mstP
  by_cases q : dv 0 ≤ 30
  · have q2 := Int32.le_iff_toInt_le.mp q
    rw [e30] at q2
    rw [if_pos q, if_pos (Int32.lt_iff_toInt_lt.mpr (by rw [s, e30]; omega))]
  · have q2 := Int32.lt_iff_toInt_lt.mp (Int32.not_le.mp q)
    rw [e30] at q2
    rw [if_neg q, if_neg (fun z => by have z2 := Int32.lt_iff_toInt_lt.mp z; rw [s, e30] at z2; omega)]
/-- words: of other lengths -/
theorem wrd_ne {T : Nat → Int32} {n s i j : Nat} (h : wrdB T n s i = true) (e : sLen.getD i 0 ≠ sLen.getD j 0) : wrdB T n s j = false := wrdB_f (fun w => e ((wrdB_t.mp h).1.symm.trans w.1))
theorem k_tp {k : Nat} (h : k ≤ 100000) : 0 < nI k + 1 := by
  rw [show nI k + 1 = nI (k + 1) from nI_add k 1]
  exact (nI_ltI (a := 0) (by decide) (by omega)).mpr (by omega)
theorem k_zer {f g h : Nat → Int32} {j k : Nat} (e : g = upd f j 0) (ej : j = k) (q : (∀ i : Nat, i < k → f i = 0) ∧ ∀ i : Nat, k ≤ i → f i = h i) : (∀ i : Nat, i < k + 1 → g i = 0) ∧ ∀ i : Nat, k + 1 ≤ i → g i = h i := by
  subst e; subst ej
  refine ⟨fun i hi => ?_, fun i hi => (upd_ne (by omega)).trans (q.2 i (by omega))⟩
  by_cases z : i = j
  · rw [z]; exact upd_eq
  · exact (upd_ne z).trans (q.1 i (by omega))
theorem k_cz {c : Nat} (e : nI c = 0) (h : c ≤ 1000) : c = 0 := j_eq (b := 0) (by omega) (by decide) e
theorem k_al2 {P : Nat → Prop} (h0 : P 0) (h1 : P 1) : ∀ k : Nat, k < 2 → P k := fun k hk => by
  have : k = 0 ∨ k = 1 := by omega
  rcases this with rfl | rfl <;> assumption
theorem k_al3 {P : Nat → Prop} (h0 : P 0) (h1 : P 1) (h2 : P 2) : ∀ k : Nat, k < 3 → P k := fun k hk => by
  have : k = 0 ∨ k = 1 ∨ k = 2 := by omega
  rcases this with rfl | rfl | rfl <;> assumption
theorem k_al4 {P : Nat → Prop} (h0 : P 0) (h1 : P 1) (h2 : P 2) (h3 : P 3) : ∀ k : Nat, k < 4 → P k := fun k hk => by
  have : k = 0 ∨ k = 1 ∨ k = 2 ∨ k = 3 := by omega
  rcases this with rfl | rfl | rfl | rfl <;> assumption
theorem k_al5 {P : Nat → Prop} (h0 : P 0) (h1 : P 1) (h2 : P 2) (h3 : P 3) (h4 : P 4) : ∀ k : Nat, k < 5 → P k := fun k hk => by
  have : k = 0 ∨ k = 1 ∨ k = 2 ∨ k = 3 ∨ k = 4 := by omega
  rcases this with rfl | rfl | rfl | rfl | rfl <;> assumption
theorem wrd_nf {T : Nat → Int32} {n s i j : Nat} (h : wrdB T n s i = true) (e : sLen.getD i 0 ≠ sLen.getD j 0) : ¬ wrdB T n s j = true := by rw [wrd_ne h e]; decide
/-- no item's word -/
theorem kI_n {T : Nat → Int32} {n s c : Nat} (h1 : ¬ (tK T n s = 1 ∧ wrdB T n s 1 = true)) (h2 : ¬ (tK T n s = 1 ∧ wrdB T n s 2 = true)) (h3 : ¬ (tK T n s = 1 ∧ wrdB T n s 3 = true)) (h4 : ¬ (tK T n s = 1 ∧ wrdB T n s 4 = true)) : kindI T n s c = 0 := by
  by_cases h : tK T n s = 1 ∧ wrdB T n s 0 = false
  · exact kI_5 h.1 h.2 (fun z => h1 ⟨h.1, z.1⟩) (fun z => h2 ⟨h.1, z⟩) (fun z => h3 ⟨h.1, z⟩) (fun z => h4 ⟨h.1, z⟩)
  · exact kI_0 h
/-- one more than there is room for -/
theorem kI_6 {T : Nat → Int32} {n s c : Nat} (h : tK T n s = 1) (h1 : wrdB T n s 1 = true) (hc : ¬ c < 6) : kindI T n s c = 0 := kI_5 h (wrd_ne h1 (by decide)) (fun z => hc z.2) (wrd_nf h1 (by decide)) (wrd_nf h1 (by decide)) (wrd_nf h1 (by decide))
theorem chk_ck {b : Bool} {p : Nat} {l : List (Bool × Nat)} (h : chk ((b, p) :: l) = none) : b = true ∧ chk l = none := by
  cases b with
  | true => exact ⟨rfl, (chk_t rfl).symm.trans h⟩
  | false => rw [chk_f rfl] at h; cases h
theorem kI_le {T : Nat → Int32} {n s c : Nat} : kindI T n s c = 0 ∨ kindI T n s c = 1 ∨ kindI T n s c = 2 ∨ kindI T n s c = 3 ∨ kindI T n s c = 4 := by
  unfold kindI
  split
  · split
    · exact Or.inr (Or.inl rfl)
    · split
      · exact Or.inr (Or.inr (Or.inl rfl))
      · split
        · exact Or.inr (Or.inr (Or.inr (Or.inl rfl)))
        · split
          · exact Or.inr (Or.inr (Or.inr (Or.inr rfl)))
          · exact Or.inl rfl
  · exact Or.inl rfl
/-- what items do to length and tick -/
theorem itD_01 {T : Nat → Int32} {n s c tk : Nat} {sv dv : Nat → Int32} (h : itF T n s c dv = none) (ht : dv 1 = nI tk) : itD T n s c sv dv 0 = dv 0 ∧ ∃ tk' : Nat, itD T n s c sv dv 1 = nI tk' ∧ tk' ≤ tk + 99 := by
  rcases kI_le (T := T) (n := n) (s := s) (c := c) with k | k | k | k | k
  · rw [it_0 k] at h; cases h
  · rw [(it_1 (sv := sv) (dv := dv) k).2.2.2.2]
    exact ⟨ovr_ne (by omega), tk, (ovr_ne (by omega)).trans ht, by omega⟩
  · rw [(it_2 (sv := sv) (dv := dv) k).2.2.2.2]
    exact ⟨upd_ne (by omega), tk, (upd_ne (by omega)).trans ht, by omega⟩
  · rw [(it_3 (sv := sv) (dv := dv) k).2.2.2.2]
    exact ⟨upd_ne (by omega), tk, (upd_ne (by omega)).trans ht, by omega⟩
  · have e := it_4 (sv := sv) (dv := dv) k
    rw [e.1] at h
    have c1 := numB_t.mp (chk_ck h).1
    obtain ⟨z, ⟨hz1, hz2⟩, ez⟩ := k_natR (a := 1) (b := 99) c1.2 rfl rfl (by decide) (by decide)
    rw [e.2.2.2.2, ez, nI_clamp (by omega)]
    exact ⟨gI_0 z, tk + z, gI_1 ht z, by omega⟩
theorem RepM_e {sv dv f g : Nat → Int32} {c : Nat} (hc : c ≤ 6) (h : RepM sv dv c f) (e : ∀ j : Nat, j < 123 → g j = f j) : RepM sv dv c g := by
  obtain ⟨⟨h36, h35⟩, hO, hZ⟩ := h
  refine ⟨⟨(e _ (by decide)).trans h36, (e _ (by decide)).trans h35⟩, fun i hi => ?_, fun i h1 h2 => ?_⟩
  · obtain ⟨⟨a1, a2, a3⟩, ⟨b1, b2, b3, b4⟩, hh, hd⟩ := hO i hi
    refine ⟨⟨(e _ (by omega)).trans a1, (e _ (by omega)).trans a2, (e _ (by omega)).trans a3⟩, ⟨(e _ (by omega)).trans b1, (e _ (by omega)).trans b2, (e _ (by omega)).trans b3, (e _ (by omega)).trans b4⟩, ?_, ?_⟩
    · rw [e _ (by omega)]; exact hh
    · rw [e _ (by omega)]; exact hd
  · obtain ⟨z1, z2, z3, z4⟩ := hZ i h1 h2
    exact ⟨(e _ (by omega)).trans z1, (e _ (by omega)).trans z2, (e _ (by omega)).trans z3, (e _ (by omega)).trans z4⟩
theorem k_cpy {f g h w : Nat → Int32} {j k : Nat} (e : g = upd f j (w k)) (ej : j = k) (q : (∀ i : Nat, i < k → f i = w i) ∧ ∀ i : Nat, k ≤ i → f i = h i) : (∀ i : Nat, i < k + 1 → g i = w i) ∧ ∀ i : Nat, k + 1 ≤ i → g i = h i := by
  subst e; subst ej
  refine ⟨fun i hi => ?_, fun i hi => (upd_ne (by omega)).trans (q.2 i (by omega))⟩
  by_cases z : i = j
  · rw [z]; exact upd_eq
  · exact (upd_ne z).trans (q.1 i (by omega))
