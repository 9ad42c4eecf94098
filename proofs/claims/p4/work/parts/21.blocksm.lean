/-! the reference's world: its object, its rows of numbers, the places of which the first five are counts -/
abbrev mW (h : Nat) (ma : Nat → Nat) (la lb : Int64) (n : Nat) (t : Nat → Nat) (v : Nat → Int32) : va_W := [(h, .inr (9, [.ref (ma 0), .ref (ma 1), .ref (ma 2), .ref (ma 3), .long la, .long lb, .ref (ma 6), .ref (ma 7), .ref (ma 8), .ref (ma 9), .ref (ma 10), .int (nI n), .int (nI (t 0)), .int (nI (t 1)), .int (v 0), .int (v 1), .ref (ma 16), .ref (ma 17)]))]
def InT (t : Nat → Nat) : Prop := t 0 ≤ 150 ∧ t 1 ≤ 150
/-- the counts at the first five places: runners, seen, noted, marked, what may be undone -/
def InB (b : Nat → Nat) : Prop := b 0 ≤ 6 ∧ b 1 ≤ 5 ∧ b 2 ≤ 6 ∧ b 3 ≤ 6 ∧ b 4 ≤ 8
def InM (f : Nat → Int32) (b : Nat → Nat) : Prop := (f 0 = nI (b 0) ∧ f 1 = nI (b 1) ∧ f 2 = nI (b 2) ∧ f 3 = nI (b 3) ∧ f 4 = nI (b 4)) ∧ InB b
def InK (f : Nat → Int32) : Prop := (∃ b, InM f b) ∧ ∃ b, InM (fun k => f (371 + k)) b
theorem upd_ne {f : Nat → Int32} {j k : Nat} {x : Int32} (h : k ≠ j) : upd f j x k = f k := by
  show (if k = j then x else f k) = f k
  exact if_neg h
theorem upd_eq {f : Nat → Int32} {j : Nat} {x : Int32} : upd f j x j = x := by
  show (if j = j then x else f j) = x
  exact if_pos rfl
theorem InM_o {f : Nat → Int32} {b : Nat → Nat} {j : Nat} {x : Int32} (h : InM f b) (hj : 5 ≤ j) : InM (upd f j x) b := by
  obtain ⟨⟨h0, h1, h2, h3, h4⟩, hb⟩ := h
  exact ⟨⟨(upd_ne (by omega)).trans h0, (upd_ne (by omega)).trans h1, (upd_ne (by omega)).trans h2, (upd_ne (by omega)).trans h3, (upd_ne (by omega)).trans h4⟩, hb⟩
theorem upN_ne {b : Nat → Nat} {j k n : Nat} (h : k ≠ j) : upN b j n k = b k := by
  show (if k = j then n else b k) = b k
  exact if_neg h
theorem upN_eq {b : Nat → Nat} {j n : Nat} : upN b j n j = n := by
  show (if j = j then n else b j) = n
  exact if_pos rfl
theorem InM_n {f : Nat → Int32} {b : Nat → Nat} {j n : Nat} (h : InM f b) (hB : InB (upN b j n)) : InM (upd f j (nI n)) (upN b j n) := by
  obtain ⟨⟨h0, h1, h2, h3, h4⟩, -⟩ := h
  have key : ∀ k : Nat, f k = nI (b k) → upd f j (nI n) k = nI (upN b j n k) := fun k hk => by
    by_cases q : k = j
    · subst q; rw [upd_eq, upN_eq]
    · rw [upd_ne q, upN_ne q]; exact hk
  exact ⟨⟨key 0 h0, key 1 h1, key 2 h2, key 3 h3, key 4 h4⟩, hB⟩
theorem InB_u {b c : Nat → Nat} {j : Nat} (h : InB b) (hc : InB c) : InB (upN b j (c j)) := by
  obtain ⟨h0, h1, h2, h3, h4⟩ := h
  obtain ⟨c0, c1, c2, c3, c4⟩ := hc
  have key : ∀ k B : Nat, b k ≤ B → c k ≤ B → upN b j (c j) k ≤ B := fun k B hk ck => by
    by_cases q : k = j
    · subst q; rw [upN_eq]; exact ck
    · rw [upN_ne q]; exact hk
  exact ⟨key 0 6 h0 c0, key 1 5 h1 c1, key 2 6 h2 c2, key 3 6 h3 c3, key 4 8 h4 c4⟩
theorem InM_c {f g : Nat → Int32} {b c : Nat → Nat} {j k : Nat} (h : InM f b) (hg : InM g c) (hj : j = k) : ∃ b', InM (upd f j (g k)) b' := by
  subst hj
  by_cases q : 5 ≤ j
  · exact ⟨b, InM_o h q⟩
  · refine ⟨upN b j (c j), ?_⟩
    have e : g j = nI (c j) := by
      obtain ⟨⟨h0, h1, h2, h3, h4⟩, -⟩ := hg
      have : j = 0 ∨ j = 1 ∨ j = 2 ∨ j = 3 ∨ j = 4 := by omega
      rcases this with rfl | rfl | rfl | rfl | rfl <;> assumption
    rw [e]
    exact InM_n h (InB_u h.2 hg.2)
theorem InM_0 : InM (fun _ => 0) (fun _ => 0) := ⟨⟨rfl, rfl, rfl, rfl, rfl⟩, ⟨by decide, by decide, by decide, by decide, by decide⟩⟩
theorem InM_z {f : Nat → Int32} {b : Nat → Nat} {j : Nat} (h : InM f b) : ∃ b', InM (upd f j 0) b' := InM_c (g := fun _ => 0) (k := j) h InM_0 rfl
theorem InM_ex {f g : Nat → Int32} {b : Nat → Nat} (h : InM f b) (e : ∀ k : Nat, k < 5 → g k = f k) : InM g b := by
  obtain ⟨⟨h0, h1, h2, h3, h4⟩, hb⟩ := h
  exact ⟨⟨(e 0 (by decide)).trans h0, (e 1 (by decide)).trans h1, (e 2 (by decide)).trans h2, (e 3 (by decide)).trans h3, (e 4 (by decide)).trans h4⟩, hb⟩
theorem InK_0 {f g : Nat → Int32} {b : Nat → Nat} {j k : Nat} (h : InK f) (hg : InM g b) (hj : j = 0 + k) (hk : k < 371) : InK (upd f j (g k)) := by
  obtain ⟨⟨b1, h1⟩, ⟨b2, h2⟩⟩ := h
  refine ⟨InM_c h1 hg (by omega), b2, InM_ex h2 (fun q hq => ?_)⟩
  exact upd_ne (by omega)
theorem InK_1 {f g : Nat → Int32} {b : Nat → Nat} {j k : Nat} (h : InK f) (hg : InM g b) (hj : j = 371 + k) (hk : k < 371) : InK (upd f j (g k)) := by
  obtain ⟨⟨b1, h1⟩, ⟨b2, h2⟩⟩ := h
  obtain ⟨b3, h3⟩ := InM_c (j := k) (k := k) h2 hg rfl
  refine ⟨⟨b1, InM_o h1 (by omega)⟩, b3, InM_ex h3 (fun q hq => ?_)⟩
  by_cases e : q = k
  · subst e; rw [upd_eq, hj]; exact upd_eq
  · rw [upd_ne e]; exact upd_ne (by omega)
theorem InM_k0 {f g : Nat → Int32} {b : Nat → Nat} {j k : Nat} (h : InM f b) (hg : InK g) (hj : j = k) : ∃ b', InM (upd f j (g (0 + k))) b' := by
  obtain ⟨⟨b1, h1⟩, -⟩ := hg
  rw [Nat.zero_add]
  exact InM_c h h1 hj
theorem InM_k1 {f g : Nat → Int32} {b : Nat → Nat} {j k : Nat} (h : InM f b) (hg : InK g) (hj : j = k) : ∃ b', InM (upd f j (g (371 + k))) b' := by
  obtain ⟨-, ⟨b1, h1⟩⟩ := hg
  exact InM_c (g := fun k => g (371 + k)) h h1 hj
theorem k_vpc {i : Int32} {c N : Nat} (e : i = nI c) (h : c < N) (hN : N < 2 ^ 31) : vp_in i N := by
  subst e; exact vp_in_nI h hN
theorem k_natR {x lo hi : Int32} {a b : Nat} (h : lo ≤ x ∧ x ≤ hi) (ea : lo = nI a) (eb : hi = nI b) (ha : a < 2 ^ 31) (hb : b < 2 ^ 31) : ∃ j : Nat, (a ≤ j ∧ j ≤ b) ∧ x = nI j := by
  subst ea; subst eb
  obtain ⟨j, hj, rfl⟩ := nI_of (x := x) (fun q => absurd (Int32.lt_of_le_of_lt h.1 q) (nI_pos ha))
  exact ⟨j, ⟨j_le ha hj h.1, j_le hj hb h.2⟩, rfl⟩
