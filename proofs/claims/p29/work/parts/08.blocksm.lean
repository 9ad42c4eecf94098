/-! the reference's world: its object, its rows of numbers, the places of which the first five are counts -/
abbrev mW (h : Nat) (ma : Nat → Nat) (la lb : Int64) (n : Nat) (t : Nat → Nat) (v : Nat → Int32) : va_W := [(h, .inr (9, [.ref (ma 0), .ref (ma 1), .ref (ma 2), .ref (ma 3), .long la, .long lb, .ref (ma 6), .ref (ma 7), .ref (ma 8), .ref (ma 9), .ref (ma 10), .int (nI n), .int (nI (t 0)), .int (nI (t 1)), .int (v 0), .int (v 1), .ref (ma 16), .ref (ma 17)]))]
def InT (t : Nat → Nat) : Prop := t 0 ≤ 150 ∧ t 1 ≤ 150
/-- the counts at the first five places: runners, seen, noted, marked, what may be undone -/
def InB (b : Nat → Nat) : Prop := b 0 ≤ 6 ∧ b 1 ≤ 5 ∧ b 2 ≤ 6 ∧ b 3 ≤ 6 ∧ b 4 ≤ 8
def InM (f : Nat → Int32) (b : Nat → Nat) : Prop := (f 0 = nI (b 0) ∧ f 1 = nI (b 1) ∧ f 2 = nI (b 2) ∧ f 3 = nI (b 3) ∧ f 4 = nI (b 4)) ∧ InB b
theorem upd_ne {f : Nat → Int32} {j k : Nat} {x : Int32} (h : k ≠ j) : upd f j x k = f k := by
  show (if k = j then x else f k) = f k
  exact if_neg h
theorem upd_eq {f : Nat → Int32} {j : Nat} {x : Int32} : upd f j x j = x := by
  show (if j = j then x else f j) = x
  exact if_pos rfl
theorem InM_o {f : Nat → Int32} {b : Nat → Nat} {j : Nat} {x : Int32} (h : InM f b) (hj : 5 ≤ j) : InM (upd f j x) b := by
  obtain ⟨⟨h0, h1, h2, h3, h4⟩, hb⟩ := h
  exact ⟨⟨(upd_ne (by omega)).trans h0, (upd_ne (by omega)).trans h1, (upd_ne (by omega)).trans h2, (upd_ne (by omega)).trans h3, (upd_ne (by omega)).trans h4⟩, hb⟩
theorem upN_ne {b : Nat → Nat} {j k n : Nat} (h : k ≠ j) : upN b j n k = b k := by
  show (if k = j then n else b k) = b k
  exact if_neg h
theorem upN_eq {b : Nat → Nat} {j n : Nat} : upN b j n j = n := by
  show (if j = j then n else b j) = n
  exact if_pos rfl
theorem InM_n {f : Nat → Int32} {b : Nat → Nat} {j n : Nat} (h : InM f b) (hB : InB (upN b j n)) : InM (upd f j (nI n)) (upN b j n) := by
  obtain ⟨⟨h0, h1, h2, h3, h4⟩, -⟩ := h
  have key : ∀ k : Nat, f k = nI (b k) → upd f j (nI n) k = nI (upN b j n k) := fun k hk => by
    by_cases q : k = j
    · subst q; rw [upd_eq, upN_eq]
    · rw [upd_ne q, upN_ne q]; exact hk
  exact ⟨⟨key 0 h0, key 1 h1, key 2 h2, key 3 h3, key 4 h4⟩, hB⟩
theorem InB_u {b c : Nat → Nat} {j : Nat} (h : InB b) (hc : InB c) : InB (upN b j (c j)) := by
  obtain ⟨h0, h1, h2, h3, h4⟩ := h
  obtain ⟨c0, c1, c2, c3, c4⟩ := hc
  have key : ∀ k B : Nat, b k ≤ B → c k ≤ B → upN b j (c j) k ≤ B := fun k B hk ck => by
    by_cases q : k = j
    · subst q; rw [upN_eq]; exact ck
    · rw [upN_ne q]; exact hk
  exact ⟨key 0 6 h0 c0, key 1 5 h1 c1, key 2 6 h2 c2, key 3 6 h3 c3, key 4 8 h4 c4⟩
theorem InM_c {f g : Nat → Int32} {b c : Nat → Nat} {j k : Nat} (h : InM f b) (hg : InM g c) (hj : j = k) : ∃ b', InM (upd f j (g k)) b' := by
  subst hj
  by_cases q : 5 ≤ j
  · exact ⟨b, InM_o h q⟩
  · refine ⟨upN b j (c j), ?_⟩
    have e : g j = nI (c j) := by
      obtain ⟨⟨h0, h1, h2, h3, h4⟩, -⟩ := hg
      have : j = 0 ∨ j = 1 ∨ j = 2 ∨ j = 3 ∨ j = 4 := by omega
      rcases this with rfl | rfl | rfl | rfl | rfl <;> assumption
    rw [e]
    exact InM_n h (InB_u h.2 hg.2)
theorem InM_0 : InM (fun _ => 0) (fun _ => 0) := ⟨⟨rfl, rfl, rfl, rfl, rfl⟩, ⟨by decide, by decide, by decide, by decide, by decide⟩⟩
theorem InM_z {f : Nat → Int32} {b : Nat → Nat} {j : Nat} (h : InM f b) : ∃ b', InM (upd f j 0) b' := InM_c (g := fun _ => 0) (k := j) h InM_0 rfl
theorem InM_ex {f g : Nat → Int32} {b : Nat → Nat} (h : InM f b) (e : ∀ k : Nat, k < 5 → g k = f k) : InM g b := by
  obtain ⟨⟨h0, h1, h2, h3, h4⟩, hb⟩ := h
  exact ⟨⟨(e 0 (by decide)).trans h0, (e 1 (by decide)).trans h1, (e 2 (by decide)).trans h2, (e 3 (by decide)).trans h3, (e 4 (by decide)).trans h4⟩, hb⟩
/-- the counts apart -/
def InA (f : Nat → Int32) (c0 c1 c2 c3 c4 : Nat) : Prop := (f 0 = nI c0 ∧ f 1 = nI c1 ∧ f 2 = nI c2 ∧ f 3 = nI c3 ∧ f 4 = nI c4) ∧ (c0 ≤ 6 ∧ c1 ≤ 5 ∧ c2 ≤ 6 ∧ c3 ≤ 6 ∧ c4 ≤ 8)
abbrev bF (c0 c1 c2 c3 c4 : Nat) : Nat → Nat := fun k => [c0, c1, c2, c3, c4].getD k 0
section IA
variable {f g : Nat → Int32} {c0 c1 c2 c3 c4 d0 d1 d2 d3 d4 e0 e1 e2 e3 e4 o0 o1 o2 o3 o4 j k n : Nat} {x : Int32} {b : Nat → Nat}
theorem InA_M (h : InA f c0 c1 c2 c3 c4) : InM f (bF c0 c1 c2 c3 c4) := h
theorem InM_A (h : InM f b) : InA f (b 0) (b 1) (b 2) (b 3) (b 4) := h
theorem InA_o (h : InA f c0 c1 c2 c3 c4) (hj : 5 ≤ j) : InA (upd f j x) c0 c1 c2 c3 c4 := InM_A (InM_o (InA_M h) hj)
theorem InA_n0 (h : InA f c0 c1 c2 c3 c4) (hn : n ≤ 6) : InA (upd f 0 (nI n)) n c1 c2 c3 c4 := ⟨⟨upd_eq, (upd_ne (by decide)).trans h.1.2.1, (upd_ne (by decide)).trans h.1.2.2.1, (upd_ne (by decide)).trans h.1.2.2.2.1, (upd_ne (by decide)).trans h.1.2.2.2.2⟩, hn, h.2.2⟩
theorem InA_n1 (h : InA f c0 c1 c2 c3 c4) (hn : n ≤ 5) : InA (upd f 1 (nI n)) c0 n c2 c3 c4 := ⟨⟨(upd_ne (by decide)).trans h.1.1, upd_eq, (upd_ne (by decide)).trans h.1.2.2.1, (upd_ne (by decide)).trans h.1.2.2.2.1, (upd_ne (by decide)).trans h.1.2.2.2.2⟩, h.2.1, hn, h.2.2.2⟩
theorem InA_n2 (h : InA f c0 c1 c2 c3 c4) (hn : n ≤ 6) : InA (upd f 2 (nI n)) c0 c1 n c3 c4 := ⟨⟨(upd_ne (by decide)).trans h.1.1, (upd_ne (by decide)).trans h.1.2.1, upd_eq, (upd_ne (by decide)).trans h.1.2.2.2.1, (upd_ne (by decide)).trans h.1.2.2.2.2⟩, h.2.1, h.2.2.1, hn, h.2.2.2.2⟩
theorem InA_n3 (h : InA f c0 c1 c2 c3 c4) (hn : n ≤ 6) : InA (upd f 3 (nI n)) c0 c1 c2 n c4 := ⟨⟨(upd_ne (by decide)).trans h.1.1, (upd_ne (by decide)).trans h.1.2.1, (upd_ne (by decide)).trans h.1.2.2.1, upd_eq, (upd_ne (by decide)).trans h.1.2.2.2.2⟩, h.2.1, h.2.2.1, h.2.2.2.1, hn, h.2.2.2.2.2⟩
theorem InA_n4 (h : InA f c0 c1 c2 c3 c4) (hn : n ≤ 8) : InA (upd f 4 (nI n)) c0 c1 c2 c3 n := ⟨⟨(upd_ne (by decide)).trans h.1.1, (upd_ne (by decide)).trans h.1.2.1, (upd_ne (by decide)).trans h.1.2.2.1, (upd_ne (by decide)).trans h.1.2.2.2.1, upd_eq⟩, h.2.1, h.2.2.1, h.2.2.2.1, h.2.2.2.2.1, hn⟩
theorem InA_c (h : InA f c0 c1 c2 c3 c4) (hg : InA g d0 d1 d2 d3 d4) (hj : j = k) : ∃ e0 e1 e2 e3 e4 : Nat, InA (upd f j (g k)) e0 e1 e2 e3 e4 := by
  obtain ⟨b, hb⟩ := InM_c (InA_M h) (InA_M hg) hj
  exact ⟨_, _, _, _, _, InM_A hb⟩
theorem InA_z (h : InA f c0 c1 c2 c3 c4) : ∃ e0 e1 e2 e3 e4 : Nat, InA (upd f j 0) e0 e1 e2 e3 e4 := by
  obtain ⟨b, hb⟩ := InM_z (j := j) (InA_M h)
  exact ⟨_, _, _, _, _, InM_A hb⟩
theorem InA_e (h : InA f c0 c1 c2 c3 c4) (e : ∀ q : Nat, q < 5 → g q = f q) : InA g c0 c1 c2 c3 c4 := InM_A (InM_ex (InA_M h) e)
def InK (f : Nat → Int32) (e0 e1 e2 e3 e4 o0 o1 o2 o3 o4 : Nat) : Prop := InA f e0 e1 e2 e3 e4 ∧ InA (fun k => f (371 + k)) o0 o1 o2 o3 o4
theorem InK_0 (h : InK f e0 e1 e2 e3 e4 o0 o1 o2 o3 o4) (hg : InA g d0 d1 d2 d3 d4) (hj : j = 0 + k) (hk : k < 371) : ∃ a0 a1 a2 a3 a4 : Nat, InK (upd f j (g k)) a0 a1 a2 a3 a4 o0 o1 o2 o3 o4 := by
  obtain ⟨a0, a1, a2, a3, a4, ha⟩ := InA_c h.1 hg (show j = k by omega)
  exact ⟨a0, a1, a2, a3, a4, ha, InA_e h.2 (fun q hq => upd_ne (by omega))⟩
theorem InK_1 (h : InK f e0 e1 e2 e3 e4 o0 o1 o2 o3 o4) (hg : InA g d0 d1 d2 d3 d4) (hj : j = 371 + k) (hk : k < 371) : ∃ a0 a1 a2 a3 a4 : Nat, InK (upd f j (g k)) e0 e1 e2 e3 e4 a0 a1 a2 a3 a4 := by
  obtain ⟨a0, a1, a2, a3, a4, ha⟩ := InA_c (j := k) h.2 hg rfl
  refine ⟨a0, a1, a2, a3, a4, InA_o h.1 (by omega), InA_e ha (fun q hq => ?_)⟩
  by_cases e : q = k
  · subst e; rw [upd_eq, hj]; exact upd_eq
  · rw [upd_ne e]; exact upd_ne (by omega)
theorem InA_k0 (h : InA f c0 c1 c2 c3 c4) (hg : InK g e0 e1 e2 e3 e4 o0 o1 o2 o3 o4) (hj : j = k) : ∃ a0 a1 a2 a3 a4 : Nat, InA (upd f j (g (0 + k))) a0 a1 a2 a3 a4 := by
  rw [Nat.zero_add]
  exact InA_c h hg.1 hj
theorem InA_k1 (h : InA f c0 c1 c2 c3 c4) (hg : InK g e0 e1 e2 e3 e4 o0 o1 o2 o3 o4) (hj : j = k) : ∃ a0 a1 a2 a3 a4 : Nat, InA (upd f j (g (371 + k))) a0 a1 a2 a3 a4 := InA_c (g := fun k => g (371 + k)) h hg.2 hj
theorem InA_eq (h : InA f c0 c1 c2 c3 c4) (h2 : InA g d0 d1 d2 d3 d4) (e : ∀ q : Nat, q < 5 → g q = f q) : d0 = c0 ∧ d1 = c1 ∧ d2 = c2 ∧ d3 = c3 ∧ d4 = c4 := by
  obtain ⟨⟨a0, a1, a2, a3, a4⟩, b0, b1, b2, b3, b4⟩ := h
  obtain ⟨⟨x0, x1, x2, x3, x4⟩, y0, y1, y2, y3, y4⟩ := h2
  exact ⟨j_eq (by omega) (by omega) (x0.symm.trans ((e 0 (by decide)).trans a0)), j_eq (by omega) (by omega) (x1.symm.trans ((e 1 (by decide)).trans a1)), j_eq (by omega) (by omega) (x2.symm.trans ((e 2 (by decide)).trans a2)), j_eq (by omega) (by omega) (x3.symm.trans ((e 3 (by decide)).trans a3)), j_eq (by omega) (by omega) (x4.symm.trans ((e 4 (by decide)).trans a4))⟩
end IA
theorem k_vpc {i : Int32} {c N : Nat} (e : i = nI c) (h : c < N) (hN : N < 2 ^ 31) : vp_in i N := by
  subst e; exact vp_in_nI h hN
theorem k_natR {x lo hi : Int32} {a b : Nat} (h : lo ≤ x ∧ x ≤ hi) (ea : lo = nI a) (eb : hi = nI b) (ha : a < 2 ^ 31) (hb : b < 2 ^ 31) : ∃ j : Nat, (a ≤ j ∧ j ≤ b) ∧ x = nI j := by
  subst ea; subst eb
  obtain ⟨j, hj, rfl⟩ := nI_of (x := x) (fun q => absurd (Int32.lt_of_le_of_lt h.1 q) (nI_pos ha))
  exact ⟨j, ⟨j_le ha hj h.1, j_le hj hb h.2⟩, rfl⟩
