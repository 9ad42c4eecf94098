/-! small numbers for the reference -/
theorem k_3c {j : Nat} (h : j < 3) : j = 0 ∨ j = 1 ∨ j = 2 := by omega
theorem k_11c {j : Nat} (h : j < 11) : j = 0 ∨ j = 1 ∨ j = 2 ∨ j = 3 ∨ j = 4 ∨ j = 5 ∨ j = 6 ∨ j = 7 ∨ j = 8 ∨ j = 9 ∨ j = 10 := by omega
theorem k_one {i : Int32} {n : Nat} (hn : n ≤ 1000) (h : (0 : Int32) ≤ i ∧ i ≤ nI n - 1) : ∃ j : Nat, j < n ∧ i = nI j := by
  obtain ⟨j, hj, rfl⟩ := nI_of (x := i) (Int32.not_lt.mpr h.1)
  refine ⟨j, ?_, rfl⟩
  have a := Int32.le_iff_toInt_le.mp h.2
  have e1 : (1 : Int32).toInt = 1 := by decide
  rw [Int32.toInt_sub, e1, nI_toInt hj, nI_toInt (by omega), k_sm (by omega) (by omega)] at a
  omega
theorem k_nb {x : Int32} (h : x = 0 ∨ x = 1) : narrow .boolean (.int x) = .int x := by
  rcases h with rfl | rfl <;> rfl
theorem k_shl6 {n : Nat} (h : n ≤ 6) : ∃ z : Nat, z ≤ 64 ∧ (1 : Int32) <<< (nI n &&& 31) = nI z := by
  have : n = 0 ∨ n = 1 ∨ n = 2 ∨ n = 3 ∨ n = 4 ∨ n = 5 ∨ n = 6 := by omega
  rcases this with rfl | rfl | rfl | rfl | rfl | rfl | rfl
  · exact ⟨1, by decide, by decide⟩
  · exact ⟨2, by decide, by decide⟩
  · exact ⟨4, by decide, by decide⟩
  · exact ⟨8, by decide, by decide⟩
  · exact ⟨16, by decide, by decide⟩
  · exact ⟨32, by decide, by decide⟩
  · exact ⟨64, by decide, by decide⟩
theorem k_p10a : Int32.toInt64 1 = lN (10 ^ 0) := by decide
theorem k_p10s {x : Int64} {k : Nat} (hk : k < 6) (h : x = lN (10 ^ k)) : x * Int32.toInt64 10 = lN (10 ^ (k + 1)) := by
  subst h
  have : k = 0 ∨ k = 1 ∨ k = 2 ∨ k = 3 ∨ k = 4 ∨ k = 5 := by omega
  rcases this with rfl | rfl | rfl | rfl | rfl | rfl <;> decide
theorem k_p10n {x : Int64} {k : Nat} (hk : k ≤ 6) (h : x = lN (10 ^ k)) : ¬ x = 0 := by
  subst h
  have : k = 0 ∨ k = 1 ∨ k = 2 ∨ k = 3 ∨ k = 4 ∨ k = 5 ∨ k = 6 := by omega
  rcases this with rfl | rfl | rfl | rfl | rfl | rfl | rfl <;> decide
theorem k_tok3 {x : Int32} {k : Nat} (h : x = 0 ∨ 1 ≤ k) (c : x = 3) : 1 ≤ k := h.resolve_left (fun q => by rw [c] at q; exact absurd q (by decide))
theorem k_l0 {y : Int64} (h : lg_cmp y (Int32.toInt64 0) = 0) : y = 0 := by
  have e : Int32.toInt64 0 = 0 := by decide
  rw [e] at h
  unfold lg_cmp at h
  by_cases q : y > 0
  · rw [if_pos q] at h; exact absurd h (by decide)
  · rw [if_neg q] at h
    by_cases z : y = 0
    · exact z
    · rw [if_neg z] at h; exact absurd h (by decide)
theorem k_a0 {a b : Int64} (h : ¬ (a = 0 ∧ b = 0)) (c : lg_cmp b (Int32.toInt64 0) = 0) : ¬ a = 0 := fun q => h ⟨q, k_l0 c⟩
theorem k_rem {x y : Int64} (h : ¬ y = 0) : (x - x / y * y).toInt.natAbs < y.toInt.natAbs := by
  have hy : y.toInt ≠ 0 := fun q => h (Int64.toInt_inj.mp (q.trans (by decide)))
  have hp : 0 < y.toInt.natAbs := Int.natAbs_pos.mpr hy
  have b1 := Int64.toInt_lt y
  have b2 := Int64.le_toInt y
  have lt : (x.toInt.tmod y.toInt).natAbs < y.toInt.natAbs := by
    rw [Int.natAbs_tmod]
    exact Nat.mod_lt _ hp
  have e : (x - x / y * y).toInt = x.toInt.tmod y.toInt := by
    rw [Int64.toInt_sub, Int64.toInt_mul, Int64.toInt_div, Int.sub_bmod_bmod, ← Int.sub_bmod_bmod (y := Int.bmod _ _ * _), Int.bmod_mul_bmod, Int.sub_bmod_bmod]
    have q : x.toInt - x.toInt.tdiv y.toInt * y.toInt = x.toInt.tmod y.toInt := by
      rw [Int.tmod_def, Int.mul_comm]
    rw [q]
    apply Int.bmod_eq_of_le <;> omega
  rw [e]
  exact lt
