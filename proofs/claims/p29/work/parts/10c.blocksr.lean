/-! the reader as a block: the text's length apart from where one reads -/
abbrev rdV (X : EX) (h hb n : Nat) (b : Nat → Nat) (v f : Nat → Int32) : va_W := [(h, .inr (4, [.ref hb, .int (nI n), .int (nI (b 0)), .int (nI (b 1)), .int (v 0), .int (v 1), .int (v 2)])), (hb, .inl (X.2.1, 150, .inl f))]
def InP (b : Nat → Nat) : Prop := b 0 ≤ 150 ∧ b 1 ≤ 150
theorem vaA0 {ws : va_W} {sz : Nat} : ∀ q, va_A [] sz q → va_A ws sz q := fun q h => by
  rcases h with ⟨k, e, hk⟩ | h
  · simp at hk
  · exact Or.inr h
theorem hdV_J0_length : yJ0_length_8abf5.cls = RJ0 ∧ yJ0_length_8abf5.cls ≠ "java/lang/invoke/MethodHandle" ∧ yJ0_length_8abf5.cls ≠ "java/lang/invoke/VarHandle" ∧ (parseMethodDescriptor yJ0_length_8abf5.desc).map (fun d => d.parameters.length) = some 0 := by decide +kernel
theorem hdV_J0_charAt : yJ0_charAt_5068e.cls = RJ0 ∧ yJ0_charAt_5068e.cls ≠ "java/lang/invoke/MethodHandle" ∧ yJ0_charAt_5068e.cls ≠ "java/lang/invoke/VarHandle" ∧ (parseMethodDescriptor yJ0_charAt_5068e.desc).map (fun d => d.parameters.length) = some 1 := by decide +kernel
theorem k_99 {r lo hi : Int32} (h : r = -1 ∨ (lo ≤ r ∧ r ≤ hi)) (hh : hi ≤ 99) : r ≤ 99 := by
  rcases h with rfl | h
  · decide
  · exact Int32.le_trans h.2 hh
theorem k_lt99 {x : Int32} {k : Nat} (h1 : nI k < x) (h2 : x ≤ 99) (hk : k < 2 ^ 31) : k < 99 := by
  have h3 := Int32.lt_iff_toInt_lt.mp h1
  have h4 := Int32.le_iff_toInt_le.mp h2
  have e : (99 : Int32).toInt = 99 := by decide
  rw [e] at h4
  rw [nI_toInt hk] at h3
  omega
