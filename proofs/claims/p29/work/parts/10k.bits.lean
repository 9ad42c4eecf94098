/-! sets of a few bits -/
abbrev hasB (B : Int32) (l : Nat) : Prop := ((B >>> (nI l &&& 31)) &&& 1) = 1
def cntB (B : Int32) : Nat → Nat
  | 0 => 0
  | m + 1 => if hasB B (m + 1) then cntB B m + 1 else cntB B m
def leaF (B : Int32) : Nat → Int32
  | 0 => -1
  | m + 1 => if hasB B (m + 1) ∧ leaF B m = -1 then nI (m + 1) else leaF B m
def greF (B : Int32) : Nat → Int32
  | 0 => -1
  | m + 1 => if hasB B (m + 1) then nI (m + 1) else greF B m
theorem cnt_lea {B : Int32} : ∀ m : Nat, m ≤ 100 → (cntB B m = 0 ↔ leaF B m = -1) := by
  intro m
  induction m with
  | zero => intro _; exact ⟨fun _ => rfl, fun _ => rfl⟩
  | succ m ih =>
    intro hm
    have := ih (by omega)
    rw [cntB, leaF]
    by_cases h : hasB B (m + 1)
    · rw [if_pos h]
      by_cases q : leaF B m = -1
      · rw [if_pos ⟨h, q⟩]
        exact ⟨fun z => absurd z (by omega), fun z => absurd z (k_nf rfl (by omega))⟩
      · rw [if_neg (fun z => q z.2)]
        exact ⟨fun z => absurd z (by omega), fun z => absurd z q⟩
    · rw [if_neg h, if_neg (fun z => h z.1)]
      exact this
theorem k_or9 : ∀ a : Nat, a < 1024 → ∀ k : Nat, k < 10 → nI a ||| (1 <<< (nI k &&& 31)) = nI (a ||| 2 ^ k) := by decide +kernel
theorem k_orl : ∀ a : Nat, a < 1024 → ∀ k : Nat, k < 10 → a ||| 2 ^ k < 1024 := by decide +kernel
theorem k_ore : ∀ a : Nat, a < 1024 → ∀ k : Nat, k < 10 → a % 2 = 0 → 1 ≤ k → (a ||| 2 ^ k) % 2 = 0 := by decide +kernel
theorem k_or0 (x : Int32) : x ||| 0 = x := by
  apply Int32.toBitVec_inj.mp
  simp
theorem setF_m {P : Nat → Prop} {lo : Nat} : ∀ m : Nat, lo + m ≤ 10 → ∃ z : Nat, (z < 1024 ∧ (1 ≤ lo → z % 2 = 0)) ∧ setF P lo m = nI z := by
  intro m
  induction m with
  | zero => intro _; exact ⟨0, ⟨by decide, fun _ => rfl⟩, rfl⟩
  | succ m ih =>
    intro h
    obtain ⟨z, ⟨hz, hy⟩, e⟩ := ih (by omega)
    rw [setF, e]
    by_cases p : P (lo + m)
    · rw [bitF_t p, k_or9 z hz (lo + m) (by omega)]
      exact ⟨_, ⟨k_orl z hz (lo + m) (by omega), fun hl => k_ore z hz (lo + m) (by omega) (hy hl) (by omega)⟩, rfl⟩
    · rw [bitF_f p, k_or0]
      exact ⟨z, ⟨hz, hy⟩, rfl⟩
def ushr (x y : Int32) : Int32 := (x.toUInt32 >>> (y.toUInt32 &&& Int32.toUInt32 31)).toInt32
def bc1 (x : Int32) : Int32 := x - (ushr x 1 &&& 1431655765)
def bc2 (x : Int32) : Int32 := (x &&& 858993459) + (ushr x 2 &&& 858993459)
def bc3 (x : Int32) : Int32 := (x + ushr x 4) &&& 252645135
def bc4 (x : Int32) : Int32 := x + ushr x 8
def bc5 (x : Int32) : Int32 := x + ushr x 16
def bcT (x : Int32) : Int32 := bc5 (bc4 (bc3 (bc2 (bc1 x)))) &&& 63
theorem k_bc : ∀ m : Nat, m < 1024 → m % 2 = 0 → bcT (nI m) = nI (cntB (nI m) 9) := by decide +kernel
/-- what strong answers, by the set of legs -/
def strF (B x : Int32) : Int32 := if x = 0 then nI (cntB B 9) else if x = 1 then leaF B 9 else greF B 9
theorem bc_set {P : Nat → Prop} : bcT (setF P 1 9) = nI (cntB (setF P 1 9) 9) := by
  obtain ⟨z, ⟨hz, hy⟩, e⟩ := setF_m (P := P) (lo := 1) 9 (by decide)
  rw [e]; exact k_bc z hz (hy (by decide))
theorem REL_str {n0 n2 n3 n4 : Nat} {sv gs gn gm f : Nat → Int32} {x y : Int32} {Q : Prop} (h : REL n0 n2 n3 n4 sv gs gn gm f) (b0 : n0 ≤ 6) : ansF (thP n0 x ∧ Q) (strF (setF (fun l => fitP n2 (rowA gs 0) (fun _ => nI l) (rowA gs 2) (rowA gs 3) (rowA gs 4) x (sv (3 * x.toNatClampNeg))) 1 9) y) = ansF (thP n0 x ∧ Q) (strF (setF (fun l => fitP n2 (fun k => f (55 + (4 * k))) (fun _ => nI l) (fun k => f ((55 + (4 * k)) + 1)) (fun k => f ((55 + (4 * k)) + 2)) (fun k => f ((55 + (4 * k)) + 3)) x (f (37 + x.toNatClampNeg))) 1 9) y) := by
  by_cases p : thP n0 x ∧ Q
  · obtain ⟨j, hj, e⟩ := p.1
    subst e
    rw [nI_clamp (by omega)]
    exact congrArg (fun z => ansF (thP n0 (nI j) ∧ Q) (strF (setF z 1 9) y)) (REL_legs h hj)
  · rw [ansF_f p, ansF_f p]
