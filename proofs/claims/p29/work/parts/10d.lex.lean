/-! the text: tokens, as plain functions of the bytes -/
def scanF (q : Int32 → Bool) (T : Nat → Int32) (n : Nat) : Nat → Nat → Nat
  | 0, a => a
  | k + 1, a => if a < n ∧ q (T a) = true then scanF q T n k (a + 1) else a
/-- from a on, behind all that are such -/
def scanP (q : Int32 → Bool) (T : Nat → Int32) (n a : Nat) : Nat := scanF q T n (n - a) a
theorem scan_s {q : Int32 → Bool} {T : Nat → Int32} {n a : Nat} (h : a < n) (c : q (T a) = true) : scanP q T n a = scanP q T n (a + 1) := by
  unfold scanP
  have e : n - a = (n - (a + 1)) + 1 := by omega
  rw [e, scanF, if_pos ⟨h, c⟩]
theorem scan_e {q : Int32 → Bool} {T : Nat → Int32} {n a : Nat} (c : ¬ (a < n ∧ q (T a) = true)) : scanP q T n a = a := by
  unfold scanP
  cases n - a with
  | zero => rfl
  | succ k => rw [scanF, if_neg c]
theorem scanF_le {q : Int32 → Bool} {T : Nat → Int32} {n : Nat} : ∀ (k a : Nat), a ≤ n → a ≤ scanF q T n k a ∧ scanF q T n k a ≤ n := by
  intro k
  induction k with
  | zero => intro a h; exact ⟨Nat.le_refl _, h⟩
  | succ k ih =>
    intro a h
    rw [scanF]
    by_cases c : a < n ∧ q (T a) = true
    · rw [if_pos c]
      have := ih (a + 1) (by omega)
      exact ⟨by omega, this.2⟩
    · rw [if_neg c]
      exact ⟨Nat.le_refl _, h⟩
theorem scan_le {q : Int32 → Bool} {T : Nat → Int32} {n a : Nat} (h : a ≤ n) : a ≤ scanP q T n a ∧ scanP q T n a ≤ n := scanF_le _ a h
def qB (c : Int32) : Bool := decide (c = 32)
def lqL (c : Int32) : Bool := decide (97 ≤ c) && decide (c ≤ 122)
def lqF (c : Int32) : Bool := decide (48 ≤ c) && decide (c ≤ 57)
theorem qB_t {c : Int32} : qB c = true ↔ c = 32 := by unfold qB; exact decide_eq_true_iff
theorem lqL_t {c : Int32} : lqL c = true ↔ 97 ≤ c ∧ c ≤ 122 := by unfold lqL; rw [Bool.and_eq_true, decide_eq_true_iff, decide_eq_true_iff]
theorem lqF_t {c : Int32} : lqF c = true ↔ 48 ≤ c ∧ c ≤ 57 := by unfold lqF; rw [Bool.and_eq_true, decide_eq_true_iff, decide_eq_true_iff]
/-- the number that k figures from s on are -/
def vF (T : Nat → Int32) (s : Nat) : Nat → Int32
  | 0 => 0
  | k + 1 => 10 * vF T s k + T (s + k) - 48
/-- a token that begins at s: behind it; its sort; its number -/
def tE (T : Nat → Int32) (n s : Nat) : Nat := if s < n then (if lqL (T s) = true then scanP lqL T n s else if lqF (T s) = true then scanP lqF T n s else s + 1) else s
def tK (T : Nat → Int32) (n s : Nat) : Int32 := if s < n then (if lqL (T s) = true then 1 else if lqF (T s) = true then (if scanP lqF T n s - s ≤ 2 then 2 else 4) else if T s = 59 then 3 else 4) else 0
def tV (T : Nat → Int32) (n s : Nat) : Int32 := vF T s (tE T n s - s)
/-- where the next one begins -/
def tN (T : Nat → Int32) (n s : Nat) : Nat := scanP qB T n (tE T n s)
theorem tok_end {T : Nat → Int32} {n s : Nat} (h : ¬ s < n) : tE T n s = s ∧ tK T n s = 0 := ⟨if_neg h, if_neg h⟩
theorem tok_let {T : Nat → Int32} {n s : Nat} (h : s < n) (c : lqL (T s) = true) : tE T n s = scanP lqL T n s ∧ tK T n s = 1 := ⟨(if_pos h).trans (if_pos c), (if_pos h).trans (if_pos c)⟩
theorem tok_fig {T : Nat → Int32} {n s : Nat} (h : s < n) (c : ¬ lqL (T s) = true) (d : lqF (T s) = true) : tE T n s = scanP lqF T n s ∧ tK T n s = (if scanP lqF T n s - s ≤ 2 then 2 else 4) := ⟨((if_pos h).trans (if_neg c)).trans (if_pos d), ((if_pos h).trans (if_neg c)).trans (if_pos d)⟩
theorem tok_oth {T : Nat → Int32} {n s : Nat} (h : s < n) (c : ¬ lqL (T s) = true) (d : ¬ lqF (T s) = true) : tE T n s = s + 1 ∧ tK T n s = (if T s = 59 then 3 else 4) := ⟨((if_pos h).trans (if_neg c)).trans (if_neg d), ((if_pos h).trans (if_neg c)).trans (if_neg d)⟩
theorem tE_le {T : Nat → Int32} {n s : Nat} (h : s ≤ n) : s ≤ tE T n s ∧ tE T n s ≤ n := by
  by_cases q : s < n
  · by_cases c : lqL (T s) = true
    · rw [(tok_let q c).1]; exact scan_le h
    · by_cases d : lqF (T s) = true
      · rw [(tok_fig q c d).1]; exact scan_le h
      · rw [(tok_oth q c d).1]; omega
  · rw [(tok_end q).1]; omega
theorem tE_lt {T : Nat → Int32} {n s : Nat} (h : s ≤ n) (k : ¬ tK T n s = 0) : s < tE T n s := by
  by_cases q : s < n
  · by_cases c : lqL (T s) = true
    · rw [(tok_let q c).1, scan_s q c]; have := (scan_le (q := lqL) (T := T) (n := n) (a := s + 1) (by omega)).1; omega
    · by_cases d : lqF (T s) = true
      · rw [(tok_fig q c d).1, scan_s q d]; have := (scan_le (q := lqF) (T := T) (n := n) (a := s + 1) (by omega)).1; omega
      · rw [(tok_oth q c d).1]; omega
  · exact absurd (tok_end q).2 k
theorem tN_le {T : Nat → Int32} {n s : Nat} (h : s ≤ n) : tE T n s ≤ tN T n s ∧ tN T n s ≤ n := scan_le (tE_le h).2
/-- a number within its bounds stands there; a word stands there; an end -/
def numP (T : Nat → Int32) (n s : Nat) (lo hi : Int32) : Prop := tK T n s = 2 ∧ lo ≤ tV T n s ∧ tV T n s ≤ hi
def wrdP (T : Nat → Int32) (a e i : Nat) : Prop := e - a = sLen.getD i 0 ∧ ∀ k : Nat, k < sLen.getD i 0 → T (a + k) = (sByt.getD i []).getD k 0
theorem by_255 : ∀ i, i < 5 → ∀ k, k < sLen.getD i 0 → (sByt.getD i []).getD k 0 &&& 255 = (sByt.getD i []).getD k 0 := by decide +kernel
theorem scan_id {q : Int32 → Bool} {T : Nat → Int32} {n a : Nat} (h : a ≤ n) : scanP q T n (scanP q T n a) = scanP q T n a := by
  refine scan_e (fun c => ?_)
  have key : ∀ (k a : Nat), n - a = k → ¬ (scanP q T n a < n ∧ q (T (scanP q T n a)) = true) := by
    intro k
    induction k with
    | zero =>
      intro a e z
      have : scanP q T n a = a := scan_e (fun w => by omega)
      rw [this] at z
      omega
    | succ k ih =>
      intro a e z
      by_cases w : a < n ∧ q (T a) = true
      · rw [scan_s w.1 w.2] at z
        exact ih (a + 1) (by omega) z
      · rw [scan_e w] at z
        exact w z
  exact key _ a rfl c
