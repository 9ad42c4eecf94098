/-! a race told by a text: its items, as plain functions -/
theorem k_ext {F B : Nat → Int32} {o k : Nat} (h : ∀ j : Nat, j < k → F (o + j) = B j) (c : F (o + k) = B k) : ∀ j : Nat, j < k + 1 → F (o + j) = B j := fun j hj => by
  rcases Nat.lt_or_ge j k with q | q
  · exact h j q
  · rw [show j = k by omega]; exact c
theorem k_nf {x : Int32} {s : Nat} (h : x = nI s) (hs : s ≤ 1000) : ¬ x = -1 := fun q => by
  have : nI s < 0 := by rw [← h, q]; decide
  exact nI_pos (by omega) this
def numB (T : Nat → Int32) (n s : Nat) (lo hi : Int32) : Bool := decide (tK T n s = 2) && (decide (lo ≤ tV T n s) && decide (tV T n s ≤ hi))
theorem numB_t {T : Nat → Int32} {n s : Nat} {lo hi : Int32} : numB T n s lo hi = true ↔ numP T n s lo hi := by
  unfold numB numP
  rw [Bool.and_eq_true, Bool.and_eq_true, decide_eq_true_iff, decide_eq_true_iff, decide_eq_true_iff]
theorem numB_f {T : Nat → Int32} {n s : Nat} {lo hi : Int32} (h : ¬ numP T n s lo hi) : numB T n s lo hi = false := by
  cases e : numB T n s lo hi with
  | false => rfl
  | true => exact absurd (numB_t.mp e) h
def stpB (T : Nat → Int32) (n s : Nat) : Bool := decide (tK T n s = 3)
theorem stpB_t {T : Nat → Int32} {n s : Nat} (h : tK T n s = 3) : stpB T n s = true := decide_eq_true h
theorem stpB_f {T : Nat → Int32} {n s : Nat} (h : ¬ tK T n s = 3) : stpB T n s = false := decide_eq_false h
def wrdB (T : Nat → Int32) (n s i : Nat) : Bool := decide (tE T n s - s = sLen.getD i 0) && (List.range (sLen.getD i 0)).all (fun k => decide (T (s + k) = (sByt.getD i []).getD k 0))
theorem wrdB_t {T : Nat → Int32} {n s i : Nat} : wrdB T n s i = true ↔ wrdP T s (tE T n s) i := by
  unfold wrdB wrdP
  rw [Bool.and_eq_true, decide_eq_true_iff, List.all_eq_true]
  constructor
  · intro h
    exact ⟨h.1, fun k hk => decide_eq_true_iff.mp (h.2 k (List.mem_range.mpr hk))⟩
  · intro h
    exact ⟨h.1, fun k hk => decide_eq_true_iff.mpr (h.2 k (List.mem_range.mp hk))⟩
theorem wrdB_f {T : Nat → Int32} {n s i : Nat} (h : ¬ wrdP T s (tE T n s) i) : wrdB T n s i = false := by
  cases e : wrdB T n s i with
  | false => rfl
  | true => exact absurd (wrdB_t.mp e) h
/-- the place of the first that isn't so -/
def chk : List (Bool × Nat) → Option Nat
  | [] => none
  | (b, p) :: l => if b = true then chk l else some p
theorem chk_t {b : Bool} {p : Nat} {l : List (Bool × Nat)} (h : b = true) : chk ((b, p) :: l) = chk l := by rw [chk, if_pos h]
theorem chk_f {b : Bool} {p : Nat} {l : List (Bool × Nat)} (h : b = false) : chk ((b, p) :: l) = some p := by rw [chk, if_neg (by rw [h]; decide)]
def t2 (T : Nat → Int32) (n s : Nat) : Nat := tN T n (tN T n s)
def t3 (T : Nat → Int32) (n s : Nat) : Nat := tN T n (t2 T n s)
def t4 (T : Nat → Int32) (n s : Nat) : Nat := tN T n (t3 T n s)
/-- behind the word at s: what must stand there -/
def oneC (T : Nat → Int32) (n s : Nat) : Option Nat := chk [(numB T n (tN T n s) 0 5, tN T n s), (numB T n (t2 T n s) 1 9, t2 T n s), (numB T n (t3 T n s) 0 5, t3 T n s), (stpB T n (t4 T n s), t4 T n s)]
def spdC (T : Nat → Int32) (n s c : Nat) : Option Nat := chk [(numB T n (tN T n s) 0 (nI c - 1), tN T n s), (numB T n (t2 T n s) 0 9, t2 T n s), (stpB T n (t3 T n s), t3 T n s)]
def mstP (dv : Nat → Int32) : Int32 := if dv 0 - 1 < 30 then dv 0 - 1 else 30
def staC (T : Nat → Int32) (n s c : Nat) (dv : Nat → Int32) : Option Nat := chk [(numB T n (tN T n s) 0 (nI c - 1), tN T n s), (decide (dv (14 + 5 * (tV T n (tN T n s)).toNatClampNeg) = -1), tN T n s), (numB T n (t2 T n s) 0 (mstP dv), t2 T n s), (stpB T n (t3 T n s), t3 T n s)]
def goC (T : Nat → Int32) (n s : Nat) : Option Nat := chk [(numB T n (tN T n s) 1 99, tN T n s), (stpB T n (t2 T n s), t2 T n s)]
def addS (sv : Nat → Int32) (c : Nat) (k l e : Int32) : Nat → Int32 := ovr sv (3 * c) 3 (fun j => match j with | 0 => k | 1 => l | _ => e)
def addD (dv : Nat → Int32) (c : Nat) : Nat → Int32 := ovr dv (10 + 5 * c) 5 (fun j => match j with | 0 => 4 | 4 => -1 | _ => 0)
theorem ovr_ext3 {v a b : Nat → Int32} {o : Nat} (h0 : a 0 = b 0) (h1 : a 1 = b 1) (h2 : a 2 = b 2) : ovr v o 3 a = ovr v o 3 b := by
  funext q
  unfold ovr
  by_cases c : o ≤ q ∧ q < o + 3
  · rw [if_pos c, if_pos c]
    have : q - o = 0 ∨ q - o = 1 ∨ q - o = 2 := by omega
    rcases this with e | e | e <;> rw [e] <;> assumption
  · rw [if_neg c, if_neg c]
theorem ovr_ext5 {v a b : Nat → Int32} {o : Nat} (h0 : a 0 = b 0) (h1 : a 1 = b 1) (h2 : a 2 = b 2) (h3 : a 3 = b 3) (h4 : a 4 = b 4) : ovr v o 5 a = ovr v o 5 b := by
  funext q
  unfold ovr
  by_cases c : o ≤ q ∧ q < o + 5
  · rw [if_pos c, if_pos c]
    have : q - o = 0 ∨ q - o = 1 ∨ q - o = 2 ∨ q - o = 3 ∨ q - o = 4 := by omega
    rcases this with e | e | e | e | e <;> rw [e] <;> assumption
  · rw [if_neg c, if_neg c]
def racC (T : Nat → Int32) (n s : Nat) : Option Nat := chk [(numB T n (tN T n s) 10 60, tN T n s), (stpB T n (t2 T n s), t2 T n s)]
/-- which item begins at s: 0 none -/
def kindI (T : Nat → Int32) (n s c : Nat) : Nat := if tK T n s = 1 ∧ wrdB T n s 0 = false then (if wrdB T n s 1 = true ∧ c < 6 then 1 else if wrdB T n s 2 = true then 2 else if wrdB T n s 3 = true then 3 else if wrdB T n s 4 = true then 4 else 0) else 0
def itF (T : Nat → Int32) (n s c : Nat) (dv : Nat → Int32) : Option Nat := if kindI T n s c = 1 then oneC T n s else if kindI T n s c = 2 then spdC T n s c else if kindI T n s c = 3 then staC T n s c dv else if kindI T n s c = 4 then goC T n s else some s
/-- its last token, the race behind it -/
def itT (T : Nat → Int32) (n s c : Nat) : Nat := if kindI T n s c = 1 then t4 T n s else if kindI T n s c = 4 then t2 T n s else t3 T n s
def itN (T : Nat → Int32) (n s c : Nat) : Nat := if kindI T n s c = 1 then c + 1 else c
def itS (T : Nat → Int32) (n s c : Nat) (sv : Nat → Int32) : Nat → Int32 := if kindI T n s c = 1 then addS sv c (tV T n (tN T n s)) (tV T n (t2 T n s)) (tV T n (t3 T n s)) else sv
def itD (T : Nat → Int32) (n s c : Nat) (sv dv : Nat → Int32) : Nat → Int32 := if kindI T n s c = 1 then addD dv c else if kindI T n s c = 2 then upd dv (10 + 5 * (tV T n (tN T n s)).toNatClampNeg) (tV T n (t2 T n s)) else if kindI T n s c = 3 then upd dv (11 + 5 * (tV T n (tN T n s)).toNatClampNeg) (tV T n (t2 T n s)) else gI sv c dv (tV T n (tN T n s)).toNatClampNeg
theorem kI_0 {T : Nat → Int32} {n s c : Nat} (h : ¬ (tK T n s = 1 ∧ wrdB T n s 0 = false)) : kindI T n s c = 0 := if_neg h
theorem kI_1 {T : Nat → Int32} {n s c : Nat} (h : tK T n s = 1) (h0 : wrdB T n s 0 = false) (h1 : wrdB T n s 1 = true) (hc : c < 6) : kindI T n s c = 1 := (if_pos ⟨h, h0⟩).trans (if_pos ⟨h1, hc⟩)
theorem kI_2 {T : Nat → Int32} {n s c : Nat} (h : tK T n s = 1) (h0 : wrdB T n s 0 = false) (h1 : ¬ (wrdB T n s 1 = true ∧ c < 6)) (h2 : wrdB T n s 2 = true) : kindI T n s c = 2 := ((if_pos ⟨h, h0⟩).trans (if_neg h1)).trans (if_pos h2)
theorem kI_3 {T : Nat → Int32} {n s c : Nat} (h : tK T n s = 1) (h0 : wrdB T n s 0 = false) (h1 : ¬ (wrdB T n s 1 = true ∧ c < 6)) (h2 : ¬ wrdB T n s 2 = true) (h3 : wrdB T n s 3 = true) : kindI T n s c = 3 := (((if_pos ⟨h, h0⟩).trans (if_neg h1)).trans (if_neg h2)).trans (if_pos h3)
theorem kI_4 {T : Nat → Int32} {n s c : Nat} (h : tK T n s = 1) (h0 : wrdB T n s 0 = false) (h1 : ¬ (wrdB T n s 1 = true ∧ c < 6)) (h2 : ¬ wrdB T n s 2 = true) (h3 : ¬ wrdB T n s 3 = true) (h4 : wrdB T n s 4 = true) : kindI T n s c = 4 := ((((if_pos ⟨h, h0⟩).trans (if_neg h1)).trans (if_neg h2)).trans (if_neg h3)).trans (if_pos h4)
theorem kI_5 {T : Nat → Int32} {n s c : Nat} (h : tK T n s = 1) (h0 : wrdB T n s 0 = false) (h1 : ¬ (wrdB T n s 1 = true ∧ c < 6)) (h2 : ¬ wrdB T n s 2 = true) (h3 : ¬ wrdB T n s 3 = true) (h4 : ¬ wrdB T n s 4 = true) : kindI T n s c = 0 := ((((if_pos ⟨h, h0⟩).trans (if_neg h1)).trans (if_neg h2)).trans (if_neg h3)).trans (if_neg h4)
/-- what is left of the text, from a token's start s on: the answer (items, or -10 less the fault), whether it was read, the race then -/
def rdP (T : Nat → Int32) (n : Nat) : Nat → Nat → Nat → Nat → (Nat → Int32) → (Nat → Int32) → (Int32 × (Bool × (Nat × ((Nat → Int32) × (Nat → Int32)))))
  | 0, _, _, c, sv, dv => (0, (false, (c, (sv, dv))))
  | k + 1, s, i, c, sv, dv => if tK T n s = 0 then (nI i, (true, (c, (sv, dv)))) else match itF T n s c dv with
    | some p => (-10 - nI p, (false, (c, (sv, dv))))
    | none => rdP T n k (tN T n (itT T n s c)) (i + 1) (itN T n s c) (itS T n s c sv) (itD T n s c sv dv)
/-- the whole text; sv, dv lay there before -/
def rdA (T : Nat → Int32) (n : Nat) (sv dv : Nat → Int32) : (Int32 × (Bool × (Nat × ((Nat → Int32) × (Nat → Int32))))) := if tK T n (scanP qB T n 0) = 1 ∧ wrdB T n (scanP qB T n 0) 0 = true then (match racC T n (scanP qB T n 0) with
    | some p => (-10 - nI p, (false, (0, (sv, dv))))
    | none => rdP T n 151 (t3 T n (scanP qB T n 0)) 1 0 sv (upd (upd dv 0 (tV T n (tN T n (scanP qB T n 0)))) 1 0)) else (-10 - nI (scanP qB T n 0), (false, (0, (sv, dv))))
theorem it_0 {T : Nat → Int32} {n s c : Nat} {dv : Nat → Int32} (h : kindI T n s c = 0) : itF T n s c dv = some s := by
  unfold itF
  rw [h]; rfl
theorem it_1 {T : Nat → Int32} {n s c : Nat} {sv dv : Nat → Int32} (h : kindI T n s c = 1) : itF T n s c dv = oneC T n s ∧ itT T n s c = t4 T n s ∧ itN T n s c = c + 1 ∧ itS T n s c sv = addS sv c (tV T n (tN T n s)) (tV T n (t2 T n s)) (tV T n (t3 T n s)) ∧ itD T n s c sv dv = addD dv c := by
  unfold itF itT itN itS itD
  rw [h]; exact ⟨rfl, rfl, rfl, rfl, rfl⟩
theorem it_2 {T : Nat → Int32} {n s c : Nat} {sv dv : Nat → Int32} (h : kindI T n s c = 2) : itF T n s c dv = spdC T n s c ∧ itT T n s c = t3 T n s ∧ itN T n s c = c ∧ itS T n s c sv = sv ∧ itD T n s c sv dv = upd dv (10 + 5 * (tV T n (tN T n s)).toNatClampNeg) (tV T n (t2 T n s)) := by
  unfold itF itT itN itS itD
  rw [h]; exact ⟨rfl, rfl, rfl, rfl, rfl⟩
theorem it_3 {T : Nat → Int32} {n s c : Nat} {sv dv : Nat → Int32} (h : kindI T n s c = 3) : itF T n s c dv = staC T n s c dv ∧ itT T n s c = t3 T n s ∧ itN T n s c = c ∧ itS T n s c sv = sv ∧ itD T n s c sv dv = upd dv (11 + 5 * (tV T n (tN T n s)).toNatClampNeg) (tV T n (t2 T n s)) := by
  unfold itF itT itN itS itD
  rw [h]; exact ⟨rfl, rfl, rfl, rfl, rfl⟩
theorem it_4 {T : Nat → Int32} {n s c : Nat} {sv dv : Nat → Int32} (h : kindI T n s c = 4) : itF T n s c dv = goC T n s ∧ itT T n s c = t2 T n s ∧ itN T n s c = c ∧ itS T n s c sv = sv ∧ itD T n s c sv dv = gI sv c dv (tV T n (tN T n s)).toNatClampNeg := by
  unfold itF itT itN itS itD
  rw [h]; exact ⟨rfl, rfl, rfl, rfl, rfl⟩
theorem rdP_e {T : Nat → Int32} {n k s i c : Nat} {sv dv : Nat → Int32} (h : tK T n s = 0) : rdP T n (k + 1) s i c sv dv = (nI i, (true, (c, (sv, dv)))) := by
  rw [rdP, if_pos h]
theorem rdP_f {T : Nat → Int32} {n k s i c p : Nat} {sv dv : Nat → Int32} (h : ¬ tK T n s = 0) (hf : itF T n s c dv = some p) : rdP T n (k + 1) s i c sv dv = (-10 - nI p, (false, (c, (sv, dv)))) := by
  rw [rdP, if_neg h, hf]
theorem rdP_n {T : Nat → Int32} {n k s i c : Nat} {sv dv : Nat → Int32} (h : ¬ tK T n s = 0) (hf : itF T n s c dv = none) : rdP T n (k + 1) s i c sv dv = rdP T n k (tN T n (itT T n s c)) (i + 1) (itN T n s c) (itS T n s c sv) (itD T n s c sv dv) := by
  rw [rdP, if_neg h, hf]
theorem rdA_w {T : Nat → Int32} {n : Nat} {sv dv : Nat → Int32} (h : ¬ (tK T n (scanP qB T n 0) = 1 ∧ wrdB T n (scanP qB T n 0) 0 = true)) : rdA T n sv dv = (-10 - nI (scanP qB T n 0), (false, (0, (sv, dv)))) := if_neg h
theorem rdA_f {T : Nat → Int32} {n p : Nat} {sv dv : Nat → Int32} (h : tK T n (scanP qB T n 0) = 1 ∧ wrdB T n (scanP qB T n 0) 0 = true) (hf : racC T n (scanP qB T n 0) = some p) : rdA T n sv dv = (-10 - nI p, (false, (0, (sv, dv)))) := by
  unfold rdA
  rw [if_pos h, hf]
theorem rdA_n {T : Nat → Int32} {n : Nat} {sv dv : Nat → Int32} (h : tK T n (scanP qB T n 0) = 1 ∧ wrdB T n (scanP qB T n 0) 0 = true) (hf : racC T n (scanP qB T n 0) = none) : rdA T n sv dv = rdP T n 151 (t3 T n (scanP qB T n 0)) 1 0 sv (upd (upd dv 0 (tV T n (tN T n (scanP qB T n 0)))) 1 0) := by
  unfold rdA
  rw [if_pos h, hf]
theorem tK_0 {T : Nat → Int32} {n s : Nat} (h : tK T n s = 0) : ¬ s < n := fun q => by
  by_cases c : lqL (T s) = true
  · rw [(tok_let q c).2] at h; exact absurd h (by decide)
  · by_cases d : lqF (T s) = true
    · rw [(tok_fig q c d).2] at h
      by_cases e : scanP lqF T n s - s ≤ 2
      · rw [if_pos e] at h; exact absurd h (by decide)
      · rw [if_neg e] at h; exact absurd h (by decide)
    · rw [(tok_oth q c d).2] at h
      by_cases e : T s = 59
      · rw [if_pos e] at h; exact absurd h (by decide)
      · rw [if_neg e] at h; exact absurd h (by decide)
theorem k_m10 {p : Nat} (h : p ≤ 150) : (-10 : Int32) - nI p < 0 := by
  refine Int32.lt_iff_toInt_lt.mpr ?_
  have e1 : (-10 : Int32).toInt = -10 := by decide
  have e0 : (0 : Int32).toInt = 0 := by decide
  rw [Int32.toInt_sub, e1, e0, nI_toInt (by omega), k_sm (by omega) (by omega)]
  omega
/-- an item that is right goes on by three bytes at least -/
theorem it_adv {T : Nat → Int32} {n s c : Nat} {dv : Nat → Int32} (hs : s ≤ n) (hk : ¬ tK T n s = 0) (h : itF T n s c dv = none) : s + 3 ≤ tE T n (itT T n s c) ∧ itT T n s c ≤ n := by
  have a0 := tE_lt hs hk
  have b0 := tN_le (T := T) hs
  have b1 : tE T n (tN T n s) ≤ t2 T n s ∧ t2 T n s ≤ n := tN_le b0.2
  have b2 : tE T n (t2 T n s) ≤ t3 T n s ∧ t3 T n s ≤ n := tN_le b1.2
  have b3 : tE T n (t3 T n s) ≤ t4 T n s ∧ t4 T n s ≤ n := tN_le b2.2
  have nk : ∀ {q : Nat} {lo hi : Int32}, numB T n q lo hi = true → ¬ tK T n q = 0 := fun h z => absurd ((numB_t.mp h).1.symm.trans z) (by decide)
  have ck : ∀ {b : Bool} {p : Nat} {l : List (Bool × Nat)}, chk ((b, p) :: l) = none → b = true ∧ chk l = none := fun {b p l} h => by
    cases b with
    | true => exact ⟨rfl, (chk_t rfl).symm.trans h⟩
    | false => rw [chk_f rfl] at h; cases h
  have sk : ∀ {q : Nat}, stpB T n q = true → ¬ tK T n q = 0 := fun {q} h z => absurd ((decide_eq_true_iff.mp h).symm.trans z) (by decide)
  have five : kindI T n s c = 0 ∨ kindI T n s c = 1 ∨ kindI T n s c = 2 ∨ kindI T n s c = 3 ∨ kindI T n s c = 4 := by
    unfold kindI
    by_cases h1 : tK T n s = 1 ∧ wrdB T n s 0 = false
    · rw [if_pos h1]
      by_cases h2 : wrdB T n s 1 = true ∧ c < 6
      · rw [if_pos h2]; omega
      · rw [if_neg h2]
        by_cases h3 : wrdB T n s 2 = true
        · rw [if_pos h3]; omega
        · rw [if_neg h3]
          by_cases h4 : wrdB T n s 3 = true
          · rw [if_pos h4]; omega
          · rw [if_neg h4]
            by_cases h5 : wrdB T n s 4 = true
            · rw [if_pos h5]; omega
            · rw [if_neg h5]; omega
    · rw [if_neg h1]; omega
  rcases five with k | k | k | k | k
  · rw [it_0 k] at h; cases h
  · have e := it_1 (sv := dv) (dv := dv) k
    rw [e.1] at h
    have c1 := ck h
    have c2 := ck c1.2
    have c3 := ck c2.2
    have c4 := ck c3.2
    have d1 := tE_lt b0.2 (nk c1.1)
    have d2 := tE_lt b1.2 (nk c2.1)
    have d3 := tE_lt b2.2 (nk c3.1)
    have d4 := tE_lt b3.2 (sk c4.1)
    rw [e.2.1]
    omega
  · have e := it_2 (sv := dv) (dv := dv) k
    rw [e.1] at h
    have c1 := ck h
    have c2 := ck c1.2
    have c3 := ck c2.2
    have d1 := tE_lt b0.2 (nk c1.1)
    have d2 := tE_lt b1.2 (nk c2.1)
    have d3 := tE_lt b2.2 (sk c3.1)
    rw [e.2.1]
    omega
  · have e := it_3 (sv := dv) (dv := dv) k
    rw [e.1] at h
    have c1 := ck h
    have c2 := ck c1.2
    have c3 := ck c2.2
    have c4 := ck c3.2
    have d1 := tE_lt b0.2 (nk c1.1)
    have d2 := tE_lt b1.2 (nk c3.1)
    have d3 := tE_lt b2.2 (sk c4.1)
    rw [e.2.1]
    omega
  · have e := it_4 (sv := dv) (dv := dv) k
    rw [e.1] at h
    have c1 := ck h
    have c2 := ck c1.2
    have d1 := tE_lt b0.2 (nk c1.1)
    have d2 := tE_lt b1.2 (sk c2.1)
    rw [e.2.1]
    omega
/-- the first item, where it is right -/
theorem rac_adv {T : Nat → Int32} {n s : Nat} (hs : s ≤ n) (hk : tK T n s = 1) (h : racC T n s = none) : s + 3 ≤ tE T n (t2 T n s) ∧ t2 T n s ≤ n := by
  have a0 := tE_lt hs (fun z => absurd (hk.symm.trans z) (by decide))
  have b0 := tN_le (T := T) hs
  have b1 : tE T n (tN T n s) ≤ t2 T n s ∧ t2 T n s ≤ n := tN_le b0.2
  have nk : ∀ {q : Nat} {lo hi : Int32}, numB T n q lo hi = true → ¬ tK T n q = 0 := fun h z => absurd ((numB_t.mp h).1.symm.trans z) (by decide)
  have ck : ∀ {b : Bool} {p : Nat} {l : List (Bool × Nat)}, chk ((b, p) :: l) = none → b = true ∧ chk l = none := fun {b p l} h => by
    cases b with
    | true => exact ⟨rfl, (chk_t rfl).symm.trans h⟩
    | false => rw [chk_f rfl] at h; cases h
  have sk : ∀ {q : Nat}, stpB T n q = true → ¬ tK T n q = 0 := fun {q} h z => absurd ((decide_eq_true_iff.mp h).symm.trans z) (by decide)
  have c1 := ck h
  have c2 := ck c1.2
  have d1 := tE_lt b0.2 (nk c1.1)
  have d2 := tE_lt b1.2 (sk c2.1)
  omega
