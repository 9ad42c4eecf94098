/-! what class and reference both do in a tick, as plain functions -/
def plainP (l s : Int32) : Int32 := if l ≤ s then l else s
def strideP (l s : Int32) : Int32 := if s < 5 then plainP l s else plainP l s + 1
def tiredP (l t s : Int32) : Int32 := if plainP l s ≤ t / 10 then 0 else plainP l s - t / 10
def reachP (k l t s : Int32) : Int32 := if k = 1 then strideP l s else if k = 2 then tiredP l t s else if k = 3 then (if t - t / 5 * 5 = 4 then strideP l s + 3 else strideP l s) else if k = 4 then (plainP l s + 1) / 2 else if k = 5 then (if t - t / 2 * 2 = 1 then tiredP l t s + 2 else tiredP l t s) else plainP l s
def limitP (k t : Int32) : Int32 := if k = 1 then 5 else if k = 2 then (if t - t / 2 * 2 = 1 then 3 else 4) else if k = 3 then (if 3 ≤ t then 5 else 8) else if k = 4 then (if t - t / 2 * 2 = 1 then 3 else 4) - 1 else if k = 5 then (if t - t / 4 * 4 = 0 then 7 else 5) else 4
theorem k_ns {k : Int32} {a : Int32} (w : k.toInt < 1 ∨ 5 < k.toInt) (h1 : 1 ≤ a.toInt) (h2 : a.toInt ≤ 5) : ¬ k = a := fun q => by rw [q] at w; omega
theorem reachP_d {k l t s : Int32} (w : k.toInt < 1 ∨ 5 < k.toInt) : reachP k l t s = plainP l s := by
  unfold reachP
  rw [if_neg (k_ns w (by decide) (by decide)), if_neg (k_ns w (by decide) (by decide)), if_neg (k_ns w (by decide) (by decide)), if_neg (k_ns w (by decide) (by decide)), if_neg (k_ns w (by decide) (by decide))]
theorem limitP_d {k t : Int32} (w : k.toInt < 1 ∨ 5 < k.toInt) : limitP k t = 4 := by
  unfold limitP
  rw [if_neg (k_ns w (by decide) (by decide)), if_neg (k_ns w (by decide) (by decide)), if_neg (k_ns w (by decide) (by decide)), if_neg (k_ns w (by decide) (by decide)), if_neg (k_ns w (by decide) (by decide))]
/-- a runner in a tick: a are kind, legs, egg; d are speed, place, drops, waits, home -/
def stepP (a d : Nat → Int32) (t L : Int32) : Nat → Int32 := if d 4 = -1 then (if d 3 ≤ 0 then (if reachP (a 0) (a 1) t (d 0) ≤ limitP (a 2) t then (if d 1 + reachP (a 0) (a 1) t (d 0) < L then upd d 1 (d 1 + reachP (a 0) (a 1) t (d 0)) else upd (upd d 1 (d 1 + reachP (a 0) (a 1) t (d 0))) 4 t) else upd (upd d 2 (if 99 ≤ d 2 then 99 else d 2 + 1)) 3 2) else upd d 3 (d 3 - 1)) else d
/-- all in a tick, the first k of them done -/
def gK (sv dv : Nat → Int32) : Nat → (Nat → Int32)
  | 0 => upd dv 1 (dv 1 + 1)
  | k + 1 => ovr (gK sv dv k) (10 + 5 * k) 5 (stepP (fun j => sv (3 * k + j)) (fun j => gK sv dv k (10 + 5 * k + j)) (gK sv dv k 1) (gK sv dv k 0))
def gP (sv dv : Nat → Int32) (n : Nat) : Nat → Int32 := gK sv dv n
/-- k ticks -/
def gI (sv : Nat → Int32) (n : Nat) (dv : Nat → Int32) : Nat → (Nat → Int32)
  | 0 => dv
  | k + 1 => gP sv (gI sv n dv k) n
