/-! the next look: what parts a set best -/
/-- how many of the set below m go as far as v -/
def cntV (B : Int32) (F : Nat → Int32) (v : Int32) : Nat → Nat
  | 0 => 0
  | m + 1 => if hasB B m ∧ F m = v then cntV B F v m + 1 else cntV B F v m
/-- the most, as they come -/
def mstC (B : Int32) (F : Nat → Int32) : Nat → Nat
  | 0 => 0
  | m + 1 => if hasB B m then (if cntV B F (F m) (m + 1) ≤ mstC B F m then mstC B F m else cntV B F (F m) (m + 1)) else mstC B F m
/-- how many of the set below b are like a -/
def likF (B : Int32) (F : Nat → Int32) (a b : Nat) : Nat := if hasB B a then cntV B F (F a) b else 0
/-- the most of those below m -/
def topM (B : Int32) (F : Nat → Int32) : Nat → Nat
  | 0 => 0
  | m + 1 => if likF B F m 10 ≤ topM B F m then topM B F m else likF B F m 10
def popN (B : Int32) : Nat := cntV B (fun _ => 0) 0 10
theorem cntV_le {B : Int32} {F : Nat → Int32} {v : Int32} (m : Nat) : cntV B F v m ≤ m := by
  induction m with
  | zero => exact Nat.le_refl 0
  | succ m ih =>
    rw [cntV]
    by_cases h : hasB B m ∧ F m = v
    · rw [if_pos h]; omega
    · rw [if_neg h]; omega
theorem cntV_p {B : Int32} {F : Nat → Int32} {v : Int32} (m : Nat) : cntV B F v m ≤ cntV B (fun _ => 0) 0 m := by
  induction m with
  | zero => exact Nat.le_refl 0
  | succ m ih =>
    rw [cntV, cntV]
    by_cases h : hasB B m
    · rw [if_pos (c := hasB B m ∧ (0 : Int32) = 0) ⟨h, rfl⟩]
      by_cases q : F m = v
      · rw [if_pos ⟨h, q⟩]; omega
      · rw [if_neg (fun z => q z.2)]; omega
    · rw [if_neg (c := hasB B m ∧ (0 : Int32) = 0) (fun z => h z.1), if_neg (fun z => h z.1)]; exact ih
theorem cntV_m {B : Int32} {F : Nat → Int32} {v : Int32} {a : Nat} (d : Nat) : cntV B F v a ≤ cntV B F v (a + d) := by
  induction d with
  | zero => exact Nat.le_refl _
  | succ d ih =>
    rw [← Nat.add_assoc, cntV]
    by_cases h : hasB B (a + d) ∧ F (a + d) = v
    · rw [if_pos h]; omega
    · rw [if_neg h]; exact ih
theorem pop_le {B : Int32} : popN B ≤ 10 := cntV_le 10
theorem mstC_m {B : Int32} {F : Nat → Int32} (m : Nat) : mstC B F m ≤ mstC B F (m + 1) := by
  rw [mstC]
  by_cases h : hasB B m
  · rw [if_pos h]
    by_cases q : cntV B F (F m) (m + 1) ≤ mstC B F m
    · rw [if_pos q]; exact Nat.le_refl _
    · rw [if_neg q]; omega
  · rw [if_neg h]; exact Nat.le_refl _
theorem mstC_c {B : Int32} {F : Nat → Int32} {m : Nat} (h : hasB B m) : cntV B F (F m) (m + 1) ≤ mstC B F (m + 1) := by
  rw [mstC, if_pos h]
  by_cases q : cntV B F (F m) (m + 1) ≤ mstC B F m
  · rw [if_pos q]; exact q
  · rw [if_neg q]; exact Nat.le_refl _
theorem cnt_mst {B : Int32} {F : Nat → Int32} {v : Int32} (m : Nat) : cntV B F v m ≤ mstC B F m := by
  induction m with
  | zero => exact Nat.le_refl 0
  | succ m ih =>
    by_cases h : hasB B m ∧ F m = v
    · have := mstC_c (F := F) h.1
      rw [h.2] at this
      exact this
    · rw [cntV, if_neg h]
      exact Nat.le_trans ih (mstC_m m)
theorem mst_le {B : Int32} {F : Nat → Int32} (m : Nat) : mstC B F m ≤ cntV B (fun _ => 0) 0 m := by
  induction m with
  | zero => exact Nat.le_refl 0
  | succ m ih =>
    rw [mstC]
    have e := cntV_m (B := B) (F := fun _ => 0) (v := 0) (a := m) 1
    by_cases h : hasB B m
    · rw [if_pos h]
      by_cases q : cntV B F (F m) (m + 1) ≤ mstC B F m
      · rw [if_pos q]; omega
      · rw [if_neg q]; exact cntV_p _
    · rw [if_neg h]; omega
theorem mst_ge {B : Int32} {F : Nat → Int32} (m : Nat) (h : 1 ≤ cntV B (fun _ => 0) 0 m) : 1 ≤ mstC B F m := by
  induction m with
  | zero => exact absurd (show 1 ≤ 0 from h) (by decide)
  | succ m ih =>
    by_cases q : hasB B m
    · have := mstC_c (F := F) q
      rw [cntV, if_pos ⟨q, rfl⟩] at this
      omega
    · rw [cntV, if_neg (fun z => q z.1)] at h
      exact Nat.le_trans (ih h) (mstC_m m)
theorem mstC_t {B : Int32} {F : Nat → Int32} (m : Nat) (hm : m ≤ 10) (T : Nat) (hT : ∀ a : Nat, a < 10 → likF B F a 10 ≤ T) : mstC B F m ≤ T := by
  induction m with
  | zero => exact Nat.zero_le _
  | succ m ih =>
    have e := ih (by omega)
    rw [mstC]
    by_cases h : hasB B m
    · rw [if_pos h]
      by_cases q : cntV B F (F m) (m + 1) ≤ mstC B F m
      · rw [if_pos q]; exact e
      · rw [if_neg q]
        have t := hT m (by omega)
        rw [likF, if_pos h] at t
        have g := cntV_m (B := B) (F := F) (v := F m) (a := m + 1) (10 - (m + 1))
        rw [show m + 1 + (10 - (m + 1)) = 10 from by omega] at g
        omega
    · rw [if_neg h]; exact e
theorem topM_a {B : Int32} {F : Nat → Int32} (m : Nat) : ∀ a : Nat, a < m → likF B F a 10 ≤ topM B F m := by
  induction m with
  | zero => intro a h; exact absurd h (Nat.not_lt_zero a)
  | succ m ih =>
    intro a h
    rw [topM]
    by_cases q : likF B F m 10 ≤ topM B F m
    · rw [if_pos q]
      rcases Nat.lt_or_ge a m with z | z
      · exact ih a z
      · rw [show a = m by omega]; exact q
    · rw [if_neg q]
      rcases Nat.lt_or_ge a m with z | z
      · have := ih a z; omega
      · rw [show a = m by omega]; exact Nat.le_refl _
theorem topM_le {B : Int32} {F : Nat → Int32} (m : Nat) : topM B F m ≤ mstC B F 10 := by
  induction m with
  | zero => exact Nat.zero_le _
  | succ m ih =>
    rw [topM]
    by_cases q : likF B F m 10 ≤ topM B F m
    · rw [if_pos q]; exact ih
    · rw [if_neg q, likF]
      by_cases h : hasB B m
      · rw [if_pos h]; exact cnt_mst 10
      · rw [if_neg h]; exact Nat.zero_le _
/-- both ways of counting find the same -/
theorem mst_top {B : Int32} {F : Nat → Int32} : mstC B F 10 = topM B F 10 := Nat.le_antisymm (mstC_t 10 (Nat.le_refl _) _ (topM_a 10)) (topM_le 10)
theorem top_le {B : Int32} {F : Nat → Int32} : topM B F 10 ≤ popN B := by rw [← mst_top]; exact mst_le 10
theorem top_ge {B : Int32} {F : Nat → Int32} (h : 1 ≤ popN B) : 1 ≤ topM B F 10 := by rw [← mst_top]; exact mst_ge 10 h
theorem top10 {B : Int32} {F : Nat → Int32} (m : Nat) : topM B F m ≤ 10 := Nat.le_trans (topM_le m) (Nat.le_trans (mst_le 10) pop_le)
theorem mst10 {B : Int32} {F : Nat → Int32} : mstC B F 10 ≤ 10 := Nat.le_trans (mst_le 10) pop_le
theorem lik10 {B : Int32} {F : Nat → Int32} {a : Nat} (b : Nat) : likF B F a b ≤ b := by
  rw [likF]
  by_cases h : hasB B a
  · rw [if_pos h]; exact cntV_le b
  · rw [if_neg h]; exact Nat.zero_le _
theorem cntV_c {B : Int32} {F G : Nat → Int32} {v : Int32} (h : ∀ b : Nat, b < 10 → hasB B b → F b = G b) (m : Nat) (hm : m ≤ 10) : cntV B F v m = cntV B G v m := by
  induction m with
  | zero => rfl
  | succ m ih =>
    rw [cntV, cntV, ih (by omega)]
    by_cases q : hasB B m
    · rw [h m (by omega) q]
    · rw [if_neg (fun z => q z.1), if_neg (fun z => q z.1)]
theorem topM_c {B : Int32} {F G : Nat → Int32} (h : ∀ b : Nat, b < 10 → hasB B b → F b = G b) (m : Nat) (hm : m ≤ 10) : topM B F m = topM B G m := by
  induction m with
  | zero => rfl
  | succ m ih =>
    have e : likF B F m 10 = likF B G m 10 := by
      rw [likF, likF]
      by_cases q : hasB B m
      · rw [if_pos q, if_pos q, h m (by omega) q]; exact cntV_c h 10 (Nat.le_refl _)
      · rw [if_neg q, if_neg q]
    rw [topM, topM, ih (by omega), e]
/-- one look more for a -/
theorem lik_n {B : Int32} {F : Nat → Int32} {a b : Nat} (h : hasB B a) (c : ¬ (hasB B b ∧ F b = F a)) : likF B F a (b + 1) = likF B F a b := by
  rw [likF, likF, if_pos h, if_pos h, cntV, if_neg c]
theorem lik_p {B : Int32} {F : Nat → Int32} {a b : Nat} (h : hasB B a) (c : hasB B b ∧ F b = F a) : likF B F a (b + 1) = likF B F a b + 1 := by
  rw [likF, likF, if_pos h, if_pos h, cntV, if_pos c]
theorem lik_0 {B : Int32} {F : Nat → Int32} {a : Nat} : 0 = likF B F a 0 := by
  rw [likF]
  by_cases h : hasB B a
  · rw [if_pos h]; rfl
  · rw [if_neg h]
theorem lik_x {B : Int32} {F : Nat → Int32} {a b c : Nat} (h : ¬ hasB B a) : likF B F a b = likF B F a c := by
  rw [likF, likF, if_neg h, if_neg h]
/-- the best look so far, and how few -/
def lkB (T : Nat → Nat) (z : Nat) : Nat → Int32 × Nat
  | 0 => (-1, z)
  | m + 1 => if T m < (lkB T z m).2 then (nI m, T m) else lkB T z m
theorem lkB_le {T : Nat → Nat} {z : Nat} (m : Nat) : (lkB T z m).2 ≤ z := by
  induction m with
  | zero => exact Nat.le_refl _
  | succ m ih =>
    rw [lkB]
    by_cases q : T m < (lkB T z m).2
    · rw [if_pos q]; show T m ≤ z; omega
    · rw [if_neg q]; exact ih
theorem lkB_t {T : Nat → Nat} {z m f w : Nat} (h : f = (lkB T z m).2) (e : w = T m) (c : w < f) : nI m = (lkB T z (m + 1)).1 ∧ w = (lkB T z (m + 1)).2 := by
  rw [lkB, if_pos (by omega)]; exact ⟨rfl, e⟩
theorem lkB_f {T : Nat → Nat} {z m f w : Nat} {x : Int32} (hx : x = (lkB T z m).1) (h : f = (lkB T z m).2) (e : w = T m) (c : ¬ w < f) : x = (lkB T z (m + 1)).1 ∧ f = (lkB T z (m + 1)).2 := by
  rw [lkB, if_neg (by omega)]; exact ⟨hx, h⟩
theorem lkB_stay {T : Nat → Nat} {z k : Nat} (hT : ∀ j : Nat, 1 ≤ T j) (h : (lkB T z k).2 ≤ 1) (d : Nat) : lkB T z (k + d) = lkB T z k := by
  induction d with
  | zero => rfl
  | succ d ih =>
    have t := hT (k + d)
    rw [← Nat.add_assoc, lkB, ih, if_neg (by omega)]
theorem lkB_z {T : Nat → Nat} {y z : Nat} (hy : ∀ j : Nat, T j < y) (hz : ∀ j : Nat, T j < z) (m : Nat) : lkB T y (m + 1) = lkB T z (m + 1) := by
  induction m with
  | zero =>
    show (if T 0 < y then (nI 0, T 0) else (-1, y)) = (if T 0 < z then (nI 0, T 0) else (-1, z))
    rw [if_pos (hy 0), if_pos (hz 0)]
  | succ m ih => rw [lkB, ih, lkB.eq_2 T z (m + 1)]
/-- what is answered: by the set and by how alike they are at each look -/
def lookF (B : Int32) (T : Nat → Nat) (N : Nat) : Int32 := if 0 < B then (lkB T 1000000 N).1 else -1
theorem k_pop : ∀ b : Nat, b < 1024 → (0 < nI b ↔ 1 ≤ popN (nI b)) ∧ bcT (nI b) = nI (popN (nI b)) := by decide +kernel
theorem pop_bc {B : Int32} (h : ∃ b : Nat, b < 1024 ∧ B = nI b) : bcT B = nI (popN B) := by
  obtain ⟨b, hb, rfl⟩ := h
  exact (k_pop b hb).2
theorem pop_gt {B : Int32} (h : ∃ b : Nat, b < 1024 ∧ B = nI b) : 0 < B ↔ 1 ≤ popN B := by
  obtain ⟨b, hb, rfl⟩ := h
  exact (k_pop b hb).1
/-- the class ends -/
theorem lk_endC {B x : Int32} {F : Nat → Nat → Int32} {N k f : Nat} (hB : ∃ b : Nat, b < 1024 ∧ B = nI b) (hN : 1 ≤ N) (hk : k ≤ N) (hp : k = 0 ∨ 1 ≤ popN B) (he : k = N ∨ f ≤ 1) (hx : x = (lkB (fun a => topM B (F a) 10) (popN B + 1) k).1) (hf : f = (lkB (fun a => topM B (F a) 10) (popN B + 1) k).2) : x = lookF B (fun a => topM B (F a) 10) N := by
  rw [lookF]
  by_cases p : 1 ≤ popN B
  · rw [if_pos ((pop_gt hB).mpr p)]
    obtain ⟨M, rfl⟩ : ∃ M : Nat, N = M + 1 := ⟨N - 1, by omega⟩
    have l : ∀ j : Nat, (fun a => topM B (F a) 10) j < popN B + 1 := fun j => Nat.lt_succ_of_le top_le
    have l2 : ∀ j : Nat, (fun a => topM B (F a) 10) j < 1000000 := fun j => Nat.lt_of_le_of_lt (top10 10) (by decide)
    rw [← lkB_z l l2 M, hx]
    rcases he with e | e
    · rw [e]
    · rw [hf] at e
      have := lkB_stay (fun j => top_ge p) e (M + 1 - k)
      rw [show k + (M + 1 - k) = M + 1 from by omega] at this
      rw [this]
  · rw [if_neg (fun q => p ((pop_gt hB).mp q)), hx]
    rcases hp with e | e
    · rw [e]; rfl
    · exact absurd e p
/-- the reference ends -/
theorem lk_endM {B x : Int32} {T : Nat → Nat} {N k : Nat} (hp : k = 0 ∨ 0 < B) (he : k = N ∨ ¬ 0 < B) (hN : 1 ≤ N) (hx : x = (lkB T 1000000 k).1) : x = lookF B T N := by
  rw [lookF]
  by_cases p : 0 < B
  · rw [if_pos p]
    rcases he with e | e
    · rw [hx, e]
    · exact absurd p e
  · rw [if_neg p]
    rcases hp with e | e
    · rw [hx, e]; rfl
    · exact absurd e p
def telF (B kd : Int32) : Int32 := lookF B (fun a => topM B (fun g => reachP kd (nI g) (nI (a / 10)) (nI (a % 10))) 10) 200
def looF (B l : Int32) : Int32 := lookF B (fun a => topM B (fun g => reachP (nI g) l (nI (a / 10)) (nI (a % 10))) 10) 200
def askF (B : Int32) : Int32 := lookF B (fun a => topM B (fun g => limitP (nI g) (nI a)) 10) 20
/-! how far one may go: below 16 -/
def rchQ (k p t : Nat) (s : Int32) : Int32 := if nI k = 1 then (if s < 5 then nI p else nI p + 1) else if nI k = 2 then (if nI p ≤ nI t / 10 then 0 else nI p - nI t / 10) else if nI k = 3 then (if nI t - nI t / 5 * 5 = 4 then (if s < 5 then nI p else nI p + 1) + 3 else (if s < 5 then nI p else nI p + 1)) else if nI k = 4 then (nI p + 1) / 2 else if nI k = 5 then (if nI t - nI t / 2 * 2 = 1 then (if nI p ≤ nI t / 10 then 0 else nI p - nI t / 10) + 2 else (if nI p ≤ nI t / 10 then 0 else nI p - nI t / 10)) else nI p
theorem k_rch : ∀ k : Nat, k < 10 → ∀ p : Nat, p < 10 → ∀ t : Nat, t < 20 → ∀ s : Nat, s < 10 → (0 : Int32) ≤ rchQ k p t (nI s) ∧ rchQ k p t (nI s) ≤ 15 := by decide +kernel
theorem k_n15 {x : Int32} (h : (0 : Int32) ≤ x ∧ x ≤ 15) : ∃ v : Nat, v < 16 ∧ x = nI v := by
  obtain ⟨j, ⟨ja, jb⟩, rfl⟩ := k_natR (a := 0) (b := 15) h rfl rfl (by decide) (by decide)
  exact ⟨j, by omega, rfl⟩
theorem k_pln {l : Int32} {s : Nat} (h : (0 : Int32) ≤ l) (hs : s < 10) : ∃ p : Nat, p < 10 ∧ plainP l (nI s) = nI p := by
  by_cases c : l ≤ nI s
  · obtain ⟨j, ⟨ja, jb⟩, rfl⟩ := k_natR (a := 0) (b := s) ⟨h, c⟩ rfl rfl (by decide) (by omega)
    exact ⟨j, by omega, if_pos c⟩
  · exact ⟨s, hs, if_neg c⟩
theorem rng_k {k : Nat} {l : Int32} {a : Nat} (h : (0 : Int32) ≤ l) (hk : k < 10) (ha : a < 200) : ∃ v : Nat, v < 16 ∧ reachP (nI k) l (nI (a / 10)) (nI (a % 10)) = nI v := by
  obtain ⟨p, hp, e⟩ := k_pln h (s := a % 10) (by omega)
  have q : reachP (nI k) l (nI (a / 10)) (nI (a % 10)) = rchQ k p (a / 10) (nI (a % 10)) := by
    unfold reachP strideP tiredP
    rw [e]
    rfl
  rw [q]
  exact k_n15 (k_rch k hk p hp (a / 10) (by omega) (a % 10) (by omega))
theorem k_kd {P : Int32 → Prop} (kd : Int32) (h : ∀ k : Nat, k < 6 → P (nI k)) (g : (kd.toInt < 1 ∨ 5 < kd.toInt) → P kd) : P kd := by
  by_cases w : kd.toInt < 1 ∨ 5 < kd.toInt
  · exact g w
  · have e1 : (1 : Int32).toInt = 1 := by decide
    have e5 : (5 : Int32).toInt = 5 := by decide
    have q1 : (1 : Int32) ≤ kd := Int32.le_iff_toInt_le.mpr (by omega)
    have q5 : kd ≤ (5 : Int32) := Int32.le_iff_toInt_le.mpr (by omega)
    obtain ⟨j, ⟨ja, jb⟩, rfl⟩ := k_natR (a := 1) (b := 5) ⟨q1, q5⟩ rfl rfl (by decide) (by decide)
    exact h j (by omega)
theorem rng_l {g : Nat} {a : Nat} (kd : Int32) (hg : g < 10) (ha : a < 200) : ∃ v : Nat, v < 16 ∧ reachP kd (nI g) (nI (a / 10)) (nI (a % 10)) = nI v := by
  refine k_kd (P := fun kd => ∃ v : Nat, v < 16 ∧ reachP kd (nI g) (nI (a / 10)) (nI (a % 10)) = nI v) kd (fun k hk => rng_k (nI_pos' (by omega)) (by omega) ha) (fun w => ?_)
  rw [reachP_d w]
  obtain ⟨p, hp, e⟩ := k_pln (l := nI g) (nI_pos' (by omega)) (s := a % 10) (by omega)
  exact ⟨p, by omega, e⟩
theorem k_lim : ∀ k : Nat, k < 10 → ∀ t : Nat, t < 20 → (0 : Int32) ≤ limitP (nI k) (nI t) ∧ limitP (nI k) (nI t) ≤ 15 := by decide +kernel
theorem rng_e {k a : Nat} (hk : k < 10) (ha : a < 20) : ∃ v : Nat, v < 16 ∧ limitP (nI k) (nI a) = nI v := k_n15 (k_lim k hk a ha)
/-! what the class counts with -/
theorem see_0 {B : Int32} {F f : Nat → Int32} (h : ∀ k : Nat, k < 16 → f k = 0) : ∀ v : Nat, v < 16 → f v = nI (cntV B F (nI v) 0) := fun v hv => h v hv
theorem see_n {B : Int32} {F f : Nat → Int32} {tm : Int32} {g : Nat} (hb : ¬ hasB B g) (h : ∀ v : Nat, v < 16 → f v = nI (cntV B F (nI v) g)) (hm : tm = nI (mstC B F g)) : (∀ v : Nat, v < 16 → f v = nI (cntV B F (nI v) (g + 1))) ∧ tm = nI (mstC B F (g + 1)) := by
  refine ⟨fun v hv => ?_, ?_⟩
  · rw [cntV, if_neg (fun z => hb z.1)]; exact h v hv
  · rw [mstC, if_neg hb]; exact hm
theorem see_s {B : Int32} {F f f' : Nat → Int32} {tm tm' : Int32} {g v0 : Nat} (hb : hasB B g) (hg : g < 10) (e : F g = nI v0) (hv0 : v0 < 16) (h : ∀ v : Nat, v < 16 → f v = nI (cntV B F (nI v) g)) (hm : tm = nI (mstC B F g)) (ef : f' = upd f v0 (f v0 + 1)) (em : tm' = if tm < f v0 + 1 then f v0 + 1 else tm) : (∀ v : Nat, v < 16 → f' v = nI (cntV B F (nI v) (g + 1))) ∧ tm' = nI (mstC B F (g + 1)) := by
  have s : f v0 + 1 = nI (cntV B F (nI v0) (g + 1)) := by
    rw [h v0 hv0, cntV, if_pos ⟨hb, e⟩]; exact nI_add _ 1
  refine ⟨fun v hv => ?_, ?_⟩
  · rw [ef]
    by_cases q : v = v0
    · rw [q, upd_eq]; exact s
    · rw [upd_ne q, cntV, if_neg (fun z => q (j_eq (by omega) (by omega) (z.2.symm.trans e)))]
      exact h v hv
  · have l1 := cntV_le (B := B) (F := F) (v := nI v0) (g + 1)
    have l2 : mstC B F g ≤ 10 := Nat.le_trans (mst_le g) (Nat.le_trans (cntV_le g) (by omega))
    rw [mstC, if_pos hb, e, em, s, hm]
    by_cases q : cntV B F (nI v0) (g + 1) ≤ mstC B F g
    · rw [if_pos q, if_neg (fun z => absurd (j_lt (by omega) (by omega) z) (by omega))]
    · rw [if_neg q, if_pos ((nI_ltI (by omega) (by omega)).mpr (by omega))]
/-! what the reference counts with -/
theorem k_til {f f' F : Nat → Int32} {lo j l : Nat} {x : Int32} (h : ∀ g : Nat, lo ≤ g → g < l → f g = F g) (e : f' = upd f j x) (ej : j = l) (ex : x = F l) : ∀ g : Nat, lo ≤ g → g < l + 1 → f' g = F g := fun g h1 h2 => by
  rw [e, ej]
  by_cases q : g = l
  · rw [q, upd_eq]; exact ex
  · rw [upd_ne q]; exact h g h1 (by omega)
theorem k_or6 : ∀ a : Nat, a < 64 → ∀ k : Nat, k < 6 → nI a ||| (1 <<< (nI k &&& 31)) = nI (a ||| 2 ^ k) ∧ a ||| 2 ^ k < 64 := by decide +kernel
theorem setF_6 {P : Nat → Prop} : ∀ m : Nat, m ≤ 6 → ∃ z : Nat, z < 64 ∧ setF P 0 m = nI z := by
  intro m
  induction m with
  | zero => intro _; exact ⟨0, by decide, rfl⟩
  | succ m ih =>
    intro h
    obtain ⟨z, hz, e⟩ := ih (by omega)
    rw [setF, e]
    by_cases p : P (0 + m)
    · rw [bitF_t p, (k_or6 z hz (0 + m) (by omega)).1]
      exact ⟨_, (k_or6 z hz (0 + m) (by omega)).2, rfl⟩
    · rw [bitF_f p, k_or0]
      exact ⟨z, hz, rfl⟩
theorem k_hb1 : ∀ a : Nat, a < 1024 → a % 2 = 0 → ¬ hasB (nI a) 0 := by decide +kernel
theorem k_hb6 : ∀ a : Nat, a < 64 → ∀ b : Nat, b < 10 → hasB (nI a) b → b < 6 := by decide +kernel
theorem set_l {P : Nat → Prop} {B : Int32} (e : B = setF P 1 9) : (∃ b : Nat, b < 1024 ∧ B = nI b) ∧ ∀ b : Nat, b < 10 → hasB B b → 1 ≤ b ∧ b < 10 := by
  obtain ⟨z, ⟨hz, hy⟩, q⟩ := setF_m (P := P) (lo := 1) 9 (by decide)
  rw [e, q]
  refine ⟨⟨z, hz, rfl⟩, fun b hb h => ⟨?_, hb⟩⟩
  rcases Nat.eq_zero_or_pos b with w | w
  · subst w; exact absurd h (k_hb1 z hz (hy (by decide)))
  · exact w
theorem set_k {P : Nat → Prop} {B : Int32} (e : B = setF P 0 6) : (∃ b : Nat, b < 1024 ∧ B = nI b) ∧ ∀ b : Nat, b < 10 → hasB B b → 0 ≤ b ∧ b < 6 := by
  obtain ⟨z, hz, q⟩ := setF_6 (P := P) 6 (by decide)
  rw [e, q]
  exact ⟨⟨z, by omega, rfl⟩, fun b hb h => ⟨Nat.zero_le _, k_hb6 z hz b hb h⟩⟩
section EKl
variable {p : Program} {l : Launch} {e : Env} {R : Room} {s : State} {m : MethodId} {args : Array Value} {below : List Frame} {meth : Method} {c : Code} {H : Heap} {locs : List Loc} {cells slots : Nat} {Q : State → Prop}
variable {cc : ByteArray} {pc nL : Nat} {ls : Array Slot} {rest : List Value} {X : EX} {A B : Nat → Prop} {a : Nat} {ws : va_W} {Ts : List Cond} {own : String}
theorem r_mmaxX {idx : Nat} {x y : Int32} (S : CallFix p m c cc nL s args Ts own) (hsz : ls.size = nL) (hlink : Cond.methodLink own idx Lib.Math.max.name ∈ Ts) (hstat : Cond.static Lib.Math.max.name ∈ Ts) (hini : Cond.initialized "java/lang/Math" ∈ Ts) (hcode : Cond.code Lib.Math.max.name Lib.Math.max.code 2 (some .int) ∈ Ts) (hfr : 1 ≤ R.frames) (hlo : (rest.map fun v => v.category).sum + 13 ≤ R.locals) (hc : cells ≤ R.cells) (hs : slots ≤ R.slots) (hdg : decode cc pc = .ok (.invokestatic idx, 3))
    (kk : W p l e R s m args below meth c H locs cells slots Q (F0 m (pc + 3) ls (.int (if x < y then y else x) :: rest))) : W p l e R s m args below meth c H locs cells slots Q (F0 m pc ls (.int y :: .int x :: rest)) :=
  va_mmax S.1 S.2.1 (S.2.2.1.trans hsz.symm) S.2.2.2.1 (S.2.2.2.2 _ hlink) (S.2.2.2.2 _ hstat) (S.2.2.2.2 _ hini) (S.2.2.2.2 _ hcode) hfr hlo hc hs hdg kk
end EKl
theorem k_tilz {f f' : Nat → Int32} {j l : Nat} (h : ∀ g : Nat, g < l → f g = 0) (e : f' = upd f j 0) (ej : j = l) : ∀ g : Nat, g < l + 1 → f' g = 0 := fun g h2 => by
  rw [e, ej]
  by_cases q : g = l
  · rw [q]; exact upd_eq
  · rw [upd_ne q]; exact h g (by omega)
