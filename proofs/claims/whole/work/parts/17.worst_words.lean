theorem add_rc (u v w : Int32) : u + v + w = u + w + v := by rw [Int32.add_assoc, Int32.add_comm v w, ← Int32.add_assoc]
/-- the sum of a row with usual numbers, as FutureSets makes it: by names -/
def bsF (b : Nat → Nat → Int32) (plan row : Int32) (T : Nat) : Nat → Int32
  | 0 => baF b plan row T
  | n + 1 => bsF b plan row T n + wF b plan row n T * b 10 n
theorem bsF_off {b : Nat → Nat → Int32} {plan row : Int32} {T : Nat} (h : onF b plan row T = false) : ∀ i, bsF b plan row (T + 1) i = bsF b plan row T i := by
  intro i
  induction i with
  | zero => simp [bsF, baF, h]
  | succ i ih => simp [bsF, wF, h, ih]
theorem bsF_no {b : Nat → Nat → Int32} {plan row : Int32} {T : Nat} (h : onF b plan row T = true) (h14 : b 14 T < 0) : ∀ i, i < 2 ^ 31 → bsF b plan row (T + 1) i = bsF b plan row T i + b 15 T := by
  intro i
  induction i with
  | zero => intro _; simp [bsF, baF, h, h14]
  | succ i ih =>
    intro hi
    have hne : ¬ b 14 T = nI i := fun e => nI_pos (n := i) (by omega) (e ▸ h14)
    have hw : wF b plan row i (T + 1) = wF b plan row i T := by simp [wF, hne]
    simp only [bsF]
    rw [ih (by omega), hw, add_rc]
theorem bsF_nm {b : Nat → Nat → Int32} {plan row : Int32} {T k : Nat} (h : onF b plan row T = true) (hk : k < 2 ^ 31) (h14 : b 14 T = nI k) : ∀ i, i < 2 ^ 31 → bsF b plan row (T + 1) i = bsF b plan row T i + (if k < i then b 15 T * b 10 k else 0) := by
  intro i
  induction i with
  | zero =>
    intro _
    have : ¬ b 14 T < 0 := by rw [h14]; exact nI_pos hk
    simp [bsF, baF, this]
  | succ i ih =>
    intro hi
    simp only [bsF]
    rw [ih (by omega)]
    by_cases e : i = k
    · subst e
      have hw : wF b plan row i (T + 1) = wF b plan row i T + b 15 T := by simp [wF, h, h14]
      rw [hw, if_neg (by omega), if_pos (by omega), Int32.add_zero, Int32.add_mul, Int32.add_assoc]
    · have hne : ¬ b 14 T = nI i := fun q => e ((nI_eq (by omega) (by omega)).mp (h14.symm.trans q)).symm
      have hw : wF b plan row i (T + 1) = wF b plan row i T := by simp [wF, hne]
      rw [hw]
      by_cases h2 : k < i
      · rw [if_pos h2, if_pos (by omega), add_rc]
      · rw [if_neg h2, if_neg (by omega), Int32.add_zero, Int32.add_zero]
theorem bsF_sum {a : Nat → Nat} {b nu : Nat → Nat → Int32} (hW : WF a b nu) (plan row : Int32) : ∀ T, T ≤ a 5 → bsF b plan row T (a 4) = sumF b (b 10) plan row T := by
  obtain ⟨⟨w0, ⟨w1, w1'⟩, w2, w3, w4, w5, w6⟩, wt, wn, wq⟩ := id hW
  intro T
  induction T with
  | zero =>
    intro _
    have : ∀ i, bsF b plan row 0 i = 0 := by
      intro i
      induction i with
      | zero => rfl
      | succ i ih => simp [bsF, ih, wF]
    rw [this]; rfl
  | succ T ih =>
    intro hT
    have ih := ih (by omega)
    obtain ⟨-, -, hnm, -, -⟩ := wt T (by omega)
    cases hon : onF b plan row T with
    | false => rw [bsF_off hon, ih]; simp [sumF, hon]
    | true =>
      rcases hnm with hm | ⟨k, hk, hm⟩
      · have hl : b 14 T < 0 := by rw [hm]; decide
        rw [bsF_no hon hl _ (by omega), ih]
        simp [sumF, hon, vaF, hl]
      · have hl : ¬ b 14 T < 0 := by rw [hm]; exact nI_pos (by omega)
        rw [bsF_nm hon (by omega) hm _ (by omega), ih, if_pos hk]
        simp only [sumF, hon, vaF, if_neg hl, if_true]
        rw [hm, nI_clamp (by omega)]
/-- the number that makes a name's part greatest, its gain -/
def upF (b : Nat → Nat → Int32) (plan row : Int32) (T n : Nat) : Int32 := if 0 < wF b plan row n T then b 11 n else b 9 n
def gaF (b : Nat → Nat → Int32) (plan row : Int32) (T n : Nat) : Int32 := wF b plan row n T * (upF b plan row T n - b 10 n)
/-- the name that gains most among the first n -/
def pkF (f : Nat → Int32) : Nat → Option Nat
  | 0 => none
  | n + 1 => match pkF f n with
    | none => if 0 < f n then some n else none
    | some j => if f j < f n then some n else some j
theorem pkF_lt {f : Nat → Int32} : ∀ {n j : Nat}, pkF f n = some j → j < n := by
  intro n
  induction n with
  | zero => intro j h; cases h
  | succ n ih =>
    intro j h
    unfold pkF at h
    cases hp : pkF f n with
    | none =>
      rw [hp] at h
      by_cases h2 : 0 < f n
      · simp [h2] at h; omega
      · simp [h2] at h
    | some k =>
      rw [hp] at h
      have := ih hp
      by_cases h2 : f k < f n
      · simp [h2] at h; omega
      · simp [h2] at h; omega
theorem pkF_pos {f : Nat → Int32} : ∀ {n j : Nat}, pkF f n = some j → 0 < f j := by
  intro n
  induction n with
  | zero => intro j h; cases h
  | succ n ih =>
    intro j h
    unfold pkF at h
    cases hp : pkF f n with
    | none =>
      rw [hp] at h
      by_cases h2 : 0 < f n
      · simp [h2] at h; subst h; exact h2
      · simp [h2] at h
    | some k =>
      rw [hp] at h
      have := ih hp
      by_cases h2 : f k < f n
      · simp [h2] at h; subst h; exact Int32.lt_trans this h2
      · simp [h2] at h; subst h; exact this
theorem pkF_congr {f h : Nat → Int32} : ∀ {n : Nat}, (∀ k, k < n → f k = h k) → pkF f n = pkF h n := by
  intro n
  induction n with
  | zero => intro _; rfl
  | succ n ih =>
    intro hh
    unfold pkF
    rw [ih (fun k hk => hh k (by omega)), hh n (by omega)]
    cases hp : pkF h n with
    | none => rfl
    | some j =>
      have := pkF_lt hp
      simp only []
      rw [hh j (by omega)]
def pkI (o : Option Nat) : Int32 := match o with
  | none => -1000000003
  | some j => nI j
def pkM (o : Option Nat) : Int32 := match o with
  | none => -1
  | some j => nI j
def pkV (f : Nat → Int32) (o : Option Nat) : Int32 := match o with
  | none => 0
  | some j => f j
theorem nI_none {j : Nat} (h : j < 2 ^ 31) : ¬ nI j = -1000000003 := fun e => nI_pos h (by rw [e]; decide)
theorem pkF_new {f : Nat → Int32} {n : Nat} (h : pkV f (pkF f n) < f n) : pkF f (n + 1) = some n := by
  unfold pkF
  cases hp : pkF f n with
  | none => rw [hp] at h; exact if_pos h
  | some j => rw [hp] at h; exact if_pos h
theorem pkF_old {f : Nat → Int32} {n : Nat} (h : ¬ pkV f (pkF f n) < f n) : pkF f (n + 1) = pkF f n := by
  conv => lhs; unfold pkF
  cases hp : pkF f n with
  | none => rw [hp] at h; exact if_neg h
  | some j => rw [hp] at h; exact if_neg h
/-- one name more is not usual -/
def gsF (N : Nat) (up : Nat → Int32) (q : (Nat → Int32) × (Nat → Int32) × Int32) : (Nat → Int32) × (Nat → Int32) × Int32 := match pkF q.1 N with
  | none => q
  | some j => (upd q.1 j 0, upd q.2.1 j (up j), q.2.2 + q.1 j)
def grF (N : Nat) (up : Nat → Int32) (q : (Nat → Int32) × (Nat → Int32) × Int32) : Nat → (Nat → Int32) × (Nat → Int32) × Int32
  | 0 => q
  | k + 1 => gsF N up (grF N up q k)
theorem grF_stop {N : Nat} {up : Nat → Int32} {q : (Nat → Int32) × (Nat → Int32) × Int32} {i : Nat} (h : pkF (grF N up q i).1 N = none) : ∀ k, grF N up q (i + k) = grF N up q i := by
  intro k
  induction k with
  | zero => rfl
  | succ k ih =>
    show gsF N up (grF N up q (i + k)) = _
    rw [ih]
    unfold gsF
    rw [h]
def wsF (a : Nat → Nat) (b : Nat → Nat → Int32) (plan row : Int32) : (Nat → Int32) × (Nat → Int32) × Int32 := grF (a 4) (upF b plan row (a 5)) (gaF b plan row (a 5), b 10, sumF b (b 10) plan row (a 5)) (a 3)
/-- the gain as the reference makes it -/
theorem gaM {b : Nat → Nat → Int32} {plan row to : Int32} {T n : Nat} (h1 : 0 < wF b plan row n T → to = b 11 n) (h2 : ¬ 0 < wF b plan row n T → wF b plan row n T < 0 → to = b 9 n) (h3 : ¬ 0 < wF b plan row n T → ¬ wF b plan row n T < 0 → to = b 10 n) : wF b plan row n T * (to - b 10 n) = gaF b plan row T n := by
  unfold gaF upF
  by_cases c1 : 0 < wF b plan row n T
  · rw [h1 c1, if_pos c1]
  · by_cases c2 : wF b plan row n T < 0
    · rw [h2 c1 c2, if_neg c1]
    · have h0 : wF b plan row n T = 0 := Int32.le_antisymm (Int32.not_lt.mp c1) (Int32.not_lt.mp c2)
      rw [h0, Int32.zero_mul, Int32.zero_mul]
