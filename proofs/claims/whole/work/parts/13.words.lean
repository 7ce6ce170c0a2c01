/-- the problem: a the counts (rows, F, S, budget, names, terms, futures), b the rows 9..17 as FutureSets holds them, nu the numbers of listed futures -/
def RX (x : Nat → Nat) (g : Nat → Nat → Int32) (a : Nat → Nat) (b nu : Nat → Nat → Int32) : Prop := (∀ k, k < 7 → x k = a k) ∧ (∀ k, 9 ≤ k → k ≤ 17 → g k = b k) ∧ ∀ i, i < 8 → g (19 + i) = nu i
def RM (x : Nat → Nat) (g : Nat → Nat → Int32) (a : Nat → Nat) (b nu : Nat → Nat → Int32) : Prop := (x 11 = a 0 ∧ x 7 = a 1 ∧ x 8 = a 2 ∧ x 10 = a 3 ∧ x 9 = a 4 ∧ x 12 = a 5 ∧ x 13 = a 6) ∧ (∀ k, 9 ≤ k → k ≤ 17 → g (k + 19) = b k) ∧ ∀ i, i < a 6 → ∀ j, j < a 4 → g 37 (12 * i + j) = nu i j
def Sx (g g' : Nat → Nat → Int32) : Prop := ∀ k, k < 4 ∨ 8 < k → g' k = g k
def Sm (g g' : Nat → Nat → Int32) : Prop := ∀ k, k < 38 ∨ 40 < k → g' k = g k
theorem Sx.rf {g : Nat → Nat → Int32} : Sx g g := fun _ _ => rfl
theorem Sm.rf {g : Nat → Nat → Int32} : Sm g g := fun _ _ => rfl
theorem Sx.tr {g g' g2 : Nat → Nat → Int32} (h : Sx g g') (h2 : Sx g' g2) : Sx g g2 := fun k hk => (h2 k hk).trans (h k hk)
theorem Sm.tr {g g' g2 : Nat → Nat → Int32} (h : Sm g g') (h2 : Sm g' g2) : Sm g g2 := fun k hk => (h2 k hk).trans (h k hk)
theorem Sx.up {g g' : Nat → Nat → Int32} {k : Nat} {f : Nat → Int32} (h : Sx g g') (hk : 4 ≤ k ∧ k ≤ 8) : Sx g (va_up g' k f) := fun j hj => by
  rw [← h j hj]; simp only [va_up]; rw [if_neg (by omega)]
theorem Sm.up {g g' : Nat → Nat → Int32} {k : Nat} {f : Nat → Int32} (h : Sm g g') (hk : 38 ≤ k ∧ k ≤ 40) : Sm g (va_up g' k f) := fun j hj => by
  rw [← h j hj]; simp only [va_up]; rw [if_neg (by omega)]
theorem RX.sx {x : Nat → Nat} {g g' : Nat → Nat → Int32} {a : Nat → Nat} {b nu : Nat → Nat → Int32} (h : RX x g a b nu) (hs : Sx g g') : RX x g' a b nu := ⟨h.1, fun k h1 h2 => (hs k (by omega)).trans (h.2.1 k h1 h2), fun i hi => (hs _ (by omega)).trans (h.2.2 i hi)⟩
theorem RX.sm {x : Nat → Nat} {g g' : Nat → Nat → Int32} {a : Nat → Nat} {b nu : Nat → Nat → Int32} (h : RX x g a b nu) (hs : Sm g g') : RX x g' a b nu := ⟨h.1, fun k h1 h2 => (hs k (by omega)).trans (h.2.1 k h1 h2), fun i hi => (hs _ (by omega)).trans (h.2.2 i hi)⟩
theorem RM.sm {x : Nat → Nat} {g g' : Nat → Nat → Int32} {a : Nat → Nat} {b nu : Nat → Nat → Int32} (h : RM x g a b nu) (hs : Sm g g') : RM x g' a b nu := ⟨h.1, fun k h1 h2 => (hs _ (by omega)).trans (h.2.1 k h1 h2), fun i hi j hj => by rw [hs 37 (by omega)]; exact h.2.2 i hi j hj⟩
theorem RM.sx {x : Nat → Nat} {g g' : Nat → Nat → Int32} {a : Nat → Nat} {b nu : Nat → Nat → Int32} (h : RM x g a b nu) (hs : Sx g g') : RM x g' a b nu := ⟨h.1, fun k h1 h2 => (hs _ (by omega)).trans (h.2.1 k h1 h2), fun i hi j hj => by rw [hs 37 (by omega)]; exact h.2.2 i hi j hj⟩
def WF (a : Nat → Nat) (b nu : Nat → Nat → Int32) : Prop := (a 0 ≤ 10 ∧ (1 ≤ a 1 ∧ a 1 ≤ 6) ∧ a 2 ≤ 4 ∧ a 3 ≤ 12 ∧ a 4 ≤ 12 ∧ a 5 ≤ 40 ∧ a 6 ≤ 8) ∧
  (∀ t, t < a 5 → (∃ r, r ≤ a 0 ∧ b 12 t = nI r - 1) ∧ (b 13 t = -1 ∨ ∃ j, j < a 1 + a 2 ∧ b 13 t = nI j) ∧ (b 14 t = -1 ∨ ∃ n, n < a 4 ∧ b 14 t = nI n) ∧ -20 ≤ (b 15 t).toInt ∧ (b 15 t).toInt ≤ 20) ∧
  (∀ n, n < a 4 → -100 ≤ (b 9 n).toInt ∧ (b 9 n).toInt ≤ (b 10 n).toInt ∧ (b 10 n).toInt ≤ (b 11 n).toInt ∧ (b 11 n).toInt ≤ 100) ∧
  ∀ i, i < a 6 → 1 ≤ (b 16 i).toInt ∧ (b 16 i).toInt ≤ 100 ∧ (b 17 i = 0 ∨ b 17 i = 1) ∧ ∀ n, n < a 4 → -100 ≤ (nu i n).toInt ∧ (nu i n).toInt ≤ 100
theorem inW_ix {n : Int32} {k : Nat} (hk : k < 2 ^ 30) (h : inW n 0 (nI k - 1) = true) : ∃ j, j < k ∧ n = nI j := by
  simp only [inW, Bool.and_eq_true, decide_eq_true_eq] at h
  obtain ⟨h1, h2⟩ := h
  have h0 : ¬ n < 0 := by
    rw [Int32.lt_iff_toInt_lt]; rw [Int32.le_iff_toInt_le] at h1; omega
  obtain ⟨j, hj, rfl⟩ := nI_of h0
  refine ⟨j, ?_, rfl⟩
  cases k with
  | zero =>
    exfalso
    rw [Int32.le_iff_toInt_le, nI_toInt hj] at h2
    have : (nI 0 - 1 : Int32).toInt = -1 := by decide
    omega
  | succ k =>
    rw [nI_pred] at h2
    have := (nI_leI hj (by omega)).mp h2
    omega
theorem inW_no {n : Int32} {k : Nat} (hk : k < 2 ^ 30) (j : Nat) (hj : j < k) (h : n = nI j) : inW n 0 (nI k - 1) = true := by
  subst h
  cases k with
  | zero => omega
  | succ k =>
    rw [nI_pred]
    simp only [inW, Bool.and_eq_true, decide_eq_true_eq]
    exact ⟨nI_pos' (by omega), (nI_leI (by omega) (by omega)).mpr (by omega)⟩
/-- counted futures, their odds -/
def cntF (b : Nat → Nat → Int32) : Nat → Int32
  | 0 => 0
  | i + 1 => if b 17 i = 0 then cntF b i + 1 else cntF b i
def odsF (b : Nat → Nat → Int32) : Nat → Int32
  | 0 => 0
  | i + 1 => if b 17 i = 0 then odsF b i + b 16 i else odsF b i
/-- whether a term is taken, is of a row; what it comes to -/
def tkF (b : Nat → Nat → Int32) (plan : Int32) (t : Nat) : Bool := decide (b 13 t < 0) || decide ((plan >>> (b 13 t &&& 31)) &&& 1 = 1)
def onF (b : Nat → Nat → Int32) (plan row : Int32) (t : Nat) : Bool := decide (b 12 t = row) && tkF b plan t
def vaF (b : Nat → Nat → Int32) (num : Nat → Int32) (t : Nat) : Int32 := if b 14 t < 0 then 1 else num (b 14 t).toNatClampNeg
def sumF (b : Nat → Nat → Int32) (num : Nat → Int32) (plan row : Int32) : Nat → Int32
  | 0 => 0
  | t + 1 => if onF b plan row t then sumF b num plan row t + b 15 t * vaF b num t else sumF b num plan row t
/-- what a call puts into numbers -/
def piF (g : Nat → Nat → Int32) (c n : Nat) (v : Int32) : Nat → Nat → Int32 := fun k => if 19 ≤ k ∧ k < 19 + c then upd (g k) n v else g k
theorem piF_0 {g : Nat → Nat → Int32} {n : Nat} {v : Int32} : piF g 0 n v = g := by
  funext k; simp only [piF]; rw [if_neg (by omega)]
theorem piF_s {g : Nat → Nat → Int32} {c n : Nat} {v : Int32} : va_up (piF g c n v) (19 + c) (upd (piF g c n v (19 + c)) n v) = piF g (c + 1) n v := by
  funext k
  by_cases hk : k = 19 + c
  · subst hk
    simp only [va_up, piF]
    rw [if_pos trivial, if_neg (by omega), if_pos (by omega)]
  · simp only [va_up, piF]
    rw [if_neg hk]
    by_cases h2 : 19 ≤ k ∧ k < 19 + c
    · rw [if_pos h2, if_pos (by omega)]
    · rw [if_neg h2, if_neg (by omega)]
theorem piF_off {g : Nat → Nat → Int32} {c n k : Nat} {v : Int32} (h : k < 19 ∨ 19 + c ≤ k) : piF g c n v k = g k := by
  simp only [piF]; rw [if_neg (by omega)]
/-- a row's first n places out of another -/
def cpF (f h : Nat → Int32) (n : Nat) : Nat → Int32 := fun k => if k < n then h k else f k
theorem cpF_0 {f h : Nat → Int32} : cpF f h 0 = f := by funext k; simp [cpF]
theorem cpF_s {f h : Nat → Int32} {n : Nat} : upd (cpF f h n) n (h n) = cpF f h (n + 1) := by
  funext k
  by_cases hk : k = n
  · subst hk; simp [upd, cpF]
  · simp only [upd, cpF, if_neg hk]
    by_cases h2 : k < n
    · rw [if_pos h2, if_pos (by omega)]
    · rw [if_neg h2, if_neg (by omega)]
theorem va_uu {α : Type} (f : Nat → α) (k : Nat) (v w : α) : va_up (va_up f k v) k w = va_up f k w := bx_uu f k v w
theorem va_us {α : Type} (f : Nat → α) (k : Nat) (v : α) : va_up f k v k = v := by simp [va_up]
theorem va_un {α : Type} (f : Nat → α) (k j : Nat) (v : α) (h : j ≠ k) : va_up f k v j = f j := by simp [va_up, h]
theorem va_id {α : Type} (f : Nat → α) (k : Nat) : va_up f k (f k) = f := by
  funext j; by_cases h : j = k
  · subst h; simp [va_up]
  · simp [va_up, h]
theorem isI_row {i : Nat} (h : i < 8) : isI (19 + i) = true := by
  have : ∀ i, i < 8 → isI (19 + i) = true := by decide
  exact this i h
theorem LN_row {i : Nat} (h : i < 8) : LN (19 + i) = 12 := by
  have : ∀ i, i < 8 → LN (19 + i) = 12 := by decide
  exact this i h
