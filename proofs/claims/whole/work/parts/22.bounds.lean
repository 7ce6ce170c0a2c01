theorem i32_add {u v : Int32} (h1 : -2147483648 ≤ u.toInt + v.toInt) (h2 : u.toInt + v.toInt < 2147483648) : (u + v).toInt = u.toInt + v.toInt := by
  rw [Int32.toInt_add]; exact Int.bmod_eq_of_le (by omega) (by omega)
theorem i32_sub {u v : Int32} (h1 : -2147483648 ≤ u.toInt - v.toInt) (h2 : u.toInt - v.toInt < 2147483648) : (u - v).toInt = u.toInt - v.toInt := by
  rw [Int32.toInt_sub]; exact Int.bmod_eq_of_le (by omega) (by omega)
theorem i32_mul {u v : Int32} (h1 : -2147483648 ≤ u.toInt * v.toInt) (h2 : u.toInt * v.toInt < 2147483648) : (u * v).toInt = u.toInt * v.toInt := by
  rw [Int32.toInt_mul]; exact Int.bmod_eq_of_le (by omega) (by omega)
theorem abs_mul_le {x y a b : Int} (ha : 0 ≤ a) (hb : 0 ≤ b) (h1 : -a ≤ x) (h2 : x ≤ a) (h3 : -b ≤ y) (h4 : y ≤ b) : -(a * b) ≤ x * y ∧ x * y ≤ a * b := by
  have h : x.natAbs * y.natAbs ≤ a.toNat * b.toNat := Nat.mul_le_mul (by omega) (by omega)
  have e1 : (x * y).natAbs = x.natAbs * y.natAbs := Int.natAbs_mul x y
  have e2 : a * b = ((a.toNat * b.toNat : Nat) : Int) := by
    rw [Int.natCast_mul, Int.toNat_of_nonneg ha, Int.toNat_of_nonneg hb]
  omega
/-- counted futures and their odds -/
theorem cnt_ods {a : Nat → Nat} {b nu : Nat → Nat → Int32} (hW : WF a b nu) : ∀ i, i ≤ a 6 → ∃ c o : Nat, cntF b i = nI c ∧ odsF b i = nI o ∧ c ≤ i ∧ c ≤ o ∧ o ≤ 100 * c := by
  obtain ⟨⟨w0, ⟨w1, w1'⟩, w2, w3, w4, w5, w6⟩, wt, wn, wq⟩ := id hW
  intro i
  induction i with
  | zero => intro _; exact ⟨0, 0, rfl, rfl, by omega, by omega, by omega⟩
  | succ i ih =>
    intro hi
    obtain ⟨c, o, h1, h2, h3, h4, h5⟩ := ih (by omega)
    obtain ⟨q1, q2, q3, -⟩ := wq i (by omega)
    simp only [cntF, odsF]
    by_cases hk : b 17 i = 0
    · rw [if_pos hk, if_pos hk, h1, h2]
      have h0 : ¬ b 16 i < 0 := by
        rw [Int32.lt_iff_toInt_lt]
        have : (0 : Int32).toInt = 0 := rfl
        omega
      obtain ⟨j, hj, e⟩ := nI_of h0
      have hj2 : (b 16 i).toInt = (j : Int) := by rw [e]; exact nI_toInt hj
      refine ⟨c + 1, o + j, nI_1 c, ?_, by omega, by omega, by omega⟩
      rw [e, nI_add]
    · rw [if_neg hk, if_neg hk]
      exact ⟨c, o, h1, h2, by omega, h4, h5⟩
theorem cnt_0 {a : Nat → Nat} {b nu : Nat → Nat → Int32} (hW : WF a b nu) : (cntF b (a 6) = 0 ↔ odsF b (a 6) = 0) ∧ (cntF b (a 6) ≤ 0 ↔ odsF b (a 6) = 0) := by
  obtain ⟨⟨w0, ⟨w1, w1'⟩, w2, w3, w4, w5, w6⟩, wt, wn, wq⟩ := id hW
  obtain ⟨c, o, h1, h2, h3, h4, h5⟩ := cnt_ods hW (a 6) (Nat.le_refl _)
  rw [h1, h2]
  have e0 : (0 : Int32) = nI 0 := rfl
  rw [e0, nI_eq (by omega) (by omega), nI_eq (by omega) (by omega), nI_leI (by omega) (by omega)]
  omega
theorem va_bd {a : Nat → Nat} {b nu : Nat → Nat → Int32} (hW : WF a b nu) {num : Nat → Int32} (hn : ∀ n, n < a 4 → -100 ≤ (num n).toInt ∧ (num n).toInt ≤ 100) {t : Nat} (ht : t < a 5) : -100 ≤ (vaF b num t).toInt ∧ (vaF b num t).toInt ≤ 100 := by
  obtain ⟨⟨w0, ⟨w1, w1'⟩, w2, w3, w4, w5, w6⟩, wt, wn, wq⟩ := id hW
  obtain ⟨-, -, hnm, -, -⟩ := wt t ht
  unfold vaF
  rcases hnm with h | ⟨n, h1, h2⟩
  · rw [if_pos (by rw [h]; decide)]
    have : (1 : Int32).toInt = 1 := rfl
    omega
  · rw [if_neg (by rw [h2]; exact nI_pos (by omega)), h2, nI_clamp (by omega)]
    exact hn n h1
theorem sum_bd {a : Nat → Nat} {b nu : Nat → Nat → Int32} (hW : WF a b nu) {num : Nat → Int32} (hn : ∀ n, n < a 4 → -100 ≤ (num n).toInt ∧ (num n).toInt ≤ 100) (plan row : Int32) : ∀ t, t ≤ a 5 → -(2000 * (t : Int)) ≤ (sumF b num plan row t).toInt ∧ (sumF b num plan row t).toInt ≤ 2000 * (t : Int) := by
  obtain ⟨⟨w0, ⟨w1, w1'⟩, w2, w3, w4, w5, w6⟩, wt, wn, wq⟩ := id hW
  intro t
  induction t with
  | zero =>
    intro _
    have : (sumF b num plan row 0).toInt = 0 := rfl
    omega
  | succ t ih =>
    intro ht
    have ih := ih (by omega)
    obtain ⟨-, -, -, f1, f2⟩ := wt t (by omega)
    obtain ⟨v1, v2⟩ := va_bd hW hn (t := t) (by omega)
    obtain ⟨m1, m2⟩ := abs_mul_le (a := 20) (b := 100) (by decide) (by decide) (by omega) f2 (by omega) v2
    simp only [sumF]
    cases onF b plan row t with
    | false =>
      simp only [Bool.false_eq_true, if_false]
      omega
    | true =>
      simp only [if_true]
      have e1 : (b 15 t * vaF b num t).toInt = (b 15 t).toInt * (vaF b num t).toInt := i32_mul (by omega) (by omega)
      rw [i32_add (by rw [e1]; omega) (by rw [e1]; omega), e1]
      omega
theorem co_bd {a : Nat → Nat} {b nu : Nat → Nat → Int32} (hW : WF a b nu) (plan : Int32) {i : Nat} (hi : i < a 6) : -80000 ≤ (coF a b nu plan i).toInt ∧ (coF a b nu plan i).toInt ≤ 80000 := by
  obtain ⟨⟨w0, ⟨w1, w1'⟩, w2, w3, w4, w5, w6⟩, wt, wn, wq⟩ := id hW
  have := sum_bd hW (wq i hi).2.2.2 plan (-1) (a 5) (Nat.le_refl _)
  unfold coF
  omega
theorem none_int : (-1000000003 : Int32).toInt = -1000000003 := by decide
theorem co_nn {a : Nat → Nat} {b nu : Nat → Nat → Int32} (hW : WF a b nu) (plan : Int32) {i : Nat} (hi : i < a 6) : ¬ coF a b nu plan i = -1000000003 := fun e => by
  have := co_bd hW plan hi
  rw [e, none_int] at this
  omega
theorem to_bd {a : Nat → Nat} {b nu : Nat → Nat → Int32} (hW : WF a b nu) (first : Int32) : ∀ i, i ≤ a 6 → ∀ v, toS a b nu first i = some v → -(8000000 * (i : Int)) ≤ v.toInt ∧ v.toInt ≤ 8000000 * (i : Int) := by
  obtain ⟨⟨w0, ⟨w1, w1'⟩, w2, w3, w4, w5, w6⟩, wt, wn, wq⟩ := id hW
  intro i
  induction i with
  | zero =>
    intro _ v h
    cases h
    decide
  | succ i ih =>
    intro hi v h
    cases ht : toS a b nu first i with
    | none => simp [toS, ht] at h
    | some u =>
      have hu := ih (by omega) u ht
      by_cases hk : b 17 i = 0
      · by_cases ha : ansF a b nu first i = -1000000003
        · simp [toS, ht, hk, ha] at h
        · rw [toS_s ht hk ha] at h
          cases h
          obtain ⟨c1, c2⟩ := co_bd hW (ansF a b nu first i) (i := i) (by omega)
          obtain ⟨o1, o2, -, -⟩ := wq i (by omega)
          obtain ⟨m1, m2⟩ := abs_mul_le (a := 100) (b := 80000) (by decide) (by decide) (by omega) o2 (by omega) c2
          have e1 : (b 16 i * coF a b nu (ansF a b nu first i) i).toInt = (b 16 i).toInt * (coF a b nu (ansF a b nu first i) i).toInt := i32_mul (by omega) (by omega)
          rw [i32_add (by rw [e1]; omega) (by rw [e1]; omega), e1]
          omega
      · rw [toS_k ht hk] at h
        cases h
        omega
theorem to_nn {a : Nat → Nat} {b nu : Nat → Nat → Int32} (hW : WF a b nu) {first : Int32} : toF a b nu first = -1000000003 ↔ toS a b nu first (a 6) = none := by
  obtain ⟨⟨w0, ⟨w1, w1'⟩, w2, w3, w4, w5, w6⟩, wt, wn, wq⟩ := id hW
  unfold toF
  cases h : toS a b nu first (a 6) with
  | none => simp [opN]
  | some v =>
    have := to_bd hW first (a 6) (Nat.le_refl _) v h
    refine ⟨fun e => ?_, fun e => by cases e⟩
    have e : v = -1000000003 := e
    rw [e, none_int] at this
    omega
/-- where the total has all answers, so has the regret, and the other way round -/
theorem to_rg {a : Nat → Nat} {b nu : Nat → Nat → Int32} {be : Nat → Int32} {first : Int32} : ∀ i, (toS a b nu first i = none ↔ rgS a b nu be first i = none) := by
  intro i
  induction i with
  | zero => simp [toS, rgS]
  | succ i ih =>
    cases ht : toS a b nu first i with
    | none =>
      have hr := ih.mp ht
      simp [toS, rgS, ht, hr]
    | some u =>
      cases hr : rgS a b nu be first i with
      | none => rw [ih.mpr hr] at ht; cases ht
      | some w =>
        simp only [toS, rgS, ht, hr]
        by_cases hk : b 17 i = 0
        · by_cases ha : ansF a b nu first i = -1000000003
          · simp [hk, ha]
          · simp [hk, ha]
        · simp [hk]
theorem rg_pos {a : Nat → Nat} {b nu : Nat → Nat → Int32} {be : Nat → Int32} {first : Int32} : ∀ i v, rgS a b nu be first i = some v → 0 ≤ v := by
  intro i
  induction i with
  | zero => intro v h; cases h; decide
  | succ i ih =>
    intro v h
    cases hr : rgS a b nu be first i with
    | none => simp [rgS, hr] at h
    | some w =>
      have hw := ih w hr
      by_cases hk : b 17 i = 0
      · by_cases ha : ansF a b nu first i = -1000000003
        · simp [rgS, hr, hk, ha] at h
        · rw [rgS_s hr hk ha] at h
          cases h
          by_cases hc : w < coF a b nu (ansF a b nu first i) i - be i
          · rw [if_pos hc]; exact Int32.le_of_lt (Int32.lt_of_le_of_lt hw hc)
          · rw [if_neg hc]; exact hw
      · rw [rgS_k hr hk] at h
        cases h
        exact hw
theorem rg_ans {a : Nat → Nat} {b nu : Nat → Nat → Int32} {be : Nat → Int32} {first v : Int32} {i n : Nat} (h : rgS a b nu be first n = some v) (hi : i < n) (hk : b 17 i = 0) : ¬ ansF a b nu first i = -1000000003 := fun ha => by
  cases hr : rgS a b nu be first i with
  | none =>
    have : ∀ k, rgS a b nu be first (i + k) = none := by
      intro k
      induction k with
      | zero => exact hr
      | succ k ih => rw [← Nat.add_assoc]; simp only [rgS]; rw [ih]
    rw [← show i + (n - i) = n by omega, this] at h
    cases h
  | some w =>
    have := rgS_n hr hk ha (n - (i + 1))
    rw [show i + 1 + (n - (i + 1)) = n by omega, h] at this
    cases this
