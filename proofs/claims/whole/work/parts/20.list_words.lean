/-- scratch of the sums alone -/
def S4 (g g' : Nat → Nat → Int32) : Prop := ∀ k, k ≠ 4 → g' k = g k
theorem S4.rf {g : Nat → Nat → Int32} : S4 g g := fun _ _ => rfl
theorem S4.tr {g g' g2 : Nat → Nat → Int32} (h : S4 g g') (h2 : S4 g' g2) : S4 g g2 := fun k hk => (h2 k hk).trans (h k hk)
theorem S4.sx {g g' : Nat → Nat → Int32} (h : S4 g g') : Sx g g' := fun k hk => h k (by omega)
theorem S4.up {g : Nat → Nat → Int32} {f : Nat → Int32} : S4 g (va_up g 4 f) := fun k hk => va_un g 4 k f hk
/-- whether the first n rows hold -/
def hoN (a : Nat → Nat) (b : Nat → Nat → Int32) (num : Nat → Int32) (plan : Int32) : Nat → Bool
  | 0 => true
  | r + 1 => hoN a b num plan r && !decide (0 < sumF b num plan (nI r) (a 5))
theorem hoN_f {a : Nat → Nat} {b : Nat → Nat → Int32} {num : Nat → Int32} {plan : Int32} {r : Nat} (h : 0 < sumF b num plan (nI r) (a 5)) : ∀ R, r < R → hoN a b num plan R = false := by
  intro R
  induction R with
  | zero => intro h; omega
  | succ R ih =>
    intro hr
    unfold hoN
    by_cases e : r = R
    · subst e; simp [h]
    · rw [ih (by omega)]; rfl
def hoF (a : Nat → Nat) (b nu : Nat → Nat → Int32) (plan : Int32) (i : Nat) : Bool := hoN a b (nu i) plan (a 0)
def coF (a : Nat → Nat) (b nu : Nat → Nat → Int32) (plan : Int32) (i : Nat) : Int32 := sumF b (nu i) plan (-1) (a 5)
theorem slot_s (r : Nat) : nI r - (-1) = nI (r + 1) := by rw [← slot_eq (r + 1), nI_pred]
/-- the best of the first s, by a key, of those that are fit: its value, its key -/
def selS (ok : Nat → Bool) (key val : Nat → Int32) : Nat → Int32 × Int32
  | 0 => (-1000000003, 0)
  | s + 1 => if ok s && (decide ((selS ok key val s).1 = -1000000003) || decide (key s < (selS ok key val s).2)) then (val s, key s) else selS ok key val s
theorem sel_t {ok : Nat → Bool} {key val : Nat → Int32} {s : Nat} {v v2 : Int32} (hq : selS ok key val s = (v, v2)) (hok : ok s = true) (h : v = -1000000003 ∨ key s < v2) : selS ok key val (s + 1) = (val s, key s) := by
  simp only [selS, hq, hok]
  rcases h with h | h <;> simp [h]
theorem sel_n {ok : Nat → Bool} {key val : Nat → Int32} {s : Nat} {v v2 : Int32} (hq : selS ok key val s = (v, v2)) (hok : ok s = false) : selS ok key val (s + 1) = (v, v2) := by
  simp only [selS, hq, hok]; rfl
theorem sel_f {ok : Nat → Bool} {key val : Nat → Int32} {s : Nat} {v v2 : Int32} (hq : selS ok key val s = (v, v2)) (h : ¬ v = -1000000003) (h2 : ¬ key s < v2) : selS ok key val (s + 1) = (v, v2) := by
  simp only [selS, hq, decide_eq_false h, decide_eq_false h2, Bool.or_false, Bool.and_false]; rfl
theorem sel_congr {ok ok' : Nat → Bool} {key key' val val' : Nat → Int32} : ∀ {n : Nat}, (∀ s, s < n → ok s = ok' s) → (∀ s, s < n → ok s = true → key s = key' s) → (∀ s, s < n → val s = val' s) → selS ok key val n = selS ok' key' val' n := by
  intro n
  induction n with
  | zero => intros; rfl
  | succ n ih =>
    intro h1 h2 h3
    have e := ih (fun s hs => h1 s (by omega)) (fun s hs => h2 s (by omega)) (fun s hs => h3 s (by omega))
    simp only [selS]
    rw [e, h3 n (by omega)]
    cases ho : ok n with
    | false => rw [← h1 n (by omega), ho]; rfl
    | true => rw [← h1 n (by omega), ho, h2 n (by omega) ho]
theorem sel_none {ok : Nat → Bool} {key val : Nat → Int32} : ∀ {n : Nat}, (∀ s, s < n → ok s = false) → selS ok key val n = (-1000000003, 0) := by
  intro n
  induction n with
  | zero => intros; rfl
  | succ n ih =>
    intro h
    exact sel_n (ih (fun s hs => h s (by omega))) (h n (by omega))
/-- the least key of those that are fit -/
def minS (ok : Nat → Bool) (key : Nat → Int32) : Nat → Int32
  | 0 => -1000000003
  | s + 1 => if ok s && (decide (minS ok key s = -1000000003) || decide (key s < minS ok key s)) then key s else minS ok key s
theorem min_t {ok : Nat → Bool} {key : Nat → Int32} {s : Nat} {v : Int32} (hq : minS ok key s = v) (hok : ok s = true) (h : v = -1000000003 ∨ key s < v) : minS ok key (s + 1) = key s := by
  simp only [minS, hq, hok]
  rcases h with h | h <;> simp [h]
theorem min_n {ok : Nat → Bool} {key : Nat → Int32} {s : Nat} {v : Int32} (hq : minS ok key s = v) (hok : ok s = false) : minS ok key (s + 1) = v := by
  simp only [minS, hq, hok]; rfl
theorem min_f {ok : Nat → Bool} {key : Nat → Int32} {s : Nat} {v : Int32} (hq : minS ok key s = v) (h : ¬ v = -1000000003) (h2 : ¬ key s < v) : minS ok key (s + 1) = v := by
  simp only [minS, hq, decide_eq_false h, decide_eq_false h2, Bool.or_false, Bool.and_false]; rfl
/-- the plan of a first part and the s-th second part -/
def plF (a : Nat → Nat) (first : Int32) (s : Nat) : Int32 := first ||| (nI s <<< (nI (a 1) &&& 31))
def ansF (a : Nat → Nat) (b nu : Nat → Nat → Int32) (first : Int32) (i : Nat) : Int32 := (selS (fun s => hoF a b nu (plF a first s) i) (fun s => coF a b nu (plF a first s) i) (plF a first) (2 ^ a 2)).1
/-- odds times costs of the answers, over the first n futures: none if one is wanting -/
def toS (a : Nat → Nat) (b nu : Nat → Nat → Int32) (first : Int32) : Nat → Option Int32
  | 0 => some 0
  | i + 1 => match toS a b nu first i with
    | none => none
    | some v => if b 17 i = 0 then (if ansF a b nu first i = -1000000003 then none else some (v + b 16 i * coF a b nu (ansF a b nu first i) i)) else some v
theorem toS_k {a : Nat → Nat} {b nu : Nat → Nat → Int32} {first v : Int32} {i : Nat} (h : toS a b nu first i = some v) (hk : ¬ b 17 i = 0) : toS a b nu first (i + 1) = some v := by simp [toS, h, hk]
theorem toS_n {a : Nat → Nat} {b nu : Nat → Nat → Int32} {first v : Int32} {i : Nat} (h : toS a b nu first i = some v) (hk : b 17 i = 0) (ha : ansF a b nu first i = -1000000003) : ∀ n, toS a b nu first (i + 1 + n) = none := by
  intro n
  induction n with
  | zero => simp [toS, h, hk, ha]
  | succ n ih => rw [← Nat.add_assoc]; simp only [toS]; rw [ih]
theorem toS_s {a : Nat → Nat} {b nu : Nat → Nat → Int32} {first v : Int32} {i : Nat} (h : toS a b nu first i = some v) (hk : b 17 i = 0) (ha : ¬ ansF a b nu first i = -1000000003) : toS a b nu first (i + 1) = some (v + b 16 i * coF a b nu (ansF a b nu first i) i) := by simp [toS, h, hk, ha]
def opN (o : Option Int32) : Int32 := match o with
  | none => -1000000003
  | some v => v
def toF (a : Nat → Nat) (b nu : Nat → Nat → Int32) (first : Int32) : Int32 := opN (toS a b nu first (a 6))
def cbF (a : Nat → Nat) (b nu : Nat → Nat → Int32) (first : Int32) : Int32 := if odsF b (a 6) = 0 then -1000000003 else toF a b nu first
def twF (a : Nat → Nat) (b nu : Nat → Nat → Int32) : Int32 := (selS (fun f => !decide (cbF a b nu (nI f) = -1000000003)) (fun f => cbF a b nu (nI f)) nI (2 ^ a 1)).1
/-- the best in a future -/
def lcF (a : Nat → Nat) (b nu : Nat → Nat → Int32) (i : Nat) : Int32 := minS (fun p => hoF a b nu (nI p) i) (fun p => coF a b nu (nI p) i) (2 ^ (a 1 + a 2))
/-- the greatest regret over the first n futures, with the bests be -/
def rgS (a : Nat → Nat) (b nu : Nat → Nat → Int32) (be : Nat → Int32) (first : Int32) : Nat → Option Int32
  | 0 => some 0
  | i + 1 => match rgS a b nu be first i with
    | none => none
    | some v => if b 17 i = 0 then (if ansF a b nu first i = -1000000003 then none else some (if v < coF a b nu (ansF a b nu first i) i - be i then coF a b nu (ansF a b nu first i) i - be i else v)) else some v
theorem rgS_k {a : Nat → Nat} {b nu : Nat → Nat → Int32} {be : Nat → Int32} {first v : Int32} {i : Nat} (h : rgS a b nu be first i = some v) (hk : ¬ b 17 i = 0) : rgS a b nu be first (i + 1) = some v := by simp [rgS, h, hk]
theorem rgS_n {a : Nat → Nat} {b nu : Nat → Nat → Int32} {be : Nat → Int32} {first v : Int32} {i : Nat} (h : rgS a b nu be first i = some v) (hk : b 17 i = 0) (ha : ansF a b nu first i = -1000000003) : ∀ n, rgS a b nu be first (i + 1 + n) = none := by
  intro n
  induction n with
  | zero => simp [rgS, h, hk, ha]
  | succ n ih => rw [← Nat.add_assoc]; simp only [rgS]; rw [ih]
theorem rgS_s {a : Nat → Nat} {b nu : Nat → Nat → Int32} {be : Nat → Int32} {first v : Int32} {i : Nat} (h : rgS a b nu be first i = some v) (hk : b 17 i = 0) (ha : ¬ ansF a b nu first i = -1000000003) : rgS a b nu be first (i + 1) = some (if v < coF a b nu (ansF a b nu first i) i - be i then coF a b nu (ansF a b nu first i) i - be i else v) := by simp [rgS, h, hk, ha]
def rgF (a : Nat → Nat) (b nu : Nat → Nat → Int32) (first : Int32) : Int32 := if odsF b (a 6) = 0 then -1000000003 else opN (rgS a b nu (lcF a b nu) first (a 6))
def cmF (a : Nat → Nat) (b nu : Nat → Nat → Int32) : Int32 := (selS (fun f => !decide (rgF a b nu (nI f) = -1000000003)) (fun f => rgF a b nu (nI f)) nI (2 ^ a 1)).1
/-- the safest plan -/
def sfF (a : Nat → Nat) (b : Nat → Nat → Int32) : Int32 := (selS (fun p => decide (fbF a b (nI p) (a 0) = -1000000003)) (fun p => (wsF a b (nI p) (-1)).2.2) nI (2 ^ (a 1 + a 2))).1
theorem fcF_eq {k : Nat} (h : k ≤ 10) : (1 : Int32) <<< (nI k &&& 31) = nI (2 ^ k) := by
  have : ∀ k, k < 11 → (1 : Int32) <<< (nI k &&& 31) = nI (2 ^ k) := by decide
  exact this k (by omega)
theorem pcF_eq {f s : Nat} (h : f + s ≤ 10) : (1 : Int32) <<< ((nI f + nI s) &&& 31) = nI (2 ^ (f + s)) := by rw [nI_add]; exact fcF_eq h
theorem p2_le {k : Nat} (h : k ≤ 10) : 2 ^ k ≤ 1024 := Nat.pow_le_pow_right (n := 2) (by decide) h
