def plOk (a : Nat → Nat) (p : Int32) : Bool := inW p 0 (pcF (a 1) (a 2) - 1)
def rwOk (a : Nat → Nat) (r : Int32) : Bool := inW r (-1) (nI (a 0) - 1)
def fiOk (a : Nat → Nat) (f : Int32) : Bool := inW f 0 (fcF (a 1) - 1)
def fuOk (a : Nat → Nat) (f : Int32) : Bool := inW f 0 (nI (a 6) - 1)
def neOk (a : Nat → Nat) (n : Int32) : Bool := inW n 0 (nI (a 4) - 1)
def toldF (a : Nat → Nat) (b : Nat → Nat → Int32) (w : Int32) : Int32 := if w = 0 then nI (a 4) else if w = 1 then nI (a 0) else if w = 2 then nI (a 5) else if w = 3 then nI (a 6) else if w = 4 then cntF b (a 6) else if w = 5 then nI (a 1) else if w = 6 then nI (a 2) else if w = 7 then nI (a 3) else -1000000001
theorem told_out {w : Int32} (h0 : ¬ w = 0) (h1 : ¬ w = 1) (h2 : ¬ w = 2) (h3 : ¬ w = 3) (h4 : ¬ w = 4) (h5 : ¬ w = 5) (h6 : ¬ w = 6) (h7 : ¬ w = 7) : w.toInt < 0 ∨ 7 < w.toInt := by
  have f : ∀ k : Int32, ¬ w = k → w.toInt ≠ k.toInt := fun k h e => h (Int32.toInt_inj.mp e)
  have g0 := f 0 h0
  have g1 := f 1 h1
  have g2 := f 2 h2
  have g3 := f 3 h3
  have g4 := f 4 h4
  have g5 := f 5 h5
  have g6 := f 6 h6
  have g7 := f 7 h7
  have e0 : (0 : Int32).toInt = 0 := by decide
  have e1 : (1 : Int32).toInt = 1 := by decide
  have e2 : (2 : Int32).toInt = 2 := by decide
  have e3 : (3 : Int32).toInt = 3 := by decide
  have e4 : (4 : Int32).toInt = 4 := by decide
  have e5 : (5 : Int32).toInt = 5 := by decide
  have e6 : (6 : Int32).toInt = 6 := by decide
  have e7 : (7 : Int32).toInt = 7 := by decide
  omega
theorem told_no {a : Nat → Nat} {b : Nat → Nat → Int32} {w : Int32} (h0 : ¬ w = 0) (h1 : ¬ w = 1) (h2 : ¬ w = 2) (h3 : ¬ w = 3) (h4 : ¬ w = 4) (h5 : ¬ w = 5) (h6 : ¬ w = 6) (h7 : ¬ w = 7) : toldF a b w = -1000000001 := by
  unfold toldF
  rw [if_neg h0, if_neg h1, if_neg h2, if_neg h3, if_neg h4, if_neg h5, if_neg h6, if_neg h7]
def comR (a : Nat → Nat) (b nu : Nat → Nat → Int32) (plan row fu : Int32) : Int32 := if plOk a plan && rwOk a row && inW fu (-1) (nI (a 6) - 1) then sumF b (if fu < 0 then b 10 else nu fu.toNatClampNeg) plan row (a 5) else -1000000001
def woR (a : Nat → Nat) (b : Nat → Nat → Int32) (plan row : Int32) : Int32 := if plOk a plan && rwOk a row then (wsF a b plan row).2.2 else -1000000001
def wnR (a : Nat → Nat) (b : Nat → Nat → Int32) (plan row nm : Int32) : Int32 := if plOk a plan && rwOk a row && neOk a nm then (wsF a b plan row).2.1 nm.toNatClampNeg else -1000000001
def brR (a : Nat → Nat) (b : Nat → Nat → Int32) (plan : Int32) : Int32 := if plOk a plan then fbF a b plan (a 0) else -1000000001
def anR (a : Nat → Nat) (b nu : Nat → Nat → Int32) (first fu : Int32) : Int32 := if fiOk a first && fuOk a fu then ansF a b nu first fu.toNatClampNeg else -1000000001
def odB (a : Nat → Nat) (b : Nat → Nat → Int32) : Nat := (odsF b (a 6)).toNatClampNeg
def meR (a : Nat → Nat) (b nu : Nat → Nat → Int32) (first part : Int32) : Int32 := if fiOk a first && inW part 0 1 then (if cbF a b nu first = -1000000003 then -1000000003 else frF (cbF a b nu first) (odB a b) part) else -1000000001
def bsR (a : Nat → Nat) (b nu : Nat → Nat → Int32) (fu : Int32) : Int32 := if fuOk a fu then lcF a b nu fu.toNatClampNeg else -1000000001
def reR (a : Nat → Nat) (b nu : Nat → Nat → Int32) (first : Int32) : Int32 := if fiOk a first then rgF a b nu first else -1000000001
def waN (a : Nat → Nat) (b nu : Nat → Nat → Int32) (v : Int32) : Nat → Int32
  | 0 => v
  | i + 1 => if b 17 i = 0 then waN a b nu v i - b 16 i * lcF a b nu i else waN a b nu v i
def waR (a : Nat → Nat) (b nu : Nat → Nat → Int32) (part : Int32) : Int32 := if inW part 0 1 then (if twF a b nu = -1000000003 then -1000000003 else frF (waN a b nu (cbF a b nu (twF a b nu)) (a 6)) (odB a b) part) else -1000000001
def chN (a : Nat → Nat) (b nu : Nat → Nat → Int32) (plan : Int32) : Nat → Int32
  | 0 => 0
  | i + 1 => if b 17 i = 0 ∧ hoF a b nu plan i = true then chN a b nu plan i + b 16 i else chN a b nu plan i
def chR (a : Nat → Nat) (b nu : Nat → Nat → Int32) (plan part : Int32) : Int32 := if plOk a plan && inW part 0 1 then (if odsF b (a 6) = 0 then -1000000003 else frF (chN a b nu plan (a 6)) (odB a b) part) else -1000000001
theorem od_nat {a : Nat → Nat} {b nu : Nat → Nat → Int32} (hW : WF a b nu) : odsF b (a 6) = nI (odB a b) ∧ odB a b < 2 ^ 10 ∧ (¬ odsF b (a 6) = 0 → 0 < odB a b) := by
  obtain ⟨⟨w0, ⟨w1, w1'⟩, w2, w3, w4, w5, w6⟩, wt, wn, wq⟩ := id hW
  obtain ⟨c, o, h1, h2, h3, h4, h5⟩ := cnt_ods hW (a 6) (Nat.le_refl _)
  have e : odB a b = o := by unfold odB; rw [h2]; exact nI_clamp (by omega)
  refine ⟨by rw [e]; exact h2, by omega, fun h => ?_⟩
  have : ¬ o = 0 := fun q => h (by rw [h2, q]; rfl)
  omega
theorem cb_bd {a : Nat → Nat} {b nu : Nat → Nat → Int32} (hW : WF a b nu) {first : Int32} (h : ¬ cbF a b nu first = -1000000003) : ¬ odsF b (a 6) = 0 ∧ cbF a b nu first = toF a b nu first ∧ -64000000 ≤ (cbF a b nu first).toInt ∧ (cbF a b nu first).toInt ≤ 64000000 ∧ ∃ v, toS a b nu first (a 6) = some v := by
  obtain ⟨⟨w0, ⟨w1, w1'⟩, w2, w3, w4, w5, w6⟩, wt, wn, wq⟩ := id hW
  have h0 : ¬ odsF b (a 6) = 0 := fun q => h (if_pos q)
  have e : cbF a b nu first = toF a b nu first := if_neg h0
  cases ht : toS a b nu first (a 6) with
  | none => exact absurd (by rw [e]; exact (to_nn hW).mpr ht) h
  | some v =>
    have := to_bd hW first (a 6) (Nat.le_refl _) v ht
    have e2 : toF a b nu first = v := by unfold toF; rw [ht]; rfl
    refine ⟨h0, e, ?_, ?_, v, rfl⟩
    · rw [e, e2]; omega
    · rw [e, e2]; omega
theorem tw_spec {a : Nat → Nat} {b nu : Nat → Nat → Int32} (hW : WF a b nu) (h : ¬ twF a b nu = -1000000003) : ∃ f, f < 2 ^ a 1 ∧ twF a b nu = nI f ∧ ¬ cbF a b nu (nI f) = -1000000003 := by
  obtain ⟨⟨w0, ⟨w1, w1'⟩, w2, w3, w4, w5, w6⟩, wt, wn, wq⟩ := id hW
  have hb := p2_le (k := a 1) (by omega)
  rcases sel_spec (ok := fun f => !decide (cbF a b nu (nI f) = -1000000003)) (key := fun f => cbF a b nu (nI f)) (val := nI) (2 ^ a 1) (fun s hs _ => nI_none (by omega)) with ⟨h1, h2⟩ | ⟨s, h1, h2, h3, h4⟩
  · exact absurd (by unfold twF; rw [h1]) h
  · refine ⟨s, h1, by unfold twF; rw [h3], ?_⟩
    have h2 : (!decide (cbF a b nu (nI s) = -1000000003)) = true := h2
    simpa using h2
theorem to_ans {a : Nat → Nat} {b nu : Nat → Nat → Int32} {first v : Int32} {i n : Nat} (h : toS a b nu first n = some v) (hi : i < n) (hk : b 17 i = 0) : ¬ ansF a b nu first i = -1000000003 := fun ha => by
  cases hr : rgS a b nu (fun _ => 0) first n with
  | none => rw [(to_rg n).mpr hr] at h; cases h
  | some w => exact rg_ans hr hi hk ha
theorem lc_bd {a : Nat → Nat} {b nu : Nat → Nat → Int32} (hW : WF a b nu) {f i : Nat} (hf : f < 2 ^ a 1) (hi : i < a 6) (h : ¬ ansF a b nu (nI f) i = -1000000003) : -80000 ≤ (lcF a b nu i).toInt ∧ (lcF a b nu i).toInt ≤ 80000 := by
  rcases min_spec (ok := fun p => hoF a b nu (nI p) i) (key := fun p => coF a b nu (nI p) i) (2 ^ (a 1 + a 2)) (fun s _ _ => co_nn hW _ hi) with ⟨h1, h2⟩ | ⟨s, h1, h2, h3, h4⟩
  · exfalso
    rcases ans_spec hW (i := i) hf with ⟨q1, q2⟩ | ⟨s, q1, q2, q3, q4⟩
    · exact h q1
    · have := h2 _ (pl_lt hf q1)
      rw [show hoF a b nu (nI (f + s * 2 ^ a 1)) i = true from q2] at this
      cases this
  · unfold lcF
    rw [h3]
    exact co_bd hW _ hi
theorem wa_bd {a : Nat → Nat} {b nu : Nat → Nat → Int32} (hW : WF a b nu) {f : Nat} (hf : f < 2 ^ a 1) {v w : Int32} (hv : toS a b nu (nI f) (a 6) = some w) (h1 : -64000000 ≤ v.toInt) (h2 : v.toInt ≤ 64000000) : ∀ i, i ≤ a 6 → -64000000 - 8000000 * (i : Int) ≤ (waN a b nu v i).toInt ∧ (waN a b nu v i).toInt ≤ 64000000 + 8000000 * (i : Int) := by
  obtain ⟨⟨w0, ⟨w1, w1'⟩, w2, w3, w4, w5, w6⟩, wt, wn, wq⟩ := id hW
  intro i
  induction i with
  | zero => intro _; show _ ≤ v.toInt ∧ v.toInt ≤ _; omega
  | succ i ih =>
    intro hi
    have ih := ih (by omega)
    simp only [waN]
    by_cases hk : b 17 i = 0
    · rw [if_pos hk]
      obtain ⟨c1, c2⟩ := lc_bd hW hf (i := i) (by omega) (to_ans hv (by omega) hk)
      obtain ⟨o1, o2, -, -⟩ := wq i (by omega)
      obtain ⟨m1, m2⟩ := abs_mul_le (a := 100) (b := 80000) (by decide) (by decide) (by omega) o2 (by omega) c2
      have e1 : (b 16 i * lcF a b nu i).toInt = (b 16 i).toInt * (lcF a b nu i).toInt := i32_mul (by omega) (by omega)
      rw [i32_sub (by rw [e1]; omega) (by rw [e1]; omega), e1]
      omega
    · rw [if_neg hk]; omega
theorem ch_bd {a : Nat → Nat} {b nu : Nat → Nat → Int32} (hW : WF a b nu) (plan : Int32) : ∀ i, i ≤ a 6 → 0 ≤ (chN a b nu plan i).toInt ∧ (chN a b nu plan i).toInt ≤ 100 * (i : Int) := by
  obtain ⟨⟨w0, ⟨w1, w1'⟩, w2, w3, w4, w5, w6⟩, wt, wn, wq⟩ := id hW
  intro i
  induction i with
  | zero => intro _; have : (chN a b nu plan 0).toInt = 0 := rfl; omega
  | succ i ih =>
    intro hi
    have ih := ih (by omega)
    obtain ⟨o1, o2, -, -⟩ := wq i (by omega)
    simp only [chN]
    by_cases hk : b 17 i = 0 ∧ hoF a b nu plan i = true
    · rw [if_pos hk, i32_add (by omega) (by omega)]; omega
    · rw [if_neg hk]; omega
