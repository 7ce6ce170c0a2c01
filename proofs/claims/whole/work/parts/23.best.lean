theorem min_spec {ok : Nat → Bool} {key : Nat → Int32} : ∀ n, (∀ s, s < n → ok s = true → ¬ key s = -1000000003) → (minS ok key n = -1000000003 ∧ ∀ s, s < n → ok s = false) ∨ (∃ s, s < n ∧ ok s = true ∧ minS ok key n = key s ∧ ∀ t, t < n → ok t = true → key s ≤ key t) := by
  intro n
  induction n with
  | zero => intro _; exact Or.inl ⟨rfl, fun s hs => absurd hs (Nat.not_lt_zero s)⟩
  | succ n ih =>
    intro hk
    rcases ih (fun s hs => hk s (by omega)) with ⟨h1, h2⟩ | ⟨s, h1, h2, h3, h4⟩
    · cases ho : ok n with
      | false =>
        refine Or.inl ⟨min_n h1 ho, fun s hs => ?_⟩
        by_cases e : s = n
        · subst e; exact ho
        · exact h2 s (by omega)
      | true =>
        refine Or.inr ⟨n, by omega, ho, min_t h1 ho (Or.inl rfl), fun t ht hto => ?_⟩
        by_cases e : t = n
        · subst e; exact Int32.le_refl _
        · rw [h2 t (by omega)] at hto; cases hto
    · cases ho : ok n with
      | false =>
        refine Or.inr ⟨s, by omega, h2, min_n h3 ho, fun t ht hto => ?_⟩
        by_cases e : t = n
        · subst e; rw [ho] at hto; cases hto
        · exact h4 t (by omega) hto
      | true =>
        by_cases hl : key n < key s
        · refine Or.inr ⟨n, by omega, ho, min_t h3 ho (Or.inr hl), fun t ht hto => ?_⟩
          by_cases e : t = n
          · subst e; exact Int32.le_refl _
          · exact Int32.le_of_lt (Int32.lt_of_lt_of_le hl (h4 t (by omega) hto))
        · refine Or.inr ⟨s, by omega, h2, min_f h3 (hk s (by omega) h2) hl, fun t ht hto => ?_⟩
          by_cases e : t = n
          · subst e; exact Int32.not_lt.mp hl
          · exact h4 t (by omega) hto
theorem sel_spec {ok : Nat → Bool} {key val : Nat → Int32} : ∀ n, (∀ s, s < n → ok s = true → ¬ val s = -1000000003) → (selS ok key val n = (-1000000003, 0) ∧ ∀ s, s < n → ok s = false) ∨ (∃ s, s < n ∧ ok s = true ∧ selS ok key val n = (val s, key s) ∧ ∀ t, t < n → ok t = true → key s ≤ key t) := by
  intro n
  induction n with
  | zero => intro _; exact Or.inl ⟨rfl, fun s hs => absurd hs (Nat.not_lt_zero s)⟩
  | succ n ih =>
    intro hk
    rcases ih (fun s hs => hk s (by omega)) with ⟨h1, h2⟩ | ⟨s, h1, h2, h3, h4⟩
    · cases ho : ok n with
      | false =>
        refine Or.inl ⟨sel_n h1 ho, fun s hs => ?_⟩
        by_cases e : s = n
        · subst e; exact ho
        · exact h2 s (by omega)
      | true =>
        refine Or.inr ⟨n, by omega, ho, sel_t h1 ho (Or.inl rfl), fun t ht hto => ?_⟩
        by_cases e : t = n
        · subst e; exact Int32.le_refl _
        · rw [h2 t (by omega)] at hto; cases hto
    · cases ho : ok n with
      | false =>
        refine Or.inr ⟨s, by omega, h2, sel_n h3 ho, fun t ht hto => ?_⟩
        by_cases e : t = n
        · subst e; rw [ho] at hto; cases hto
        · exact h4 t (by omega) hto
      | true =>
        by_cases hl : key n < key s
        · refine Or.inr ⟨n, by omega, ho, sel_t h3 ho (Or.inr hl), fun t ht hto => ?_⟩
          by_cases e : t = n
          · subst e; exact Int32.le_refl _
          · exact Int32.le_of_lt (Int32.lt_of_lt_of_le hl (h4 t (by omega) hto))
        · refine Or.inr ⟨s, by omega, h2, sel_f h3 (hk s (by omega) h2) hl, fun t ht hto => ?_⟩
          by_cases e : t = n
          · subst e; exact Int32.not_lt.mp hl
          · exact h4 t (by omega) hto
theorem pl_nat : ∀ F, F < 7 → ∀ s, s < 16 → ∀ f, f < 2 ^ F → nI f ||| (nI s <<< (nI F &&& 31)) = nI (f + s * 2 ^ F) := by decide +kernel
theorem plF_nat {a : Nat → Nat} {b nu : Nat → Nat → Int32} (hW : WF a b nu) {f s : Nat} (hf : f < 2 ^ a 1) (hs : s < 2 ^ a 2) : plF a (nI f) s = nI (f + s * 2 ^ a 1) := by
  obtain ⟨⟨w0, ⟨w1, w1'⟩, w2, w3, w4, w5, w6⟩, wt, wn, wq⟩ := id hW
  have : 2 ^ a 2 ≤ 2 ^ 4 := Nat.pow_le_pow_right (by decide) w2
  exact pl_nat (a 1) (by omega) s (by omega) f hf
theorem pl_lt {F S f s : Nat} (hf : f < 2 ^ F) (hs : s < 2 ^ S) : f + s * 2 ^ F < 2 ^ (F + S) := by
  rw [Nat.pow_add]
  calc f + s * 2 ^ F < 2 ^ F + s * 2 ^ F := by omega
    _ = (s + 1) * 2 ^ F := by rw [Nat.add_mul]; omega
    _ ≤ 2 ^ S * 2 ^ F := Nat.mul_le_mul_right _ hs
    _ = 2 ^ F * 2 ^ S := Nat.mul_comm _ _
/-- the answers of all first parts give the best of a future -/
def boF (a : Nat → Nat) (b nu : Nat → Nat → Int32) (i : Nat) : Int32 := minS (fun f => !decide (ansF a b nu (nI f) i = -1000000003)) (fun f => coF a b nu (ansF a b nu (nI f) i) i) (2 ^ a 1)
theorem ans_spec {a : Nat → Nat} {b nu : Nat → Nat → Int32} (hW : WF a b nu) {i f : Nat} (hf : f < 2 ^ a 1) : (ansF a b nu (nI f) i = -1000000003 ∧ ∀ s, s < 2 ^ a 2 → hoF a b nu (nI (f + s * 2 ^ a 1)) i = false) ∨ (∃ s, s < 2 ^ a 2 ∧ hoF a b nu (nI (f + s * 2 ^ a 1)) i = true ∧ ansF a b nu (nI f) i = nI (f + s * 2 ^ a 1) ∧ ∀ t, t < 2 ^ a 2 → hoF a b nu (nI (f + t * 2 ^ a 1)) i = true → coF a b nu (nI (f + s * 2 ^ a 1)) i ≤ coF a b nu (nI (f + t * 2 ^ a 1)) i) := by
  obtain ⟨⟨w0, ⟨w1, w1'⟩, w2, w3, w4, w5, w6⟩, wt, wn, wq⟩ := id hW
  have hb : 2 ^ (a 1 + a 2) ≤ 1024 := p2_le (by omega)
  have hnn : ∀ s, s < 2 ^ a 2 → ¬ plF a (nI f) s = -1000000003 := fun s hs => by
    rw [plF_nat hW hf hs]
    have := pl_lt hf hs
    exact nI_none (by omega)
  unfold ansF
  rcases sel_spec (ok := fun s => hoF a b nu (plF a (nI f) s) i) (key := fun s => coF a b nu (plF a (nI f) s) i) (val := plF a (nI f)) (2 ^ a 2) (fun s hs _ => hnn s hs) with ⟨h1, h2⟩ | ⟨s, h1, h2, h3, h4⟩
  · refine Or.inl ⟨by rw [h1], fun s hs => ?_⟩
    rw [← plF_nat hW hf hs]
    exact h2 s hs
  · refine Or.inr ⟨s, h1, ?_, ?_, fun t ht hto => ?_⟩
    · rw [← plF_nat hW hf h1]; exact h2
    · rw [h3, ← plF_nat hW hf h1]
    · rw [← plF_nat hW hf h1, ← plF_nat hW hf ht]
      rw [← plF_nat hW hf ht] at hto
      exact h4 t ht hto
theorem bo_lc {a : Nat → Nat} {b nu : Nat → Nat → Int32} (hW : WF a b nu) {i : Nat} (hi : i < a 6) : boF a b nu i = lcF a b nu i := by
  obtain ⟨⟨w0, ⟨w1, w1'⟩, w2, w3, w4, w5, w6⟩, wt, wn, wq⟩ := id hW
  have hp : 0 < 2 ^ a 1 := Nat.pow_pos (by decide)
  have split : ∀ p, p < 2 ^ (a 1 + a 2) → p % 2 ^ a 1 < 2 ^ a 1 ∧ p / 2 ^ a 1 < 2 ^ a 2 ∧ p % 2 ^ a 1 + p / 2 ^ a 1 * 2 ^ a 1 = p := fun p h => by
    rw [Nat.pow_add] at h
    refine ⟨Nat.mod_lt _ hp, (Nat.div_lt_iff_lt_mul hp).mpr (by rw [Nat.mul_comm]; exact h), ?_⟩
    rw [Nat.mul_comm]; exact Nat.mod_add_div p (2 ^ a 1)
  unfold boF lcF
  have A := min_spec (ok := fun f => !decide (ansF a b nu (nI f) i = -1000000003)) (key := fun f => coF a b nu (ansF a b nu (nI f) i) i) (2 ^ a 1) (fun s _ _ => co_nn hW _ hi)
  have B := min_spec (ok := fun p => hoF a b nu (nI p) i) (key := fun p => coF a b nu (nI p) i) (2 ^ (a 1 + a 2)) (fun s _ _ => co_nn hW _ hi)
  rcases A with ⟨h1, h2⟩ | ⟨f, h1, h2, h3, h4⟩
  · rcases B with ⟨g1, -⟩ | ⟨p, g1, g2, g3, g4⟩
    · rw [h1, g1]
    · exfalso
      obtain ⟨s1, s2, s3⟩ := split p g1
      rcases ans_spec hW (i := i) s1 with ⟨q1, q2⟩ | ⟨s, q1, q2, q3, q4⟩
      · have := q2 _ s2
        rw [s3] at this
        rw [show hoF a b nu (nI p) i = true from g2] at this
        cases this
      · have := h2 _ s1
        have hn : ¬ ansF a b nu (nI (p % 2 ^ a 1)) i = -1000000003 := by
          rw [q3]
          have := pl_lt s1 q1
          have hb : 2 ^ (a 1 + a 2) ≤ 1024 := p2_le (by omega)
          exact nI_none (by omega)
        simp [hn] at this
  · have hn : ¬ ansF a b nu (nI f) i = -1000000003 := by
      have h2 : (!decide (ansF a b nu (nI f) i = -1000000003)) = true := h2
      simpa using h2
    rcases ans_spec hW (i := i) h1 with ⟨q1, q2⟩ | ⟨s, q1, q2, q3, q4⟩
    · exact absurd q1 hn
    · rcases B with ⟨-, g2⟩ | ⟨p, g1, g2, g3, g4⟩
      · have := g2 _ (pl_lt h1 q1)
        rw [show hoF a b nu (nI (f + s * 2 ^ a 1)) i = true from q2] at this
        cases this
      · rw [h3, g3]
        refine Int32.le_antisymm ?_ ?_
        · obtain ⟨s1, s2, s3⟩ := split p g1
          rcases ans_spec hW (i := i) s1 with ⟨r1, r2⟩ | ⟨s', r1, r2, r3, r4⟩
          · have := r2 _ s2
            rw [s3] at this
            rw [show hoF a b nu (nI p) i = true from g2] at this
            cases this
          · have hn2 : ¬ ansF a b nu (nI (p % 2 ^ a 1)) i = -1000000003 := by
              rw [r3]
              have := pl_lt s1 r1
              have hb : 2 ^ (a 1 + a 2) ≤ 1024 := p2_le (by omega)
              exact nI_none (by omega)
            have k1 := h4 _ s1 (by simp [hn2])
            have k2 := r4 _ s2 (by rw [s3]; exact g2)
            rw [s3] at k2
            refine Int32.le_trans k1 ?_
            show coF a b nu (ansF a b nu (nI (p % 2 ^ a 1)) i) i ≤ _
            rw [r3]
            exact k2
        · have := g4 _ (pl_lt h1 q1) q2
          show coF a b nu (nI p) i ≤ coF a b nu (ansF a b nu (nI f) i) i
          rw [q3]
          exact this
