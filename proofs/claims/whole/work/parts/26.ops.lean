def Fx (x : Nat → Nat) (g : Nat → Nat → Int32) (x' : Nat → Nat) (g' : Nat → Nat → Int32) : Prop := (∀ k, 7 ≤ k → x' k = x k) ∧ ∀ k, 27 ≤ k → g' k = g k
def Fm (x : Nat → Nat) (g : Nat → Nat → Int32) (x' : Nat → Nat) (g' : Nat → Nat → Int32) : Prop := (∀ k, k < 7 → x' k = x k) ∧ ∀ k, k < 27 → g' k = g k
theorem RM.fx {x x' : Nat → Nat} {g g' : Nat → Nat → Int32} {a : Nat → Nat} {b nu : Nat → Nat → Int32} (h : RM x g a b nu) (hf : Fx x g x' g') : RM x' g' a b nu := by
  obtain ⟨⟨h0, h1, h2, h3, h4, h5, h6⟩, hg, hn⟩ := h
  refine ⟨⟨?_, ?_, ?_, ?_, ?_, ?_, ?_⟩, fun k k1 k2 => ?_, fun i hi j hj => ?_⟩
  · rw [hf.1 11 (by decide)]; exact h0
  · rw [hf.1 7 (by decide)]; exact h1
  · rw [hf.1 8 (by decide)]; exact h2
  · rw [hf.1 10 (by decide)]; exact h3
  · rw [hf.1 9 (by decide)]; exact h4
  · rw [hf.1 12 (by decide)]; exact h5
  · rw [hf.1 13 (by decide)]; exact h6
  · rw [hf.2 (k + 19) (by omega)]; exact hg k k1 k2
  · rw [hf.2 37 (by decide)]; exact hn i hi j hj
theorem RX.fm {x x' : Nat → Nat} {g g' : Nat → Nat → Int32} {a : Nat → Nat} {b nu : Nat → Nat → Int32} (h : RX x g a b nu) (hf : Fm x g x' g') : RX x' g' a b nu := by
  obtain ⟨hx, hg, hn⟩ := h
  exact ⟨fun k hk => by rw [hf.1 k hk]; exact hx k hk, fun k k1 k2 => by rw [hf.2 k (by omega)]; exact hg k k1 k2, fun i hi => by rw [hf.2 (19 + i) (by omega)]; exact hn i hi⟩
theorem Fx.rf {x : Nat → Nat} {g : Nat → Nat → Int32} : Fx x g x g := ⟨fun _ _ => rfl, fun _ _ => rfl⟩
theorem Fm.rf {x : Nat → Nat} {g : Nat → Nat → Int32} : Fm x g x g := ⟨fun _ _ => rfl, fun _ _ => rfl⟩
theorem Fx.sx {x : Nat → Nat} {g g' : Nat → Nat → Int32} (h : Sx g g') : Fx x g x g' := ⟨fun _ _ => rfl, fun k hk => h k (by omega)⟩
theorem Fm.sm {x : Nat → Nat} {g g' : Nat → Nat → Int32} (h : Sm g g') : Fm x g x g' := ⟨fun _ _ => rfl, fun k hk => h k (by omega)⟩
/-- FutureSets' end of a call, the reference's -/
def EX (r0 : Int32) (x : Nat → Nat) (g : Nat → Nat → Int32) (a : Nat → Nat) (b nu : Nat → Nat → Int32) : PO := ri (fun r x' g' => r = r0 ∧ RX x' g' a b nu ∧ Fx x g x' g')
def EM (r0 : Int32) (x : Nat → Nat) (g : Nat → Nat → Int32) (a : Nat → Nat) (b nu : Nat → Nat → Int32) : PO := ri (fun r x' g' => r = r0 ∧ RM x' g' a b nu ∧ Fm x g x' g')
-- begin
def beOk (f s : Int32) : Bool := inW f 1 6 && inW s 0 4
def beR (a : Nat → Nat) (f s : Int32) : Int32 := if beOk f s then nI (a 5) else -1000000001
def beA (a : Nat → Nat) (f s : Int32) : Nat → Nat := if beOk f s then (fun k => if k = 1 then f.toNatClampNeg else if k = 2 then s.toNatClampNeg else 0) else a
theorem inW_lit {v : Int32} {lo hi : Nat} (hl : hi < 2 ^ 31) (hlo : lo < 2 ^ 31) (h : inW v (nI lo) (nI hi) = true) : ∃ n, lo ≤ n ∧ n ≤ hi ∧ v = nI n := by
  simp only [inW, Bool.and_eq_true, decide_eq_true_eq] at h
  obtain ⟨h1, h2⟩ := h
  have h0 : ¬ v < 0 := fun q => nI_pos hlo (Int32.lt_of_le_of_lt h1 q)
  obtain ⟨n, hn, rfl⟩ := nI_of h0
  exact ⟨n, (nI_leI hlo hn).mp h1, (nI_leI hn hl).mp h2, rfl⟩
theorem inW_m1 {v : Int32} {k : Nat} (hk : k < 2 ^ 30) (h : inW v (-1) (nI k - 1) = true) : ∃ r, r ≤ k ∧ v = nI r - 1 := by
  by_cases e : v = -1
  · exact ⟨0, by omega, by rw [e]; rfl⟩
  · have h2 : inW v 0 (nI k - 1) = true := by
      simp only [inW, Bool.and_eq_true, decide_eq_true_eq] at h ⊢
      refine ⟨?_, h.2⟩
      have h1 := h.1
      rw [Int32.le_iff_toInt_le] at h1 ⊢
      have e1 : (-1 : Int32).toInt = -1 := by decide
      have e0 : (0 : Int32).toInt = 0 := rfl
      have : v.toInt ≠ -1 := fun q => e (Int32.toInt_inj.mp (q.trans e1.symm))
      omega
    obtain ⟨j, hj, rfl⟩ := inW_ix hk h2
    exact ⟨j + 1, by omega, (nI_pred j).symm⟩
theorem inW_m1' {v : Int32} {k : Nat} (hk : k < 2 ^ 30) (h : inW v (-1) (nI k - 1) = true) : v = -1 ∨ ∃ j, j < k ∧ v = nI j := by
  obtain ⟨r, hr, rfl⟩ := inW_m1 hk h
  cases r with
  | zero => exact Or.inl rfl
  | succ j => exact Or.inr ⟨j, by omega, nI_pred j⟩
theorem beWF {a : Nat → Nat} {b nu : Nat → Nat → Int32} (hW : WF a b nu) (f s : Int32) : WF (beA a f s) b nu := by
  unfold beA
  by_cases h : beOk f s = true
  · rw [if_pos h]
    simp only [beOk, Bool.and_eq_true] at h
    obtain ⟨n, n1, n2, e1⟩ := inW_lit (lo := 1) (hi := 6) (by decide) (by decide) h.1
    obtain ⟨q, q1, q2, e2⟩ := inW_lit (lo := 0) (hi := 4) (by decide) (by decide) h.2
    have c1 : f.toNatClampNeg = n := by rw [e1]; exact nI_clamp (by omega)
    have c2 : s.toNatClampNeg = q := by rw [e2]; exact nI_clamp (by omega)
    refine ⟨⟨by simp, ⟨by simp; omega, by simp; omega⟩, by simp; omega, by simp, by simp, by simp, by simp⟩, fun t ht => ?_, fun t ht => ?_, fun t ht => ?_⟩
    · simp at ht
    · simp at ht
    · simp at ht
  · rw [if_neg h]; exact hW
-- name
def nmOk (lo us hi : Int32) : Bool := decide (lo ≤ us) && decide (us ≤ hi) && decide (-100 ≤ lo) && decide (hi ≤ 100)
def nmR (a : Nat → Nat) (lo us hi : Int32) : Int32 := if nmOk lo us hi then (if a 4 < 12 then nI (a 4) else -1000000002) else -1000000001
def nmC (a : Nat → Nat) (lo us hi : Int32) : Bool := nmOk lo us hi && decide (a 4 < 12)
def nmA (a : Nat → Nat) (lo us hi : Int32) : Nat → Nat := if nmC a lo us hi then va_up a 4 (a 4 + 1) else a
def nmB (a : Nat → Nat) (b : Nat → Nat → Int32) (lo us hi : Int32) : Nat → Nat → Int32 := if nmC a lo us hi then va_up (va_up (va_up b 9 (upd (b 9) (a 4) lo)) 10 (upd (b 10) (a 4) us)) 11 (upd (b 11) (a 4) hi) else b
def nmN (a : Nat → Nat) (nu : Nat → Nat → Int32) (lo us hi : Int32) : Nat → Nat → Int32 := if nmC a lo us hi then (fun i => if i < a 6 then upd (nu i) (a 4) us else nu i) else nu
theorem up_s (f : Nat → Int32) (k : Nat) (v : Int32) : upd f k v k = v := by simp [upd]
theorem up_n (f : Nat → Int32) {k j : Nat} (v : Int32) (h : j ≠ k) : upd f k v j = f j := by simp [upd, h]
theorem nmWF {a : Nat → Nat} {b nu : Nat → Nat → Int32} (hW : WF a b nu) (lo us hi : Int32) : WF (nmA a lo us hi) (nmB a b lo us hi) (nmN a nu lo us hi) := by
  unfold nmA nmB nmN
  by_cases h : nmC a lo us hi = true
  · rw [if_pos h, if_pos h, if_pos h]
    simp only [nmC, nmOk, Bool.and_eq_true, decide_eq_true_eq, Int32.le_iff_toInt_le] at h
    obtain ⟨⟨⟨⟨h1, h2⟩, h3⟩, h4⟩, h5⟩ := h
    have m1 : (-100 : Int32).toInt = -100 := by decide
    have m2 : (100 : Int32).toInt = 100 := by decide
    obtain ⟨⟨w0, ⟨w1, w1'⟩, w2, w3, w4, w5, w6⟩, wt, wn, wq⟩ := id hW
    have u4 : va_up a 4 (a 4 + 1) 4 = a 4 + 1 := va_us _ _ _
    refine ⟨⟨?_, ⟨?_, ?_⟩, ?_, ?_, ?_, ?_, ?_⟩, fun t ht => ?_, fun n hn => ?_, fun i hi => ?_⟩
    · exact w0
    · exact w1
    · exact w1'
    · exact w2
    · exact w3
    · rw [u4]; omega
    · exact w5
    · exact w6
    · obtain ⟨k1, k2, k3, k4, k5⟩ := wt t ht
      refine ⟨k1, k2, ?_, k4, k5⟩
      rw [u4]
      exact k3.imp_right (fun ⟨n, hn, e⟩ => ⟨n, by omega, e⟩)
    · rw [u4] at hn
      show -100 ≤ (upd (b 9) (a 4) lo n).toInt ∧ (upd (b 9) (a 4) lo n).toInt ≤ (upd (b 10) (a 4) us n).toInt ∧ (upd (b 10) (a 4) us n).toInt ≤ (upd (b 11) (a 4) hi n).toInt ∧ (upd (b 11) (a 4) hi n).toInt ≤ 100
      by_cases e : n = a 4
      · rw [e, up_s, up_s, up_s]; omega
      · rw [up_n _ _ e, up_n _ _ e, up_n _ _ e]; exact wn n (by omega)
    · obtain ⟨k1, k2, k3, k4⟩ := wq i hi
      refine ⟨k1, k2, k3, fun n hn => ?_⟩
      rw [u4] at hn
      have hi6 : i < a 6 := hi
      simp only [if_pos hi6]
      by_cases e : n = a 4
      · rw [e, up_s]; omega
      · rw [up_n _ _ e]; exact k4 n (by omega)
  · rw [if_neg h, if_neg h, if_neg h]; exact hW
-- budget
def buR (a : Nat → Nat) (n : Int32) : Int32 := if inW n 0 12 then nI (a 3) else -1000000001
def buA (a : Nat → Nat) (n : Int32) : Nat → Nat := if inW n 0 12 then va_up a 3 n.toNatClampNeg else a
theorem buWF {a : Nat → Nat} {b nu : Nat → Nat → Int32} (hW : WF a b nu) (n : Int32) : WF (buA a n) b nu := by
  unfold buA
  by_cases h : inW n 0 12 = true
  · rw [if_pos h]
    obtain ⟨q, q1, q2, e⟩ := inW_lit (lo := 0) (hi := 12) (by decide) (by decide) h
    have c : n.toNatClampNeg = q := by rw [e]; exact nI_clamp (by omega)
    obtain ⟨⟨w0, ⟨w1, w1'⟩, w2, w3, w4, w5, w6⟩, wt, wn, wq⟩ := id hW
    refine ⟨⟨w0, ⟨w1, w1'⟩, w2, ?_, w4, w5, w6⟩, wt, wn, wq⟩
    rw [va_us, c]; exact q2
  · rw [if_neg h]; exact hW
-- row
def roR (a : Nat → Nat) : Int32 := if a 0 < 10 then nI (a 0) else -1000000002
def roA (a : Nat → Nat) : Nat → Nat := if a 0 < 10 then va_up a 0 (a 0 + 1) else a
theorem roWF {a : Nat → Nat} {b nu : Nat → Nat → Int32} (hW : WF a b nu) : WF (roA a) b nu := by
  unfold roA
  by_cases h : a 0 < 10
  · rw [if_pos h]
    obtain ⟨⟨w0, ⟨w1, w1'⟩, w2, w3, w4, w5, w6⟩, wt, wn, wq⟩ := id hW
    refine ⟨⟨?_, ⟨w1, w1'⟩, w2, w3, w4, w5, w6⟩, fun t ht => ?_, wn, wq⟩
    · rw [va_us]; omega
    · obtain ⟨⟨r, r1, r2⟩, k2, k3, k4, k5⟩ := wt t ht
      exact ⟨⟨r, by rw [va_us]; omega, r2⟩, k2, k3, k4, k5⟩
  · rw [if_neg h]; exact hW
-- term
def teOk (a : Nat → Nat) (row ch nm fc : Int32) : Bool := inW row (-1) (nI (a 0) - 1) && inW ch (-1) (nI (a 1) + nI (a 2) - 1) && inW nm (-1) (nI (a 4) - 1) && inW fc (-20) 20
def teC (a : Nat → Nat) (row ch nm fc : Int32) : Bool := teOk a row ch nm fc && decide (a 5 < 40)
def teR (a : Nat → Nat) (row ch nm fc : Int32) : Int32 := if teOk a row ch nm fc then (if a 5 < 40 then nI (a 5 + 1) else -1000000002) else -1000000001
def teA (a : Nat → Nat) (row ch nm fc : Int32) : Nat → Nat := if teC a row ch nm fc then va_up a 5 (a 5 + 1) else a
def teB (a : Nat → Nat) (b : Nat → Nat → Int32) (row ch nm fc : Int32) : Nat → Nat → Int32 := if teC a row ch nm fc then va_up (va_up (va_up (va_up b 12 (upd (b 12) (a 5) row)) 13 (upd (b 13) (a 5) ch)) 14 (upd (b 14) (a 5) nm)) 15 (upd (b 15) (a 5) fc) else b
theorem teWF {a : Nat → Nat} {b nu : Nat → Nat → Int32} (hW : WF a b nu) (row ch nm fc : Int32) : WF (teA a row ch nm fc) (teB a b row ch nm fc) nu := by
  unfold teA teB
  by_cases h : teC a row ch nm fc = true
  · rw [if_pos h, if_pos h]
    obtain ⟨⟨w0, ⟨w1, w1'⟩, w2, w3, w4, w5, w6⟩, wt, wn, wq⟩ := id hW
    simp only [teC, teOk, Bool.and_eq_true, decide_eq_true_eq] at h
    obtain ⟨⟨⟨⟨h1, h2⟩, h3⟩, h4⟩, h5⟩ := h
    rw [nI_add] at h2
    have g1 := inW_m1 (by omega) h1
    have g2 := inW_m1' (by omega) h2
    have g3 := inW_m1' (by omega) h3
    simp only [inW, Bool.and_eq_true, decide_eq_true_eq, Int32.le_iff_toInt_le] at h4
    have m1 : (-20 : Int32).toInt = -20 := by decide
    have m2 : (20 : Int32).toInt = 20 := by decide
    have u5 : va_up a 5 (a 5 + 1) 5 = a 5 + 1 := va_us _ _ _
    refine ⟨⟨w0, ⟨w1, w1'⟩, w2, w3, w4, by rw [u5]; omega, w6⟩, fun t ht => ?_, wn, wq⟩
    rw [u5] at ht
    show (∃ r, r ≤ a 0 ∧ upd (b 12) (a 5) row t = nI r - 1) ∧ (upd (b 13) (a 5) ch t = -1 ∨ ∃ j, j < a 1 + a 2 ∧ upd (b 13) (a 5) ch t = nI j) ∧ (upd (b 14) (a 5) nm t = -1 ∨ ∃ n, n < a 4 ∧ upd (b 14) (a 5) nm t = nI n) ∧ -20 ≤ (upd (b 15) (a 5) fc t).toInt ∧ (upd (b 15) (a 5) fc t).toInt ≤ 20
    by_cases e : t = a 5
    · rw [e, up_s, up_s, up_s, up_s]; exact ⟨g1, g2, g3, by omega, by omega⟩
    · rw [up_n _ _ e, up_n _ _ e, up_n _ _ e, up_n _ _ e]; exact wt t (by omega)
  · rw [if_neg h, if_neg h]; exact hW
-- future
def fuC (a : Nat → Nat) (od : Int32) : Bool := inW od 1 100 && decide (a 6 < 8)
def fuR (a : Nat → Nat) (od : Int32) : Int32 := if inW od 1 100 then (if a 6 < 8 then nI (a 6) else -1000000002) else -1000000001
def fuA (a : Nat → Nat) (od : Int32) : Nat → Nat := if fuC a od then va_up a 6 (a 6 + 1) else a
def fuB (a : Nat → Nat) (b : Nat → Nat → Int32) (od kp : Int32) : Nat → Nat → Int32 := if fuC a od then va_up (va_up b 16 (upd (b 16) (a 6) od)) 17 (upd (b 17) (a 6) kp) else b
def fuN (a : Nat → Nat) (b nu : Nat → Nat → Int32) (od : Int32) : Nat → Nat → Int32 := if fuC a od then va_up nu (a 6) (cpF (nu (a 6)) (b 10) (a 4)) else nu
theorem fuWF {a : Nat → Nat} {b nu : Nat → Nat → Int32} (hW : WF a b nu) (od kp : Int32) (hk : kp = 0 ∨ kp = 1) : WF (fuA a od) (fuB a b od kp) (fuN a b nu od) := by
  unfold fuA fuB fuN
  by_cases h : fuC a od = true
  · rw [if_pos h, if_pos h, if_pos h]
    obtain ⟨⟨w0, ⟨w1, w1'⟩, w2, w3, w4, w5, w6⟩, wt, wn, wq⟩ := id hW
    simp only [fuC, Bool.and_eq_true, decide_eq_true_eq] at h
    obtain ⟨h1, h2⟩ := h
    obtain ⟨q, q1, q2, e⟩ := inW_lit (lo := 1) (hi := 100) (by decide) (by decide) h1
    have c : od.toInt = (q : Int) := by rw [e]; exact nI_toInt (by omega)
    have u6 : va_up a 6 (a 6 + 1) 6 = a 6 + 1 := va_us _ _ _
    refine ⟨⟨w0, ⟨w1, w1'⟩, w2, w3, w4, w5, by rw [u6]; omega⟩, wt, wn, fun i hi => ?_⟩
    rw [u6] at hi
    show 1 ≤ (upd (b 16) (a 6) od i).toInt ∧ (upd (b 16) (a 6) od i).toInt ≤ 100 ∧ (upd (b 17) (a 6) kp i = 0 ∨ upd (b 17) (a 6) kp i = 1) ∧ ∀ n, n < a 4 → -100 ≤ (va_up nu (a 6) (cpF (nu (a 6)) (b 10) (a 4)) i n).toInt ∧ (va_up nu (a 6) (cpF (nu (a 6)) (b 10) (a 4)) i n).toInt ≤ 100
    by_cases e6 : i = a 6
    · rw [e6, up_s, up_s, va_us]
      refine ⟨by omega, by omega, hk, fun n hn => ?_⟩
      simp only [cpF]
      rw [if_pos hn]
      have := wn n hn
      omega
    · rw [up_n _ _ e6, up_n _ _ e6, va_un _ _ _ _ e6]; exact wq i (by omega)
  · rw [if_neg h, if_neg h, if_neg h]; exact hW
-- set
def seOk (a : Nat → Nat) (b : Nat → Nat → Int32) (fu nm v : Int32) : Bool := inW fu 0 (nI (a 6) - 1) && inW nm 0 (nI (a 4) - 1) && inW v (b 9 nm.toNatClampNeg) (b 11 nm.toNatClampNeg)
def seR (a : Nat → Nat) (b nu : Nat → Nat → Int32) (fu nm v : Int32) : Int32 := if seOk a b fu nm v then nu fu.toNatClampNeg nm.toNatClampNeg else -1000000001
def seN (a : Nat → Nat) (b nu : Nat → Nat → Int32) (fu nm v : Int32) : Nat → Nat → Int32 := if seOk a b fu nm v then va_up nu fu.toNatClampNeg (upd (nu fu.toNatClampNeg) nm.toNatClampNeg v) else nu
theorem seWF {a : Nat → Nat} {b nu : Nat → Nat → Int32} (hW : WF a b nu) (fu nm v : Int32) : WF a b (seN a b nu fu nm v) := by
  unfold seN
  by_cases h : seOk a b fu nm v = true
  · rw [if_pos h]
    obtain ⟨⟨w0, ⟨w1, w1'⟩, w2, w3, w4, w5, w6⟩, wt, wn, wq⟩ := id hW
    simp only [seOk, Bool.and_eq_true] at h
    obtain ⟨⟨h1, h2⟩, h3⟩ := h
    obtain ⟨i0, i1, i2⟩ := inW_ix (by omega) h1
    obtain ⟨n0, n1, n2⟩ := inW_ix (by omega) h2
    rw [n2, nI_clamp (by omega)] at h3
    simp only [inW, Bool.and_eq_true, decide_eq_true_eq, Int32.le_iff_toInt_le] at h3
    rw [i2, n2, nI_clamp (by omega), nI_clamp (by omega)]
    refine ⟨⟨w0, ⟨w1, w1'⟩, w2, w3, w4, w5, w6⟩, wt, wn, fun i hi => ?_⟩
    obtain ⟨k1, k2, k3, k4⟩ := wq i hi
    refine ⟨k1, k2, k3, fun n hn => ?_⟩
    by_cases e : i = i0
    · subst e
      rw [va_us]
      by_cases e2 : n = n0
      · subst e2; rw [up_s]; have := wn n hn; omega
      · rw [up_n _ _ e2]; exact k4 n hn
    · rw [va_un _ _ _ _ e]; exact k4 n hn
  · rw [if_neg h]; exact hW
