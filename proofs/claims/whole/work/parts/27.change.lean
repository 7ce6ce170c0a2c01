theorem up_cg {α : Type} {f f' : Nat → α} {j k : Nat} {v v' : α} (h : k ≠ j → f k = f' k) (hv : v = v') : va_up f j v k = va_up f' j v' k := by
  unfold va_up
  by_cases e : k = j
  · rw [if_pos e, if_pos e, hv]
  · rw [if_neg e, if_neg e]; exact h e
theorem be_bad {a : Nat → Nat} {f s : Int32} (h : beOk f s = false) : beR a f s = -1000000001 ∧ beA a f s = a := by simp [beR, beA, h]
theorem be_ok {a : Nat → Nat} {f s : Int32} (h : beOk f s = true) : beR a f s = nI (a 5) ∧ beA a f s = (fun k => if k = 1 then f.toNatClampNeg else if k = 2 then s.toNatClampNeg else 0) := by simp [beR, beA, h]
theorem nm_bad {a : Nat → Nat} {b nu : Nat → Nat → Int32} {lo us hi : Int32} (h : nmOk lo us hi = false) : nmR a lo us hi = -1000000001 ∧ nmA a lo us hi = a ∧ nmB a b lo us hi = b ∧ nmN a nu lo us hi = nu := by simp [nmR, nmA, nmB, nmN, nmC, h]
theorem nm_full {a : Nat → Nat} {b nu : Nat → Nat → Int32} {lo us hi : Int32} (h : nmOk lo us hi = true) (h2 : ¬ a 4 < 12) : nmR a lo us hi = -1000000002 ∧ nmA a lo us hi = a ∧ nmB a b lo us hi = b ∧ nmN a nu lo us hi = nu := by simp [nmR, nmA, nmB, nmN, nmC, h, h2]
theorem nm_ok {a : Nat → Nat} {b nu : Nat → Nat → Int32} {lo us hi : Int32} (h : nmOk lo us hi = true) (h2 : a 4 < 12) : nmR a lo us hi = nI (a 4) ∧ nmA a lo us hi = va_up a 4 (a 4 + 1) ∧ nmB a b lo us hi = va_up (va_up (va_up b 9 (upd (b 9) (a 4) lo)) 10 (upd (b 10) (a 4) us)) 11 (upd (b 11) (a 4) hi) ∧ nmN a nu lo us hi = (fun i => if i < a 6 then upd (nu i) (a 4) us else nu i) := by simp [nmR, nmA, nmB, nmN, nmC, h, h2]
theorem bu_bad {a : Nat → Nat} {n : Int32} (h : inW n 0 12 = false) : buR a n = -1000000001 ∧ buA a n = a := by simp [buR, buA, h]
theorem bu_ok {a : Nat → Nat} {n : Int32} (h : inW n 0 12 = true) : buR a n = nI (a 3) ∧ buA a n = va_up a 3 n.toNatClampNeg := by simp [buR, buA, h]
theorem ro_full {a : Nat → Nat} (h : ¬ a 0 < 10) : roR a = -1000000002 ∧ roA a = a := by simp [roR, roA, h]
theorem ro_ok {a : Nat → Nat} (h : a 0 < 10) : roR a = nI (a 0) ∧ roA a = va_up a 0 (a 0 + 1) := by simp [roR, roA, h]
theorem te_bad {a : Nat → Nat} {b : Nat → Nat → Int32} {row ch nm fc : Int32} (h : teOk a row ch nm fc = false) : teR a row ch nm fc = -1000000001 ∧ teA a row ch nm fc = a ∧ teB a b row ch nm fc = b := by simp [teR, teA, teB, teC, h]
theorem te_full {a : Nat → Nat} {b : Nat → Nat → Int32} {row ch nm fc : Int32} (h : teOk a row ch nm fc = true) (h2 : ¬ a 5 < 40) : teR a row ch nm fc = -1000000002 ∧ teA a row ch nm fc = a ∧ teB a b row ch nm fc = b := by simp [teR, teA, teB, teC, h, h2]
theorem te_ok {a : Nat → Nat} {b : Nat → Nat → Int32} {row ch nm fc : Int32} (h : teOk a row ch nm fc = true) (h2 : a 5 < 40) : teR a row ch nm fc = nI (a 5 + 1) ∧ teA a row ch nm fc = va_up a 5 (a 5 + 1) ∧ teB a b row ch nm fc = va_up (va_up (va_up (va_up b 12 (upd (b 12) (a 5) row)) 13 (upd (b 13) (a 5) ch)) 14 (upd (b 14) (a 5) nm)) 15 (upd (b 15) (a 5) fc) := by simp [teR, teA, teB, teC, h, h2]
theorem fu_bad {a : Nat → Nat} {b nu : Nat → Nat → Int32} {od kp : Int32} (h : inW od 1 100 = false) : fuR a od = -1000000001 ∧ fuA a od = a ∧ fuB a b od kp = b ∧ fuN a b nu od = nu := by simp [fuR, fuA, fuB, fuN, fuC, h]
theorem fu_full {a : Nat → Nat} {b nu : Nat → Nat → Int32} {od kp : Int32} (h : inW od 1 100 = true) (h2 : ¬ a 6 < 8) : fuR a od = -1000000002 ∧ fuA a od = a ∧ fuB a b od kp = b ∧ fuN a b nu od = nu := by simp [fuR, fuA, fuB, fuN, fuC, h, h2]
theorem fu_ok {a : Nat → Nat} {b nu : Nat → Nat → Int32} {od kp : Int32} (h : inW od 1 100 = true) (h2 : a 6 < 8) : fuR a od = nI (a 6) ∧ fuA a od = va_up a 6 (a 6 + 1) ∧ fuB a b od kp = va_up (va_up b 16 (upd (b 16) (a 6) od)) 17 (upd (b 17) (a 6) kp) ∧ fuN a b nu od = va_up nu (a 6) (cpF (nu (a 6)) (b 10) (a 4)) := by simp [fuR, fuA, fuB, fuN, fuC, h, h2]
theorem se_bad {a : Nat → Nat} {b nu : Nat → Nat → Int32} {fu nm v : Int32} (h : seOk a b fu nm v = false) : seR a b nu fu nm v = -1000000001 ∧ seN a b nu fu nm v = nu := by simp [seR, seN, h]
theorem se_ok {a : Nat → Nat} {b nu : Nat → Nat → Int32} {fu nm v : Int32} (h : seOk a b fu nm v = true) : seR a b nu fu nm v = nu fu.toNatClampNeg nm.toNatClampNeg ∧ seN a b nu fu nm v = va_up nu fu.toNatClampNeg (upd (nu fu.toNatClampNeg) nm.toNatClampNeg v) := by simp [seR, seN, h]
theorem nmOk_t {lo us hi : Int32} (h1 : ¬ us < lo) (h2 : ¬ hi < us) (h3 : ¬ lo < -100) (h4 : hi ≤ 100) : nmOk lo us hi = true := by
  simp only [nmOk, Bool.and_eq_true, decide_eq_true_eq]
  exact ⟨⟨⟨Int32.not_lt.mp h1, Int32.not_lt.mp h2⟩, Int32.not_lt.mp h3⟩, h4⟩
theorem nmOk_f {lo us hi : Int32} (h : us < lo ∨ hi < us ∨ lo < -100 ∨ ¬ hi ≤ 100) : nmOk lo us hi = false := by
  rcases h with h | h | h | h
  · have := Int32.not_le.mpr h; simp [nmOk, this]
  · have := Int32.not_le.mpr h; simp [nmOk, this]
  · have := Int32.not_le.mpr h; simp [nmOk, this]
  · simp [nmOk, h]
theorem RX.nm {x : Nat → Nat} {g : Nat → Nat → Int32} {a : Nat → Nat} {b nu : Nat → Nat → Int32} (hX : RX x g a b nu) (h6 : a 6 ≤ 8) (lo us hi : Int32) : RX (va_up x 4 (x 4 + 1)) (va_up (va_up (va_up (piF g (x 6) (x 4) us) 9 (upd (piF g (x 6) (x 4) us 9) (x 4) lo)) 10 (upd (piF g (x 6) (x 4) us 10) (x 4) us)) 11 (upd (piF g (x 6) (x 4) us 11) (x 4) hi)) (va_up a 4 (a 4 + 1)) (va_up (va_up (va_up b 9 (upd (b 9) (a 4) lo)) 10 (upd (b 10) (a 4) us)) 11 (upd (b 11) (a 4) hi)) (fun i => if i < a 6 then upd (nu i) (a 4) us else nu i) := by
  obtain ⟨hx, hg, hn⟩ := id hX
  have e4 := hx 4 (by decide)
  have e6 := hx 6 (by decide)
  rw [e4, e6]
  refine ⟨fun k hk => up_cg (fun _ => hx k hk) rfl, fun k h1 h2 => ?_, fun i hi => ?_⟩
  · rw [piF_off (g := g) (k := 9) (by omega), piF_off (g := g) (k := 10) (by omega), piF_off (g := g) (k := 11) (by omega), hg 9 (by decide) (by decide), hg 10 (by decide) (by decide), hg 11 (by decide) (by decide)]
    exact up_cg (fun _ => up_cg (fun _ => up_cg (fun _ => by rw [piF_off (by omega)]; exact hg k h1 h2) rfl) rfl) rfl
  · rw [va_un _ _ _ _ (by omega), va_un _ _ _ _ (by omega), va_un _ _ _ _ (by omega)]
    simp only [piF]
    rw [← hn i hi]
    by_cases h : i < a 6
    · rw [if_pos (by omega), if_pos h]
    · rw [if_neg (by omega), if_neg h]
theorem RX.te {x : Nat → Nat} {g : Nat → Nat → Int32} {a : Nat → Nat} {b nu : Nat → Nat → Int32} (hX : RX x g a b nu) (rw0 ch nm fc : Int32) : RX (va_up x 5 (x 5 + 1)) (va_up (va_up (va_up (va_up g 12 (upd (g 12) (x 5) rw0)) 13 (upd (g 13) (x 5) ch)) 14 (upd (g 14) (x 5) nm)) 15 (upd (g 15) (x 5) fc)) (va_up a 5 (a 5 + 1)) (va_up (va_up (va_up (va_up b 12 (upd (b 12) (a 5) rw0)) 13 (upd (b 13) (a 5) ch)) 14 (upd (b 14) (a 5) nm)) 15 (upd (b 15) (a 5) fc)) nu := by
  obtain ⟨hx, hg, hn⟩ := id hX
  have e5 := hx 5 (by decide)
  rw [e5]
  refine ⟨fun k hk => up_cg (fun _ => hx k hk) rfl, fun k h1 h2 => ?_, fun i hi => ?_⟩
  · rw [hg 12 (by decide) (by decide), hg 13 (by decide) (by decide), hg 14 (by decide) (by decide), hg 15 (by decide) (by decide)]
    exact up_cg (fun _ => up_cg (fun _ => up_cg (fun _ => up_cg (fun _ => hg k h1 h2) rfl) rfl) rfl) rfl
  · rw [va_un _ _ _ _ (by omega), va_un _ _ _ _ (by omega), va_un _ _ _ _ (by omega), va_un _ _ _ _ (by omega)]; exact hn i hi
theorem RX.fu {x : Nat → Nat} {g : Nat → Nat → Int32} {a : Nat → Nat} {b nu : Nat → Nat → Int32} (hX : RX x g a b nu) (h6 : a 6 < 8) (od kp : Int32) : RX (va_up x 6 (x 6 + 1)) (va_up (va_up (va_up g 16 (upd (g 16) (x 6) od)) 17 (upd (g 17) (x 6) kp)) (19 + x 6) (cpF (g (19 + x 6)) (g 10) (x 4))) (va_up a 6 (a 6 + 1)) (va_up (va_up b 16 (upd (b 16) (a 6) od)) 17 (upd (b 17) (a 6) kp)) (va_up nu (a 6) (cpF (nu (a 6)) (b 10) (a 4))) := by
  obtain ⟨hx, hg, hn⟩ := id hX
  have e6 := hx 6 (by decide)
  have e4 := hx 4 (by decide)
  rw [e6, e4]
  refine ⟨fun k hk => up_cg (fun _ => hx k hk) rfl, fun k h1 h2 => ?_, fun i hi => ?_⟩
  · rw [va_un _ _ _ _ (by omega), hg 16 (by decide) (by decide), hg 17 (by decide) (by decide)]
    exact up_cg (fun _ => up_cg (fun _ => hg k h1 h2) rfl) rfl
  · by_cases e : i = a 6
    · subst e; rw [va_us, va_us, hn (a 6) hi, hg 10 (by decide) (by decide)]
    · rw [va_un _ _ _ _ (by omega), va_un _ _ _ _ (by omega), va_un _ _ _ _ (by omega), va_un _ _ _ _ e]; exact hn i hi
theorem RX.se {x : Nat → Nat} {g : Nat → Nat → Int32} {a : Nat → Nat} {b nu : Nat → Nat → Int32} (hX : RX x g a b nu) {i0 n0 : Nat} (h6 : i0 < 8) (v : Int32) : RX x (va_up g (19 + i0) (upd (g (19 + i0)) n0 v)) a b (va_up nu i0 (upd (nu i0) n0 v)) := by
  obtain ⟨hx, hg, hn⟩ := id hX
  refine ⟨hx, fun k h1 h2 => ?_, fun i hi => ?_⟩
  · rw [va_un _ _ _ _ (by omega)]; exact hg k h1 h2
  · by_cases e : i = i0
    · subst e; rw [va_us, va_us, hn i hi]
    · rw [va_un _ _ _ _ (by omega), va_un _ _ _ _ e]; exact hn i hi
theorem Fx.up {x x' : Nat → Nat} {g g' : Nat → Nat → Int32} {k : Nat} {f : Nat → Int32} (h : Fx x g x' g') (hk : k < 27) : Fx x g x' (va_up g' k f) := ⟨h.1, fun j hj => by rw [va_un _ _ _ _ (by omega)]; exact h.2 j hj⟩
theorem Fx.ux {x x' : Nat → Nat} {g g' : Nat → Nat → Int32} {k n : Nat} (h : Fx x g x' g') (hk : k < 7) : Fx x g (va_up x' k n) g' := ⟨fun j hj => by rw [va_un _ _ _ _ (by omega)]; exact h.1 j hj, h.2⟩
theorem Fm.up {x x' : Nat → Nat} {g g' : Nat → Nat → Int32} {k : Nat} {f : Nat → Int32} (h : Fm x g x' g') (hk : 27 ≤ k) : Fm x g x' (va_up g' k f) := ⟨h.1, fun j hj => by rw [va_un _ _ _ _ (by omega)]; exact h.2 j hj⟩
theorem Fm.ux {x x' : Nat → Nat} {g g' : Nat → Nat → Int32} {k n : Nat} (h : Fm x g x' g') (hk : 7 ≤ k) : Fm x g (va_up x' k n) g' := ⟨fun j hj => by rw [va_un _ _ _ _ (by omega)]; exact h.1 j hj, h.2⟩
theorem Fx.pi {x x' : Nat → Nat} {g g' : Nat → Nat → Int32} {c n : Nat} {v : Int32} (h : Fx x g x' g') (hc : c ≤ 8) : Fx x g x' (piF g' c n v) := ⟨h.1, fun j hj => by rw [piF_off (by omega)]; exact h.2 j hj⟩
theorem n_X3_startAnew_X0 : ∀ w ∈ wsX00, w ∈ wsX3_startAnew := by decide +kernel
theorem n_X3_startAnew_X1 : ∀ w ∈ wsX10, w ∈ wsX3_startAnew := by decide +kernel
theorem n_X3_startAnew_X2 : ∀ w ∈ wsX20, w ∈ wsX3_startAnew := by decide +kernel
theorem n_X3_startAnew_X3 : ∀ w ∈ wsX30, w ∈ wsX3_startAnew := by decide +kernel
set_option maxHeartbeats 4000000 in
set_option maxRecDepth 100000 in
theorem c_X3_startAnew {l : Launch} {D : va_G} {cI cZ cQ : ClassId} {ad : Nat → Nat} {np : Nat} {x : Nat → Nat} {g : Nat → Nat → Int32} (hnp : 27 ≤ np) {f s0 : Nat} : Cn l D cI cZ cQ ad np 0 yX3_startAnew wsX3_startAnew [.ref (ad 0), .int (nI f), .int (nI s0)] x g (rv (fun x' g' => ((∀ k, 7 ≤ k → x' k = x k) ∧ x' 0 = 0 ∧ x' 1 = f ∧ x' 2 = s0 ∧ x' 3 = 0 ∧ x' 4 = 0 ∧ x' 5 = 0 ∧ x' 6 = 0) ∧ g' = g)) := by
  refine cn_of (own := RX3) (by decide) rfl rfl (by simp [Value.category]) (Nat.le_of_ble_eq_true rfl) ?_
  intro p e s m args below meth c A Q C HR HV
  refine j_aload_n C dX3_startAnew_0 rfl ?_
  refine jg_X3_names C dX3_startAnew_1 n_X3_startAnew_X3 (by decide +kernel) (Nat.lt_of_lt_of_le (by decide) hnp) ?_
  refine j_iconst (v := 0) C dX3_startAnew_4 rfl ?_
  refine jp_X1_count C 0 dX3_startAnew_5 n_X3_startAnew_X1 (by decide +kernel) (Nat.lt_of_lt_of_le (by decide) hnp) rfl ?_
  refine j_aload_n C dX3_startAnew_8 rfl ?_
  refine jg_X3_terms C dX3_startAnew_9 n_X3_startAnew_X3 (by decide +kernel) (Nat.lt_of_lt_of_le (by decide) hnp) ?_
  refine j_iconst (v := 0) C dX3_startAnew_12 rfl ?_
  refine jp_X2_count C 0 dX3_startAnew_13 n_X3_startAnew_X2 (by decide +kernel) (Nat.lt_of_lt_of_le (by decide) hnp) rfl ?_
  refine j_aload_n C dX3_startAnew_16 rfl ?_
  refine jg_X3_listed C dX3_startAnew_17 n_X3_startAnew_X3 (by decide +kernel) (Nat.lt_of_lt_of_le (by decide) hnp) ?_
  refine j_iconst (v := 0) C dX3_startAnew_20 rfl ?_
  refine jp_X0_count C 0 dX3_startAnew_21 n_X3_startAnew_X0 (by decide +kernel) (Nat.lt_of_lt_of_le (by decide) hnp) rfl ?_
  refine j_aload_n C dX3_startAnew_24 rfl ?_
  refine j_iconst (v := 0) C dX3_startAnew_25 rfl ?_
  refine jp_X3_rowCount C 0 dX3_startAnew_26 n_X3_startAnew_X3 (by decide +kernel) (Nat.lt_of_lt_of_le (by decide) hnp) rfl ?_
  refine j_aload_n C dX3_startAnew_29 rfl ?_
  refine j_iload_n C dX3_startAnew_30 rfl ?_
  refine jp_X3_firstCount C f dX3_startAnew_31 n_X3_startAnew_X3 (by decide +kernel) (Nat.lt_of_lt_of_le (by decide) hnp) rfl ?_
  refine j_aload_n C dX3_startAnew_34 rfl ?_
  refine j_iload_n C dX3_startAnew_35 rfl ?_
  refine jp_X3_secondCount C s0 dX3_startAnew_36 n_X3_startAnew_X3 (by decide +kernel) (Nat.lt_of_lt_of_le (by decide) hnp) rfl ?_
  refine j_aload_n C dX3_startAnew_39 rfl ?_
  refine j_iconst (v := 0) C dX3_startAnew_40 rfl ?_
  refine jp_X3_budgetNow C 0 dX3_startAnew_41 n_X3_startAnew_X3 (by decide +kernel) (Nat.lt_of_lt_of_le (by decide) hnp) rfl ?_
  exact HV _ _ _ _ rfl dX3_startAnew_44 ⟨rfl, ⟨fun k hk => by rw [va_un _ _ _ _ (by omega), va_un _ _ _ _ (by omega), va_un _ _ _ _ (by omega), va_un _ _ _ _ (by omega), va_un _ _ _ _ (by omega), va_un _ _ _ _ (by omega), va_un _ _ _ _ (by omega)], rfl, rfl, rfl, rfl, rfl, rfl, rfl⟩, rfl⟩
theorem n_X3_begin_X2 : ∀ w ∈ wsX20, w ∈ wsX3_begin := by decide +kernel
theorem n_X3_begin_X3 : ∀ w ∈ wsX30, w ∈ wsX3_begin := by decide +kernel
set_option maxHeartbeats 4000000 in
set_option maxRecDepth 100000 in
theorem c_X3_begin {l : Launch} {D : va_G} {cI cZ cQ : ClassId} {ad : Nat → Nat} {np : Nat} {x : Nat → Nat} {g : Nat → Nat → Int32} (hnp : 27 ≤ np) {a : Nat → Nat} {b nu : Nat → Nat → Int32} (hX : RX x g a b nu) (hW : WF a b nu) {f s0 : Int32} : Cn l D cI cZ cQ ad np 1 yX3_begin wsX3_begin [.ref (ad 0), .int f, .int s0] x g (EX (beR a f s0) x g (beA a f s0) b nu) := by
  refine cn_of (own := RX3) (by decide) rfl rfl (by simp [Value.category]) (Nat.le_of_ble_eq_true rfl) ?_
  intro p e s m args below meth c A Q C HR HV
  obtain ⟨hx, hg, hnu⟩ := id hX
  obtain ⟨⟨w0, ⟨w1, w1'⟩, w2, w3, w4, w5, w6⟩, wt, wn, wq⟩ := id hW
  have e0 := hx 0 (by decide)
  have e1 := hx 1 (by decide)
  have e2 := hx 2 (by decide)
  have e3 := hx 3 (by decide)
  have e4 := hx 4 (by decide)
  have e5 := hx 5 (by decide)
  have e6 := hx 6 (by decide)
  have b9 := hg 9 (by decide) (by decide)
  have b10 := hg 10 (by decide) (by decide)
  have b11 := hg 11 (by decide) (by decide)
  have b12 := hg 12 (by decide) (by decide)
  have b13 := hg 13 (by decide) (by decide)
  have b14 := hg 14 (by decide) (by decide)
  have b15 := hg 15 (by decide) (by decide)
  have b16 := hg 16 (by decide) (by decide)
  have b17 := hg 17 (by decide) (by decide)
  refine j_iload_n C dX3_begin_0 rfl ?_
  refine j_iconst (v := 1) C dX3_begin_1 rfl ?_
  refine j_bipush (v := 6) C dX3_begin_2 (by decide) ?_
  refine jSp3 C dX3_begin_4 gX3_begin_X3_isWithin rfl pd_X3_isWithin ⟨by decide, by decide⟩ (Nat.le_of_ble_eq_true rfl) c_X3_isWithin ?_
  refine j_if_eq C 19 dX3_begin_7 (by decide) (fun hc7 => ?_) (fun hc7 => ?_)
  · refine j_ldc (v := (-1000000001)) C dX3_begin_19 (by decide +kernel) ?_
    have hb : beOk f s0 = false := by
      first
      | (simp only [beOk]; rw [bI_0.mp hc7]; rfl)
      | (simp only [beOk]; rw [bI_0.mp hc16, Bool.and_false])
    exact HR _ _ _ _ _ _ rfl rfl dX3_begin_21 ⟨_, rfl, (be_bad hb).1.symm, by rw [(be_bad hb).2]; exact hX, Fx.rf⟩
  · refine j_iload_n C dX3_begin_10 rfl ?_
    refine j_iconst (v := 0) C dX3_begin_11 rfl ?_
    refine j_iconst (v := 4) C dX3_begin_12 rfl ?_
    refine jSp3 C dX3_begin_13 gX3_begin_X3_isWithin rfl pd_X3_isWithin ⟨by decide, by decide⟩ (Nat.le_of_ble_eq_true rfl) c_X3_isWithin ?_
    refine j_if_ne C 22 dX3_begin_16 (by decide) (fun hc16 => ?_) (fun hc16 => ?_)
    · have hb : beOk f s0 = true := by simp only [beOk]; rw [bI_n0.mp hc7, bI_n0.mp hc16]; rfl
      obtain ⟨n, n1, n2, rfl⟩ := inW_lit (lo := 1) (hi := 6) (by decide) (by decide) (bI_n0.mp hc7)
      obtain ⟨q, q1, q2, rfl⟩ := inW_lit (lo := 0) (hi := 4) (by decide) (by decide) (bI_n0.mp hc16)
      refine j_aload_n C dX3_begin_22 rfl ?_
      refine jg_X3_terms C dX3_begin_23 n_X3_begin_X3 (by decide +kernel) (Nat.lt_of_lt_of_le (by decide) hnp) ?_
      refine jg_X2_count C dX3_begin_26 n_X3_begin_X2 (by decide +kernel) (Nat.lt_of_lt_of_le (by decide) hnp) ?_
      refine j_istore_n C dX3_begin_29 (by decide) ?_
      refine j_aload_n C dX3_begin_30 rfl ?_
      refine j_iload_n C dX3_begin_31 rfl ?_
      refine j_iload_n C dX3_begin_32 rfl ?_
      refine jVv2 (ci := 3) C dX3_begin_33 gX3_begin_X3_startAnew rfl pd_X3_startAnew ⟨by decide, by decide⟩ (Nat.lt_of_lt_of_le (by decide) hnp) rfl rfl rfl (Nat.le_of_ble_eq_true rfl) (c_X3_startAnew hnp) (fun x2 g2 hp => ?_)
      obtain ⟨⟨hk7, y0, y1, y2, y3, y4, y5, y6⟩, rfl⟩ := hp
      refine j_iload_n C dX3_begin_36 rfl ?_
      refine HR _ _ _ _ _ _ rfl rfl dX3_begin_37 ⟨_, rfl, by rw [(be_ok hb).1, e5], ?_, hk7, fun _ _ => rfl⟩
      rw [(be_ok hb).2, nI_clamp (by omega), nI_clamp (by omega)]
      refine ⟨fun k hk => ?_, hg, hnu⟩
      rcases (show k = 0 ∨ k = 1 ∨ k = 2 ∨ k = 3 ∨ k = 4 ∨ k = 5 ∨ k = 6 by omega) with rfl | rfl | rfl | rfl | rfl | rfl | rfl
      · exact y0
      · exact y1
      · exact y2
      · exact y3
      · exact y4
      · exact y5
      · exact y6
    · refine j_ldc (v := (-1000000001)) C dX3_begin_19 (by decide +kernel) ?_
      have hb : beOk f s0 = false := by
        first
        | (simp only [beOk]; rw [bI_0.mp hc7]; rfl)
        | (simp only [beOk]; rw [bI_0.mp hc16, Bool.and_false])
      exact HR _ _ _ _ _ _ rfl rfl dX3_begin_21 ⟨_, rfl, (be_bad hb).1.symm, by rw [(be_bad hb).2]; exact hX, Fx.rf⟩
theorem n_X3_name_X1 : ∀ w ∈ wsX10, w ∈ wsX3_name := by decide +kernel
theorem n_X3_name_X3 : ∀ w ∈ wsX30, w ∈ wsX3_name := by decide +kernel
set_option maxHeartbeats 4000000 in
set_option maxRecDepth 100000 in
theorem c_X3_name {l : Launch} {D : va_G} {cI cZ cQ : ClassId} {ad : Nat → Nat} {np : Nat} {x : Nat → Nat} {g : Nat → Nat → Int32} (hnp : 27 ≤ np) {a : Nat → Nat} {b nu : Nat → Nat → Int32} (hX : RX x g a b nu) (hW : WF a b nu) {lo us hi : Int32} : Cn l D cI cZ cQ ad np 1 yX3_name wsX3_name [.ref (ad 0), .int lo, .int us, .int hi] x g (EX (nmR a lo us hi) x g (nmA a lo us hi) (nmB a b lo us hi) (nmN a nu lo us hi)) := by
  refine cn_of (own := RX3) (by decide) rfl rfl (by simp [Value.category]) (Nat.le_of_ble_eq_true rfl) ?_
  intro p e s m args below meth c A Q C HR HV
  obtain ⟨hx, hg, hnu⟩ := id hX
  obtain ⟨⟨w0, ⟨w1, w1'⟩, w2, w3, w4, w5, w6⟩, wt, wn, wq⟩ := id hW
  have e0 := hx 0 (by decide)
  have e1 := hx 1 (by decide)
  have e2 := hx 2 (by decide)
  have e3 := hx 3 (by decide)
  have e4 := hx 4 (by decide)
  have e5 := hx 5 (by decide)
  have e6 := hx 6 (by decide)
  have b9 := hg 9 (by decide) (by decide)
  have b10 := hg 10 (by decide) (by decide)
  have b11 := hg 11 (by decide) (by decide)
  have b12 := hg 12 (by decide) (by decide)
  have b13 := hg 13 (by decide) (by decide)
  have b14 := hg 14 (by decide) (by decide)
  have b15 := hg 15 (by decide) (by decide)
  have b16 := hg 16 (by decide) (by decide)
  have b17 := hg 17 (by decide) (by decide)
  refine j_iload_n C dX3_name_0 rfl ?_
  refine j_iload_n C dX3_name_1 rfl ?_
  refine j_icmp_gt C 14 dX3_name_2 (by decide) (fun hc2 => ?_) (fun hc2 => ?_)
  · refine j_iconst (v := 0) C dX3_name_14 rfl ?_
    refine j_istore C dX3_name_15 (by decide) ?_
    refine j_iload C dX3_name_17 rfl ?_
    refine j_if_eq C 34 dX3_name_19 (by decide) (fun hc19 => ?_) (fun hc19 => ?_)
    · refine j_ldc (v := (-1000000001)) C dX3_name_34 (by decide +kernel) ?_
      have hb : nmOk lo us hi = false := by
        first
        | exact nmOk_f (Or.inl hc2)
        | exact nmOk_f (Or.inr (Or.inl hc7))
        | exact nmOk_f (Or.inr (Or.inr (Or.inl hc25)))
        | exact nmOk_f (Or.inr (Or.inr (Or.inr hc31)))
      exact HR _ _ _ _ _ _ rfl rfl dX3_name_36 ⟨_, rfl, (nm_bad (b := b) (nu := nu) hb).1.symm, by rw [(nm_bad (a := a) (b := b) (nu := nu) hb).2.1, (nm_bad (a := a) (b := b) (nu := nu) hb).2.2.1, (nm_bad (a := a) (b := b) (nu := nu) hb).2.2.2]; exact hX, Fx.rf⟩
    · exact absurd rfl hc19
  · refine j_iload_n C dX3_name_5 rfl ?_
    refine j_iload_n C dX3_name_6 rfl ?_
    refine j_icmp_gt C 14 dX3_name_7 (by decide) (fun hc7 => ?_) (fun hc7 => ?_)
    · refine j_iconst (v := 0) C dX3_name_14 rfl ?_
      refine j_istore C dX3_name_15 (by decide) ?_
      refine j_iload C dX3_name_17 rfl ?_
      refine j_if_eq C 34 dX3_name_19 (by decide) (fun hc19 => ?_) (fun hc19 => ?_)
      · refine j_ldc (v := (-1000000001)) C dX3_name_34 (by decide +kernel) ?_
        have hb : nmOk lo us hi = false := by
          first
          | exact nmOk_f (Or.inl hc2)
          | exact nmOk_f (Or.inr (Or.inl hc7))
          | exact nmOk_f (Or.inr (Or.inr (Or.inl hc25)))
          | exact nmOk_f (Or.inr (Or.inr (Or.inr hc31)))
        exact HR _ _ _ _ _ _ rfl rfl dX3_name_36 ⟨_, rfl, (nm_bad (b := b) (nu := nu) hb).1.symm, by rw [(nm_bad (a := a) (b := b) (nu := nu) hb).2.1, (nm_bad (a := a) (b := b) (nu := nu) hb).2.2.1, (nm_bad (a := a) (b := b) (nu := nu) hb).2.2.2]; exact hX, Fx.rf⟩
      · exact absurd rfl hc19
    · refine j_iconst (v := 1) C dX3_name_10 rfl ?_
      refine j_goto C 15 dX3_name_11 (by decide) ?_
      refine j_istore C dX3_name_15 (by decide) ?_
      refine j_iload C dX3_name_17 rfl ?_
      refine j_if_eq C 34 dX3_name_19 (by decide) (fun hc19 => ?_) (fun hc19 => ?_)
      · exact absurd hc19 (by decide)
      · refine j_iload_n C dX3_name_22 rfl ?_
        refine j_bipush (v := (-100)) C dX3_name_23 (by decide) ?_
        refine j_icmp_lt C 34 dX3_name_25 (by decide) (fun hc25 => ?_) (fun hc25 => ?_)
        · refine j_ldc (v := (-1000000001)) C dX3_name_34 (by decide +kernel) ?_
          have hb : nmOk lo us hi = false := by
            first
            | exact nmOk_f (Or.inl hc2)
            | exact nmOk_f (Or.inr (Or.inl hc7))
            | exact nmOk_f (Or.inr (Or.inr (Or.inl hc25)))
            | exact nmOk_f (Or.inr (Or.inr (Or.inr hc31)))
          exact HR _ _ _ _ _ _ rfl rfl dX3_name_36 ⟨_, rfl, (nm_bad (b := b) (nu := nu) hb).1.symm, by rw [(nm_bad (a := a) (b := b) (nu := nu) hb).2.1, (nm_bad (a := a) (b := b) (nu := nu) hb).2.2.1, (nm_bad (a := a) (b := b) (nu := nu) hb).2.2.2]; exact hX, Fx.rf⟩
        · refine j_iload_n C dX3_name_28 rfl ?_
          refine j_bipush (v := 100) C dX3_name_29 (by decide) ?_
          refine j_icmp_le C 37 dX3_name_31 (by decide) (fun hc31 => ?_) (fun hc31 => ?_)
          · refine j_aload_n C dX3_name_37 rfl ?_
            refine jg_X3_names C dX3_name_38 n_X3_name_X3 (by decide +kernel) (Nat.lt_of_lt_of_le (by decide) hnp) ?_
            refine jg_X1_count C dX3_name_41 n_X3_name_X1 (by decide +kernel) (Nat.lt_of_lt_of_le (by decide) hnp) ?_
            refine j_bipush (v := 12) C dX3_name_44 (by decide) ?_
            refine j_icmp_lt C 52 dX3_name_46 (by decide) (fun hc46 => ?_) (fun hc46 => ?_)
            · have h12 : a 4 < 12 := by have := (nI_ltI (b := 12) (by omega) (by omega)).mp hc46; omega
              refine j_aload_n C dX3_name_52 rfl ?_
              refine jg_X3_listed C dX3_name_53 n_X3_name_X3 (by decide +kernel) (Nat.lt_of_lt_of_le (by decide) hnp) ?_
              refine j_aload_n C dX3_name_56 rfl ?_
              refine jg_X3_names C dX3_name_57 n_X3_name_X3 (by decide +kernel) (Nat.lt_of_lt_of_le (by decide) hnp) ?_
              refine jg_X1_count C dX3_name_60 n_X3_name_X1 (by decide +kernel) (Nat.lt_of_lt_of_le (by decide) hnp) ?_
              refine j_iload_n C dX3_name_63 rfl ?_
              refine jVv2 (ci := 0) C dX3_name_64 gX3_name_X0_putInAll rfl pd_X0_putInAll ⟨by decide, by decide⟩ (Nat.lt_of_lt_of_le (by decide) hnp) rfl rfl rfl (Nat.le_of_ble_eq_true rfl) (c_X0_putInAll hnp (by omega) (by omega)) (fun x2 g2 hp => ?_)
              obtain ⟨hxe, rfl⟩ := hp
              have hxe := hxe.symm
              subst hxe
              refine j_aload_n C dX3_name_67 rfl ?_
              refine jg_X3_names C dX3_name_68 n_X3_name_X3 (by decide +kernel) (Nat.lt_of_lt_of_le (by decide) hnp) ?_
              refine j_iload_n C dX3_name_71 rfl ?_
              refine j_iload_n C dX3_name_72 rfl ?_
              refine j_iload_n C dX3_name_73 rfl ?_
              refine jVi3 (ci := 1) C dX3_name_74 gX3_name_X1_add rfl pd_X1_add ⟨by decide, by decide⟩ (Nat.lt_of_lt_of_le (by decide) hnp) rfl rfl rfl (Nat.le_of_ble_eq_true rfl) (c_X1_add hnp (by omega)) (fun rr x2 g2 hp => ?_)
              obtain ⟨rfl, rfl, rfl⟩ := hp
              have hb : nmOk lo us hi = true := nmOk_t hc2 hc7 hc25 hc31
              exact HR _ _ _ _ _ _ rfl rfl dX3_name_77 ⟨_, rfl, by rw [(nm_ok (b := b) (nu := nu) hb h12).1, e4], by rw [(nm_ok (a := a) (b := b) (nu := nu) hb h12).2.1, (nm_ok (a := a) (b := b) (nu := nu) hb h12).2.2.1, (nm_ok (a := a) (b := b) (nu := nu) hb h12).2.2.2]; exact hX.nm w6 lo us hi, ((((Fx.rf.pi (by omega)).up (by decide)).up (by decide)).up (by decide)).ux (by decide)⟩
            · have h12 : ¬ a 4 < 12 := by have := mt (nI_ltI (b := 12) (by omega) (by omega)).mpr hc46; omega
              refine j_ldc (v := (-1000000002)) C dX3_name_49 (by decide +kernel) ?_
              have hb : nmOk lo us hi = true := nmOk_t hc2 hc7 hc25 hc31
              exact HR _ _ _ _ _ _ rfl rfl dX3_name_51 ⟨_, rfl, (nm_full (b := b) (nu := nu) hb h12).1.symm, by rw [(nm_full (a := a) (b := b) (nu := nu) hb h12).2.1, (nm_full (a := a) (b := b) (nu := nu) hb h12).2.2.1, (nm_full (a := a) (b := b) (nu := nu) hb h12).2.2.2]; exact hX, Fx.rf⟩
          · refine j_ldc (v := (-1000000001)) C dX3_name_34 (by decide +kernel) ?_
            have hb : nmOk lo us hi = false := by
              first
              | exact nmOk_f (Or.inl hc2)
              | exact nmOk_f (Or.inr (Or.inl hc7))
              | exact nmOk_f (Or.inr (Or.inr (Or.inl hc25)))
              | exact nmOk_f (Or.inr (Or.inr (Or.inr hc31)))
            exact HR _ _ _ _ _ _ rfl rfl dX3_name_36 ⟨_, rfl, (nm_bad (b := b) (nu := nu) hb).1.symm, by rw [(nm_bad (a := a) (b := b) (nu := nu) hb).2.1, (nm_bad (a := a) (b := b) (nu := nu) hb).2.2.1, (nm_bad (a := a) (b := b) (nu := nu) hb).2.2.2]; exact hX, Fx.rf⟩
theorem n_X3_budget_X3 : ∀ w ∈ wsX30, w ∈ wsX3_budget := by decide +kernel
set_option maxHeartbeats 4000000 in
set_option maxRecDepth 100000 in
theorem c_X3_budget {l : Launch} {D : va_G} {cI cZ cQ : ClassId} {ad : Nat → Nat} {np : Nat} {x : Nat → Nat} {g : Nat → Nat → Int32} (hnp : 27 ≤ np) {a : Nat → Nat} {b nu : Nat → Nat → Int32} (hX : RX x g a b nu) (hW : WF a b nu) {n : Int32} : Cn l D cI cZ cQ ad np 1 yX3_budget wsX3_budget [.ref (ad 0), .int n] x g (EX (buR a n) x g (buA a n) b nu) := by
  refine cn_of (own := RX3) (by decide) rfl rfl (by simp [Value.category]) (Nat.le_of_ble_eq_true rfl) ?_
  intro p e s m args below meth c A Q C HR HV
  obtain ⟨hx, hg, hnu⟩ := id hX
  obtain ⟨⟨w0, ⟨w1, w1'⟩, w2, w3, w4, w5, w6⟩, wt, wn, wq⟩ := id hW
  have e0 := hx 0 (by decide)
  have e1 := hx 1 (by decide)
  have e2 := hx 2 (by decide)
  have e3 := hx 3 (by decide)
  have e4 := hx 4 (by decide)
  have e5 := hx 5 (by decide)
  have e6 := hx 6 (by decide)
  have b9 := hg 9 (by decide) (by decide)
  have b10 := hg 10 (by decide) (by decide)
  have b11 := hg 11 (by decide) (by decide)
  have b12 := hg 12 (by decide) (by decide)
  have b13 := hg 13 (by decide) (by decide)
  have b14 := hg 14 (by decide) (by decide)
  have b15 := hg 15 (by decide) (by decide)
  have b16 := hg 16 (by decide) (by decide)
  have b17 := hg 17 (by decide) (by decide)
  refine j_iload_n C dX3_budget_0 rfl ?_
  refine j_iconst (v := 0) C dX3_budget_1 rfl ?_
  refine j_bipush (v := 12) C dX3_budget_2 (by decide) ?_
  refine jSp3 C dX3_budget_4 gX3_budget_X3_isWithin rfl pd_X3_isWithin ⟨by decide, by decide⟩ (Nat.le_of_ble_eq_true rfl) c_X3_isWithin ?_
  refine j_if_ne C 13 dX3_budget_7 (by decide) (fun hc7 => ?_) (fun hc7 => ?_)
  · have hb := bI_n0.mp hc7
    obtain ⟨q, q1, q2, rfl⟩ := inW_lit (lo := 0) (hi := 12) (by decide) (by decide) hb
    refine j_aload_n C dX3_budget_13 rfl ?_
    refine jg_X3_budgetNow C dX3_budget_14 n_X3_budget_X3 (by decide +kernel) (Nat.lt_of_lt_of_le (by decide) hnp) ?_
    refine j_istore_n C dX3_budget_17 (by decide) ?_
    refine j_aload_n C dX3_budget_18 rfl ?_
    refine j_iload_n C dX3_budget_19 rfl ?_
    refine jp_X3_budgetNow C q dX3_budget_20 n_X3_budget_X3 (by decide +kernel) (Nat.lt_of_lt_of_le (by decide) hnp) rfl ?_
    refine j_iload_n C dX3_budget_23 rfl ?_
    exact HR _ _ _ _ _ _ rfl rfl dX3_budget_24 ⟨_, rfl, by rw [(bu_ok hb).1, e3], by rw [(bu_ok hb).2, nI_clamp (by omega)]; exact ⟨fun k hk => up_cg (fun _ => hx k hk) rfl, hg, hnu⟩, Fx.rf.ux (by decide)⟩
  · refine j_ldc (v := (-1000000001)) C dX3_budget_10 (by decide +kernel) ?_
    exact HR _ _ _ _ _ _ rfl rfl dX3_budget_12 ⟨_, rfl, (bu_bad (bI_0.mp hc7)).1.symm, by rw [(bu_bad (bI_0.mp hc7)).2]; exact hX, Fx.rf⟩
theorem n_X3_row_X3 : ∀ w ∈ wsX30, w ∈ wsX3_row := by decide +kernel
set_option maxHeartbeats 4000000 in
set_option maxRecDepth 100000 in
theorem c_X3_row {l : Launch} {D : va_G} {cI cZ cQ : ClassId} {ad : Nat → Nat} {np : Nat} {x : Nat → Nat} {g : Nat → Nat → Int32} (hnp : 27 ≤ np) {a : Nat → Nat} {b nu : Nat → Nat → Int32} (hX : RX x g a b nu) (hW : WF a b nu) : Cn l D cI cZ cQ ad np 0 yX3_row wsX3_row [.ref (ad 0)] x g (EX (roR a) x g (roA a) b nu) := by
  refine cn_of (own := RX3) (by decide) rfl rfl (by simp [Value.category]) (Nat.le_of_ble_eq_true rfl) ?_
  intro p e s m args below meth c A Q C HR HV
  obtain ⟨hx, hg, hnu⟩ := id hX
  obtain ⟨⟨w0, ⟨w1, w1'⟩, w2, w3, w4, w5, w6⟩, wt, wn, wq⟩ := id hW
  have e0 := hx 0 (by decide)
  have e1 := hx 1 (by decide)
  have e2 := hx 2 (by decide)
  have e3 := hx 3 (by decide)
  have e4 := hx 4 (by decide)
  have e5 := hx 5 (by decide)
  have e6 := hx 6 (by decide)
  have b9 := hg 9 (by decide) (by decide)
  have b10 := hg 10 (by decide) (by decide)
  have b11 := hg 11 (by decide) (by decide)
  have b12 := hg 12 (by decide) (by decide)
  have b13 := hg 13 (by decide) (by decide)
  have b14 := hg 14 (by decide) (by decide)
  have b15 := hg 15 (by decide) (by decide)
  have b16 := hg 16 (by decide) (by decide)
  have b17 := hg 17 (by decide) (by decide)
  refine j_aload_n C dX3_row_0 rfl ?_
  refine jg_X3_rowCount C dX3_row_1 n_X3_row_X3 (by decide +kernel) (Nat.lt_of_lt_of_le (by decide) hnp) ?_
  refine j_bipush (v := 10) C dX3_row_4 (by decide) ?_
  refine j_icmp_lt C 12 dX3_row_6 (by decide) (fun hc6 => ?_) (fun hc6 => ?_)
  · have h10 : a 0 < 10 := by have := (nI_ltI (b := 10) (by omega) (by omega)).mp hc6; omega
    refine j_aload_n C dX3_row_12 rfl ?_
    refine j_dup C dX3_row_13 rfl ?_
    refine jg_X3_rowCount C dX3_row_14 n_X3_row_X3 (by decide +kernel) (Nat.lt_of_lt_of_le (by decide) hnp) ?_
    refine j_iconst (v := 1) C dX3_row_17 rfl ?_
    refine j_iadd C dX3_row_18 ?_
    refine jp_X3_rowCount C (x 0 + 1) dX3_row_19 n_X3_row_X3 (by decide +kernel) (Nat.lt_of_lt_of_le (by decide) hnp) (nI_1 (x 0)) ?_
    refine j_aload_n C dX3_row_22 rfl ?_
    refine jg_X3_rowCount C dX3_row_23 n_X3_row_X3 (by decide +kernel) (Nat.lt_of_lt_of_le (by decide) hnp) ?_
    refine j_iconst (v := 1) C dX3_row_26 rfl ?_
    refine j_isub C dX3_row_27 ?_
    rw [va_us, nI_pred]
    exact HR _ _ _ _ _ _ rfl rfl dX3_row_28 ⟨_, rfl, by rw [(ro_ok h10).1, e0], by rw [(ro_ok h10).2, e0]; exact ⟨fun k hk => up_cg (fun _ => hx k hk) rfl, hg, hnu⟩, Fx.rf.ux (by decide)⟩
  · have h10 : ¬ a 0 < 10 := by have := mt (nI_ltI (b := 10) (by omega) (by omega)).mpr hc6; omega
    refine j_ldc (v := (-1000000002)) C dX3_row_9 (by decide +kernel) ?_
    exact HR _ _ _ _ _ _ rfl rfl dX3_row_11 ⟨_, rfl, (ro_full h10).1.symm, by rw [(ro_full h10).2]; exact hX, Fx.rf⟩
theorem n_X3_term_X1 : ∀ w ∈ wsX10, w ∈ wsX3_term := by decide +kernel
theorem n_X3_term_X2 : ∀ w ∈ wsX20, w ∈ wsX3_term := by decide +kernel
theorem n_X3_term_X3 : ∀ w ∈ wsX30, w ∈ wsX3_term := by decide +kernel
set_option maxHeartbeats 4000000 in
set_option maxRecDepth 100000 in
theorem c_X3_term {l : Launch} {D : va_G} {cI cZ cQ : ClassId} {ad : Nat → Nat} {np : Nat} {x : Nat → Nat} {g : Nat → Nat → Int32} (hnp : 27 ≤ np) {a : Nat → Nat} {b nu : Nat → Nat → Int32} (hX : RX x g a b nu) (hW : WF a b nu) {rw0 ch nm fc : Int32} : Cn l D cI cZ cQ ad np 2 yX3_term wsX3_term [.ref (ad 0), .int rw0, .int ch, .int nm, .int fc] x g (EX (teR a rw0 ch nm fc) x g (teA a rw0 ch nm fc) (teB a b rw0 ch nm fc) nu) := by
  refine cn_of (own := RX3) (by decide) rfl rfl (by simp [Value.category]) (Nat.le_of_ble_eq_true rfl) ?_
  intro p e s m args below meth c A Q C HR HV
  obtain ⟨hx, hg, hnu⟩ := id hX
  obtain ⟨⟨w0, ⟨w1, w1'⟩, w2, w3, w4, w5, w6⟩, wt, wn, wq⟩ := id hW
  have e0 := hx 0 (by decide)
  have e1 := hx 1 (by decide)
  have e2 := hx 2 (by decide)
  have e3 := hx 3 (by decide)
  have e4 := hx 4 (by decide)
  have e5 := hx 5 (by decide)
  have e6 := hx 6 (by decide)
  have b9 := hg 9 (by decide) (by decide)
  have b10 := hg 10 (by decide) (by decide)
  have b11 := hg 11 (by decide) (by decide)
  have b12 := hg 12 (by decide) (by decide)
  have b13 := hg 13 (by decide) (by decide)
  have b14 := hg 14 (by decide) (by decide)
  have b15 := hg 15 (by decide) (by decide)
  have b16 := hg 16 (by decide) (by decide)
  have b17 := hg 17 (by decide) (by decide)
  refine j_aload_n C dX3_term_0 rfl ?_
  refine j_iload_n C dX3_term_1 rfl ?_
  refine jVp1 (ci := 3) C dX3_term_2 gX3_term_X3_isRowOrCost rfl pd_X3_isRowOrCost ⟨by decide, by decide⟩ (Nat.lt_of_lt_of_le (by decide) hnp) rfl rfl rfl (Nat.le_of_ble_eq_true rfl) (c_X3_isRowOrCost hnp) ?_
  rw [e0]
  refine j_if_ne C 11 dX3_term_5 (by decide) (fun hc5 => ?_) (fun hc5 => ?_)
  · refine j_iload_n C dX3_term_11 rfl ?_
    refine j_iconst (v := (-1)) C dX3_term_12 rfl ?_
    refine j_aload_n C dX3_term_13 rfl ?_
    refine jg_X3_firstCount C dX3_term_14 n_X3_term_X3 (by decide +kernel) (Nat.lt_of_lt_of_le (by decide) hnp) ?_
    refine j_aload_n C dX3_term_17 rfl ?_
    refine jg_X3_secondCount C dX3_term_18 n_X3_term_X3 (by decide +kernel) (Nat.lt_of_lt_of_le (by decide) hnp) ?_
    refine j_iadd C dX3_term_21 ?_
    rw [e1, e2]
    refine j_iconst (v := 1) C dX3_term_22 rfl ?_
    refine j_isub C dX3_term_23 ?_
    refine jSp3 C dX3_term_24 gX3_term_X3_isWithin rfl pd_X3_isWithin ⟨by decide, by decide⟩ (Nat.le_of_ble_eq_true rfl) c_X3_isWithin ?_
    refine j_if_ne C 33 dX3_term_27 (by decide) (fun hc27 => ?_) (fun hc27 => ?_)
    · refine j_iload_n C dX3_term_33 rfl ?_
      refine j_iconst (v := (-1)) C dX3_term_34 rfl ?_
      refine j_aload_n C dX3_term_35 rfl ?_
      refine jg_X3_names C dX3_term_36 n_X3_term_X3 (by decide +kernel) (Nat.lt_of_lt_of_le (by decide) hnp) ?_
      refine jg_X1_count C dX3_term_39 n_X3_term_X1 (by decide +kernel) (Nat.lt_of_lt_of_le (by decide) hnp) ?_
      rw [e4]
      refine j_iconst (v := 1) C dX3_term_42 rfl ?_
      refine j_isub C dX3_term_43 ?_
      refine jSp3 C dX3_term_44 gX3_term_X3_isWithin rfl pd_X3_isWithin ⟨by decide, by decide⟩ (Nat.le_of_ble_eq_true rfl) c_X3_isWithin ?_
      refine j_if_ne C 53 dX3_term_47 (by decide) (fun hc47 => ?_) (fun hc47 => ?_)
      · refine j_iload C dX3_term_53 rfl ?_
        refine j_bipush (v := (-20)) C dX3_term_55 (by decide) ?_
        refine j_bipush (v := 20) C dX3_term_57 (by decide) ?_
        refine jSp3 C dX3_term_59 gX3_term_X3_isWithin rfl pd_X3_isWithin ⟨by decide, by decide⟩ (Nat.le_of_ble_eq_true rfl) c_X3_isWithin ?_
        refine j_if_ne C 68 dX3_term_62 (by decide) (fun hc62 => ?_) (fun hc62 => ?_)
        · have hb : teOk a rw0 ch nm fc = true := by simp only [teOk]; rw [bI_n0.mp hc5, bI_n0.mp hc27, bI_n0.mp hc47, bI_n0.mp hc62]; rfl
          refine j_aload_n C dX3_term_68 rfl ?_
          refine jg_X3_terms C dX3_term_69 n_X3_term_X3 (by decide +kernel) (Nat.lt_of_lt_of_le (by decide) hnp) ?_
          refine jg_X2_count C dX3_term_72 n_X3_term_X2 (by decide +kernel) (Nat.lt_of_lt_of_le (by decide) hnp) ?_
          refine j_bipush (v := 40) C dX3_term_75 (by decide) ?_
          refine j_icmp_lt C 83 dX3_term_77 (by decide) (fun hc77 => ?_) (fun hc77 => ?_)
          · have h40 : a 5 < 40 := by have := (nI_ltI (b := 40) (by omega) (by omega)).mp hc77; omega
            refine j_aload_n C dX3_term_83 rfl ?_
            refine jg_X3_terms C dX3_term_84 n_X3_term_X3 (by decide +kernel) (Nat.lt_of_lt_of_le (by decide) hnp) ?_
            refine j_iload_n C dX3_term_87 rfl ?_
            refine j_iload_n C dX3_term_88 rfl ?_
            refine j_iload_n C dX3_term_89 rfl ?_
            refine j_iload C dX3_term_90 rfl ?_
            refine jVi4 (ci := 2) C dX3_term_92 gX3_term_X2_add rfl pd_X2_add ⟨by decide, by decide⟩ (Nat.lt_of_lt_of_le (by decide) hnp) rfl rfl rfl (Nat.le_of_ble_eq_true rfl) (c_X2_add hnp (by omega)) (fun rr x2 g2 hp => ?_)
            obtain ⟨rfl, rfl, rfl⟩ := hp
            exact HR _ _ _ _ _ _ rfl rfl dX3_term_95 ⟨_, rfl, by rw [(te_ok (b := b) hb h40).1, e5], by rw [(te_ok (b := b) hb h40).2.1, (te_ok (b := b) hb h40).2.2]; exact hX.te rw0 ch nm fc, ((((Fx.rf.up (by decide)).up (by decide)).up (by decide)).up (by decide)).ux (by decide)⟩
          · have h40 : ¬ a 5 < 40 := by have := mt (nI_ltI (b := 40) (by omega) (by omega)).mpr hc77; omega
            refine j_ldc (v := (-1000000002)) C dX3_term_80 (by decide +kernel) ?_
            exact HR _ _ _ _ _ _ rfl rfl dX3_term_82 ⟨_, rfl, (te_full (b := b) hb h40).1.symm, by rw [(te_full (b := b) hb h40).2.1, (te_full (b := b) hb h40).2.2]; exact hX, Fx.rf⟩
        · refine j_ldc (v := (-1000000001)) C dX3_term_65 (by decide +kernel) ?_
          have hb : teOk a rw0 ch nm fc = false := by simp only [teOk]; rw [bI_0.mp hc62, Bool.and_false]
          exact HR _ _ _ _ _ _ rfl rfl dX3_term_67 ⟨_, rfl, (te_bad (b := b) hb).1.symm, by rw [(te_bad (b := b) hb).2.1, (te_bad (b := b) hb).2.2]; exact hX, Fx.rf⟩
      · refine j_ldc (v := (-1000000001)) C dX3_term_50 (by decide +kernel) ?_
        have hb : teOk a rw0 ch nm fc = false := by simp only [teOk]; rw [bI_0.mp hc47, Bool.and_false]; rfl
        exact HR _ _ _ _ _ _ rfl rfl dX3_term_52 ⟨_, rfl, (te_bad (b := b) hb).1.symm, by rw [(te_bad (b := b) hb).2.1, (te_bad (b := b) hb).2.2]; exact hX, Fx.rf⟩
    · refine j_ldc (v := (-1000000001)) C dX3_term_30 (by decide +kernel) ?_
      have hb : teOk a rw0 ch nm fc = false := by simp only [teOk]; rw [bI_0.mp hc27, Bool.and_false]; rfl
      exact HR _ _ _ _ _ _ rfl rfl dX3_term_32 ⟨_, rfl, (te_bad (b := b) hb).1.symm, by rw [(te_bad (b := b) hb).2.1, (te_bad (b := b) hb).2.2]; exact hX, Fx.rf⟩
  · refine j_ldc (v := (-1000000001)) C dX3_term_8 (by decide +kernel) ?_
    have hb : teOk a rw0 ch nm fc = false := by simp only [teOk]; rw [bI_0.mp hc5]; rfl
    exact HR _ _ _ _ _ _ rfl rfl dX3_term_10 ⟨_, rfl, (te_bad (b := b) hb).1.symm, by rw [(te_bad (b := b) hb).2.1, (te_bad (b := b) hb).2.2]; exact hX, Fx.rf⟩
theorem n_X3_future_X0 : ∀ w ∈ wsX00, w ∈ wsX3_future := by decide +kernel
theorem n_X3_future_X3 : ∀ w ∈ wsX30, w ∈ wsX3_future := by decide +kernel
set_option maxHeartbeats 4000000 in
set_option maxRecDepth 100000 in
theorem c_X3_future {l : Launch} {D : va_G} {cI cZ cQ : ClassId} {ad : Nat → Nat} {np : Nat} {x : Nat → Nat} {g : Nat → Nat → Int32} (hnp : 27 ≤ np) {a : Nat → Nat} {b nu : Nat → Nat → Int32} (hX : RX x g a b nu) (hW : WF a b nu) {od kp : Int32} (hkp : vp_nar .boolean kp = kp) : Cn l D cI cZ cQ ad np 1 yX3_future wsX3_future [.ref (ad 0), .int od, .int kp] x g (EX (fuR a od) x g (fuA a od) (fuB a b od kp) (fuN a b nu od)) := by
  refine cn_of (own := RX3) (by decide) rfl rfl (by simp [Value.category]) (Nat.le_of_ble_eq_true rfl) ?_
  intro p e s m args below meth c A Q C HR HV
  obtain ⟨hx, hg, hnu⟩ := id hX
  obtain ⟨⟨w0, ⟨w1, w1'⟩, w2, w3, w4, w5, w6⟩, wt, wn, wq⟩ := id hW
  have e0 := hx 0 (by decide)
  have e1 := hx 1 (by decide)
  have e2 := hx 2 (by decide)
  have e3 := hx 3 (by decide)
  have e4 := hx 4 (by decide)
  have e5 := hx 5 (by decide)
  have e6 := hx 6 (by decide)
  have b9 := hg 9 (by decide) (by decide)
  have b10 := hg 10 (by decide) (by decide)
  have b11 := hg 11 (by decide) (by decide)
  have b12 := hg 12 (by decide) (by decide)
  have b13 := hg 13 (by decide) (by decide)
  have b14 := hg 14 (by decide) (by decide)
  have b15 := hg 15 (by decide) (by decide)
  have b16 := hg 16 (by decide) (by decide)
  have b17 := hg 17 (by decide) (by decide)
  refine j_iload_n C dX3_future_0 rfl ?_
  refine j_iconst (v := 1) C dX3_future_1 rfl ?_
  refine j_bipush (v := 100) C dX3_future_2 (by decide) ?_
  refine jSp3 C dX3_future_4 gX3_future_X3_isWithin rfl pd_X3_isWithin ⟨by decide, by decide⟩ (Nat.le_of_ble_eq_true rfl) c_X3_isWithin ?_
  refine j_if_ne C 13 dX3_future_7 (by decide) (fun hc7 => ?_) (fun hc7 => ?_)
  · refine j_aload_n C dX3_future_13 rfl ?_
    refine jg_X3_listed C dX3_future_14 n_X3_future_X3 (by decide +kernel) (Nat.lt_of_lt_of_le (by decide) hnp) ?_
    refine jg_X0_count C dX3_future_17 n_X3_future_X0 (by decide +kernel) (Nat.lt_of_lt_of_le (by decide) hnp) ?_
    refine j_bipush (v := 8) C dX3_future_20 (by decide) ?_
    refine j_icmp_lt C 28 dX3_future_22 (by decide) (fun hc22 => ?_) (fun hc22 => ?_)
    · have h8 : a 6 < 8 := by have := (nI_ltI (b := 8) (by omega) (by omega)).mp hc22; omega
      refine j_aload_n C dX3_future_28 rfl ?_
      refine jg_X3_listed C dX3_future_29 n_X3_future_X3 (by decide +kernel) (Nat.lt_of_lt_of_le (by decide) hnp) ?_
      refine j_iload_n C dX3_future_32 rfl ?_
      refine j_iload_n C dX3_future_33 rfl ?_
      refine j_aload_n C dX3_future_34 rfl ?_
      refine jg_X3_names C dX3_future_35 n_X3_future_X3 (by decide +kernel) (Nat.lt_of_lt_of_le (by decide) hnp) ?_
      refine jVi3 (ci := 0) C dX3_future_38 gX3_future_X0_add rfl pd_X0_add ⟨by decide, by decide⟩ (Nat.lt_of_lt_of_le (by decide) hnp) rfl rfl rfl (Nat.le_of_ble_eq_true rfl) (c_X0_add hnp hkp (by omega) (by omega)) (fun rr x2 g2 hp => ?_)
      obtain ⟨rfl, rfl, rfl⟩ := hp
      exact HR _ _ _ _ _ _ rfl rfl dX3_future_41 ⟨_, rfl, by rw [(fu_ok (b := b) (nu := nu) (kp := kp) (bI_n0.mp hc7) h8).1, e6], by rw [(fu_ok (b := b) (nu := nu) (kp := kp) (bI_n0.mp hc7) h8).2.1, (fu_ok (b := b) (nu := nu) (kp := kp) (bI_n0.mp hc7) h8).2.2.1, (fu_ok (b := b) (nu := nu) (kp := kp) (bI_n0.mp hc7) h8).2.2.2]; exact hX.fu h8 od kp, (((Fx.rf.up (by decide)).up (by decide)).up (by omega)).ux (by decide)⟩
    · have h8 : ¬ a 6 < 8 := by have := mt (nI_ltI (b := 8) (by omega) (by omega)).mpr hc22; omega
      refine j_ldc (v := (-1000000002)) C dX3_future_25 (by decide +kernel) ?_
      exact HR _ _ _ _ _ _ rfl rfl dX3_future_27 ⟨_, rfl, (fu_full (b := b) (nu := nu) (kp := kp) (bI_n0.mp hc7) h8).1.symm, by rw [(fu_full (b := b) (nu := nu) (kp := kp) (bI_n0.mp hc7) h8).2.1, (fu_full (b := b) (nu := nu) (kp := kp) (bI_n0.mp hc7) h8).2.2.1, (fu_full (b := b) (nu := nu) (kp := kp) (bI_n0.mp hc7) h8).2.2.2]; exact hX, Fx.rf⟩
  · refine j_ldc (v := (-1000000001)) C dX3_future_10 (by decide +kernel) ?_
    exact HR _ _ _ _ _ _ rfl rfl dX3_future_12 ⟨_, rfl, (fu_bad (b := b) (nu := nu) (kp := kp) (bI_0.mp hc7)).1.symm, by rw [(fu_bad (b := b) (nu := nu) (kp := kp) (bI_0.mp hc7)).2.1, (fu_bad (b := b) (nu := nu) (kp := kp) (bI_0.mp hc7)).2.2.1, (fu_bad (b := b) (nu := nu) (kp := kp) (bI_0.mp hc7)).2.2.2]; exact hX, Fx.rf⟩
theorem n_X3_set_X0 : ∀ w ∈ wsX00, w ∈ wsX3_set := by decide +kernel
theorem n_X3_set_X1 : ∀ w ∈ wsX10, w ∈ wsX3_set := by decide +kernel
theorem n_X3_set_X3 : ∀ w ∈ wsX30, w ∈ wsX3_set := by decide +kernel
set_option maxHeartbeats 4000000 in
set_option maxRecDepth 100000 in
theorem c_X3_set {l : Launch} {D : va_G} {cI cZ cQ : ClassId} {ad : Nat → Nat} {np : Nat} {x : Nat → Nat} {g : Nat → Nat → Int32} (hnp : 27 ≤ np) {a : Nat → Nat} {b nu : Nat → Nat → Int32} (hX : RX x g a b nu) (hW : WF a b nu) {fu nm v : Int32} : Cn l D cI cZ cQ ad np 2 yX3_set wsX3_set [.ref (ad 0), .int fu, .int nm, .int v] x g (EX (seR a b nu fu nm v) x g a b (seN a b nu fu nm v)) := by
  refine cn_of (own := RX3) (by decide) rfl rfl (by simp [Value.category]) (Nat.le_of_ble_eq_true rfl) ?_
  intro p e s m args below meth c A Q C HR HV
  obtain ⟨hx, hg, hnu⟩ := id hX
  obtain ⟨⟨w0, ⟨w1, w1'⟩, w2, w3, w4, w5, w6⟩, wt, wn, wq⟩ := id hW
  have e0 := hx 0 (by decide)
  have e1 := hx 1 (by decide)
  have e2 := hx 2 (by decide)
  have e3 := hx 3 (by decide)
  have e4 := hx 4 (by decide)
  have e5 := hx 5 (by decide)
  have e6 := hx 6 (by decide)
  have b9 := hg 9 (by decide) (by decide)
  have b10 := hg 10 (by decide) (by decide)
  have b11 := hg 11 (by decide) (by decide)
  have b12 := hg 12 (by decide) (by decide)
  have b13 := hg 13 (by decide) (by decide)
  have b14 := hg 14 (by decide) (by decide)
  have b15 := hg 15 (by decide) (by decide)
  have b16 := hg 16 (by decide) (by decide)
  have b17 := hg 17 (by decide) (by decide)
  refine j_aload_n C dX3_set_0 rfl ?_
  refine j_iload_n C dX3_set_1 rfl ?_
  refine jVp1 (ci := 3) C dX3_set_2 gX3_set_X3_isListed rfl pd_X3_isListed ⟨by decide, by decide⟩ (Nat.lt_of_lt_of_le (by decide) hnp) rfl rfl rfl (Nat.le_of_ble_eq_true rfl) (c_X3_isListed hnp) ?_
  rw [e6]
  refine j_if_eq C 16 dX3_set_5 (by decide) (fun hc5 => ?_) (fun hc5 => ?_)
  · refine j_ldc (v := (-1000000001)) C dX3_set_16 (by decide +kernel) ?_
    have hb : seOk a b fu nm v = false := by
      first
      | (simp only [seOk]; rw [bI_0.mp hc5]; rfl)
      | (simp only [seOk]; rw [bI_0.mp hc13, Bool.and_false]; rfl)
    exact HR _ _ _ _ _ _ rfl rfl dX3_set_18 ⟨_, rfl, (se_bad (nu := nu) hb).1.symm, by rw [(se_bad (nu := nu) hb).2]; exact hX, Fx.rf⟩
  · refine j_aload_n C dX3_set_8 rfl ?_
    refine j_iload_n C dX3_set_9 rfl ?_
    refine jVp1 (ci := 3) C dX3_set_10 gX3_set_X3_isName rfl pd_X3_isName ⟨by decide, by decide⟩ (Nat.lt_of_lt_of_le (by decide) hnp) rfl rfl rfl (Nat.le_of_ble_eq_true rfl) (c_X3_isName hnp) ?_
    rw [e4]
    refine j_if_ne C 19 dX3_set_13 (by decide) (fun hc13 => ?_) (fun hc13 => ?_)
    · have hq1 := bI_n0.mp hc5
      have hq2 := bI_n0.mp hc13
      obtain ⟨i0, hi0, rfl⟩ := inW_ix (by omega) hq1
      obtain ⟨n0, hn0, rfl⟩ := inW_ix (by omega) hq2
      refine j_iload_n C dX3_set_19 rfl ?_
      refine j_aload_n C dX3_set_20 rfl ?_
      refine jg_X3_names C dX3_set_21 n_X3_set_X3 (by decide +kernel) (Nat.lt_of_lt_of_le (by decide) hnp) ?_
      refine jg_X1_least C dX3_set_24 n_X3_set_X1 (by decide +kernel) (Nat.lt_of_lt_of_le (by decide) hnp) ?_
      refine j_iload_n C dX3_set_27 rfl ?_
      refine j_iald C n0 dX3_set_28 (Nat.lt_of_lt_of_le (by decide) hnp) rfl rfl (show _ < 12 by omega) ?_
      rw [b9]
      refine j_aload_n C dX3_set_29 rfl ?_
      refine jg_X3_names C dX3_set_30 n_X3_set_X3 (by decide +kernel) (Nat.lt_of_lt_of_le (by decide) hnp) ?_
      refine jg_X1_greatest C dX3_set_33 n_X3_set_X1 (by decide +kernel) (Nat.lt_of_lt_of_le (by decide) hnp) ?_
      refine j_iload_n C dX3_set_36 rfl ?_
      refine j_iald C n0 dX3_set_37 (Nat.lt_of_lt_of_le (by decide) hnp) rfl rfl (show _ < 12 by omega) ?_
      rw [b11]
      refine jSp3 C dX3_set_38 gX3_set_X3_isWithin rfl pd_X3_isWithin ⟨by decide, by decide⟩ (Nat.le_of_ble_eq_true rfl) c_X3_isWithin ?_
      refine j_if_ne C 47 dX3_set_41 (by decide) (fun hc41 => ?_) (fun hc41 => ?_)
      · refine j_aload_n C dX3_set_47 rfl ?_
        refine jg_X3_listed C dX3_set_48 n_X3_set_X3 (by decide +kernel) (Nat.lt_of_lt_of_le (by decide) hnp) ?_
        refine jg_X0_numbers C dX3_set_51 n_X3_set_X0 (by decide +kernel) (Nat.lt_of_lt_of_le (by decide) hnp) ?_
        refine j_iload_n C dX3_set_54 rfl ?_
        refine j_aald C i0 dX3_set_55 (Nat.lt_of_lt_of_le (by decide) hnp) rfl (by omega) ?_
        refine j_iload_n C dX3_set_56 rfl ?_
        refine j_iald C n0 dX3_set_57 (by omega) (isI_row (by omega)) rfl (by rw [LN_row (by omega)]; omega) ?_
        rw [hnu i0 (by omega)]
        refine j_istore C dX3_set_58 (by decide) ?_
        refine j_aload_n C dX3_set_60 rfl ?_
        refine jg_X3_listed C dX3_set_61 n_X3_set_X3 (by decide +kernel) (Nat.lt_of_lt_of_le (by decide) hnp) ?_
        refine jg_X0_numbers C dX3_set_64 n_X3_set_X0 (by decide +kernel) (Nat.lt_of_lt_of_le (by decide) hnp) ?_
        refine j_iload_n C dX3_set_67 rfl ?_
        refine j_aald C i0 dX3_set_68 (Nat.lt_of_lt_of_le (by decide) hnp) rfl (by omega) ?_
        refine j_iload_n C dX3_set_69 rfl ?_
        refine j_iload_n C dX3_set_70 rfl ?_
        refine j_iast C n0 dX3_set_71 (by omega) (isI_row (by omega)) rfl (by rw [LN_row (by omega)]; omega) ?_
        refine j_iload C dX3_set_72 rfl ?_
        have hb : seOk a b (nI i0) (nI n0) v = true := by simp only [seOk]; rw [nI_clamp (by omega), hq1, hq2, bI_n0.mp hc41]; rfl
        exact HR _ _ _ _ _ _ rfl rfl dX3_set_74 ⟨_, rfl, by rw [(se_ok (nu := nu) hb).1, nI_clamp (by omega), nI_clamp (by omega)], by rw [(se_ok (nu := nu) hb).2, nI_clamp (by omega), nI_clamp (by omega)]; exact hX.se (by omega) v, Fx.rf.up (by omega)⟩
      · refine j_ldc (v := (-1000000001)) C dX3_set_44 (by decide +kernel) ?_
        have hb : seOk a b (nI i0) (nI n0) v = false := by simp only [seOk]; rw [nI_clamp (by omega), bI_0.mp hc41, Bool.and_false]
        exact HR _ _ _ _ _ _ rfl rfl dX3_set_46 ⟨_, rfl, (se_bad (nu := nu) hb).1.symm, by rw [(se_bad (nu := nu) hb).2]; exact hX, Fx.rf⟩
    · refine j_ldc (v := (-1000000001)) C dX3_set_16 (by decide +kernel) ?_
      have hb : seOk a b fu nm v = false := by
        first
        | (simp only [seOk]; rw [bI_0.mp hc5]; rfl)
        | (simp only [seOk]; rw [bI_0.mp hc13, Bool.and_false]; rfl)
      exact HR _ _ _ _ _ _ rfl rfl dX3_set_18 ⟨_, rfl, (se_bad (nu := nu) hb).1.symm, by rw [(se_bad (nu := nu) hb).2]; exact hX, Fx.rf⟩
