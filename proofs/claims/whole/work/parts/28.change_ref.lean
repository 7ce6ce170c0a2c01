/-- the same value at 12 k + n for the first c futures -/
def npF (f : Nat → Int32) (c n : Nat) (v : Int32) : Nat → Int32 := fun k => if k % 12 = n ∧ k / 12 < c then v else f k
theorem npF_0 {f : Nat → Int32} {n : Nat} {v : Int32} : npF f 0 n v = f := by funext k; simp [npF]
theorem npF_s {f : Nat → Int32} {c n : Nat} {v : Int32} (hn : n < 12) : upd (npF f c n v) (12 * c + n) v = npF f (c + 1) n v := by
  funext k
  by_cases e : k = 12 * c + n
  · subst e
    rw [up_s]; simp only [npF]; rw [if_pos (by omega)]
  · rw [up_n _ _ e]; simp only [npF]
    by_cases h : k % 12 = n ∧ k / 12 < c
    · rw [if_pos h, if_pos (by omega)]
    · rw [if_neg h, if_neg (by omega)]
/-- a part of a row copied to a place -/
def nqF (f h : Nat → Int32) (o n : Nat) : Nat → Int32 := fun k => if o ≤ k ∧ k < o + n then h (k - o) else f k
theorem nqF_0 {f h : Nat → Int32} {o : Nat} : nqF f h o 0 = f := by funext k; simp only [nqF]; rw [if_neg (by omega)]
theorem nqF_s {f h : Nat → Int32} {o n : Nat} : upd (nqF f h o n) (o + n) (h n) = nqF f h o (n + 1) := by
  funext k
  by_cases e : k = o + n
  · subst e
    rw [up_s]; simp only [nqF]; rw [if_pos (by omega)]; congr 1; omega
  · rw [up_n _ _ e]; simp only [nqF]
    by_cases h : o ≤ k ∧ k < o + n
    · rw [if_pos h, if_pos (by omega)]
    · rw [if_neg h, if_neg (by omega)]
theorem RM.nm {x : Nat → Nat} {g : Nat → Nat → Int32} {a : Nat → Nat} {b nu : Nat → Nat → Int32} (hM : RM x g a b nu) (h4 : a 4 < 12) (h6 : a 6 ≤ 8) (lo us hi : Int32) : RM (va_up x 9 (x 9 + 1)) (va_up (va_up (va_up (va_up g 28 (upd (g 28) (x 9) lo)) 29 (upd (g 29) (x 9) us)) 30 (upd (g 30) (x 9) hi)) 37 (npF (g 37) 8 (x 9) us)) (va_up a 4 (a 4 + 1)) (va_up (va_up (va_up b 9 (upd (b 9) (a 4) lo)) 10 (upd (b 10) (a 4) us)) 11 (upd (b 11) (a 4) hi)) (fun i => if i < a 6 then upd (nu i) (a 4) us else nu i) := by
  obtain ⟨⟨e0, e1, e2, e3, e4, e5, e6⟩, hg, hn⟩ := id hM
  have b9 : g 28 = b 9 := hg 9 (by decide) (by decide)
  have b10 : g 29 = b 10 := hg 10 (by decide) (by decide)
  have b11 : g 30 = b 11 := hg 11 (by decide) (by decide)
  rw [e4]
  refine ⟨⟨e0, e1, e2, e3, rfl, e5, e6⟩, fun k h1 h2 => ?_, fun i hi j hj => ?_⟩
  · rw [va_un _ 37 _ _ (by omega), b9, b10, b11]
    by_cases k9 : k = 9
    · subst k9; rfl
    · by_cases k10 : k = 10
      · subst k10; rfl
      · by_cases k11 : k = 11
        · subst k11; rfl
        · rw [va_un _ _ _ _ (by omega), va_un _ _ _ _ (by omega), va_un _ _ _ _ (by omega), va_un _ _ _ _ (by omega), va_un _ _ _ _ (by omega), va_un _ _ _ _ (by omega)]; exact hg k h1 h2
  · have hi : i < a 6 := hi
    have hj : j < a 4 + 1 := hj
    rw [va_us]
    simp only [npF, if_pos hi]
    by_cases ej : j = a 4
    · rw [ej, up_s, if_pos (by omega)]
    · rw [up_n _ _ ej, if_neg (by omega)]; exact hn i hi j (by omega)
theorem RM.te {x : Nat → Nat} {g : Nat → Nat → Int32} {a : Nat → Nat} {b nu : Nat → Nat → Int32} (hM : RM x g a b nu) (rw0 ch nm fc : Int32) : RM (va_up x 12 (x 12 + 1)) (va_up (va_up (va_up (va_up g 31 (upd (g 31) (x 12) rw0)) 32 (upd (g 32) (x 12) ch)) 33 (upd (g 33) (x 12) nm)) 34 (upd (g 34) (x 12) fc)) (va_up a 5 (a 5 + 1)) (va_up (va_up (va_up (va_up b 12 (upd (b 12) (a 5) rw0)) 13 (upd (b 13) (a 5) ch)) 14 (upd (b 14) (a 5) nm)) 15 (upd (b 15) (a 5) fc)) nu := by
  obtain ⟨⟨e0, e1, e2, e3, e4, e5, e6⟩, hg, hn⟩ := id hM
  have b12 : g 31 = b 12 := hg 12 (by decide) (by decide)
  have b13 : g 32 = b 13 := hg 13 (by decide) (by decide)
  have b14 : g 33 = b 14 := hg 14 (by decide) (by decide)
  have b15 : g 34 = b 15 := hg 15 (by decide) (by decide)
  rw [e5]
  refine ⟨⟨e0, e1, e2, e3, e4, rfl, e6⟩, fun k h1 h2 => ?_, fun i hi j hj => ?_⟩
  · rw [b12, b13, b14, b15]
    by_cases k1 : k = 12
    · subst k1; rfl
    · by_cases k2 : k = 13
      · subst k2; rfl
      · by_cases k3 : k = 14
        · subst k3; rfl
        · by_cases k4 : k = 15
          · subst k4; rfl
          · rw [va_un _ _ _ _ (by omega), va_un _ _ _ _ (by omega), va_un _ _ _ _ (by omega), va_un _ _ _ _ (by omega), va_un _ _ _ _ (by omega), va_un _ _ _ _ (by omega), va_un _ _ _ _ (by omega), va_un _ _ _ _ (by omega)]; exact hg k h1 h2
  · rw [va_un _ _ _ _ (by decide), va_un _ _ _ _ (by decide), va_un _ _ _ _ (by decide), va_un _ _ _ _ (by decide)]; exact hn i hi j hj
theorem RM.fu {x : Nat → Nat} {g : Nat → Nat → Int32} {a : Nat → Nat} {b nu : Nat → Nat → Int32} (hM : RM x g a b nu) (h4 : a 4 ≤ 12) (od kp : Int32) : RM (va_up x 13 (x 13 + 1)) (va_up (va_up (va_up g 35 (upd (g 35) (x 13) od)) 36 (upd (g 36) (x 13) kp)) 37 (nqF (g 37) (g 29) (12 * x 13) (x 9))) (va_up a 6 (a 6 + 1)) (va_up (va_up b 16 (upd (b 16) (a 6) od)) 17 (upd (b 17) (a 6) kp)) (va_up nu (a 6) (cpF (nu (a 6)) (b 10) (a 4))) := by
  obtain ⟨⟨e0, e1, e2, e3, e4, e5, e6⟩, hg, hn⟩ := id hM
  have b16 : g 35 = b 16 := hg 16 (by decide) (by decide)
  have b17 : g 36 = b 17 := hg 17 (by decide) (by decide)
  have b10 : g 29 = b 10 := hg 10 (by decide) (by decide)
  rw [e6, e4]
  refine ⟨⟨e0, e1, e2, e3, e4, e5, rfl⟩, fun k h1 h2 => ?_, fun i hi j hj => ?_⟩
  · rw [va_un _ 37 _ _ (by omega), b16, b17]
    by_cases k1 : k = 16
    · subst k1; rfl
    · by_cases k2 : k = 17
      · subst k2; rfl
      · rw [va_un _ _ _ _ (by omega), va_un _ _ _ _ (by omega), va_un _ _ _ _ (by omega), va_un _ _ _ _ (by omega)]; exact hg k h1 h2
  · have hi : i < a 6 + 1 := hi
    have hj : j < a 4 := hj
    rw [va_us, b10]
    simp only [nqF]
    by_cases ei : i = a 6
    · subst ei
      rw [va_us, if_pos (by omega)]
      simp only [cpF]
      rw [if_pos hj]
      congr 1
      omega
    · rw [va_un _ _ _ _ ei, if_neg (by omega)]; exact hn i (by omega) j hj
theorem RM.se {x : Nat → Nat} {g : Nat → Nat → Int32} {a : Nat → Nat} {b nu : Nat → Nat → Int32} (hM : RM x g a b nu) {i0 n0 : Nat} (h4 : a 4 ≤ 12) (hi0 : i0 < a 6) (hn0 : n0 < a 4) (v : Int32) : RM x (va_up g 37 (upd (g 37) (12 * i0 + n0) v)) a b (va_up nu i0 (upd (nu i0) n0 v)) := by
  obtain ⟨he, hg, hn⟩ := id hM
  refine ⟨he, fun k h1 h2 => ?_, fun i hi j hj => ?_⟩
  · rw [va_un _ _ _ _ (by omega)]; exact hg k h1 h2
  · rw [va_us]
    by_cases ei : i = i0
    · subst ei
      rw [va_us]
      by_cases ej : j = n0
      · subst ej; rw [up_s, up_s]
      · rw [up_n _ _ (by omega), up_n _ _ ej]; exact hn i hi j hj
    · rw [va_un _ _ _ _ ei, up_n _ _ (by omega)]; exact hn i hi j hj
theorem n_X4_begin_X4 : ∀ w ∈ wsX40, w ∈ wsX4_begin := by decide +kernel
set_option maxHeartbeats 4000000 in
set_option maxRecDepth 100000 in
theorem c_X4_begin {l : Launch} {D : va_G} {cI cZ cQ : ClassId} {ad : Nat → Nat} {np : Nat} {x : Nat → Nat} {g : Nat → Nat → Int32} (hnp : 41 ≤ np) {a : Nat → Nat} {b nu : Nat → Nat → Int32} (hM : RM x g a b nu) (hW : WF a b nu) {f s0 : Int32} : Cn l D cI cZ cQ ad np 1 yX4_begin wsX4_begin [.ref (ad 27), .int f, .int s0] x g (EM (beR a f s0) x g (beA a f s0) b nu) := by
  refine cn_of (own := RX4) (by decide) rfl rfl (by simp [Value.category]) (Nat.le_of_ble_eq_true rfl) ?_
  intro p e s m args below meth c A Q C HR HV
  obtain ⟨⟨e0, e1, e2, e3, e4, e5, e6⟩, hg, hnu⟩ := id hM
  obtain ⟨⟨w0, ⟨w1, w1'⟩, w2, w3, w4, w5, w6⟩, wt, wn, wq⟩ := id hW
  have b9 : g 28 = b 9 := hg 9 (by decide) (by decide)
  have b10 : g 29 = b 10 := hg 10 (by decide) (by decide)
  have b11 : g 30 = b 11 := hg 11 (by decide) (by decide)
  have b12 : g 31 = b 12 := hg 12 (by decide) (by decide)
  have b13 : g 32 = b 13 := hg 13 (by decide) (by decide)
  have b14 : g 33 = b 14 := hg 14 (by decide) (by decide)
  have b15 : g 34 = b 15 := hg 15 (by decide) (by decide)
  have b16 : g 35 = b 16 := hg 16 (by decide) (by decide)
  have b17 : g 36 = b 17 := hg 17 (by decide) (by decide)
  refine j_iload_n C dX4_begin_0 rfl ?_
  refine j_iconst (v := 1) C dX4_begin_1 rfl ?_
  refine j_bipush (v := 6) C dX4_begin_2 (by decide) ?_
  refine jSp3 C dX4_begin_4 gX4_begin_X4_in rfl pd_X4_in ⟨by decide, by decide⟩ (Nat.le_of_ble_eq_true rfl) c_X4_in ?_
  refine j_if_eq C 19 dX4_begin_7 (by decide) (fun hc7 => ?_) (fun hc7 => ?_)
  · refine j_ldc (v := (-1000000001)) C dX4_begin_19 (by decide +kernel) ?_
    have hb : beOk f s0 = false := by
      first
      | (simp only [beOk]; rw [bI_0.mp hc7]; rfl)
      | (simp only [beOk]; rw [bI_0.mp hc16, Bool.and_false])
    exact HR _ _ _ _ _ _ rfl rfl dX4_begin_21 ⟨_, rfl, (be_bad hb).1.symm, by rw [(be_bad hb).2]; exact hM, Fm.rf⟩
  · refine j_iload_n C dX4_begin_10 rfl ?_
    refine j_iconst (v := 0) C dX4_begin_11 rfl ?_
    refine j_iconst (v := 4) C dX4_begin_12 rfl ?_
    refine jSp3 C dX4_begin_13 gX4_begin_X4_in rfl pd_X4_in ⟨by decide, by decide⟩ (Nat.le_of_ble_eq_true rfl) c_X4_in ?_
    refine j_if_ne C 22 dX4_begin_16 (by decide) (fun hc16 => ?_) (fun hc16 => ?_)
    · have hb : beOk f s0 = true := by simp only [beOk]; rw [bI_n0.mp hc7, bI_n0.mp hc16]; rfl
      obtain ⟨n, n1, n2, rfl⟩ := inW_lit (lo := 1) (hi := 6) (by decide) (by decide) (bI_n0.mp hc7)
      obtain ⟨q, q1, q2, rfl⟩ := inW_lit (lo := 0) (hi := 4) (by decide) (by decide) (bI_n0.mp hc16)
      refine j_aload_n C dX4_begin_22 rfl ?_
      refine jg_X4_terms C dX4_begin_23 n_X4_begin_X4 (by decide +kernel) (Nat.lt_of_lt_of_le (by decide) hnp) ?_
      refine j_istore_n C dX4_begin_26 (by decide) ?_
      refine j_aload_n C dX4_begin_27 rfl ?_
      refine j_iload_n C dX4_begin_28 rfl ?_
      refine jp_X4_firsts C n dX4_begin_29 n_X4_begin_X4 (by decide +kernel) (Nat.lt_of_lt_of_le (by decide) hnp) rfl ?_
      refine j_aload_n C dX4_begin_32 rfl ?_
      refine j_iload_n C dX4_begin_33 rfl ?_
      refine jp_X4_seconds C q dX4_begin_34 n_X4_begin_X4 (by decide +kernel) (Nat.lt_of_lt_of_le (by decide) hnp) rfl ?_
      refine j_aload_n C dX4_begin_37 rfl ?_
      refine j_iconst (v := 0) C dX4_begin_38 rfl ?_
      refine jp_X4_names C 0 dX4_begin_39 n_X4_begin_X4 (by decide +kernel) (Nat.lt_of_lt_of_le (by decide) hnp) rfl ?_
      refine j_aload_n C dX4_begin_42 rfl ?_
      refine j_iconst (v := 0) C dX4_begin_43 rfl ?_
      refine jp_X4_budget C 0 dX4_begin_44 n_X4_begin_X4 (by decide +kernel) (Nat.lt_of_lt_of_le (by decide) hnp) rfl ?_
      refine j_aload_n C dX4_begin_47 rfl ?_
      refine j_iconst (v := 0) C dX4_begin_48 rfl ?_
      refine jp_X4_rows C 0 dX4_begin_49 n_X4_begin_X4 (by decide +kernel) (Nat.lt_of_lt_of_le (by decide) hnp) rfl ?_
      refine j_aload_n C dX4_begin_52 rfl ?_
      refine j_iconst (v := 0) C dX4_begin_53 rfl ?_
      refine jp_X4_terms C 0 dX4_begin_54 n_X4_begin_X4 (by decide +kernel) (Nat.lt_of_lt_of_le (by decide) hnp) rfl ?_
      refine j_aload_n C dX4_begin_57 rfl ?_
      refine j_iconst (v := 0) C dX4_begin_58 rfl ?_
      refine jp_X4_futures C 0 dX4_begin_59 n_X4_begin_X4 (by decide +kernel) (Nat.lt_of_lt_of_le (by decide) hnp) rfl ?_
      refine j_iload_n C dX4_begin_62 rfl ?_
      refine HR _ _ _ _ _ _ rfl rfl dX4_begin_63 ⟨_, rfl, by rw [(be_ok hb).1, e5], ?_, ((((((Fm.rf.ux (by decide)).ux (by decide)).ux (by decide)).ux (by decide)).ux (by decide)).ux (by decide)).ux (by decide)⟩
      rw [(be_ok hb).2, nI_clamp (by omega), nI_clamp (by omega)]
      exact ⟨⟨rfl, rfl, rfl, rfl, rfl, rfl, rfl⟩, hg, fun i hi => absurd hi (Nat.not_lt_zero i)⟩
    · refine j_ldc (v := (-1000000001)) C dX4_begin_19 (by decide +kernel) ?_
      have hb : beOk f s0 = false := by
        first
        | (simp only [beOk]; rw [bI_0.mp hc7]; rfl)
        | (simp only [beOk]; rw [bI_0.mp hc16, Bool.and_false])
      exact HR _ _ _ _ _ _ rfl rfl dX4_begin_21 ⟨_, rfl, (be_bad hb).1.symm, by rw [(be_bad hb).2]; exact hM, Fm.rf⟩
theorem n_X4_name_X4 : ∀ w ∈ wsX40, w ∈ wsX4_name := by decide +kernel
set_option maxHeartbeats 4000000 in
set_option maxRecDepth 100000 in
theorem c_X4_name {l : Launch} {D : va_G} {cI cZ cQ : ClassId} {ad : Nat → Nat} {np : Nat} {x : Nat → Nat} {g : Nat → Nat → Int32} (hnp : 41 ≤ np) {a : Nat → Nat} {b nu : Nat → Nat → Int32} (hM : RM x g a b nu) (hW : WF a b nu) {lo us hi : Int32} : Cn l D cI cZ cQ ad np 0 yX4_name wsX4_name [.ref (ad 27), .int lo, .int us, .int hi] x g (EM (nmR a lo us hi) x g (nmA a lo us hi) (nmB a b lo us hi) (nmN a nu lo us hi)) := by
  refine cn_of (own := RX4) (by decide) rfl rfl (by simp [Value.category]) (Nat.le_of_ble_eq_true rfl) ?_
  intro p e s m args below meth c A Q C HR HV
  obtain ⟨⟨e0, e1, e2, e3, e4, e5, e6⟩, hg, hnu⟩ := id hM
  obtain ⟨⟨w0, ⟨w1, w1'⟩, w2, w3, w4, w5, w6⟩, wt, wn, wq⟩ := id hW
  have b9 : g 28 = b 9 := hg 9 (by decide) (by decide)
  have b10 : g 29 = b 10 := hg 10 (by decide) (by decide)
  have b11 : g 30 = b 11 := hg 11 (by decide) (by decide)
  have b12 : g 31 = b 12 := hg 12 (by decide) (by decide)
  have b13 : g 32 = b 13 := hg 13 (by decide) (by decide)
  have b14 : g 33 = b 14 := hg 14 (by decide) (by decide)
  have b15 : g 34 = b 15 := hg 15 (by decide) (by decide)
  have b16 : g 35 = b 16 := hg 16 (by decide) (by decide)
  have b17 : g 36 = b 17 := hg 17 (by decide) (by decide)
  refine j_iload_n C dX4_name_0 rfl ?_
  refine j_bipush (v := (-100)) C dX4_name_1 (by decide) ?_
  refine j_icmp_lt C 22 dX4_name_3 (by decide) (fun hc3 => ?_) (fun hc3 => ?_)
  · refine j_ldc (v := (-1000000001)) C dX4_name_22 (by decide +kernel) ?_
    have hb : nmOk lo us hi = false := by
      first
      | exact nmOk_f (Or.inr (Or.inr (Or.inl hc3)))
      | exact nmOk_f (Or.inr (Or.inr (Or.inr (Int32.not_le.mpr hc9))))
      | exact nmOk_f (Or.inl hc14)
      | exact nmOk_f (Or.inr (Or.inl (Int32.not_le.mp hc19)))
    exact HR _ _ _ _ _ _ rfl rfl dX4_name_24 ⟨_, rfl, (nm_bad (b := b) (nu := nu) hb).1.symm, by rw [(nm_bad (a := a) (b := b) (nu := nu) hb).2.1, (nm_bad (a := a) (b := b) (nu := nu) hb).2.2.1, (nm_bad (a := a) (b := b) (nu := nu) hb).2.2.2]; exact hM, Fm.rf⟩
  · refine j_iload_n C dX4_name_6 rfl ?_
    refine j_bipush (v := 100) C dX4_name_7 (by decide) ?_
    refine j_icmp_gt C 22 dX4_name_9 (by decide) (fun hc9 => ?_) (fun hc9 => ?_)
    · refine j_ldc (v := (-1000000001)) C dX4_name_22 (by decide +kernel) ?_
      have hb : nmOk lo us hi = false := by
        first
        | exact nmOk_f (Or.inr (Or.inr (Or.inl hc3)))
        | exact nmOk_f (Or.inr (Or.inr (Or.inr (Int32.not_le.mpr hc9))))
        | exact nmOk_f (Or.inl hc14)
        | exact nmOk_f (Or.inr (Or.inl (Int32.not_le.mp hc19)))
      exact HR _ _ _ _ _ _ rfl rfl dX4_name_24 ⟨_, rfl, (nm_bad (b := b) (nu := nu) hb).1.symm, by rw [(nm_bad (a := a) (b := b) (nu := nu) hb).2.1, (nm_bad (a := a) (b := b) (nu := nu) hb).2.2.1, (nm_bad (a := a) (b := b) (nu := nu) hb).2.2.2]; exact hM, Fm.rf⟩
    · refine j_iload_n C dX4_name_12 rfl ?_
      refine j_iload_n C dX4_name_13 rfl ?_
      refine j_icmp_gt C 22 dX4_name_14 (by decide) (fun hc14 => ?_) (fun hc14 => ?_)
      · refine j_ldc (v := (-1000000001)) C dX4_name_22 (by decide +kernel) ?_
        have hb : nmOk lo us hi = false := by
          first
          | exact nmOk_f (Or.inr (Or.inr (Or.inl hc3)))
          | exact nmOk_f (Or.inr (Or.inr (Or.inr (Int32.not_le.mpr hc9))))
          | exact nmOk_f (Or.inl hc14)
          | exact nmOk_f (Or.inr (Or.inl (Int32.not_le.mp hc19)))
        exact HR _ _ _ _ _ _ rfl rfl dX4_name_24 ⟨_, rfl, (nm_bad (b := b) (nu := nu) hb).1.symm, by rw [(nm_bad (a := a) (b := b) (nu := nu) hb).2.1, (nm_bad (a := a) (b := b) (nu := nu) hb).2.2.1, (nm_bad (a := a) (b := b) (nu := nu) hb).2.2.2]; exact hM, Fm.rf⟩
      · refine j_iload_n C dX4_name_17 rfl ?_
        refine j_iload_n C dX4_name_18 rfl ?_
        refine j_icmp_le C 25 dX4_name_19 (by decide) (fun hc19 => ?_) (fun hc19 => ?_)
        · have hb : nmOk lo us hi = true := nmOk_t hc14 (Int32.not_lt.mpr hc19) hc3 (Int32.not_lt.mp hc9)
          refine j_aload_n C dX4_name_25 rfl ?_
          refine jg_X4_names C dX4_name_26 n_X4_name_X4 (by decide +kernel) (Nat.lt_of_lt_of_le (by decide) hnp) ?_
          refine j_bipush (v := 12) C dX4_name_29 (by decide) ?_
          refine j_icmp_ne C 37 dX4_name_31 (by decide) (fun hc31 => ?_) (fun hc31 => ?_)
          · have h12 : a 4 < 12 := by have := mt (nI_eq (b := 12) (by omega) (by omega)).mpr hc31; omega
            refine j_aload_n C dX4_name_37 rfl ?_
            refine jg_X4_least C dX4_name_38 n_X4_name_X4 (by decide +kernel) (Nat.lt_of_lt_of_le (by decide) hnp) ?_
            refine j_aload_n C dX4_name_41 rfl ?_
            refine jg_X4_names C dX4_name_42 n_X4_name_X4 (by decide +kernel) (Nat.lt_of_lt_of_le (by decide) hnp) ?_
            refine j_iload_n C dX4_name_45 rfl ?_
            refine j_iast C _ dX4_name_46 (Nat.lt_of_lt_of_le (by decide) hnp) rfl rfl (show _ < 12 by omega) ?_
            refine j_aload_n C dX4_name_47 rfl ?_
            refine jg_X4_usual C dX4_name_48 n_X4_name_X4 (by decide +kernel) (Nat.lt_of_lt_of_le (by decide) hnp) ?_
            refine j_aload_n C dX4_name_51 rfl ?_
            refine jg_X4_names C dX4_name_52 n_X4_name_X4 (by decide +kernel) (Nat.lt_of_lt_of_le (by decide) hnp) ?_
            refine j_iload_n C dX4_name_55 rfl ?_
            refine j_iast C _ dX4_name_56 (Nat.lt_of_lt_of_le (by decide) hnp) rfl rfl (show _ < 12 by omega) ?_
            refine j_aload_n C dX4_name_57 rfl ?_
            refine jg_X4_greatest C dX4_name_58 n_X4_name_X4 (by decide +kernel) (Nat.lt_of_lt_of_le (by decide) hnp) ?_
            refine j_aload_n C dX4_name_61 rfl ?_
            refine jg_X4_names C dX4_name_62 n_X4_name_X4 (by decide +kernel) (Nat.lt_of_lt_of_le (by decide) hnp) ?_
            refine j_iload_n C dX4_name_65 rfl ?_
            refine j_iast C _ dX4_name_66 (Nat.lt_of_lt_of_le (by decide) hnp) rfl rfl (show _ < 12 by omega) ?_
            rw [va_un _ 29 30 _ (by decide), va_un _ 28 30 _ (by decide), va_un _ 28 29 _ (by decide)]
            have hL : ∀ (n : Nat) (i : Nat), i ≤ 8 → 8 - i < n → J p l e (Rm 0) s m args below meth c 0 0 D cI cZ cQ ad np A 5 Q x (va_up (va_up (va_up (va_up g 28 (upd (g 28) (x 9) lo)) 29 (upd (g 29) (x 9) us)) 30 (upd (g 30) (x 9) hi)) 37 (npF (g 37) i (x 9) us)) 70 [some (.ref (ad 27)), some (.int lo), some (.int us), some (.int hi), some (.int (nI i))] [] := by
              intro n
              induction n with
              | zero => intros; omega
              | succ n ih =>
                intro i h1 h2
                refine j_iload C dX4_name_70 rfl ?_
                refine j_bipush (v := 8) C dX4_name_72 (by decide) ?_
                refine j_icmp_ge C 99 dX4_name_74 (by decide) (fun hc => ?_) (fun hc => ?_)
                · have he : i = 8 := by have := (nI_leI (a := 8) (by omega) (by omega)).mp hc; omega
                  subst he
                  refine j_aload_n C dX4_name_99 rfl ?_
                  refine j_dup C dX4_name_100 rfl ?_
                  refine jg_X4_names C dX4_name_101 n_X4_name_X4 (by decide +kernel) (Nat.lt_of_lt_of_le (by decide) hnp) ?_
                  refine j_iconst (v := 1) C dX4_name_104 rfl ?_
                  refine j_iadd C dX4_name_105 ?_
                  refine jp_X4_names C (x 9 + 1) dX4_name_106 n_X4_name_X4 (by decide +kernel) (Nat.lt_of_lt_of_le (by decide) hnp) (nI_1 (x 9)) ?_
                  refine j_aload_n C dX4_name_109 rfl ?_
                  refine jg_X4_names C dX4_name_110 n_X4_name_X4 (by decide +kernel) (Nat.lt_of_lt_of_le (by decide) hnp) ?_
                  refine j_iconst (v := 1) C dX4_name_113 rfl ?_
                  refine j_isub C dX4_name_114 ?_
                  rw [va_us, nI_pred]
                  exact HR _ _ _ _ _ _ rfl rfl dX4_name_115 ⟨_, rfl, by rw [(nm_ok (b := b) (nu := nu) hb h12).1, e4], by rw [(nm_ok (a := a) (b := b) (nu := nu) hb h12).2.1, (nm_ok (a := a) (b := b) (nu := nu) hb h12).2.2.1, (nm_ok (a := a) (b := b) (nu := nu) hb h12).2.2.2]; exact hM.nm h12 w6 lo us hi, ((((Fm.rf.up (by decide)).up (by decide)).up (by decide)).up (by decide)).ux (by decide)⟩
                · have hlt : i < 8 := by have := mt (nI_leI (a := 8) (by omega) (by omega)).mpr hc; omega
                  refine j_aload_n C dX4_name_77 rfl ?_
                  refine jg_X4_number C dX4_name_78 n_X4_name_X4 (by decide +kernel) (Nat.lt_of_lt_of_le (by decide) hnp) ?_
                  refine j_bipush (v := 12) C dX4_name_81 (by decide) ?_
                  refine j_iload C dX4_name_83 rfl ?_
                  refine j_imul C dX4_name_85 ?_
                  refine j_aload_n C dX4_name_86 rfl ?_
                  refine jg_X4_names C dX4_name_87 n_X4_name_X4 (by decide +kernel) (Nat.lt_of_lt_of_le (by decide) hnp) ?_
                  refine j_iadd C dX4_name_90 ?_
                  refine j_iload_n C dX4_name_91 rfl ?_
                  refine j_iast C (12 * i + x 9) dX4_name_92 (Nat.lt_of_lt_of_le (by decide) hnp) rfl (ix12 i (x 9)) (show _ < 96 by omega) ?_
                  rw [va_us, va_uu, npF_s (by omega)]
                  refine j_iincN (n := 1) C dX4_name_93 rfl (by decide) ?_
                  refine j_goto C 70 dX4_name_96 (by decide) ?_
                  exact ih (i + 1) (by omega) (by omega)
            refine j_iconst (v := 0) C dX4_name_67 rfl ?_
            refine j_istore C dX4_name_68 (by decide) ?_
            have hL0 := hL 9 0 (by omega) (by omega)
            rw [npF_0, show g 37 = (va_up (va_up (va_up g 28 (upd (g 28) (x 9) lo)) 29 (upd (g 29) (x 9) us)) 30 (upd (g 30) (x 9) hi)) 37 by rw [va_un _ _ _ _ (by decide), va_un _ _ _ _ (by decide), va_un _ _ _ _ (by decide)], va_id] at hL0
            exact hL0
          · have h12 : ¬ a 4 < 12 := by have := (nI_eq (b := 12) (by omega) (by omega)).mp hc31; omega
            refine j_ldc (v := (-1000000002)) C dX4_name_34 (by decide +kernel) ?_
            exact HR _ _ _ _ _ _ rfl rfl dX4_name_36 ⟨_, rfl, (nm_full (b := b) (nu := nu) hb h12).1.symm, by rw [(nm_full (a := a) (b := b) (nu := nu) hb h12).2.1, (nm_full (a := a) (b := b) (nu := nu) hb h12).2.2.1, (nm_full (a := a) (b := b) (nu := nu) hb h12).2.2.2]; exact hM, Fm.rf⟩
        · refine j_ldc (v := (-1000000001)) C dX4_name_22 (by decide +kernel) ?_
          have hb : nmOk lo us hi = false := by
            first
            | exact nmOk_f (Or.inr (Or.inr (Or.inl hc3)))
            | exact nmOk_f (Or.inr (Or.inr (Or.inr (Int32.not_le.mpr hc9))))
            | exact nmOk_f (Or.inl hc14)
            | exact nmOk_f (Or.inr (Or.inl (Int32.not_le.mp hc19)))
          exact HR _ _ _ _ _ _ rfl rfl dX4_name_24 ⟨_, rfl, (nm_bad (b := b) (nu := nu) hb).1.symm, by rw [(nm_bad (a := a) (b := b) (nu := nu) hb).2.1, (nm_bad (a := a) (b := b) (nu := nu) hb).2.2.1, (nm_bad (a := a) (b := b) (nu := nu) hb).2.2.2]; exact hM, Fm.rf⟩
theorem n_X4_budget_X4 : ∀ w ∈ wsX40, w ∈ wsX4_budget := by decide +kernel
set_option maxHeartbeats 4000000 in
set_option maxRecDepth 100000 in
theorem c_X4_budget {l : Launch} {D : va_G} {cI cZ cQ : ClassId} {ad : Nat → Nat} {np : Nat} {x : Nat → Nat} {g : Nat → Nat → Int32} (hnp : 41 ≤ np) {a : Nat → Nat} {b nu : Nat → Nat → Int32} (hM : RM x g a b nu) (hW : WF a b nu) {n : Int32} : Cn l D cI cZ cQ ad np 1 yX4_budget wsX4_budget [.ref (ad 27), .int n] x g (EM (buR a n) x g (buA a n) b nu) := by
  refine cn_of (own := RX4) (by decide) rfl rfl (by simp [Value.category]) (Nat.le_of_ble_eq_true rfl) ?_
  intro p e s m args below meth c A Q C HR HV
  obtain ⟨⟨e0, e1, e2, e3, e4, e5, e6⟩, hg, hnu⟩ := id hM
  obtain ⟨⟨w0, ⟨w1, w1'⟩, w2, w3, w4, w5, w6⟩, wt, wn, wq⟩ := id hW
  have b9 : g 28 = b 9 := hg 9 (by decide) (by decide)
  have b10 : g 29 = b 10 := hg 10 (by decide) (by decide)
  have b11 : g 30 = b 11 := hg 11 (by decide) (by decide)
  have b12 : g 31 = b 12 := hg 12 (by decide) (by decide)
  have b13 : g 32 = b 13 := hg 13 (by decide) (by decide)
  have b14 : g 33 = b 14 := hg 14 (by decide) (by decide)
  have b15 : g 34 = b 15 := hg 15 (by decide) (by decide)
  have b16 : g 35 = b 16 := hg 16 (by decide) (by decide)
  have b17 : g 36 = b 17 := hg 17 (by decide) (by decide)
  refine j_iload_n C dX4_budget_0 rfl ?_
  refine j_iconst (v := 0) C dX4_budget_1 rfl ?_
  refine j_bipush (v := 12) C dX4_budget_2 (by decide) ?_
  refine jSp3 C dX4_budget_4 gX4_budget_X4_in rfl pd_X4_in ⟨by decide, by decide⟩ (Nat.le_of_ble_eq_true rfl) c_X4_in ?_
  refine j_if_ne C 13 dX4_budget_7 (by decide) (fun hc7 => ?_) (fun hc7 => ?_)
  · have hb := bI_n0.mp hc7
    obtain ⟨q, q1, q2, rfl⟩ := inW_lit (lo := 0) (hi := 12) (by decide) (by decide) hb
    refine j_aload_n C dX4_budget_13 rfl ?_
    refine jg_X4_budget C dX4_budget_14 n_X4_budget_X4 (by decide +kernel) (Nat.lt_of_lt_of_le (by decide) hnp) ?_
    refine j_istore_n C dX4_budget_17 (by decide) ?_
    refine j_aload_n C dX4_budget_18 rfl ?_
    refine j_iload_n C dX4_budget_19 rfl ?_
    refine jp_X4_budget C q dX4_budget_20 n_X4_budget_X4 (by decide +kernel) (Nat.lt_of_lt_of_le (by decide) hnp) rfl ?_
    refine j_iload_n C dX4_budget_23 rfl ?_
    exact HR _ _ _ _ _ _ rfl rfl dX4_budget_24 ⟨_, rfl, by rw [(bu_ok hb).1, e3], by rw [(bu_ok hb).2, nI_clamp (by omega)]; exact ⟨⟨e0, e1, e2, rfl, e4, e5, e6⟩, hg, hnu⟩, Fm.rf.ux (by decide)⟩
  · refine j_ldc (v := (-1000000001)) C dX4_budget_10 (by decide +kernel) ?_
    exact HR _ _ _ _ _ _ rfl rfl dX4_budget_12 ⟨_, rfl, (bu_bad (bI_0.mp hc7)).1.symm, by rw [(bu_bad (bI_0.mp hc7)).2]; exact hM, Fm.rf⟩
theorem n_X4_row_X4 : ∀ w ∈ wsX40, w ∈ wsX4_row := by decide +kernel
set_option maxHeartbeats 4000000 in
set_option maxRecDepth 100000 in
theorem c_X4_row {l : Launch} {D : va_G} {cI cZ cQ : ClassId} {ad : Nat → Nat} {np : Nat} {x : Nat → Nat} {g : Nat → Nat → Int32} (hnp : 41 ≤ np) {a : Nat → Nat} {b nu : Nat → Nat → Int32} (hM : RM x g a b nu) (hW : WF a b nu) : Cn l D cI cZ cQ ad np 0 yX4_row wsX4_row [.ref (ad 27)] x g (EM (roR a) x g (roA a) b nu) := by
  refine cn_of (own := RX4) (by decide) rfl rfl (by simp [Value.category]) (Nat.le_of_ble_eq_true rfl) ?_
  intro p e s m args below meth c A Q C HR HV
  obtain ⟨⟨e0, e1, e2, e3, e4, e5, e6⟩, hg, hnu⟩ := id hM
  obtain ⟨⟨w0, ⟨w1, w1'⟩, w2, w3, w4, w5, w6⟩, wt, wn, wq⟩ := id hW
  have b9 : g 28 = b 9 := hg 9 (by decide) (by decide)
  have b10 : g 29 = b 10 := hg 10 (by decide) (by decide)
  have b11 : g 30 = b 11 := hg 11 (by decide) (by decide)
  have b12 : g 31 = b 12 := hg 12 (by decide) (by decide)
  have b13 : g 32 = b 13 := hg 13 (by decide) (by decide)
  have b14 : g 33 = b 14 := hg 14 (by decide) (by decide)
  have b15 : g 34 = b 15 := hg 15 (by decide) (by decide)
  have b16 : g 35 = b 16 := hg 16 (by decide) (by decide)
  have b17 : g 36 = b 17 := hg 17 (by decide) (by decide)
  refine j_aload_n C dX4_row_0 rfl ?_
  refine jg_X4_rows C dX4_row_1 n_X4_row_X4 (by decide +kernel) (Nat.lt_of_lt_of_le (by decide) hnp) ?_
  refine j_bipush (v := 10) C dX4_row_4 (by decide) ?_
  refine j_icmp_ne C 12 dX4_row_6 (by decide) (fun hc6 => ?_) (fun hc6 => ?_)
  · have h10 : a 0 < 10 := by have := mt (nI_eq (b := 10) (by omega) (by omega)).mpr hc6; omega
    refine j_aload_n C dX4_row_12 rfl ?_
    refine j_dup C dX4_row_13 rfl ?_
    refine jg_X4_rows C dX4_row_14 n_X4_row_X4 (by decide +kernel) (Nat.lt_of_lt_of_le (by decide) hnp) ?_
    refine j_iconst (v := 1) C dX4_row_17 rfl ?_
    refine j_iadd C dX4_row_18 ?_
    refine jp_X4_rows C (x 11 + 1) dX4_row_19 n_X4_row_X4 (by decide +kernel) (Nat.lt_of_lt_of_le (by decide) hnp) (nI_1 (x 11)) ?_
    refine j_aload_n C dX4_row_22 rfl ?_
    refine jg_X4_rows C dX4_row_23 n_X4_row_X4 (by decide +kernel) (Nat.lt_of_lt_of_le (by decide) hnp) ?_
    refine j_iconst (v := 1) C dX4_row_26 rfl ?_
    refine j_isub C dX4_row_27 ?_
    rw [va_us, nI_pred]
    exact HR _ _ _ _ _ _ rfl rfl dX4_row_28 ⟨_, rfl, by rw [(ro_ok h10).1, e0], by rw [(ro_ok h10).2, e0]; exact ⟨⟨rfl, e1, e2, e3, e4, e5, e6⟩, hg, hnu⟩, Fm.rf.ux (by decide)⟩
  · have h10 : ¬ a 0 < 10 := by have := (nI_eq (b := 10) (by omega) (by omega)).mp hc6; omega
    refine j_ldc (v := (-1000000002)) C dX4_row_9 (by decide +kernel) ?_
    exact HR _ _ _ _ _ _ rfl rfl dX4_row_11 ⟨_, rfl, (ro_full h10).1.symm, by rw [(ro_full h10).2]; exact hM, Fm.rf⟩
theorem n_X4_term_X4 : ∀ w ∈ wsX40, w ∈ wsX4_term := by decide +kernel
set_option maxHeartbeats 4000000 in
set_option maxRecDepth 100000 in
theorem c_X4_term {l : Launch} {D : va_G} {cI cZ cQ : ClassId} {ad : Nat → Nat} {np : Nat} {x : Nat → Nat} {g : Nat → Nat → Int32} (hnp : 41 ≤ np) {a : Nat → Nat} {b nu : Nat → Nat → Int32} (hM : RM x g a b nu) (hW : WF a b nu) {rw0 ch nm fc : Int32} : Cn l D cI cZ cQ ad np 1 yX4_term wsX4_term [.ref (ad 27), .int rw0, .int ch, .int nm, .int fc] x g (EM (teR a rw0 ch nm fc) x g (teA a rw0 ch nm fc) (teB a b rw0 ch nm fc) nu) := by
  refine cn_of (own := RX4) (by decide) rfl rfl (by simp [Value.category]) (Nat.le_of_ble_eq_true rfl) ?_
  intro p e s m args below meth c A Q C HR HV
  obtain ⟨⟨e0, e1, e2, e3, e4, e5, e6⟩, hg, hnu⟩ := id hM
  obtain ⟨⟨w0, ⟨w1, w1'⟩, w2, w3, w4, w5, w6⟩, wt, wn, wq⟩ := id hW
  have b9 : g 28 = b 9 := hg 9 (by decide) (by decide)
  have b10 : g 29 = b 10 := hg 10 (by decide) (by decide)
  have b11 : g 30 = b 11 := hg 11 (by decide) (by decide)
  have b12 : g 31 = b 12 := hg 12 (by decide) (by decide)
  have b13 : g 32 = b 13 := hg 13 (by decide) (by decide)
  have b14 : g 33 = b 14 := hg 14 (by decide) (by decide)
  have b15 : g 34 = b 15 := hg 15 (by decide) (by decide)
  have b16 : g 35 = b 16 := hg 16 (by decide) (by decide)
  have b17 : g 36 = b 17 := hg 17 (by decide) (by decide)
  refine j_iload_n C dX4_term_0 rfl ?_
  refine j_iconst (v := (-1)) C dX4_term_1 rfl ?_
  refine j_aload_n C dX4_term_2 rfl ?_
  refine jg_X4_rows C dX4_term_3 n_X4_term_X4 (by decide +kernel) (Nat.lt_of_lt_of_le (by decide) hnp) ?_
  rw [e0]
  refine j_iconst (v := 1) C dX4_term_6 rfl ?_
  refine j_isub C dX4_term_7 ?_
  refine jSp3 C dX4_term_8 gX4_term_X4_in rfl pd_X4_in ⟨by decide, by decide⟩ (Nat.le_of_ble_eq_true rfl) c_X4_in ?_
  refine j_if_eq C 63 dX4_term_11 (by decide) (fun hc11 => ?_) (fun hc11 => ?_)
  · have hb : teOk a rw0 ch nm fc = false := by
      first
      | (simp only [teOk]; rw [bI_0.mp hc11]; rfl)
      | (simp only [teOk]; rw [bI_0.mp hc30, Bool.and_false]; rfl)
      | (simp only [teOk]; rw [bI_0.mp hc44, Bool.and_false]; rfl)
      | (simp only [teOk]; rw [bI_0.mp hc56, Bool.and_false])
    refine j_iconst (v := 0) C dX4_term_63 rfl ?_
    refine j_istore C dX4_term_64 (by decide) ?_
    refine j_iload C dX4_term_66 rfl ?_
    refine j_if_ne C 74 dX4_term_68 (by decide) (fun hc68 => ?_) (fun hc68 => ?_)
    · exact absurd rfl hc68
    · refine j_ldc (v := (-1000000001)) C dX4_term_71 (by decide +kernel) ?_
      exact HR _ _ _ _ _ _ rfl rfl dX4_term_73 ⟨_, rfl, (te_bad (b := b) hb).1.symm, by rw [(te_bad (b := b) hb).2.1, (te_bad (b := b) hb).2.2]; exact hM, Fm.rf⟩
  · refine j_iload_n C dX4_term_14 rfl ?_
    refine j_iconst (v := (-1)) C dX4_term_15 rfl ?_
    refine j_aload_n C dX4_term_16 rfl ?_
    refine jg_X4_firsts C dX4_term_17 n_X4_term_X4 (by decide +kernel) (Nat.lt_of_lt_of_le (by decide) hnp) ?_
    refine j_aload_n C dX4_term_20 rfl ?_
    refine jg_X4_seconds C dX4_term_21 n_X4_term_X4 (by decide +kernel) (Nat.lt_of_lt_of_le (by decide) hnp) ?_
    refine j_iadd C dX4_term_24 ?_
    rw [e1, e2]
    refine j_iconst (v := 1) C dX4_term_25 rfl ?_
    refine j_isub C dX4_term_26 ?_
    refine jSp3 C dX4_term_27 gX4_term_X4_in rfl pd_X4_in ⟨by decide, by decide⟩ (Nat.le_of_ble_eq_true rfl) c_X4_in ?_
    refine j_if_eq C 63 dX4_term_30 (by decide) (fun hc30 => ?_) (fun hc30 => ?_)
    · have hb : teOk a rw0 ch nm fc = false := by
        first
        | (simp only [teOk]; rw [bI_0.mp hc11]; rfl)
        | (simp only [teOk]; rw [bI_0.mp hc30, Bool.and_false]; rfl)
        | (simp only [teOk]; rw [bI_0.mp hc44, Bool.and_false]; rfl)
        | (simp only [teOk]; rw [bI_0.mp hc56, Bool.and_false])
      refine j_iconst (v := 0) C dX4_term_63 rfl ?_
      refine j_istore C dX4_term_64 (by decide) ?_
      refine j_iload C dX4_term_66 rfl ?_
      refine j_if_ne C 74 dX4_term_68 (by decide) (fun hc68 => ?_) (fun hc68 => ?_)
      · exact absurd rfl hc68
      · refine j_ldc (v := (-1000000001)) C dX4_term_71 (by decide +kernel) ?_
        exact HR _ _ _ _ _ _ rfl rfl dX4_term_73 ⟨_, rfl, (te_bad (b := b) hb).1.symm, by rw [(te_bad (b := b) hb).2.1, (te_bad (b := b) hb).2.2]; exact hM, Fm.rf⟩
    · refine j_iload_n C dX4_term_33 rfl ?_
      refine j_iconst (v := (-1)) C dX4_term_34 rfl ?_
      refine j_aload_n C dX4_term_35 rfl ?_
      refine jg_X4_names C dX4_term_36 n_X4_term_X4 (by decide +kernel) (Nat.lt_of_lt_of_le (by decide) hnp) ?_
      rw [e4]
      refine j_iconst (v := 1) C dX4_term_39 rfl ?_
      refine j_isub C dX4_term_40 ?_
      refine jSp3 C dX4_term_41 gX4_term_X4_in rfl pd_X4_in ⟨by decide, by decide⟩ (Nat.le_of_ble_eq_true rfl) c_X4_in ?_
      refine j_if_eq C 63 dX4_term_44 (by decide) (fun hc44 => ?_) (fun hc44 => ?_)
      · have hb : teOk a rw0 ch nm fc = false := by
          first
          | (simp only [teOk]; rw [bI_0.mp hc11]; rfl)
          | (simp only [teOk]; rw [bI_0.mp hc30, Bool.and_false]; rfl)
          | (simp only [teOk]; rw [bI_0.mp hc44, Bool.and_false]; rfl)
          | (simp only [teOk]; rw [bI_0.mp hc56, Bool.and_false])
        refine j_iconst (v := 0) C dX4_term_63 rfl ?_
        refine j_istore C dX4_term_64 (by decide) ?_
        refine j_iload C dX4_term_66 rfl ?_
        refine j_if_ne C 74 dX4_term_68 (by decide) (fun hc68 => ?_) (fun hc68 => ?_)
        · exact absurd rfl hc68
        · refine j_ldc (v := (-1000000001)) C dX4_term_71 (by decide +kernel) ?_
          exact HR _ _ _ _ _ _ rfl rfl dX4_term_73 ⟨_, rfl, (te_bad (b := b) hb).1.symm, by rw [(te_bad (b := b) hb).2.1, (te_bad (b := b) hb).2.2]; exact hM, Fm.rf⟩
      · refine j_iload C dX4_term_47 rfl ?_
        refine j_bipush (v := (-20)) C dX4_term_49 (by decide) ?_
        refine j_bipush (v := 20) C dX4_term_51 (by decide) ?_
        refine jSp3 C dX4_term_53 gX4_term_X4_in rfl pd_X4_in ⟨by decide, by decide⟩ (Nat.le_of_ble_eq_true rfl) c_X4_in ?_
        refine j_if_eq C 63 dX4_term_56 (by decide) (fun hc56 => ?_) (fun hc56 => ?_)
        · have hb : teOk a rw0 ch nm fc = false := by
            first
            | (simp only [teOk]; rw [bI_0.mp hc11]; rfl)
            | (simp only [teOk]; rw [bI_0.mp hc30, Bool.and_false]; rfl)
            | (simp only [teOk]; rw [bI_0.mp hc44, Bool.and_false]; rfl)
            | (simp only [teOk]; rw [bI_0.mp hc56, Bool.and_false])
          refine j_iconst (v := 0) C dX4_term_63 rfl ?_
          refine j_istore C dX4_term_64 (by decide) ?_
          refine j_iload C dX4_term_66 rfl ?_
          refine j_if_ne C 74 dX4_term_68 (by decide) (fun hc68 => ?_) (fun hc68 => ?_)
          · exact absurd rfl hc68
          · refine j_ldc (v := (-1000000001)) C dX4_term_71 (by decide +kernel) ?_
            exact HR _ _ _ _ _ _ rfl rfl dX4_term_73 ⟨_, rfl, (te_bad (b := b) hb).1.symm, by rw [(te_bad (b := b) hb).2.1, (te_bad (b := b) hb).2.2]; exact hM, Fm.rf⟩
        · have hb : teOk a rw0 ch nm fc = true := by simp only [teOk]; rw [bI_n0.mp hc11, bI_n0.mp hc30, bI_n0.mp hc44, bI_n0.mp hc56]; rfl
          refine j_iconst (v := 1) C dX4_term_59 rfl ?_
          refine j_goto C 64 dX4_term_60 (by decide) ?_
          refine j_istore C dX4_term_64 (by decide) ?_
          refine j_iload C dX4_term_66 rfl ?_
          refine j_if_ne C 74 dX4_term_68 (by decide) (fun hc68 => ?_) (fun hc68 => ?_)
          · refine j_aload_n C dX4_term_74 rfl ?_
            refine jg_X4_terms C dX4_term_75 n_X4_term_X4 (by decide +kernel) (Nat.lt_of_lt_of_le (by decide) hnp) ?_
            refine j_bipush (v := 40) C dX4_term_78 (by decide) ?_
            refine j_icmp_ne C 86 dX4_term_80 (by decide) (fun hc80 => ?_) (fun hc80 => ?_)
            · have h40 : a 5 < 40 := by have := mt (nI_eq (b := 40) (by omega) (by omega)).mpr hc80; omega
              refine j_aload_n C dX4_term_86 rfl ?_
              refine jg_X4_termRow C dX4_term_87 n_X4_term_X4 (by decide +kernel) (Nat.lt_of_lt_of_le (by decide) hnp) ?_
              refine j_aload_n C dX4_term_90 rfl ?_
              refine jg_X4_terms C dX4_term_91 n_X4_term_X4 (by decide +kernel) (Nat.lt_of_lt_of_le (by decide) hnp) ?_
              refine j_iload_n C dX4_term_94 rfl ?_
              refine j_iast C _ dX4_term_95 (Nat.lt_of_lt_of_le (by decide) hnp) rfl rfl (show _ < 40 by omega) ?_
              refine j_aload_n C dX4_term_96 rfl ?_
              refine jg_X4_termChoice C dX4_term_97 n_X4_term_X4 (by decide +kernel) (Nat.lt_of_lt_of_le (by decide) hnp) ?_
              refine j_aload_n C dX4_term_100 rfl ?_
              refine jg_X4_terms C dX4_term_101 n_X4_term_X4 (by decide +kernel) (Nat.lt_of_lt_of_le (by decide) hnp) ?_
              refine j_iload_n C dX4_term_104 rfl ?_
              refine j_iast C _ dX4_term_105 (Nat.lt_of_lt_of_le (by decide) hnp) rfl rfl (show _ < 40 by omega) ?_
              refine j_aload_n C dX4_term_106 rfl ?_
              refine jg_X4_termName C dX4_term_107 n_X4_term_X4 (by decide +kernel) (Nat.lt_of_lt_of_le (by decide) hnp) ?_
              refine j_aload_n C dX4_term_110 rfl ?_
              refine jg_X4_terms C dX4_term_111 n_X4_term_X4 (by decide +kernel) (Nat.lt_of_lt_of_le (by decide) hnp) ?_
              refine j_iload_n C dX4_term_114 rfl ?_
              refine j_iast C _ dX4_term_115 (Nat.lt_of_lt_of_le (by decide) hnp) rfl rfl (show _ < 40 by omega) ?_
              refine j_aload_n C dX4_term_116 rfl ?_
              refine jg_X4_termFactor C dX4_term_117 n_X4_term_X4 (by decide +kernel) (Nat.lt_of_lt_of_le (by decide) hnp) ?_
              refine j_aload_n C dX4_term_120 rfl ?_
              refine jg_X4_terms C dX4_term_121 n_X4_term_X4 (by decide +kernel) (Nat.lt_of_lt_of_le (by decide) hnp) ?_
              refine j_iload C dX4_term_124 rfl ?_
              refine j_iast C _ dX4_term_126 (Nat.lt_of_lt_of_le (by decide) hnp) rfl rfl (show _ < 40 by omega) ?_
              rw [va_un _ 31 32 _ (by decide), va_un _ 32 33 _ (by decide), va_un _ 31 33 _ (by decide), va_un _ 33 34 _ (by decide), va_un _ 32 34 _ (by decide), va_un _ 31 34 _ (by decide)]
              refine j_aload_n C dX4_term_127 rfl ?_
              refine j_dup C dX4_term_128 rfl ?_
              refine jg_X4_terms C dX4_term_129 n_X4_term_X4 (by decide +kernel) (Nat.lt_of_lt_of_le (by decide) hnp) ?_
              refine j_iconst (v := 1) C dX4_term_132 rfl ?_
              refine j_iadd C dX4_term_133 ?_
              refine jp_X4_terms C (x 12 + 1) dX4_term_134 n_X4_term_X4 (by decide +kernel) (Nat.lt_of_lt_of_le (by decide) hnp) (nI_1 (x 12)) ?_
              refine j_aload_n C dX4_term_137 rfl ?_
              refine jg_X4_terms C dX4_term_138 n_X4_term_X4 (by decide +kernel) (Nat.lt_of_lt_of_le (by decide) hnp) ?_
              rw [va_us]
              exact HR _ _ _ _ _ _ rfl rfl dX4_term_141 ⟨_, rfl, by rw [(te_ok (b := b) hb h40).1, e5], by rw [(te_ok (b := b) hb h40).2.1, (te_ok (b := b) hb h40).2.2]; exact hM.te rw0 ch nm fc, ((((Fm.rf.up (by decide)).up (by decide)).up (by decide)).up (by decide)).ux (by decide)⟩
            · have h40 : ¬ a 5 < 40 := by have := (nI_eq (b := 40) (by omega) (by omega)).mp hc80; omega
              refine j_ldc (v := (-1000000002)) C dX4_term_83 (by decide +kernel) ?_
              exact HR _ _ _ _ _ _ rfl rfl dX4_term_85 ⟨_, rfl, (te_full (b := b) hb h40).1.symm, by rw [(te_full (b := b) hb h40).2.1, (te_full (b := b) hb h40).2.2]; exact hM, Fm.rf⟩
          · exact absurd hc68 (by decide)
theorem n_X4_future_X4 : ∀ w ∈ wsX40, w ∈ wsX4_future := by decide +kernel
set_option maxHeartbeats 4000000 in
set_option maxRecDepth 100000 in
theorem c_X4_future {l : Launch} {D : va_G} {cI cZ cQ : ClassId} {ad : Nat → Nat} {np : Nat} {x : Nat → Nat} {g : Nat → Nat → Int32} (hnp : 41 ≤ np) {a : Nat → Nat} {b nu : Nat → Nat → Int32} (hM : RM x g a b nu) (hW : WF a b nu) {od kp : Int32} (hkp : vp_nar .boolean kp = kp) : Cn l D cI cZ cQ ad np 1 yX4_future wsX4_future [.ref (ad 27), .int od, .int kp] x g (EM (fuR a od) x g (fuA a od) (fuB a b od kp) (fuN a b nu od)) := by
  refine cn_of (own := RX4) (by decide) rfl rfl (by simp [Value.category]) (Nat.le_of_ble_eq_true rfl) ?_
  intro p e s m args below meth c A Q C HR HV
  obtain ⟨⟨e0, e1, e2, e3, e4, e5, e6⟩, hg, hnu⟩ := id hM
  obtain ⟨⟨w0, ⟨w1, w1'⟩, w2, w3, w4, w5, w6⟩, wt, wn, wq⟩ := id hW
  have b9 : g 28 = b 9 := hg 9 (by decide) (by decide)
  have b10 : g 29 = b 10 := hg 10 (by decide) (by decide)
  have b11 : g 30 = b 11 := hg 11 (by decide) (by decide)
  have b12 : g 31 = b 12 := hg 12 (by decide) (by decide)
  have b13 : g 32 = b 13 := hg 13 (by decide) (by decide)
  have b14 : g 33 = b 14 := hg 14 (by decide) (by decide)
  have b15 : g 34 = b 15 := hg 15 (by decide) (by decide)
  have b16 : g 35 = b 16 := hg 16 (by decide) (by decide)
  have b17 : g 36 = b 17 := hg 17 (by decide) (by decide)
  refine j_iload_n C dX4_future_0 rfl ?_
  refine j_iconst (v := 1) C dX4_future_1 rfl ?_
  refine j_bipush (v := 100) C dX4_future_2 (by decide) ?_
  refine jSp3 C dX4_future_4 gX4_future_X4_in rfl pd_X4_in ⟨by decide, by decide⟩ (Nat.le_of_ble_eq_true rfl) c_X4_in ?_
  refine j_if_ne C 13 dX4_future_7 (by decide) (fun hc7 => ?_) (fun hc7 => ?_)
  · refine j_aload_n C dX4_future_13 rfl ?_
    refine jg_X4_futures C dX4_future_14 n_X4_future_X4 (by decide +kernel) (Nat.lt_of_lt_of_le (by decide) hnp) ?_
    refine j_bipush (v := 8) C dX4_future_17 (by decide) ?_
    refine j_icmp_ne C 25 dX4_future_19 (by decide) (fun hc19 => ?_) (fun hc19 => ?_)
    · have h8 : a 6 < 8 := by have := mt (nI_eq (b := 8) (by omega) (by omega)).mpr hc19; omega
      refine j_aload_n C dX4_future_25 rfl ?_
      refine jg_X4_odds C dX4_future_26 n_X4_future_X4 (by decide +kernel) (Nat.lt_of_lt_of_le (by decide) hnp) ?_
      refine j_aload_n C dX4_future_29 rfl ?_
      refine jg_X4_futures C dX4_future_30 n_X4_future_X4 (by decide +kernel) (Nat.lt_of_lt_of_le (by decide) hnp) ?_
      refine j_iload_n C dX4_future_33 rfl ?_
      refine j_iast C _ dX4_future_34 (Nat.lt_of_lt_of_le (by decide) hnp) rfl rfl (show _ < 8 by omega) ?_
      refine j_aload_n C dX4_future_35 rfl ?_
      refine jg_X4_kept C dX4_future_36 n_X4_future_X4 (by decide +kernel) (Nat.lt_of_lt_of_le (by decide) hnp) ?_
      refine j_aload_n C dX4_future_39 rfl ?_
      refine jg_X4_futures C dX4_future_40 n_X4_future_X4 (by decide +kernel) (Nat.lt_of_lt_of_le (by decide) hnp) ?_
      refine j_iload_n C dX4_future_43 rfl ?_
      refine j_zast C _ dX4_future_44 (Nat.lt_of_lt_of_le (by decide) hnp) (Or.inr rfl) rfl (by omega) hkp ?_
      rw [va_un _ 35 36 _ (by decide)]
      have hL : ∀ (n : Nat) (i : Nat), i ≤ x 9 → x 9 - i < n → J p l e (Rm 1) s m args below meth c 0 0 D cI cZ cQ ad np A 4 Q x (va_up (va_up (va_up g 35 (upd (g 35) (x 13) od)) 36 (upd (g 36) (x 13) kp)) 37 (nqF (g 37) (g 29) (12 * x 13) i)) 47 [some (.ref (ad 27)), some (.int od), some (.int kp), some (.int (nI i))] [] := by
        intro n
        induction n with
        | zero => intros; omega
        | succ n ih =>
          intro i h1 h2
          refine j_iload_n C dX4_future_47 rfl ?_
          refine j_aload_n C dX4_future_48 rfl ?_
          refine jg_X4_names C dX4_future_49 n_X4_future_X4 (by decide +kernel) (Nat.lt_of_lt_of_le (by decide) hnp) ?_
          refine j_icmp_ge C 81 dX4_future_52 (by decide) (fun hc => ?_) (fun hc => ?_)
          · have he : i = x 9 := by have := (nI_leI (by omega) (by omega)).mp hc; omega
            subst he
            refine j_aload_n C dX4_future_81 rfl ?_
            refine j_dup C dX4_future_82 rfl ?_
            refine jg_X4_futures C dX4_future_83 n_X4_future_X4 (by decide +kernel) (Nat.lt_of_lt_of_le (by decide) hnp) ?_
            refine j_iconst (v := 1) C dX4_future_86 rfl ?_
            refine j_iadd C dX4_future_87 ?_
            refine jp_X4_futures C (x 13 + 1) dX4_future_88 n_X4_future_X4 (by decide +kernel) (Nat.lt_of_lt_of_le (by decide) hnp) (nI_1 (x 13)) ?_
            refine j_aload_n C dX4_future_91 rfl ?_
            refine jg_X4_futures C dX4_future_92 n_X4_future_X4 (by decide +kernel) (Nat.lt_of_lt_of_le (by decide) hnp) ?_
            refine j_iconst (v := 1) C dX4_future_95 rfl ?_
            refine j_isub C dX4_future_96 ?_
            rw [va_us, nI_pred]
            exact HR _ _ _ _ _ _ rfl rfl dX4_future_97 ⟨_, rfl, by rw [(fu_ok (b := b) (nu := nu) (kp := kp) (bI_n0.mp hc7) h8).1, e6], by rw [(fu_ok (b := b) (nu := nu) (kp := kp) (bI_n0.mp hc7) h8).2.1, (fu_ok (b := b) (nu := nu) (kp := kp) (bI_n0.mp hc7) h8).2.2.1, (fu_ok (b := b) (nu := nu) (kp := kp) (bI_n0.mp hc7) h8).2.2.2]; exact hM.fu w4 od kp, (((Fm.rf.up (by decide)).up (by decide)).up (by decide)).ux (by decide)⟩
          · have hlt : i < x 9 := by have := mt (nI_leI (by omega) (by omega)).mpr hc; omega
            refine j_aload_n C dX4_future_55 rfl ?_
            refine jg_X4_number C dX4_future_56 n_X4_future_X4 (by decide +kernel) (Nat.lt_of_lt_of_le (by decide) hnp) ?_
            refine j_bipush (v := 12) C dX4_future_59 (by decide) ?_
            refine j_aload_n C dX4_future_61 rfl ?_
            refine jg_X4_futures C dX4_future_62 n_X4_future_X4 (by decide +kernel) (Nat.lt_of_lt_of_le (by decide) hnp) ?_
            refine j_imul C dX4_future_65 ?_
            refine j_iload_n C dX4_future_66 rfl ?_
            refine j_iadd C dX4_future_67 ?_
            refine j_aload_n C dX4_future_68 rfl ?_
            refine jg_X4_usual C dX4_future_69 n_X4_future_X4 (by decide +kernel) (Nat.lt_of_lt_of_le (by decide) hnp) ?_
            refine j_iload_n C dX4_future_72 rfl ?_
            refine j_iald C i dX4_future_73 (Nat.lt_of_lt_of_le (by decide) hnp) rfl rfl (show _ < 12 by omega) ?_
            rw [va_un _ 37 29 _ (by decide), va_un _ 36 29 _ (by decide), va_un _ 35 29 _ (by decide)]
            refine j_iast C (12 * x 13 + i) dX4_future_74 (Nat.lt_of_lt_of_le (by decide) hnp) rfl (ix12 (x 13) i) (show _ < 96 by omega) ?_
            rw [va_us, va_uu, nqF_s]
            refine j_iincN (n := 1) C dX4_future_75 rfl (by decide) ?_
            refine j_goto C 47 dX4_future_78 (by decide) ?_
            exact ih (i + 1) (by omega) (by omega)
      refine j_iconst (v := 0) C dX4_future_45 rfl ?_
      refine j_istore_n C dX4_future_46 (by decide) ?_
      have hL0 := hL (x 9 + 1) 0 (by omega) (by omega)
      rw [nqF_0, show g 37 = (va_up (va_up g 35 (upd (g 35) (x 13) od)) 36 (upd (g 36) (x 13) kp)) 37 by rw [va_un _ _ _ _ (by decide), va_un _ _ _ _ (by decide)], va_id] at hL0
      exact hL0
    · have h8 : ¬ a 6 < 8 := by have := (nI_eq (b := 8) (by omega) (by omega)).mp hc19; omega
      refine j_ldc (v := (-1000000002)) C dX4_future_22 (by decide +kernel) ?_
      exact HR _ _ _ _ _ _ rfl rfl dX4_future_24 ⟨_, rfl, (fu_full (b := b) (nu := nu) (kp := kp) (bI_n0.mp hc7) h8).1.symm, by rw [(fu_full (b := b) (nu := nu) (kp := kp) (bI_n0.mp hc7) h8).2.1, (fu_full (b := b) (nu := nu) (kp := kp) (bI_n0.mp hc7) h8).2.2.1, (fu_full (b := b) (nu := nu) (kp := kp) (bI_n0.mp hc7) h8).2.2.2]; exact hM, Fm.rf⟩
  · refine j_ldc (v := (-1000000001)) C dX4_future_10 (by decide +kernel) ?_
    exact HR _ _ _ _ _ _ rfl rfl dX4_future_12 ⟨_, rfl, (fu_bad (b := b) (nu := nu) (kp := kp) (bI_0.mp hc7)).1.symm, by rw [(fu_bad (b := b) (nu := nu) (kp := kp) (bI_0.mp hc7)).2.1, (fu_bad (b := b) (nu := nu) (kp := kp) (bI_0.mp hc7)).2.2.1, (fu_bad (b := b) (nu := nu) (kp := kp) (bI_0.mp hc7)).2.2.2]; exact hM, Fm.rf⟩
theorem n_X4_set_X4 : ∀ w ∈ wsX40, w ∈ wsX4_set := by decide +kernel
set_option maxHeartbeats 4000000 in
set_option maxRecDepth 100000 in
theorem c_X4_set {l : Launch} {D : va_G} {cI cZ cQ : ClassId} {ad : Nat → Nat} {np : Nat} {x : Nat → Nat} {g : Nat → Nat → Int32} (hnp : 41 ≤ np) {a : Nat → Nat} {b nu : Nat → Nat → Int32} (hM : RM x g a b nu) (hW : WF a b nu) {fu nm v : Int32} : Cn l D cI cZ cQ ad np 1 yX4_set wsX4_set [.ref (ad 27), .int fu, .int nm, .int v] x g (EM (seR a b nu fu nm v) x g a b (seN a b nu fu nm v)) := by
  refine cn_of (own := RX4) (by decide) rfl rfl (by simp [Value.category]) (Nat.le_of_ble_eq_true rfl) ?_
  intro p e s m args below meth c A Q C HR HV
  obtain ⟨⟨e0, e1, e2, e3, e4, e5, e6⟩, hg, hnu⟩ := id hM
  obtain ⟨⟨w0, ⟨w1, w1'⟩, w2, w3, w4, w5, w6⟩, wt, wn, wq⟩ := id hW
  have b9 : g 28 = b 9 := hg 9 (by decide) (by decide)
  have b10 : g 29 = b 10 := hg 10 (by decide) (by decide)
  have b11 : g 30 = b 11 := hg 11 (by decide) (by decide)
  have b12 : g 31 = b 12 := hg 12 (by decide) (by decide)
  have b13 : g 32 = b 13 := hg 13 (by decide) (by decide)
  have b14 : g 33 = b 14 := hg 14 (by decide) (by decide)
  have b15 : g 34 = b 15 := hg 15 (by decide) (by decide)
  have b16 : g 35 = b 16 := hg 16 (by decide) (by decide)
  have b17 : g 36 = b 17 := hg 17 (by decide) (by decide)
  refine j_iload_n C dX4_set_0 rfl ?_
  refine j_iconst (v := 0) C dX4_set_1 rfl ?_
  refine j_aload_n C dX4_set_2 rfl ?_
  refine jg_X4_futures C dX4_set_3 n_X4_set_X4 (by decide +kernel) (Nat.lt_of_lt_of_le (by decide) hnp) ?_
  rw [e6]
  refine j_iconst (v := 1) C dX4_set_6 rfl ?_
  refine j_isub C dX4_set_7 ?_
  refine jSp3 C dX4_set_8 gX4_set_X4_in rfl pd_X4_in ⟨by decide, by decide⟩ (Nat.le_of_ble_eq_true rfl) c_X4_in ?_
  refine j_if_eq C 47 dX4_set_11 (by decide) (fun hc11 => ?_) (fun hc11 => ?_)
  · refine j_ldc (v := (-1000000001)) C dX4_set_47 (by decide +kernel) ?_
    first
    | (have hb : seOk a b fu nm v = false := by
         first
         | (simp only [seOk]; rw [bI_0.mp hc11]; rfl)
         | (simp only [seOk]; rw [bI_0.mp hc25, Bool.and_false]; rfl)
       exact HR _ _ _ _ _ _ rfl rfl dX4_set_49 ⟨_, rfl, (se_bad (nu := nu) hb).1.symm, by rw [(se_bad (nu := nu) hb).2]; exact hM, Fm.rf⟩)
    | (have hb : seOk a b (nI i0) (nI n0) v = false := by simp only [seOk]; rw [nI_clamp (by omega), bI_0.mp hc44, Bool.and_false]
       exact HR _ _ _ _ _ _ rfl rfl dX4_set_49 ⟨_, rfl, (se_bad (nu := nu) hb).1.symm, by rw [(se_bad (nu := nu) hb).2]; exact hM, Fm.rf⟩)
  · refine j_iload_n C dX4_set_14 rfl ?_
    refine j_iconst (v := 0) C dX4_set_15 rfl ?_
    refine j_aload_n C dX4_set_16 rfl ?_
    refine jg_X4_names C dX4_set_17 n_X4_set_X4 (by decide +kernel) (Nat.lt_of_lt_of_le (by decide) hnp) ?_
    rw [e4]
    refine j_iconst (v := 1) C dX4_set_20 rfl ?_
    refine j_isub C dX4_set_21 ?_
    refine jSp3 C dX4_set_22 gX4_set_X4_in rfl pd_X4_in ⟨by decide, by decide⟩ (Nat.le_of_ble_eq_true rfl) c_X4_in ?_
    refine j_if_eq C 47 dX4_set_25 (by decide) (fun hc25 => ?_) (fun hc25 => ?_)
    · refine j_ldc (v := (-1000000001)) C dX4_set_47 (by decide +kernel) ?_
      first
      | (have hb : seOk a b fu nm v = false := by
           first
           | (simp only [seOk]; rw [bI_0.mp hc11]; rfl)
           | (simp only [seOk]; rw [bI_0.mp hc25, Bool.and_false]; rfl)
         exact HR _ _ _ _ _ _ rfl rfl dX4_set_49 ⟨_, rfl, (se_bad (nu := nu) hb).1.symm, by rw [(se_bad (nu := nu) hb).2]; exact hM, Fm.rf⟩)
      | (have hb : seOk a b (nI i0) (nI n0) v = false := by simp only [seOk]; rw [nI_clamp (by omega), bI_0.mp hc44, Bool.and_false]
         exact HR _ _ _ _ _ _ rfl rfl dX4_set_49 ⟨_, rfl, (se_bad (nu := nu) hb).1.symm, by rw [(se_bad (nu := nu) hb).2]; exact hM, Fm.rf⟩)
    · have hq1 := bI_n0.mp hc11
      have hq2 := bI_n0.mp hc25
      obtain ⟨i0, hi0, rfl⟩ := inW_ix (by omega) hq1
      obtain ⟨n0, hn0, rfl⟩ := inW_ix (by omega) hq2
      refine j_iload_n C dX4_set_28 rfl ?_
      refine j_aload_n C dX4_set_29 rfl ?_
      refine jg_X4_least C dX4_set_30 n_X4_set_X4 (by decide +kernel) (Nat.lt_of_lt_of_le (by decide) hnp) ?_
      refine j_iload_n C dX4_set_33 rfl ?_
      refine j_iald C n0 dX4_set_34 (Nat.lt_of_lt_of_le (by decide) hnp) rfl rfl (show _ < 12 by omega) ?_
      rw [b9]
      refine j_aload_n C dX4_set_35 rfl ?_
      refine jg_X4_greatest C dX4_set_36 n_X4_set_X4 (by decide +kernel) (Nat.lt_of_lt_of_le (by decide) hnp) ?_
      refine j_iload_n C dX4_set_39 rfl ?_
      refine j_iald C n0 dX4_set_40 (Nat.lt_of_lt_of_le (by decide) hnp) rfl rfl (show _ < 12 by omega) ?_
      rw [b11]
      refine jSp3 C dX4_set_41 gX4_set_X4_in rfl pd_X4_in ⟨by decide, by decide⟩ (Nat.le_of_ble_eq_true rfl) c_X4_in ?_
      refine j_if_ne C 50 dX4_set_44 (by decide) (fun hc44 => ?_) (fun hc44 => ?_)
      · refine j_aload_n C dX4_set_50 rfl ?_
        refine jg_X4_number C dX4_set_51 n_X4_set_X4 (by decide +kernel) (Nat.lt_of_lt_of_le (by decide) hnp) ?_
        refine j_bipush (v := 12) C dX4_set_54 (by decide) ?_
        refine j_iload_n C dX4_set_56 rfl ?_
        refine j_imul C dX4_set_57 ?_
        refine j_iload_n C dX4_set_58 rfl ?_
        refine j_iadd C dX4_set_59 ?_
        refine j_iald C (12 * i0 + n0) dX4_set_60 (Nat.lt_of_lt_of_le (by decide) hnp) rfl (ix12 i0 n0) (show _ < 96 by omega) ?_
        rw [hnu i0 hi0 n0 hn0]
        refine j_istore C dX4_set_61 (by decide) ?_
        refine j_aload_n C dX4_set_63 rfl ?_
        refine jg_X4_number C dX4_set_64 n_X4_set_X4 (by decide +kernel) (Nat.lt_of_lt_of_le (by decide) hnp) ?_
        refine j_bipush (v := 12) C dX4_set_67 (by decide) ?_
        refine j_iload_n C dX4_set_69 rfl ?_
        refine j_imul C dX4_set_70 ?_
        refine j_iload_n C dX4_set_71 rfl ?_
        refine j_iadd C dX4_set_72 ?_
        refine j_iload_n C dX4_set_73 rfl ?_
        refine j_iast C (12 * i0 + n0) dX4_set_74 (Nat.lt_of_lt_of_le (by decide) hnp) rfl (ix12 i0 n0) (show _ < 96 by omega) ?_
        refine j_iload C dX4_set_75 rfl ?_
        have hb : seOk a b (nI i0) (nI n0) v = true := by simp only [seOk]; rw [nI_clamp (by omega), hq1, hq2, bI_n0.mp hc44]; rfl
        exact HR _ _ _ _ _ _ rfl rfl dX4_set_77 ⟨_, rfl, by rw [(se_ok (nu := nu) hb).1, nI_clamp (by omega), nI_clamp (by omega)], by rw [(se_ok (nu := nu) hb).2, nI_clamp (by omega), nI_clamp (by omega)]; exact hM.se w4 hi0 hn0 v, Fm.rf.up (by decide)⟩
      · refine j_ldc (v := (-1000000001)) C dX4_set_47 (by decide +kernel) ?_
        first
        | (have hb : seOk a b fu nm v = false := by
             first
             | (simp only [seOk]; rw [bI_0.mp hc11]; rfl)
             | (simp only [seOk]; rw [bI_0.mp hc25, Bool.and_false]; rfl)
           exact HR _ _ _ _ _ _ rfl rfl dX4_set_49 ⟨_, rfl, (se_bad (nu := nu) hb).1.symm, by rw [(se_bad (nu := nu) hb).2]; exact hM, Fm.rf⟩)
        | (have hb : seOk a b (nI i0) (nI n0) v = false := by simp only [seOk]; rw [nI_clamp (by omega), bI_0.mp hc44, Bool.and_false]
           exact HR _ _ _ _ _ _ rfl rfl dX4_set_49 ⟨_, rfl, (se_bad (nu := nu) hb).1.symm, by rw [(se_bad (nu := nu) hb).2]; exact hM, Fm.rf⟩)
