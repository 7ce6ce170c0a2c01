theorem n_X4_told_X4 : ∀ w ∈ wsX40, w ∈ wsX4_told := by decide +kernel
set_option maxHeartbeats 4000000 in
set_option maxRecDepth 100000 in
theorem c_X4_told {l : Launch} {D : va_G} {cI cZ cQ : ClassId} {ad : Nat → Nat} {np : Nat} {x : Nat → Nat} {g : Nat → Nat → Int32} (hnp : 41 ≤ np) {a : Nat → Nat} {b nu : Nat → Nat → Int32} (hM : RM x g a b nu) (hW : WF a b nu) {w : Int32} : Cn l D cI cZ cQ ad np 1 yX4_told wsX4_told [.ref (ad 27), .int w] x g (EM (toldF a b w) x g a b nu) := by
  refine cn_of (own := RX4) (by decide) rfl rfl (by simp [Value.category]) (Nat.le_of_ble_eq_true rfl) ?_
  intro p e s m args below meth c A Q C HR HV
  obtain ⟨⟨e0, e1, e2, e3, e4, e5, e6⟩, hg, hnu⟩ := id hM
  obtain ⟨⟨w0, ⟨w1, w1'⟩, w2, w3, w4, w5, w6⟩, wt, wn, wq⟩ := id hW
  have b9 : g 28 = b 9 := hg 9 (by decide) (by decide)
  have b10 : g 29 = b 10 := hg 10 (by decide) (by decide)
  have b11 : g 30 = b 11 := hg 11 (by decide) (by decide)
  have b12 : g 31 = b 12 := hg 12 (by decide) (by decide)
  have b13 : g 32 = b 13 := hg 13 (by decide) (by decide)
  have b14 : g 33 = b 14 := hg 14 (by decide) (by decide)
  have b15 : g 34 = b 15 := hg 15 (by decide) (by decide)
  have b16 : g 35 = b 16 := hg 16 (by decide) (by decide)
  have b17 : g 36 = b 17 := hg 17 (by decide) (by decide)
  refine j_iload_n C dX4_told_0 rfl ?_
  by_cases h0 : w = 0
  · subst h0
    refine j_tableIn C 48 (off := 47) dX4_told_1 (by decide) (by decide) (by decide) (by decide) ?_
    refine j_aload_n C dX4_told_48 rfl ?_
    refine jg_X4_names C dX4_told_49 n_X4_told_X4 (by decide +kernel) (Nat.lt_of_lt_of_le (by decide) hnp) ?_
    exact HR _ _ _ _ _ _ rfl rfl dX4_told_52 ⟨_, rfl, by rw [e4]; rfl, hM, Fm.rf⟩
  by_cases h1 : w = 1
  · subst h1
    refine j_tableIn C 53 (off := 52) dX4_told_1 (by decide) (by decide) (by decide) (by decide) ?_
    refine j_aload_n C dX4_told_53 rfl ?_
    refine jg_X4_rows C dX4_told_54 n_X4_told_X4 (by decide +kernel) (Nat.lt_of_lt_of_le (by decide) hnp) ?_
    exact HR _ _ _ _ _ _ rfl rfl dX4_told_57 ⟨_, rfl, by rw [e0]; rfl, hM, Fm.rf⟩
  by_cases h2 : w = 2
  · subst h2
    refine j_tableIn C 58 (off := 57) dX4_told_1 (by decide) (by decide) (by decide) (by decide) ?_
    refine j_aload_n C dX4_told_58 rfl ?_
    refine jg_X4_terms C dX4_told_59 n_X4_told_X4 (by decide +kernel) (Nat.lt_of_lt_of_le (by decide) hnp) ?_
    exact HR _ _ _ _ _ _ rfl rfl dX4_told_62 ⟨_, rfl, by rw [e5]; rfl, hM, Fm.rf⟩
  by_cases h3 : w = 3
  · subst h3
    refine j_tableIn C 63 (off := 62) dX4_told_1 (by decide) (by decide) (by decide) (by decide) ?_
    refine j_aload_n C dX4_told_63 rfl ?_
    refine jg_X4_futures C dX4_told_64 n_X4_told_X4 (by decide +kernel) (Nat.lt_of_lt_of_le (by decide) hnp) ?_
    exact HR _ _ _ _ _ _ rfl rfl dX4_told_67 ⟨_, rfl, by rw [e6]; rfl, hM, Fm.rf⟩
  by_cases h4 : w = 4
  · subst h4
    refine j_tableIn C 68 (off := 67) dX4_told_1 (by decide) (by decide) (by decide) (by decide) ?_
    refine j_aload_n C dX4_told_68 rfl ?_
    refine jVp0 (ci := 4) C dX4_told_69 gX4_told_X4_counted rfl pd_X4_counted ⟨by decide, by decide⟩ (Nat.lt_of_lt_of_le (by decide) hnp) rfl rfl rfl (Nat.le_of_ble_eq_true rfl) (c_X4_counted hnp hM hW) ?_
    exact HR _ _ _ _ _ _ rfl rfl dX4_told_72 ⟨_, rfl, rfl, hM, Fm.rf⟩
  by_cases h5 : w = 5
  · subst h5
    refine j_tableIn C 73 (off := 72) dX4_told_1 (by decide) (by decide) (by decide) (by decide) ?_
    refine j_aload_n C dX4_told_73 rfl ?_
    refine jg_X4_firsts C dX4_told_74 n_X4_told_X4 (by decide +kernel) (Nat.lt_of_lt_of_le (by decide) hnp) ?_
    exact HR _ _ _ _ _ _ rfl rfl dX4_told_77 ⟨_, rfl, by rw [e1]; rfl, hM, Fm.rf⟩
  by_cases h6 : w = 6
  · subst h6
    refine j_tableIn C 78 (off := 77) dX4_told_1 (by decide) (by decide) (by decide) (by decide) ?_
    refine j_aload_n C dX4_told_78 rfl ?_
    refine jg_X4_seconds C dX4_told_79 n_X4_told_X4 (by decide +kernel) (Nat.lt_of_lt_of_le (by decide) hnp) ?_
    exact HR _ _ _ _ _ _ rfl rfl dX4_told_82 ⟨_, rfl, by rw [e2]; rfl, hM, Fm.rf⟩
  by_cases h7 : w = 7
  · subst h7
    refine j_tableIn C 83 (off := 82) dX4_told_1 (by decide) (by decide) (by decide) (by decide) ?_
    refine j_aload_n C dX4_told_83 rfl ?_
    refine jg_X4_budget C dX4_told_84 n_X4_told_X4 (by decide +kernel) (Nat.lt_of_lt_of_le (by decide) hnp) ?_
    exact HR _ _ _ _ _ _ rfl rfl dX4_told_87 ⟨_, rfl, by rw [e3]; rfl, hM, Fm.rf⟩
  refine j_tableOut C 88 dX4_told_1 (told_out h0 h1 h2 h3 h4 h5 h6 h7) (by decide) ?_
  refine j_ldc (v := (-1000000001)) C dX4_told_88 (by decide +kernel) ?_
  exact HR _ _ _ _ _ _ rfl rfl dX4_told_90 ⟨_, rfl, (told_no h0 h1 h2 h3 h4 h5 h6 h7).symm, hM, Fm.rf⟩
theorem n_X4_comes_X4 : ∀ w ∈ wsX40, w ∈ wsX4_comes := by decide +kernel
set_option maxHeartbeats 4000000 in
set_option maxRecDepth 100000 in
theorem c_X4_comes {l : Launch} {D : va_G} {cI cZ cQ : ClassId} {ad : Nat → Nat} {np : Nat} {x : Nat → Nat} {g : Nat → Nat → Int32} (hnp : 41 ≤ np) {a : Nat → Nat} {b nu : Nat → Nat → Int32} (hM : RM x g a b nu) (hW : WF a b nu) {plan row fu : Int32} : Cn l D cI cZ cQ ad np 2 yX4_comes wsX4_comes [.ref (ad 27), .int plan, .int row, .int fu] x g (EM (comR a b nu plan row fu) x g a b nu) := by
  refine cn_of (own := RX4) (by decide) rfl rfl (by simp [Value.category]) (Nat.le_of_ble_eq_true rfl) ?_
  intro p e s m args below meth c A Q C HR HV
  obtain ⟨⟨e0, e1, e2, e3, e4, e5, e6⟩, hg, hnu⟩ := id hM
  obtain ⟨⟨w0, ⟨w1, w1'⟩, w2, w3, w4, w5, w6⟩, wt, wn, wq⟩ := id hW
  have b9 : g 28 = b 9 := hg 9 (by decide) (by decide)
  have b10 : g 29 = b 10 := hg 10 (by decide) (by decide)
  have b11 : g 30 = b 11 := hg 11 (by decide) (by decide)
  have b12 : g 31 = b 12 := hg 12 (by decide) (by decide)
  have b13 : g 32 = b 13 := hg 13 (by decide) (by decide)
  have b14 : g 33 = b 14 := hg 14 (by decide) (by decide)
  have b15 : g 34 = b 15 := hg 15 (by decide) (by decide)
  have b16 : g 35 = b 16 := hg 16 (by decide) (by decide)
  have b17 : g 36 = b 17 := hg 17 (by decide) (by decide)
  refine j_aload_n C dX4_comes_0 rfl ?_
  refine j_iload_n C dX4_comes_1 rfl ?_
  refine jVp1 (ci := 4) C dX4_comes_2 gX4_comes_X4_isPlan rfl pd_X4_isPlan ⟨by decide, by decide⟩ (Nat.lt_of_lt_of_le (by decide) hnp) rfl rfl rfl (Nat.le_of_ble_eq_true rfl) (c_X4_isPlan hnp) ?_
  rw [e1, e2]
  refine j_if_eq C 40 dX4_comes_5 (by decide) (fun hc5 => ?_) (fun hc5 => ?_)
  · have hb : (plOk a plan && rwOk a row && inW fu (-1) (nI (a 6) - 1)) = false := by
      first
      | (rw [show plOk a plan = false from bI_0.mp hc5]; rfl)
      | (rw [show rwOk a row = false from bI_0.mp hc19, Bool.and_false]; rfl)
      | (rw [bI_0.mp hc33, Bool.and_false])
    refine j_iconst (v := 0) C dX4_comes_40 rfl ?_
    refine j_istore C dX4_comes_41 (by decide) ?_
    refine j_iload C dX4_comes_43 rfl ?_
    refine j_if_eq C 58 dX4_comes_45 (by decide) (fun hc45 => ?_) (fun hc45 => ?_)
    · refine j_ldc (v := (-1000000001)) C dX4_comes_58 (by decide +kernel) ?_
      exact HR _ _ _ _ _ _ rfl rfl dX4_comes_60 ⟨_, rfl, by unfold comR; rw [hb]; rfl, hM, Fm.rf⟩
    · exact absurd rfl hc45
  · refine j_iload_n C dX4_comes_8 rfl ?_
    refine j_iconst (v := (-1)) C dX4_comes_9 rfl ?_
    refine j_aload_n C dX4_comes_10 rfl ?_
    refine jg_X4_rows C dX4_comes_11 n_X4_comes_X4 (by decide +kernel) (Nat.lt_of_lt_of_le (by decide) hnp) ?_
    rw [e0]
    refine j_iconst (v := 1) C dX4_comes_14 rfl ?_
    refine j_isub C dX4_comes_15 ?_
    refine jSp3 C dX4_comes_16 gX4_comes_X4_in rfl pd_X4_in ⟨by decide, by decide⟩ (Nat.le_of_ble_eq_true rfl) c_X4_in ?_
    refine j_if_eq C 40 dX4_comes_19 (by decide) (fun hc19 => ?_) (fun hc19 => ?_)
    · have hb : (plOk a plan && rwOk a row && inW fu (-1) (nI (a 6) - 1)) = false := by
        first
        | (rw [show plOk a plan = false from bI_0.mp hc5]; rfl)
        | (rw [show rwOk a row = false from bI_0.mp hc19, Bool.and_false]; rfl)
        | (rw [bI_0.mp hc33, Bool.and_false])
      refine j_iconst (v := 0) C dX4_comes_40 rfl ?_
      refine j_istore C dX4_comes_41 (by decide) ?_
      refine j_iload C dX4_comes_43 rfl ?_
      refine j_if_eq C 58 dX4_comes_45 (by decide) (fun hc45 => ?_) (fun hc45 => ?_)
      · refine j_ldc (v := (-1000000001)) C dX4_comes_58 (by decide +kernel) ?_
        exact HR _ _ _ _ _ _ rfl rfl dX4_comes_60 ⟨_, rfl, by unfold comR; rw [hb]; rfl, hM, Fm.rf⟩
      · exact absurd rfl hc45
    · refine j_iload_n C dX4_comes_22 rfl ?_
      refine j_iconst (v := (-1)) C dX4_comes_23 rfl ?_
      refine j_aload_n C dX4_comes_24 rfl ?_
      refine jg_X4_futures C dX4_comes_25 n_X4_comes_X4 (by decide +kernel) (Nat.lt_of_lt_of_le (by decide) hnp) ?_
      rw [e6]
      refine j_iconst (v := 1) C dX4_comes_28 rfl ?_
      refine j_isub C dX4_comes_29 ?_
      refine jSp3 C dX4_comes_30 gX4_comes_X4_in rfl pd_X4_in ⟨by decide, by decide⟩ (Nat.le_of_ble_eq_true rfl) c_X4_in ?_
      refine j_if_eq C 40 dX4_comes_33 (by decide) (fun hc33 => ?_) (fun hc33 => ?_)
      · have hb : (plOk a plan && rwOk a row && inW fu (-1) (nI (a 6) - 1)) = false := by
          first
          | (rw [show plOk a plan = false from bI_0.mp hc5]; rfl)
          | (rw [show rwOk a row = false from bI_0.mp hc19, Bool.and_false]; rfl)
          | (rw [bI_0.mp hc33, Bool.and_false])
        refine j_iconst (v := 0) C dX4_comes_40 rfl ?_
        refine j_istore C dX4_comes_41 (by decide) ?_
        refine j_iload C dX4_comes_43 rfl ?_
        refine j_if_eq C 58 dX4_comes_45 (by decide) (fun hc45 => ?_) (fun hc45 => ?_)
        · refine j_ldc (v := (-1000000001)) C dX4_comes_58 (by decide +kernel) ?_
          exact HR _ _ _ _ _ _ rfl rfl dX4_comes_60 ⟨_, rfl, by unfold comR; rw [hb]; rfl, hM, Fm.rf⟩
        · exact absurd rfl hc45
      · have hb : (plOk a plan && rwOk a row && inW fu (-1) (nI (a 6) - 1)) = true := by rw [show plOk a plan = true from bI_n0.mp hc5, show rwOk a row = true from bI_n0.mp hc19, bI_n0.mp hc33]; rfl
        have hfu : (fu < 0 ∧ (if fu < 0 then b 10 else nu fu.toNatClampNeg) = b 10) ∨ ∃ i, i < a 6 ∧ fu = nI i ∧ (if fu < 0 then b 10 else nu fu.toNatClampNeg) = nu i := by
          rcases inW_m1' (by omega) (bI_n0.mp hc33) with q | ⟨j, hj, q⟩
          · exact Or.inl ⟨by rw [q]; decide, if_pos (by rw [q]; decide)⟩
          · exact Or.inr ⟨j, hj, q, by rw [if_neg (by rw [q]; exact nI_pos (by omega)), q, nI_clamp (by omega)]⟩
        refine j_iconst (v := 1) C dX4_comes_36 rfl ?_
        refine j_goto C 41 dX4_comes_37 (by decide) ?_
        refine j_istore C dX4_comes_41 (by decide) ?_
        refine j_iload C dX4_comes_43 rfl ?_
        refine j_if_eq C 58 dX4_comes_45 (by decide) (fun hc45 => ?_) (fun hc45 => ?_)
        · exact absurd hc45 (by decide)
        · refine j_aload_n C dX4_comes_48 rfl ?_
          refine j_iload_n C dX4_comes_49 rfl ?_
          refine j_iload_n C dX4_comes_50 rfl ?_
          refine j_iload_n C dX4_comes_51 rfl ?_
          refine jVp3 (ci := 4) C dX4_comes_52 gX4_comes_X4_sum rfl pd_X4_sum ⟨by decide, by decide⟩ (Nat.lt_of_lt_of_le (by decide) hnp) rfl rfl rfl (Nat.le_of_ble_eq_true rfl) (c_X4_sum (num := if fu < 0 then b 10 else nu fu.toNatClampNeg) hnp hM hW hfu) ?_
          refine j_goto C 60 dX4_comes_55 (by decide) ?_
          exact HR _ _ _ _ _ _ rfl rfl dX4_comes_60 ⟨_, rfl, by unfold comR; rw [hb]; rfl, hM, Fm.rf⟩
theorem n_X4_worst_X4 : ∀ w ∈ wsX40, w ∈ wsX4_worst := by decide +kernel
set_option maxHeartbeats 4000000 in
set_option maxRecDepth 100000 in
theorem c_X4_worst {l : Launch} {D : va_G} {cI cZ cQ : ClassId} {ad : Nat → Nat} {np : Nat} {x : Nat → Nat} {g : Nat → Nat → Int32} (hnp : 41 ≤ np) {a : Nat → Nat} {b nu : Nat → Nat → Int32} (hM : RM x g a b nu) (hW : WF a b nu) {plan row : Int32} : Cn l D cI cZ cQ ad np 3 yX4_worst wsX4_worst [.ref (ad 27), .int plan, .int row] x g (EM (woR a b plan row) x g a b nu) := by
  refine cn_of (own := RX4) (by decide) rfl rfl (by simp [Value.category]) (Nat.le_of_ble_eq_true rfl) ?_
  intro p e s m args below meth c A Q C HR HV
  obtain ⟨⟨e0, e1, e2, e3, e4, e5, e6⟩, hg, hnu⟩ := id hM
  obtain ⟨⟨w0, ⟨w1, w1'⟩, w2, w3, w4, w5, w6⟩, wt, wn, wq⟩ := id hW
  have b9 : g 28 = b 9 := hg 9 (by decide) (by decide)
  have b10 : g 29 = b 10 := hg 10 (by decide) (by decide)
  have b11 : g 30 = b 11 := hg 11 (by decide) (by decide)
  have b12 : g 31 = b 12 := hg 12 (by decide) (by decide)
  have b13 : g 32 = b 13 := hg 13 (by decide) (by decide)
  have b14 : g 33 = b 14 := hg 14 (by decide) (by decide)
  have b15 : g 34 = b 15 := hg 15 (by decide) (by decide)
  have b16 : g 35 = b 16 := hg 16 (by decide) (by decide)
  have b17 : g 36 = b 17 := hg 17 (by decide) (by decide)
  refine j_aload_n C dX4_worst_0 rfl ?_
  refine j_iload_n C dX4_worst_1 rfl ?_
  refine jVp1 (ci := 4) C dX4_worst_2 gX4_worst_X4_isPlan rfl pd_X4_isPlan ⟨by decide, by decide⟩ (Nat.lt_of_lt_of_le (by decide) hnp) rfl rfl rfl (Nat.le_of_ble_eq_true rfl) (c_X4_isPlan hnp) ?_
  rw [e1, e2]
  refine j_if_eq C 31 dX4_worst_5 (by decide) (fun hc5 => ?_) (fun hc5 => ?_)
  · refine j_ldc (v := (-1000000001)) C dX4_worst_31 (by decide +kernel) ?_
    have hb : (plOk a plan && rwOk a row) = false := by
      first
      | (rw [show plOk a plan = false from bI_0.mp hc5]; rfl)
      | (rw [show rwOk a row = false from bI_0.mp hc19, Bool.and_false])
    exact HR _ _ _ _ _ _ rfl rfl dX4_worst_33 ⟨_, rfl, by unfold woR; rw [hb]; rfl, hM, Fm.rf⟩
  · refine j_iload_n C dX4_worst_8 rfl ?_
    refine j_iconst (v := (-1)) C dX4_worst_9 rfl ?_
    refine j_aload_n C dX4_worst_10 rfl ?_
    refine jg_X4_rows C dX4_worst_11 n_X4_worst_X4 (by decide +kernel) (Nat.lt_of_lt_of_le (by decide) hnp) ?_
    rw [e0]
    refine j_iconst (v := 1) C dX4_worst_14 rfl ?_
    refine j_isub C dX4_worst_15 ?_
    refine jSp3 C dX4_worst_16 gX4_worst_X4_in rfl pd_X4_in ⟨by decide, by decide⟩ (Nat.le_of_ble_eq_true rfl) c_X4_in ?_
    refine j_if_eq C 31 dX4_worst_19 (by decide) (fun hc19 => ?_) (fun hc19 => ?_)
    · refine j_ldc (v := (-1000000001)) C dX4_worst_31 (by decide +kernel) ?_
      have hb : (plOk a plan && rwOk a row) = false := by
        first
        | (rw [show plOk a plan = false from bI_0.mp hc5]; rfl)
        | (rw [show rwOk a row = false from bI_0.mp hc19, Bool.and_false])
      exact HR _ _ _ _ _ _ rfl rfl dX4_worst_33 ⟨_, rfl, by unfold woR; rw [hb]; rfl, hM, Fm.rf⟩
    · refine j_aload_n C dX4_worst_22 rfl ?_
      refine j_iload_n C dX4_worst_23 rfl ?_
      refine j_iload_n C dX4_worst_24 rfl ?_
      refine jVi2 (ci := 4) C dX4_worst_25 gX4_worst_X4_findWorst rfl pd_X4_findWorst ⟨by decide, by decide⟩ (Nat.lt_of_lt_of_le (by decide) hnp) rfl rfl rfl (Nat.le_of_ble_eq_true rfl) (c_X4_findWorst hnp hM hW) (fun rr x2 g2 hp => ?_)
      obtain ⟨rfl, rfl, hS, h8⟩ := hp
      refine j_goto C 33 dX4_worst_28 (by decide) ?_
      exact HR _ _ _ _ _ _ rfl rfl dX4_worst_33 ⟨_, rfl, by unfold woR; rw [show plOk a plan = true from bI_n0.mp hc5, show rwOk a row = true from bI_n0.mp hc19]; rfl, hM.sm hS, Fm.sm hS⟩
theorem n_X4_worstName_X4 : ∀ w ∈ wsX40, w ∈ wsX4_worstName := by decide +kernel
set_option maxHeartbeats 4000000 in
set_option maxRecDepth 100000 in
theorem c_X4_worstName {l : Launch} {D : va_G} {cI cZ cQ : ClassId} {ad : Nat → Nat} {np : Nat} {x : Nat → Nat} {g : Nat → Nat → Int32} (hnp : 41 ≤ np) {a : Nat → Nat} {b nu : Nat → Nat → Int32} (hM : RM x g a b nu) (hW : WF a b nu) {plan row nm : Int32} : Cn l D cI cZ cQ ad np 3 yX4_worstName wsX4_worstName [.ref (ad 27), .int plan, .int row, .int nm] x g (EM (wnR a b plan row nm) x g a b nu) := by
  refine cn_of (own := RX4) (by decide) rfl rfl (by simp [Value.category]) (Nat.le_of_ble_eq_true rfl) ?_
  intro p e s m args below meth c A Q C HR HV
  obtain ⟨⟨e0, e1, e2, e3, e4, e5, e6⟩, hg, hnu⟩ := id hM
  obtain ⟨⟨w0, ⟨w1, w1'⟩, w2, w3, w4, w5, w6⟩, wt, wn, wq⟩ := id hW
  have b9 : g 28 = b 9 := hg 9 (by decide) (by decide)
  have b10 : g 29 = b 10 := hg 10 (by decide) (by decide)
  have b11 : g 30 = b 11 := hg 11 (by decide) (by decide)
  have b12 : g 31 = b 12 := hg 12 (by decide) (by decide)
  have b13 : g 32 = b 13 := hg 13 (by decide) (by decide)
  have b14 : g 33 = b 14 := hg 14 (by decide) (by decide)
  have b15 : g 34 = b 15 := hg 15 (by decide) (by decide)
  have b16 : g 35 = b 16 := hg 16 (by decide) (by decide)
  have b17 : g 36 = b 17 := hg 17 (by decide) (by decide)
  refine j_aload_n C dX4_worstName_0 rfl ?_
  refine j_iload_n C dX4_worstName_1 rfl ?_
  refine jVp1 (ci := 4) C dX4_worstName_2 gX4_worstName_X4_isPlan rfl pd_X4_isPlan ⟨by decide, by decide⟩ (Nat.lt_of_lt_of_le (by decide) hnp) rfl rfl rfl (Nat.le_of_ble_eq_true rfl) (c_X4_isPlan hnp) ?_
  rw [e1, e2]
  refine j_if_eq C 36 dX4_worstName_5 (by decide) (fun hc5 => ?_) (fun hc5 => ?_)
  · refine j_ldc (v := (-1000000001)) C dX4_worstName_36 (by decide +kernel) ?_
    have hb : (plOk a plan && rwOk a row && neOk a nm) = false := by
      first
      | (rw [show plOk a plan = false from bI_0.mp hc5]; rfl)
      | (rw [show rwOk a row = false from bI_0.mp hc19, Bool.and_false]; rfl)
      | (rw [show neOk a nm = false from bI_0.mp hc33, Bool.and_false])
    exact HR _ _ _ _ _ _ rfl rfl dX4_worstName_38 ⟨_, rfl, by unfold wnR; rw [hb]; rfl, hM, Fm.rf⟩
  · refine j_iload_n C dX4_worstName_8 rfl ?_
    refine j_iconst (v := (-1)) C dX4_worstName_9 rfl ?_
    refine j_aload_n C dX4_worstName_10 rfl ?_
    refine jg_X4_rows C dX4_worstName_11 n_X4_worstName_X4 (by decide +kernel) (Nat.lt_of_lt_of_le (by decide) hnp) ?_
    rw [e0]
    refine j_iconst (v := 1) C dX4_worstName_14 rfl ?_
    refine j_isub C dX4_worstName_15 ?_
    refine jSp3 C dX4_worstName_16 gX4_worstName_X4_in rfl pd_X4_in ⟨by decide, by decide⟩ (Nat.le_of_ble_eq_true rfl) c_X4_in ?_
    refine j_if_eq C 36 dX4_worstName_19 (by decide) (fun hc19 => ?_) (fun hc19 => ?_)
    · refine j_ldc (v := (-1000000001)) C dX4_worstName_36 (by decide +kernel) ?_
      have hb : (plOk a plan && rwOk a row && neOk a nm) = false := by
        first
        | (rw [show plOk a plan = false from bI_0.mp hc5]; rfl)
        | (rw [show rwOk a row = false from bI_0.mp hc19, Bool.and_false]; rfl)
        | (rw [show neOk a nm = false from bI_0.mp hc33, Bool.and_false])
      exact HR _ _ _ _ _ _ rfl rfl dX4_worstName_38 ⟨_, rfl, by unfold wnR; rw [hb]; rfl, hM, Fm.rf⟩
    · refine j_iload_n C dX4_worstName_22 rfl ?_
      refine j_iconst (v := 0) C dX4_worstName_23 rfl ?_
      refine j_aload_n C dX4_worstName_24 rfl ?_
      refine jg_X4_names C dX4_worstName_25 n_X4_worstName_X4 (by decide +kernel) (Nat.lt_of_lt_of_le (by decide) hnp) ?_
      rw [e4]
      refine j_iconst (v := 1) C dX4_worstName_28 rfl ?_
      refine j_isub C dX4_worstName_29 ?_
      refine jSp3 C dX4_worstName_30 gX4_worstName_X4_in rfl pd_X4_in ⟨by decide, by decide⟩ (Nat.le_of_ble_eq_true rfl) c_X4_in ?_
      refine j_if_ne C 39 dX4_worstName_33 (by decide) (fun hc33 => ?_) (fun hc33 => ?_)
      · have hq := bI_n0.mp hc33
        obtain ⟨n0, hn0, rfl⟩ := inW_ix (by omega) hq
        refine j_aload_n C dX4_worstName_39 rfl ?_
        refine j_iload_n C dX4_worstName_40 rfl ?_
        refine j_iload_n C dX4_worstName_41 rfl ?_
        refine jVi2 (ci := 4) C dX4_worstName_42 gX4_worstName_X4_findWorst rfl pd_X4_findWorst ⟨by decide, by decide⟩ (Nat.lt_of_lt_of_le (by decide) hnp) rfl rfl rfl (Nat.le_of_ble_eq_true rfl) (c_X4_findWorst hnp hM hW) (fun rr x2 g2 hp => ?_)
        obtain ⟨rfl, rfl, hS, h8⟩ := hp
        refine j_istore C dX4_worstName_45 (by decide) ?_
        refine j_aload_n C dX4_worstName_47 rfl ?_
        refine jg_X4_worstOf C dX4_worstName_48 n_X4_worstName_X4 (by decide +kernel) (Nat.lt_of_lt_of_le (by decide) hnp) ?_
        refine j_iload_n C dX4_worstName_51 rfl ?_
        refine j_iald C n0 dX4_worstName_52 (Nat.lt_of_lt_of_le (by decide) hnp) rfl rfl (show _ < 12 by omega) ?_
        rw [h8 n0 hn0]
        exact HR _ _ _ _ _ _ rfl rfl dX4_worstName_53 ⟨_, rfl, by unfold wnR; rw [show plOk a plan = true from bI_n0.mp hc5, show rwOk a row = true from bI_n0.mp hc19, show neOk a (nI n0) = true from hq, nI_clamp (by omega)]; rfl, hM.sm hS, Fm.sm hS⟩
      · refine j_ldc (v := (-1000000001)) C dX4_worstName_36 (by decide +kernel) ?_
        have hb : (plOk a plan && rwOk a row && neOk a nm) = false := by
          first
          | (rw [show plOk a plan = false from bI_0.mp hc5]; rfl)
          | (rw [show rwOk a row = false from bI_0.mp hc19, Bool.and_false]; rfl)
          | (rw [show neOk a nm = false from bI_0.mp hc33, Bool.and_false])
        exact HR _ _ _ _ _ _ rfl rfl dX4_worstName_38 ⟨_, rfl, by unfold wnR; rw [hb]; rfl, hM, Fm.rf⟩
theorem n_X4_breaks_X4 : ∀ w ∈ wsX40, w ∈ wsX4_breaks := by decide +kernel
set_option maxHeartbeats 4000000 in
set_option maxRecDepth 100000 in
theorem c_X4_breaks {l : Launch} {D : va_G} {cI cZ cQ : ClassId} {ad : Nat → Nat} {np : Nat} {x : Nat → Nat} {g : Nat → Nat → Int32} (hnp : 41 ≤ np) {a : Nat → Nat} {b nu : Nat → Nat → Int32} (hM : RM x g a b nu) (hW : WF a b nu) {plan : Int32} : Cn l D cI cZ cQ ad np 3 yX4_breaks wsX4_breaks [.ref (ad 27), .int plan] x g (ri (fun r x' g' => r = brR a b plan ∧ x' = x ∧ Sm g g')) := by
  refine cn_of (own := RX4) (by decide) rfl rfl (by simp [Value.category]) (Nat.le_of_ble_eq_true rfl) ?_
  intro p e s m args below meth c A Q C HR HV
  obtain ⟨⟨e0, e1, e2, e3, e4, e5, e6⟩, hg, hnu⟩ := id hM
  obtain ⟨⟨w0, ⟨w1, w1'⟩, w2, w3, w4, w5, w6⟩, wt, wn, wq⟩ := id hW
  have b9 : g 28 = b 9 := hg 9 (by decide) (by decide)
  have b10 : g 29 = b 10 := hg 10 (by decide) (by decide)
  have b11 : g 30 = b 11 := hg 11 (by decide) (by decide)
  have b12 : g 31 = b 12 := hg 12 (by decide) (by decide)
  have b13 : g 32 = b 13 := hg 13 (by decide) (by decide)
  have b14 : g 33 = b 14 := hg 14 (by decide) (by decide)
  have b15 : g 34 = b 15 := hg 15 (by decide) (by decide)
  have b16 : g 35 = b 16 := hg 16 (by decide) (by decide)
  have b17 : g 36 = b 17 := hg 17 (by decide) (by decide)
  refine j_aload_n C dX4_breaks_0 rfl ?_
  refine j_iload_n C dX4_breaks_1 rfl ?_
  refine jVp1 (ci := 4) C dX4_breaks_2 gX4_breaks_X4_isPlan rfl pd_X4_isPlan ⟨by decide, by decide⟩ (Nat.lt_of_lt_of_le (by decide) hnp) rfl rfl rfl (Nat.le_of_ble_eq_true rfl) (c_X4_isPlan hnp) ?_
  rw [e1, e2]
  refine j_if_ne C 11 dX4_breaks_5 (by decide) (fun hc5 => ?_) (fun hc5 => ?_)
  · have hL : ∀ (n : Nat) (i : Nat) (g2 : Nat → Nat → Int32), i ≤ a 0 → a 0 - i < n → Sm g g2 → fbF a b plan i = -1000000003 → J p l e (Rm 3) s m args below meth c 0 0 D cI cZ cQ ad np A 3 Q x g2 13 [some (.ref (ad 27)), some (.int plan), some (.int (nI i))] [] := by
      intro n
      induction n with
      | zero => intros; omega
      | succ n ih =>
        intro i g2 h1 h2 hS hv
        refine j_iload_n C dX4_breaks_13 rfl ?_
        refine j_aload_n C dX4_breaks_14 rfl ?_
        refine jg_X4_rows C dX4_breaks_15 n_X4_breaks_X4 (by decide +kernel) (Nat.lt_of_lt_of_le (by decide) hnp) ?_
        refine j_icmp_ge C 38 dX4_breaks_18 (by decide) (fun hc => ?_) (fun hc => ?_)
        · have he : i = a 0 := by have := (nI_leI (by omega) (by omega)).mp hc; omega
          subst he
          refine j_ldc (v := (-1000000003)) C dX4_breaks_38 (by decide +kernel) ?_
          exact HR _ _ _ _ _ _ rfl rfl dX4_breaks_40 ⟨_, rfl, by unfold brR; rw [show plOk a plan = true from bI_n0.mp hc5]; exact hv.symm, rfl, hS⟩
        · have hlt : i < a 0 := by have := mt (nI_leI (by omega) (by omega)).mpr hc; omega
          have hfin : 0 < (wsF a b plan (nI i)).2.2 → nI i = fbF a b plan (a 0) := fun hp => by
            have h3 : fbF a b plan (i + 1) = nI i := by
              show (if fbF a b plan i = -1000000003 then _ else _) = _
              rw [if_pos hv, if_pos hp]
            have h4 := fbF_up (n := i + 1) (by rw [h3]; exact nI_none (by omega)) (a 0 - (i + 1))
            rw [show i + 1 + (a 0 - (i + 1)) = a 0 by omega] at h4
            rw [h4, h3]
          refine j_aload_n C dX4_breaks_21 rfl ?_
          refine j_iload_n C dX4_breaks_22 rfl ?_
          refine j_iload_n C dX4_breaks_23 rfl ?_
          refine jVi2 (ci := 4) C dX4_breaks_24 gX4_breaks_X4_findWorst rfl pd_X4_findWorst ⟨by decide, by decide⟩ (Nat.lt_of_lt_of_le (by decide) hnp) rfl rfl rfl (Nat.le_of_ble_eq_true rfl) (c_X4_findWorst hnp (hM.sm hS) hW) (fun rr x2 g2 hp => ?_)
          obtain ⟨rfl, rfl, hS2, -⟩ := hp
          have hS := hS.tr hS2
          refine j_if_le C 32 dX4_breaks_27 (by decide) (fun hc27 => ?_) (fun hc27 => ?_)
          · refine j_iincN (n := 1) C dX4_breaks_32 rfl (by decide) ?_
            refine j_goto C 13 dX4_breaks_35 (by decide) ?_
            refine ih (i + 1) _ (by omega) (by omega) hS ?_
            show (if fbF a b plan i = -1000000003 then _ else _) = _
            rw [if_pos hv, if_neg (Int32.not_lt.mpr hc27)]
          · refine j_iload_n C dX4_breaks_30 rfl ?_
            exact HR _ _ _ _ _ _ rfl rfl dX4_breaks_31 ⟨_, rfl, by unfold brR; rw [show plOk a plan = true from bI_n0.mp hc5]; exact hfin (Int32.not_le.mp hc27), rfl, hS⟩
    refine j_iconst (v := 0) C dX4_breaks_11 rfl ?_
    refine j_istore_n C dX4_breaks_12 (by decide) ?_
    exact hL (a 0 + 1) 0 _ (by omega) (by omega) Sm.rf rfl
  · refine j_ldc (v := (-1000000001)) C dX4_breaks_8 (by decide +kernel) ?_
    exact HR _ _ _ _ _ _ rfl rfl dX4_breaks_10 ⟨_, rfl, by unfold brR; rw [show plOk a plan = false from bI_0.mp hc5]; rfl, rfl, Sm.rf⟩
theorem n_X4_safest_X4 : ∀ w ∈ wsX40, w ∈ wsX4_safest := by decide +kernel
set_option maxHeartbeats 4000000 in
set_option maxRecDepth 100000 in
theorem c_X4_safest {l : Launch} {D : va_G} {cI cZ cQ : ClassId} {ad : Nat → Nat} {np : Nat} {x : Nat → Nat} {g : Nat → Nat → Int32} (hnp : 41 ≤ np) {a : Nat → Nat} {b nu : Nat → Nat → Int32} (hM : RM x g a b nu) (hW : WF a b nu) : Cn l D cI cZ cQ ad np 4 yX4_safest wsX4_safest [.ref (ad 27)] x g (EM (sfF a b) x g a b nu) := by
  refine cn_of (own := RX4) (by decide) rfl rfl (by simp [Value.category]) (Nat.le_of_ble_eq_true rfl) ?_
  intro p e s m args below meth c A Q C HR HV
  obtain ⟨⟨e0, e1, e2, e3, e4, e5, e6⟩, hg, hnu⟩ := id hM
  obtain ⟨⟨w0, ⟨w1, w1'⟩, w2, w3, w4, w5, w6⟩, wt, wn, wq⟩ := id hW
  have b9 : g 28 = b 9 := hg 9 (by decide) (by decide)
  have b10 : g 29 = b 10 := hg 10 (by decide) (by decide)
  have b11 : g 30 = b 11 := hg 11 (by decide) (by decide)
  have b12 : g 31 = b 12 := hg 12 (by decide) (by decide)
  have b13 : g 32 = b 13 := hg 13 (by decide) (by decide)
  have b14 : g 33 = b 14 := hg 14 (by decide) (by decide)
  have b15 : g 34 = b 15 := hg 15 (by decide) (by decide)
  have b16 : g 35 = b 16 := hg 16 (by decide) (by decide)
  have b17 : g 36 = b 17 := hg 17 (by decide) (by decide)
  obtain ⟨N, hN⟩ : ∃ N, N = 2 ^ (a 1 + a 2) := ⟨_, rfl⟩
  have hN2 : N ≤ 1024 := by rw [hN]; exact p2_le (by omega)
  have hL : ∀ (n : Nat) (i : Nat) (v v2 : Int32) (g2 : Nat → Nat → Int32), i ≤ N → N - i < n → Sm g g2 → selS (fun p => decide (fbF a b (nI p) (a 0) = -1000000003)) (fun p => (wsF a b (nI p) (-1)).2.2) nI i = (v, v2) → J p l e (Rm 4) s m args below meth c 0 0 D cI cZ cQ ad np A 6 Q x g2 7 [some (.ref (ad 27)), some (.int v), some (.int v2), some (.int (nI i)), none, none] [] := by
    intro n
    induction n with
    | zero => intros; omega
    | succ n ih =>
      intro i v v2 g2 h1 h2 hS hv
      refine j_iload_n C dX4_safest_7 rfl ?_
      refine j_iconst (v := 1) C dX4_safest_8 rfl ?_
      refine j_aload_n C dX4_safest_9 rfl ?_
      refine jg_X4_firsts C dX4_safest_10 n_X4_safest_X4 (by decide +kernel) (Nat.lt_of_lt_of_le (by decide) hnp) ?_
      refine j_aload_n C dX4_safest_13 rfl ?_
      refine jg_X4_seconds C dX4_safest_14 n_X4_safest_X4 (by decide +kernel) (Nat.lt_of_lt_of_le (by decide) hnp) ?_
      refine j_iadd C dX4_safest_17 ?_
      refine j_ishl C dX4_safest_18 ?_
      rw [e1, e2, pcF_eq (by omega), ← hN]
      refine j_icmp_ge C 88 dX4_safest_19 (by decide) (fun hc => ?_) (fun hc => ?_)
      · have he : i = N := by have := (nI_leI (by omega) (by omega)).mp hc; omega
        subst he
        refine j_iload_n C dX4_safest_88 rfl ?_
        exact HR _ _ _ _ _ _ rfl rfl dX4_safest_89 ⟨_, rfl, by unfold sfF; rw [← hN, hv], hM.sm hS, Fm.sm hS⟩
      · have hlt : i < N := by have := mt (nI_leI (by omega) (by omega)).mpr hc; omega
        refine j_aload_n C dX4_safest_22 rfl ?_
        refine j_iload_n C dX4_safest_23 rfl ?_
        refine jVi1 (ci := 4) C dX4_safest_24 gX4_safest_X4_breaks rfl pd_X4_breaks ⟨by decide, by decide⟩ (Nat.lt_of_lt_of_le (by decide) hnp) rfl rfl rfl (Nat.le_of_ble_eq_true rfl) (c_X4_breaks hnp (hM.sm hS) hW) (fun rr x2 g2 hp => ?_)
        obtain ⟨rfl, rfl, hS2⟩ := hp
        have hS := hS.tr hS2
        have hbr : brR a b (nI i) = fbF a b (nI i) (a 0) := by
          unfold brR
          rw [show plOk a (nI i) = true by unfold plOk pcF; rw [pcF_eq (by omega), ← hN]; exact inW_no (by omega) i hlt rfl]
          rfl
        rw [hbr]
        refine j_ldc (v := (-1000000003)) C dX4_safest_27 (by decide +kernel) ?_
        refine j_icmp_ne C 82 dX4_safest_29 (by decide) (fun hc29 => ?_) (fun hc29 => ?_)
        · refine j_iincN (n := 1) C dX4_safest_82 rfl (by decide) ?_
          refine j_goto C 7 dX4_safest_85 (by decide) ?_
          refine j_drop 4 ?_
          refine j_drop 5 ?_
          first
          | exact ih (i + 1) _ _ _ (by omega) (by omega) hS (sel_n hv (decide_eq_false hc29))
          | exact ih (i + 1) _ _ _ (by omega) (by omega) hS (sel_t hv (decide_eq_true hc29) (Or.inl hc43))
          | exact ih (i + 1) _ _ _ (by omega) (by omega) hS (sel_t hv (decide_eq_true hc29) (Or.inr (Int32.not_le.mp hc49)))
          | exact ih (i + 1) _ _ _ (by omega) (by omega) hS (sel_f hv hc43 (Int32.not_lt.mpr hc49))
        · refine j_aload_n C dX4_safest_32 rfl ?_
          refine j_iload_n C dX4_safest_33 rfl ?_
          refine j_iconst (v := (-1)) C dX4_safest_34 rfl ?_
          refine jVi2 (ci := 4) C dX4_safest_35 gX4_safest_X4_findWorst rfl pd_X4_findWorst ⟨by decide, by decide⟩ (Nat.lt_of_lt_of_le (by decide) hnp) rfl rfl rfl (Nat.le_of_ble_eq_true rfl) (c_X4_findWorst hnp (hM.sm hS) hW) (fun rr x2 g2 hp => ?_)
          obtain ⟨rfl, rfl, hS2, -⟩ := hp
          have hS := hS.tr hS2
          refine j_istore C dX4_safest_38 (by decide) ?_
          refine j_iload_n C dX4_safest_40 rfl ?_
          refine j_ldc (v := (-1000000003)) C dX4_safest_41 (by decide +kernel) ?_
          refine j_icmp_eq C 52 dX4_safest_43 (by decide) (fun hc43 => ?_) (fun hc43 => ?_)
          · refine j_iconst (v := 1) C dX4_safest_52 rfl ?_
            refine j_goto C 57 dX4_safest_53 (by decide) ?_
            refine j_istore C dX4_safest_57 (by decide) ?_
            refine j_iload C dX4_safest_59 rfl ?_
            refine j_if_eq C 68 dX4_safest_61 (by decide) (fun hc61 => ?_) (fun hc61 => ?_)
            · exact absurd hc61 (by decide)
            · refine j_iload_n C dX4_safest_64 rfl ?_
              refine j_goto C 69 dX4_safest_65 (by decide) ?_
              refine j_istore_n C dX4_safest_69 (by decide) ?_
              refine j_iload C dX4_safest_70 rfl ?_
              refine j_if_eq C 80 dX4_safest_72 (by decide) (fun hc72 => ?_) (fun hc72 => ?_)
              · exact absurd hc72 (by decide)
              · refine j_iload C dX4_safest_75 rfl ?_
                refine j_goto C 81 dX4_safest_77 (by decide) ?_
                refine j_istore_n C dX4_safest_81 (by decide) ?_
                refine j_iincN (n := 1) C dX4_safest_82 rfl (by decide) ?_
                refine j_goto C 7 dX4_safest_85 (by decide) ?_
                refine j_drop 4 ?_
                refine j_drop 5 ?_
                first
                | exact ih (i + 1) _ _ _ (by omega) (by omega) hS (sel_n hv (decide_eq_false hc29))
                | exact ih (i + 1) _ _ _ (by omega) (by omega) hS (sel_t hv (decide_eq_true hc29) (Or.inl hc43))
                | exact ih (i + 1) _ _ _ (by omega) (by omega) hS (sel_t hv (decide_eq_true hc29) (Or.inr (Int32.not_le.mp hc49)))
                | exact ih (i + 1) _ _ _ (by omega) (by omega) hS (sel_f hv hc43 (Int32.not_lt.mpr hc49))
          · refine j_iload C dX4_safest_46 rfl ?_
            refine j_iload_n C dX4_safest_48 rfl ?_
            refine j_icmp_ge C 56 dX4_safest_49 (by decide) (fun hc49 => ?_) (fun hc49 => ?_)
            · refine j_iconst (v := 0) C dX4_safest_56 rfl ?_
              refine j_istore C dX4_safest_57 (by decide) ?_
              refine j_iload C dX4_safest_59 rfl ?_
              refine j_if_eq C 68 dX4_safest_61 (by decide) (fun hc61 => ?_) (fun hc61 => ?_)
              · refine j_iload_n C dX4_safest_68 rfl ?_
                refine j_istore_n C dX4_safest_69 (by decide) ?_
                refine j_iload C dX4_safest_70 rfl ?_
                refine j_if_eq C 80 dX4_safest_72 (by decide) (fun hc72 => ?_) (fun hc72 => ?_)
                · refine j_iload_n C dX4_safest_80 rfl ?_
                  refine j_istore_n C dX4_safest_81 (by decide) ?_
                  refine j_iincN (n := 1) C dX4_safest_82 rfl (by decide) ?_
                  refine j_goto C 7 dX4_safest_85 (by decide) ?_
                  refine j_drop 4 ?_
                  refine j_drop 5 ?_
                  first
                  | exact ih (i + 1) _ _ _ (by omega) (by omega) hS (sel_n hv (decide_eq_false hc29))
                  | exact ih (i + 1) _ _ _ (by omega) (by omega) hS (sel_t hv (decide_eq_true hc29) (Or.inl hc43))
                  | exact ih (i + 1) _ _ _ (by omega) (by omega) hS (sel_t hv (decide_eq_true hc29) (Or.inr (Int32.not_le.mp hc49)))
                  | exact ih (i + 1) _ _ _ (by omega) (by omega) hS (sel_f hv hc43 (Int32.not_lt.mpr hc49))
                · exact absurd rfl hc72
              · exact absurd rfl hc61
            · refine j_iconst (v := 1) C dX4_safest_52 rfl ?_
              refine j_goto C 57 dX4_safest_53 (by decide) ?_
              refine j_istore C dX4_safest_57 (by decide) ?_
              refine j_iload C dX4_safest_59 rfl ?_
              refine j_if_eq C 68 dX4_safest_61 (by decide) (fun hc61 => ?_) (fun hc61 => ?_)
              · exact absurd hc61 (by decide)
              · refine j_iload_n C dX4_safest_64 rfl ?_
                refine j_goto C 69 dX4_safest_65 (by decide) ?_
                refine j_istore_n C dX4_safest_69 (by decide) ?_
                refine j_iload C dX4_safest_70 rfl ?_
                refine j_if_eq C 80 dX4_safest_72 (by decide) (fun hc72 => ?_) (fun hc72 => ?_)
                · exact absurd hc72 (by decide)
                · refine j_iload C dX4_safest_75 rfl ?_
                  refine j_goto C 81 dX4_safest_77 (by decide) ?_
                  refine j_istore_n C dX4_safest_81 (by decide) ?_
                  refine j_iincN (n := 1) C dX4_safest_82 rfl (by decide) ?_
                  refine j_goto C 7 dX4_safest_85 (by decide) ?_
                  refine j_drop 4 ?_
                  refine j_drop 5 ?_
                  first
                  | exact ih (i + 1) _ _ _ (by omega) (by omega) hS (sel_n hv (decide_eq_false hc29))
                  | exact ih (i + 1) _ _ _ (by omega) (by omega) hS (sel_t hv (decide_eq_true hc29) (Or.inl hc43))
                  | exact ih (i + 1) _ _ _ (by omega) (by omega) hS (sel_t hv (decide_eq_true hc29) (Or.inr (Int32.not_le.mp hc49)))
                  | exact ih (i + 1) _ _ _ (by omega) (by omega) hS (sel_f hv hc43 (Int32.not_lt.mpr hc49))
  refine j_ldc (v := (-1000000003)) C dX4_safest_0 (by decide +kernel) ?_
  refine j_istore_n C dX4_safest_2 (by decide) ?_
  refine j_iconst (v := 0) C dX4_safest_3 rfl ?_
  refine j_istore_n C dX4_safest_4 (by decide) ?_
  refine j_iconst (v := 0) C dX4_safest_5 rfl ?_
  refine j_istore_n C dX4_safest_6 (by decide) ?_
  exact hL (N + 1) 0 _ _ _ (by omega) (by omega) Sm.rf rfl
theorem n_X4_answer_X4 : ∀ w ∈ wsX40, w ∈ wsX4_answer := by decide +kernel
set_option maxHeartbeats 4000000 in
set_option maxRecDepth 100000 in
theorem c_X4_answer {l : Launch} {D : va_G} {cI cZ cQ : ClassId} {ad : Nat → Nat} {np : Nat} {x : Nat → Nat} {g : Nat → Nat → Int32} (hnp : 41 ≤ np) {a : Nat → Nat} {b nu : Nat → Nat → Int32} (hM : RM x g a b nu) (hW : WF a b nu) {first fu : Int32} : Cn l D cI cZ cQ ad np 4 yX4_answer wsX4_answer [.ref (ad 27), .int first, .int fu] x g (EM (anR a b nu first fu) x g a b nu) := by
  refine cn_of (own := RX4) (by decide) rfl rfl (by simp [Value.category]) (Nat.le_of_ble_eq_true rfl) ?_
  intro p e s m args below meth c A Q C HR HV
  obtain ⟨⟨e0, e1, e2, e3, e4, e5, e6⟩, hg, hnu⟩ := id hM
  obtain ⟨⟨w0, ⟨w1, w1'⟩, w2, w3, w4, w5, w6⟩, wt, wn, wq⟩ := id hW
  have b9 : g 28 = b 9 := hg 9 (by decide) (by decide)
  have b10 : g 29 = b 10 := hg 10 (by decide) (by decide)
  have b11 : g 30 = b 11 := hg 11 (by decide) (by decide)
  have b12 : g 31 = b 12 := hg 12 (by decide) (by decide)
  have b13 : g 32 = b 13 := hg 13 (by decide) (by decide)
  have b14 : g 33 = b 14 := hg 14 (by decide) (by decide)
  have b15 : g 34 = b 15 := hg 15 (by decide) (by decide)
  have b16 : g 35 = b 16 := hg 16 (by decide) (by decide)
  have b17 : g 36 = b 17 := hg 17 (by decide) (by decide)
  refine j_aload_n C dX4_answer_0 rfl ?_
  refine j_iload_n C dX4_answer_1 rfl ?_
  refine jVp1 (ci := 4) C dX4_answer_2 gX4_answer_X4_isFirst rfl pd_X4_isFirst ⟨by decide, by decide⟩ (Nat.lt_of_lt_of_le (by decide) hnp) rfl rfl rfl (Nat.le_of_ble_eq_true rfl) (c_X4_isFirst hnp) ?_
  rw [e1]
  refine j_if_eq C 31 dX4_answer_5 (by decide) (fun hc5 => ?_) (fun hc5 => ?_)
  · refine j_ldc (v := (-1000000001)) C dX4_answer_31 (by decide +kernel) ?_
    have hb : (fiOk a first && fuOk a fu) = false := by
      first
      | (rw [show fiOk a first = false from bI_0.mp hc5]; rfl)
      | (rw [show fuOk a fu = false from bI_0.mp hc19, Bool.and_false])
    exact HR _ _ _ _ _ _ rfl rfl dX4_answer_33 ⟨_, rfl, by unfold anR; rw [hb]; rfl, hM, Fm.rf⟩
  · refine j_iload_n C dX4_answer_8 rfl ?_
    refine j_iconst (v := 0) C dX4_answer_9 rfl ?_
    refine j_aload_n C dX4_answer_10 rfl ?_
    refine jg_X4_futures C dX4_answer_11 n_X4_answer_X4 (by decide +kernel) (Nat.lt_of_lt_of_le (by decide) hnp) ?_
    rw [e6]
    refine j_iconst (v := 1) C dX4_answer_14 rfl ?_
    refine j_isub C dX4_answer_15 ?_
    refine jSp3 C dX4_answer_16 gX4_answer_X4_in rfl pd_X4_in ⟨by decide, by decide⟩ (Nat.le_of_ble_eq_true rfl) c_X4_in ?_
    refine j_if_eq C 31 dX4_answer_19 (by decide) (fun hc19 => ?_) (fun hc19 => ?_)
    · refine j_ldc (v := (-1000000001)) C dX4_answer_31 (by decide +kernel) ?_
      have hb : (fiOk a first && fuOk a fu) = false := by
        first
        | (rw [show fiOk a first = false from bI_0.mp hc5]; rfl)
        | (rw [show fuOk a fu = false from bI_0.mp hc19, Bool.and_false])
      exact HR _ _ _ _ _ _ rfl rfl dX4_answer_33 ⟨_, rfl, by unfold anR; rw [hb]; rfl, hM, Fm.rf⟩
    · have hq := bI_n0.mp hc19
      obtain ⟨i0, hi0, rfl⟩ := inW_ix (by omega) hq
      refine j_aload_n C dX4_answer_22 rfl ?_
      refine j_iload_n C dX4_answer_23 rfl ?_
      refine j_iload_n C dX4_answer_24 rfl ?_
      refine jVp2 (ci := 4) C dX4_answer_25 gX4_answer_X4_answerTo rfl pd_X4_answerTo ⟨by decide, by decide⟩ (Nat.lt_of_lt_of_le (by decide) hnp) rfl rfl rfl (Nat.le_of_ble_eq_true rfl) (c_X4_answerTo hnp hM hW hi0) ?_
      refine j_goto C 33 dX4_answer_28 (by decide) ?_
      exact HR _ _ _ _ _ _ rfl rfl dX4_answer_33 ⟨_, rfl, by unfold anR; rw [show fiOk a first = true from bI_n0.mp hc5, show fuOk a (nI i0) = true from hq, nI_clamp (by omega)]; rfl, hM, Fm.rf⟩
theorem n_X4_twoStep_X4 : ∀ w ∈ wsX40, w ∈ wsX4_twoStep := by decide +kernel
set_option maxHeartbeats 4000000 in
set_option maxRecDepth 100000 in
theorem c_X4_twoStep {l : Launch} {D : va_G} {cI cZ cQ : ClassId} {ad : Nat → Nat} {np : Nat} {x : Nat → Nat} {g : Nat → Nat → Int32} (hnp : 41 ≤ np) {a : Nat → Nat} {b nu : Nat → Nat → Int32} (hM : RM x g a b nu) (hW : WF a b nu) : Cn l D cI cZ cQ ad np 5 yX4_twoStep wsX4_twoStep [.ref (ad 27)] x g (rp (twF a b nu) x g) := by
  refine cn_of (own := RX4) (by decide) rfl rfl (by simp [Value.category]) (Nat.le_of_ble_eq_true rfl) ?_
  intro p e s m args below meth c A Q C HR HV
  obtain ⟨⟨e0, e1, e2, e3, e4, e5, e6⟩, hg, hnu⟩ := id hM
  obtain ⟨⟨w0, ⟨w1, w1'⟩, w2, w3, w4, w5, w6⟩, wt, wn, wq⟩ := id hW
  have b9 : g 28 = b 9 := hg 9 (by decide) (by decide)
  have b10 : g 29 = b 10 := hg 10 (by decide) (by decide)
  have b11 : g 30 = b 11 := hg 11 (by decide) (by decide)
  have b12 : g 31 = b 12 := hg 12 (by decide) (by decide)
  have b13 : g 32 = b 13 := hg 13 (by decide) (by decide)
  have b14 : g 33 = b 14 := hg 14 (by decide) (by decide)
  have b15 : g 34 = b 15 := hg 15 (by decide) (by decide)
  have b16 : g 35 = b 16 := hg 16 (by decide) (by decide)
  have b17 : g 36 = b 17 := hg 17 (by decide) (by decide)
  obtain ⟨N, hN⟩ : ∃ N, N = 2 ^ (a 1) := ⟨_, rfl⟩
  have hN2 : N ≤ 1024 := by rw [hN]; exact p2_le (by omega)
  have hL : ∀ (n : Nat) (i : Nat) (v v2 : Int32), i ≤ N → N - i < n → selS (fun f => !decide (cbF a b nu (nI f) = -1000000003)) (fun f => cbF a b nu (nI f)) nI i = (v, v2) → J p l e (Rm 5) s m args below meth c 0 0 D cI cZ cQ ad np A 6 Q x g 7 [some (.ref (ad 27)), some (.int v), some (.int v2), some (.int (nI i)), none, none] [] := by
    intro n
    induction n with
    | zero => intros; omega
    | succ n ih =>
      intro i v v2 h1 h2 hv
      refine j_iload_n C dX4_twoStep_7 rfl ?_
      refine j_iconst (v := 1) C dX4_twoStep_8 rfl ?_
      refine j_aload_n C dX4_twoStep_9 rfl ?_
      refine jg_X4_firsts C dX4_twoStep_10 n_X4_twoStep_X4 (by decide +kernel) (Nat.lt_of_lt_of_le (by decide) hnp) ?_
      refine j_ishl C dX4_twoStep_13 ?_
      rw [e1, fcF_eq (by omega), ← hN]
      refine j_icmp_ge C 86 dX4_twoStep_14 (by decide) (fun hc => ?_) (fun hc => ?_)
      · have he : i = N := by have := (nI_leI (by omega) (by omega)).mp hc; omega
        have hfin : v = twF a b nu := by unfold twF; rw [← hN, ← he, hv]
        refine j_iload_n C dX4_twoStep_86 rfl ?_
        exact HR _ _ _ _ _ _ rfl rfl dX4_twoStep_87 ⟨_, rfl, hfin, rfl, rfl⟩
      · have hlt : i < N := by have := mt (nI_leI (by omega) (by omega)).mpr hc; omega
        refine j_aload_n C dX4_twoStep_17 rfl ?_
        refine jVp0 (ci := 4) C dX4_twoStep_18 gX4_twoStep_X4_counted rfl pd_X4_counted ⟨by decide, by decide⟩ (Nat.lt_of_lt_of_le (by decide) hnp) rfl rfl rfl (Nat.le_of_ble_eq_true rfl) (c_X4_counted hnp hM hW) ?_
        refine j_if_le C 86 dX4_twoStep_21 (by decide) (fun hc21 => ?_) (fun hc21 => ?_)
        · have hz : ∀ f, cbF a b nu (nI f) = -1000000003 := fun f => if_pos ((cnt_0 hW).2.mp hc21)
          have hfin : v = twF a b nu := by
            have h9 : selS (fun f => !decide (cbF a b nu (nI f) = -1000000003)) (fun f => cbF a b nu (nI f)) nI i = (-1000000003, 0) := sel_none (fun f _ => congrArg (fun z => !z) (decide_eq_true (hz f)))
            have h8 : selS (fun f => !decide (cbF a b nu (nI f) = -1000000003)) (fun f => cbF a b nu (nI f)) nI (2 ^ a 1) = (-1000000003, 0) := sel_none (fun f _ => congrArg (fun z => !z) (decide_eq_true (hz f)))
            rw [h9] at hv
            unfold twF
            rw [h8]
            exact (Prod.mk.inj hv).1.symm
          refine j_iload_n C dX4_twoStep_86 rfl ?_
          exact HR _ _ _ _ _ _ rfl rfl dX4_twoStep_87 ⟨_, rfl, hfin, rfl, rfl⟩
        · refine j_aload_n C dX4_twoStep_24 rfl ?_
          refine j_iload_n C dX4_twoStep_25 rfl ?_
          refine jVp1 (ci := 4) C dX4_twoStep_26 gX4_twoStep_X4_total rfl pd_X4_total ⟨by decide, by decide⟩ (Nat.lt_of_lt_of_le (by decide) hnp) rfl rfl rfl (Nat.le_of_ble_eq_true rfl) (c_X4_total hnp hM hW) ?_
          rw [← show cbF a b nu (nI i) = toF a b nu (nI i) from if_neg (fun q => hc21 ((cnt_0 hW).2.mpr q))]
          refine j_istore C dX4_twoStep_29 (by decide) ?_
          refine j_iload C dX4_twoStep_31 rfl ?_
          refine j_ldc (v := (-1000000003)) C dX4_twoStep_33 (by decide +kernel) ?_
          refine j_icmp_eq C 54 dX4_twoStep_35 (by decide) (fun hc35 => ?_) (fun hc35 => ?_)
          · refine j_iconst (v := 0) C dX4_twoStep_54 rfl ?_
            refine j_istore C dX4_twoStep_55 (by decide) ?_
            refine j_iload C dX4_twoStep_57 rfl ?_
            refine j_if_eq C 66 dX4_twoStep_59 (by decide) (fun hc59 => ?_) (fun hc59 => ?_)
            · refine j_iload_n C dX4_twoStep_66 rfl ?_
              refine j_istore_n C dX4_twoStep_67 (by decide) ?_
              refine j_iload C dX4_twoStep_68 rfl ?_
              refine j_if_eq C 78 dX4_twoStep_70 (by decide) (fun hc70 => ?_) (fun hc70 => ?_)
              · refine j_iload_n C dX4_twoStep_78 rfl ?_
                refine j_istore_n C dX4_twoStep_79 (by decide) ?_
                refine j_iincN (n := 1) C dX4_twoStep_80 rfl (by decide) ?_
                refine j_goto C 7 dX4_twoStep_83 (by decide) ?_
                refine j_drop 4 ?_
                refine j_drop 5 ?_
                first
                | exact ih (i + 1) _ _ (by omega) (by omega) (sel_n hv (congrArg (fun z => !z) (decide_eq_true hc35)))
                | exact ih (i + 1) _ _ (by omega) (by omega) (sel_t hv (congrArg (fun z => !z) (decide_eq_false hc35)) (Or.inl hc41))
                | exact ih (i + 1) _ _ (by omega) (by omega) (sel_t hv (congrArg (fun z => !z) (decide_eq_false hc35)) (Or.inr (Int32.not_le.mp hc47)))
                | exact ih (i + 1) _ _ (by omega) (by omega) (sel_f hv hc41 (Int32.not_lt.mpr hc47))
              · exact absurd rfl hc70
            · exact absurd rfl hc59
          · refine j_iload_n C dX4_twoStep_38 rfl ?_
            refine j_ldc (v := (-1000000003)) C dX4_twoStep_39 (by decide +kernel) ?_
            refine j_icmp_eq C 50 dX4_twoStep_41 (by decide) (fun hc41 => ?_) (fun hc41 => ?_)
            · refine j_iconst (v := 1) C dX4_twoStep_50 rfl ?_
              refine j_goto C 55 dX4_twoStep_51 (by decide) ?_
              refine j_istore C dX4_twoStep_55 (by decide) ?_
              refine j_iload C dX4_twoStep_57 rfl ?_
              refine j_if_eq C 66 dX4_twoStep_59 (by decide) (fun hc59 => ?_) (fun hc59 => ?_)
              · exact absurd hc59 (by decide)
              · refine j_iload_n C dX4_twoStep_62 rfl ?_
                refine j_goto C 67 dX4_twoStep_63 (by decide) ?_
                refine j_istore_n C dX4_twoStep_67 (by decide) ?_
                refine j_iload C dX4_twoStep_68 rfl ?_
                refine j_if_eq C 78 dX4_twoStep_70 (by decide) (fun hc70 => ?_) (fun hc70 => ?_)
                · exact absurd hc70 (by decide)
                · refine j_iload C dX4_twoStep_73 rfl ?_
                  refine j_goto C 79 dX4_twoStep_75 (by decide) ?_
                  refine j_istore_n C dX4_twoStep_79 (by decide) ?_
                  refine j_iincN (n := 1) C dX4_twoStep_80 rfl (by decide) ?_
                  refine j_goto C 7 dX4_twoStep_83 (by decide) ?_
                  refine j_drop 4 ?_
                  refine j_drop 5 ?_
                  first
                  | exact ih (i + 1) _ _ (by omega) (by omega) (sel_n hv (congrArg (fun z => !z) (decide_eq_true hc35)))
                  | exact ih (i + 1) _ _ (by omega) (by omega) (sel_t hv (congrArg (fun z => !z) (decide_eq_false hc35)) (Or.inl hc41))
                  | exact ih (i + 1) _ _ (by omega) (by omega) (sel_t hv (congrArg (fun z => !z) (decide_eq_false hc35)) (Or.inr (Int32.not_le.mp hc47)))
                  | exact ih (i + 1) _ _ (by omega) (by omega) (sel_f hv hc41 (Int32.not_lt.mpr hc47))
            · refine j_iload C dX4_twoStep_44 rfl ?_
              refine j_iload_n C dX4_twoStep_46 rfl ?_
              refine j_icmp_ge C 54 dX4_twoStep_47 (by decide) (fun hc47 => ?_) (fun hc47 => ?_)
              · refine j_iconst (v := 0) C dX4_twoStep_54 rfl ?_
                refine j_istore C dX4_twoStep_55 (by decide) ?_
                refine j_iload C dX4_twoStep_57 rfl ?_
                refine j_if_eq C 66 dX4_twoStep_59 (by decide) (fun hc59 => ?_) (fun hc59 => ?_)
                · refine j_iload_n C dX4_twoStep_66 rfl ?_
                  refine j_istore_n C dX4_twoStep_67 (by decide) ?_
                  refine j_iload C dX4_twoStep_68 rfl ?_
                  refine j_if_eq C 78 dX4_twoStep_70 (by decide) (fun hc70 => ?_) (fun hc70 => ?_)
                  · refine j_iload_n C dX4_twoStep_78 rfl ?_
                    refine j_istore_n C dX4_twoStep_79 (by decide) ?_
                    refine j_iincN (n := 1) C dX4_twoStep_80 rfl (by decide) ?_
                    refine j_goto C 7 dX4_twoStep_83 (by decide) ?_
                    refine j_drop 4 ?_
                    refine j_drop 5 ?_
                    first
                    | exact ih (i + 1) _ _ (by omega) (by omega) (sel_n hv (congrArg (fun z => !z) (decide_eq_true hc35)))
                    | exact ih (i + 1) _ _ (by omega) (by omega) (sel_t hv (congrArg (fun z => !z) (decide_eq_false hc35)) (Or.inl hc41))
                    | exact ih (i + 1) _ _ (by omega) (by omega) (sel_t hv (congrArg (fun z => !z) (decide_eq_false hc35)) (Or.inr (Int32.not_le.mp hc47)))
                    | exact ih (i + 1) _ _ (by omega) (by omega) (sel_f hv hc41 (Int32.not_lt.mpr hc47))
                  · exact absurd rfl hc70
                · exact absurd rfl hc59
              · refine j_iconst (v := 1) C dX4_twoStep_50 rfl ?_
                refine j_goto C 55 dX4_twoStep_51 (by decide) ?_
                refine j_istore C dX4_twoStep_55 (by decide) ?_
                refine j_iload C dX4_twoStep_57 rfl ?_
                refine j_if_eq C 66 dX4_twoStep_59 (by decide) (fun hc59 => ?_) (fun hc59 => ?_)
                · exact absurd hc59 (by decide)
                · refine j_iload_n C dX4_twoStep_62 rfl ?_
                  refine j_goto C 67 dX4_twoStep_63 (by decide) ?_
                  refine j_istore_n C dX4_twoStep_67 (by decide) ?_
                  refine j_iload C dX4_twoStep_68 rfl ?_
                  refine j_if_eq C 78 dX4_twoStep_70 (by decide) (fun hc70 => ?_) (fun hc70 => ?_)
                  · exact absurd hc70 (by decide)
                  · refine j_iload C dX4_twoStep_73 rfl ?_
                    refine j_goto C 79 dX4_twoStep_75 (by decide) ?_
                    refine j_istore_n C dX4_twoStep_79 (by decide) ?_
                    refine j_iincN (n := 1) C dX4_twoStep_80 rfl (by decide) ?_
                    refine j_goto C 7 dX4_twoStep_83 (by decide) ?_
                    refine j_drop 4 ?_
                    refine j_drop 5 ?_
                    first
                    | exact ih (i + 1) _ _ (by omega) (by omega) (sel_n hv (congrArg (fun z => !z) (decide_eq_true hc35)))
                    | exact ih (i + 1) _ _ (by omega) (by omega) (sel_t hv (congrArg (fun z => !z) (decide_eq_false hc35)) (Or.inl hc41))
                    | exact ih (i + 1) _ _ (by omega) (by omega) (sel_t hv (congrArg (fun z => !z) (decide_eq_false hc35)) (Or.inr (Int32.not_le.mp hc47)))
                    | exact ih (i + 1) _ _ (by omega) (by omega) (sel_f hv hc41 (Int32.not_lt.mpr hc47))
  refine j_ldc (v := (-1000000003)) C dX4_twoStep_0 (by decide +kernel) ?_
  refine j_istore_n C dX4_twoStep_2 (by decide) ?_
  refine j_iconst (v := 0) C dX4_twoStep_3 rfl ?_
  refine j_istore_n C dX4_twoStep_4 (by decide) ?_
  refine j_iconst (v := 0) C dX4_twoStep_5 rfl ?_
  refine j_istore_n C dX4_twoStep_6 (by decide) ?_
  exact hL (N + 1) 0 _ _ (by omega) (by omega) rfl
set_option maxHeartbeats 4000000 in
set_option maxRecDepth 100000 in
theorem c_X4_mean {l : Launch} {D : va_G} {cI cZ cQ : ClassId} {ad : Nat → Nat} {np : Nat} {x : Nat → Nat} {g : Nat → Nat → Int32} (hnp : 41 ≤ np) {a : Nat → Nat} {b nu : Nat → Nat → Int32} (hM : RM x g a b nu) (hW : WF a b nu) {first part : Int32} : Cn l D cI cZ cQ ad np 5 yX4_mean wsX4_mean [.ref (ad 27), .int first, .int part] x g (EM (meR a b nu first part) x g a b nu) := by
  refine cn_of (own := RX4) (by decide) rfl rfl (by simp [Value.category]) (Nat.le_of_ble_eq_true rfl) ?_
  intro p e s m args below meth c A Q C HR HV
  obtain ⟨⟨e0, e1, e2, e3, e4, e5, e6⟩, hg, hnu⟩ := id hM
  obtain ⟨⟨w0, ⟨w1, w1'⟩, w2, w3, w4, w5, w6⟩, wt, wn, wq⟩ := id hW
  have b9 : g 28 = b 9 := hg 9 (by decide) (by decide)
  have b10 : g 29 = b 10 := hg 10 (by decide) (by decide)
  have b11 : g 30 = b 11 := hg 11 (by decide) (by decide)
  have b12 : g 31 = b 12 := hg 12 (by decide) (by decide)
  have b13 : g 32 = b 13 := hg 13 (by decide) (by decide)
  have b14 : g 33 = b 14 := hg 14 (by decide) (by decide)
  have b15 : g 34 = b 15 := hg 15 (by decide) (by decide)
  have b16 : g 35 = b 16 := hg 16 (by decide) (by decide)
  have b17 : g 36 = b 17 := hg 17 (by decide) (by decide)
  refine j_aload_n C dX4_mean_0 rfl ?_
  refine j_iload_n C dX4_mean_1 rfl ?_
  refine jVp1 (ci := 4) C dX4_mean_2 gX4_mean_X4_isFirst rfl pd_X4_isFirst ⟨by decide, by decide⟩ (Nat.lt_of_lt_of_le (by decide) hnp) rfl rfl rfl (Nat.le_of_ble_eq_true rfl) (c_X4_isFirst hnp) ?_
  rw [e1]
  refine j_if_eq C 17 dX4_mean_5 (by decide) (fun hc5 => ?_) (fun hc5 => ?_)
  · refine j_ldc (v := (-1000000001)) C dX4_mean_17 (by decide +kernel) ?_
    have hb : (fiOk a first && inW part 0 1) = false := by
      first
      | (rw [show fiOk a first = false from bI_0.mp hc5]; rfl)
      | (rw [show inW part 0 1 = false from bI_0.mp hc14, Bool.and_false])
    exact HR _ _ _ _ _ _ rfl rfl dX4_mean_19 ⟨_, rfl, by unfold meR; rw [hb]; rfl, hM, Fm.rf⟩
  · refine j_iload_n C dX4_mean_8 rfl ?_
    refine j_iconst (v := 0) C dX4_mean_9 rfl ?_
    refine j_iconst (v := 1) C dX4_mean_10 rfl ?_
    refine jSp3 C dX4_mean_11 gX4_mean_X4_in rfl pd_X4_in ⟨by decide, by decide⟩ (Nat.le_of_ble_eq_true rfl) c_X4_in ?_
    refine j_if_ne C 20 dX4_mean_14 (by decide) (fun hc14 => ?_) (fun hc14 => ?_)
    · refine j_aload_n C dX4_mean_20 rfl ?_
      refine jVp0 (ci := 4) C dX4_mean_21 gX4_mean_X4_counted rfl pd_X4_counted ⟨by decide, by decide⟩ (Nat.lt_of_lt_of_le (by decide) hnp) rfl rfl rfl (Nat.le_of_ble_eq_true rfl) (c_X4_counted hnp hM hW) ?_
      refine j_if_ne C 32 dX4_mean_24 (by decide) (fun hc24 => ?_) (fun hc24 => ?_)
      · refine j_aload_n C dX4_mean_32 rfl ?_
        refine j_iload_n C dX4_mean_33 rfl ?_
        refine jVp1 (ci := 4) C dX4_mean_34 gX4_mean_X4_total rfl pd_X4_total ⟨by decide, by decide⟩ (Nat.lt_of_lt_of_le (by decide) hnp) rfl rfl rfl (Nat.le_of_ble_eq_true rfl) (c_X4_total hnp hM hW) ?_
        rw [← show cbF a b nu first = toF a b nu first from if_neg (fun q => hc24 ((cnt_0 hW).1.mpr q))]
        refine j_istore_n C dX4_mean_37 (by decide) ?_
        refine j_iload_n C dX4_mean_38 rfl ?_
        refine j_ldc (v := (-1000000003)) C dX4_mean_39 (by decide +kernel) ?_
        refine j_icmp_ne C 49 dX4_mean_41 (by decide) (fun hc41 => ?_) (fun hc41 => ?_)
        · refine j_iload_n C dX4_mean_49 rfl ?_
          refine j_aload_n C dX4_mean_50 rfl ?_
          refine jVp0 (ci := 4) C dX4_mean_51 gX4_mean_X4_allOdds rfl pd_X4_allOdds ⟨by decide, by decide⟩ (Nat.lt_of_lt_of_le (by decide) hnp) rfl rfl rfl (Nat.le_of_ble_eq_true rfl) (c_X4_allOdds hnp hM hW) ?_
          rw [(od_nat hW).1]
          refine j_iload_n C dX4_mean_54 rfl ?_
          refine jSp3 C dX4_mean_55 gX4_mean_X4_lowest rfl pd_X4_lowest ⟨by decide, by decide⟩ (Nat.le_of_ble_eq_true rfl) (c_X4_lowest (by have := (cb_bd hW hc41).2.2.1; omega) ((od_nat hW).2.2 (cb_bd hW hc41).1) (od_nat hW).2.1) ?_
          exact HR _ _ _ _ _ _ rfl rfl dX4_mean_58 ⟨_, rfl, by unfold meR; rw [show fiOk a first = true from bI_n0.mp hc5, show inW part 0 1 = true from bI_n0.mp hc14]; exact (if_neg hc41).symm, hM, Fm.rf⟩
        · refine j_ldc (v := (-1000000003)) C dX4_mean_44 (by decide +kernel) ?_
          refine j_goto C 58 dX4_mean_46 (by decide) ?_
          exact HR _ _ _ _ _ _ rfl rfl dX4_mean_58 ⟨_, rfl, by unfold meR; rw [show fiOk a first = true from bI_n0.mp hc5, show inW part 0 1 = true from bI_n0.mp hc14]; exact (if_pos hc41).symm, hM, Fm.rf⟩
      · refine j_ldc (v := (-1000000003)) C dX4_mean_27 (by decide +kernel) ?_
        refine j_goto C 37 dX4_mean_29 (by decide) ?_
        refine j_istore_n C dX4_mean_37 (by decide) ?_
        refine j_iload_n C dX4_mean_38 rfl ?_
        refine j_ldc (v := (-1000000003)) C dX4_mean_39 (by decide +kernel) ?_
        refine j_icmp_ne C 49 dX4_mean_41 (by decide) (fun hc41 => ?_) (fun hc41 => ?_)
        · exact absurd rfl hc41
        · refine j_ldc (v := (-1000000003)) C dX4_mean_44 (by decide +kernel) ?_
          refine j_goto C 58 dX4_mean_46 (by decide) ?_
          exact HR _ _ _ _ _ _ rfl rfl dX4_mean_58 ⟨_, rfl, by unfold meR; rw [show fiOk a first = true from bI_n0.mp hc5, show inW part 0 1 = true from bI_n0.mp hc14]; exact (if_pos (if_pos ((cnt_0 hW).1.mp hc24))).symm, hM, Fm.rf⟩
    · refine j_ldc (v := (-1000000001)) C dX4_mean_17 (by decide +kernel) ?_
      have hb : (fiOk a first && inW part 0 1) = false := by
        first
        | (rw [show fiOk a first = false from bI_0.mp hc5]; rfl)
        | (rw [show inW part 0 1 = false from bI_0.mp hc14, Bool.and_false])
      exact HR _ _ _ _ _ _ rfl rfl dX4_mean_19 ⟨_, rfl, by unfold meR; rw [hb]; rfl, hM, Fm.rf⟩
theorem n_X4_best_X4 : ∀ w ∈ wsX40, w ∈ wsX4_best := by decide +kernel
set_option maxHeartbeats 4000000 in
set_option maxRecDepth 100000 in
theorem c_X4_best {l : Launch} {D : va_G} {cI cZ cQ : ClassId} {ad : Nat → Nat} {np : Nat} {x : Nat → Nat} {g : Nat → Nat → Int32} (hnp : 41 ≤ np) {a : Nat → Nat} {b nu : Nat → Nat → Int32} (hM : RM x g a b nu) (hW : WF a b nu) {fu : Int32} : Cn l D cI cZ cQ ad np 5 yX4_best wsX4_best [.ref (ad 27), .int fu] x g (EM (bsR a b nu fu) x g a b nu) := by
  refine cn_of (own := RX4) (by decide) rfl rfl (by simp [Value.category]) (Nat.le_of_ble_eq_true rfl) ?_
  intro p e s m args below meth c A Q C HR HV
  obtain ⟨⟨e0, e1, e2, e3, e4, e5, e6⟩, hg, hnu⟩ := id hM
  obtain ⟨⟨w0, ⟨w1, w1'⟩, w2, w3, w4, w5, w6⟩, wt, wn, wq⟩ := id hW
  have b9 : g 28 = b 9 := hg 9 (by decide) (by decide)
  have b10 : g 29 = b 10 := hg 10 (by decide) (by decide)
  have b11 : g 30 = b 11 := hg 11 (by decide) (by decide)
  have b12 : g 31 = b 12 := hg 12 (by decide) (by decide)
  have b13 : g 32 = b 13 := hg 13 (by decide) (by decide)
  have b14 : g 33 = b 14 := hg 14 (by decide) (by decide)
  have b15 : g 34 = b 15 := hg 15 (by decide) (by decide)
  have b16 : g 35 = b 16 := hg 16 (by decide) (by decide)
  have b17 : g 36 = b 17 := hg 17 (by decide) (by decide)
  refine j_iload_n C dX4_best_0 rfl ?_
  refine j_iconst (v := 0) C dX4_best_1 rfl ?_
  refine j_aload_n C dX4_best_2 rfl ?_
  refine jg_X4_futures C dX4_best_3 n_X4_best_X4 (by decide +kernel) (Nat.lt_of_lt_of_le (by decide) hnp) ?_
  rw [e6]
  refine j_iconst (v := 1) C dX4_best_6 rfl ?_
  refine j_isub C dX4_best_7 ?_
  refine jSp3 C dX4_best_8 gX4_best_X4_in rfl pd_X4_in ⟨by decide, by decide⟩ (Nat.le_of_ble_eq_true rfl) c_X4_in ?_
  refine j_if_eq C 22 dX4_best_11 (by decide) (fun hc11 => ?_) (fun hc11 => ?_)
  · refine j_ldc (v := (-1000000001)) C dX4_best_22 (by decide +kernel) ?_
    exact HR _ _ _ _ _ _ rfl rfl dX4_best_24 ⟨_, rfl, by unfold bsR; rw [show fuOk a fu = false from bI_0.mp hc11]; rfl, hM, Fm.rf⟩
  · have hq := bI_n0.mp hc11
    obtain ⟨i0, hi0, rfl⟩ := inW_ix (by omega) hq
    refine j_aload_n C dX4_best_14 rfl ?_
    refine j_iload_n C dX4_best_15 rfl ?_
    refine jVp1 (ci := 4) C dX4_best_16 gX4_best_X4_bestOf rfl pd_X4_bestOf ⟨by decide, by decide⟩ (Nat.lt_of_lt_of_le (by decide) hnp) rfl rfl rfl (Nat.le_of_ble_eq_true rfl) (c_X4_bestOf hnp hM hW hi0) ?_
    refine j_goto C 24 dX4_best_19 (by decide) ?_
    exact HR _ _ _ _ _ _ rfl rfl dX4_best_24 ⟨_, rfl, by unfold bsR; rw [show fuOk a (nI i0) = true from hq, nI_clamp (by omega)]; rfl, hM, Fm.rf⟩
set_option maxHeartbeats 4000000 in
set_option maxRecDepth 100000 in
theorem c_X4_regret {l : Launch} {D : va_G} {cI cZ cQ : ClassId} {ad : Nat → Nat} {np : Nat} {x : Nat → Nat} {g : Nat → Nat → Int32} (hnp : 41 ≤ np) {a : Nat → Nat} {b nu : Nat → Nat → Int32} (hM : RM x g a b nu) (hW : WF a b nu) {first : Int32} : Cn l D cI cZ cQ ad np 6 yX4_regret wsX4_regret [.ref (ad 27), .int first] x g (EM (reR a b nu first) x g a b nu) := by
  refine cn_of (own := RX4) (by decide) rfl rfl (by simp [Value.category]) (Nat.le_of_ble_eq_true rfl) ?_
  intro p e s m args below meth c A Q C HR HV
  obtain ⟨⟨e0, e1, e2, e3, e4, e5, e6⟩, hg, hnu⟩ := id hM
  obtain ⟨⟨w0, ⟨w1, w1'⟩, w2, w3, w4, w5, w6⟩, wt, wn, wq⟩ := id hW
  have b9 : g 28 = b 9 := hg 9 (by decide) (by decide)
  have b10 : g 29 = b 10 := hg 10 (by decide) (by decide)
  have b11 : g 30 = b 11 := hg 11 (by decide) (by decide)
  have b12 : g 31 = b 12 := hg 12 (by decide) (by decide)
  have b13 : g 32 = b 13 := hg 13 (by decide) (by decide)
  have b14 : g 33 = b 14 := hg 14 (by decide) (by decide)
  have b15 : g 34 = b 15 := hg 15 (by decide) (by decide)
  have b16 : g 35 = b 16 := hg 16 (by decide) (by decide)
  have b17 : g 36 = b 17 := hg 17 (by decide) (by decide)
  refine j_aload_n C dX4_regret_0 rfl ?_
  refine j_iload_n C dX4_regret_1 rfl ?_
  refine jVp1 (ci := 4) C dX4_regret_2 gX4_regret_X4_isFirst rfl pd_X4_isFirst ⟨by decide, by decide⟩ (Nat.lt_of_lt_of_le (by decide) hnp) rfl rfl rfl (Nat.le_of_ble_eq_true rfl) (c_X4_isFirst hnp) ?_
  rw [e1]
  refine j_if_ne C 11 dX4_regret_5 (by decide) (fun hc5 => ?_) (fun hc5 => ?_)
  · refine j_aload_n C dX4_regret_11 rfl ?_
    refine jVv0 (ci := 4) C dX4_regret_12 gX4_regret_X4_findBests rfl pd_X4_findBests ⟨by decide, by decide⟩ (Nat.lt_of_lt_of_le (by decide) hnp) rfl rfl rfl (Nat.le_of_ble_eq_true rfl) (c_X4_findBests hnp hM hW) (fun x2 g2 hp => ?_)
    obtain ⟨hxe, hS, h5⟩ := hp
    have hxe := hxe.symm
    subst hxe
    refine j_aload_n C dX4_regret_15 rfl ?_
    refine j_iload_n C dX4_regret_16 rfl ?_
    refine jVp1 (ci := 4) C dX4_regret_17 gX4_regret_X4_regretOf rfl pd_X4_regretOf ⟨by decide, by decide⟩ (Nat.lt_of_lt_of_le (by decide) hnp) rfl rfl rfl (Nat.le_of_ble_eq_true rfl) (c_X4_regretOf hnp (hM.sm hS) hW h5) ?_
    exact HR _ _ _ _ _ _ rfl rfl dX4_regret_20 ⟨_, rfl, by unfold reR; rw [show fiOk a first = true from bI_n0.mp hc5]; rfl, hM.sm hS, Fm.sm hS⟩
  · refine j_ldc (v := (-1000000001)) C dX4_regret_8 (by decide +kernel) ?_
    exact HR _ _ _ _ _ _ rfl rfl dX4_regret_10 ⟨_, rfl, by unfold reR; rw [show fiOk a first = false from bI_0.mp hc5]; rfl, hM, Fm.rf⟩
theorem n_X4_calmest_X4 : ∀ w ∈ wsX40, w ∈ wsX4_calmest := by decide +kernel
set_option maxHeartbeats 4000000 in
set_option maxRecDepth 100000 in
theorem c_X4_calmest {l : Launch} {D : va_G} {cI cZ cQ : ClassId} {ad : Nat → Nat} {np : Nat} {x : Nat → Nat} {g : Nat → Nat → Int32} (hnp : 41 ≤ np) {a : Nat → Nat} {b nu : Nat → Nat → Int32} (hM : RM x g a b nu) (hW : WF a b nu) : Cn l D cI cZ cQ ad np 6 yX4_calmest wsX4_calmest [.ref (ad 27)] x g (EM (cmF a b nu) x g a b nu) := by
  refine cn_of (own := RX4) (by decide) rfl rfl (by simp [Value.category]) (Nat.le_of_ble_eq_true rfl) ?_
  intro p e s m args below meth c A Q C HR HV
  obtain ⟨⟨e0, e1, e2, e3, e4, e5, e6⟩, hg, hnu⟩ := id hM
  obtain ⟨⟨w0, ⟨w1, w1'⟩, w2, w3, w4, w5, w6⟩, wt, wn, wq⟩ := id hW
  have b9 : g 28 = b 9 := hg 9 (by decide) (by decide)
  have b10 : g 29 = b 10 := hg 10 (by decide) (by decide)
  have b11 : g 30 = b 11 := hg 11 (by decide) (by decide)
  have b12 : g 31 = b 12 := hg 12 (by decide) (by decide)
  have b13 : g 32 = b 13 := hg 13 (by decide) (by decide)
  have b14 : g 33 = b 14 := hg 14 (by decide) (by decide)
  have b15 : g 34 = b 15 := hg 15 (by decide) (by decide)
  have b16 : g 35 = b 16 := hg 16 (by decide) (by decide)
  have b17 : g 36 = b 17 := hg 17 (by decide) (by decide)
  obtain ⟨N, hN⟩ : ∃ N, N = 2 ^ (a 1) := ⟨_, rfl⟩
  have hN2 : N ≤ 1024 := by rw [hN]; exact p2_le (by omega)
  refine j_aload_n C dX4_calmest_0 rfl ?_
  refine jVv0 (ci := 4) C dX4_calmest_1 gX4_calmest_X4_findBests rfl pd_X4_findBests ⟨by decide, by decide⟩ (Nat.lt_of_lt_of_le (by decide) hnp) rfl rfl rfl (Nat.le_of_ble_eq_true rfl) (c_X4_findBests hnp hM hW) (fun x2 g2 hp => ?_)
  obtain ⟨hxe, hS, h5⟩ := hp
  have hxe := hxe.symm
  subst hxe
  have hL : ∀ (n : Nat) (i : Nat) (v v2 : Int32), i ≤ N → N - i < n → selS (fun f => !decide (rgF a b nu (nI f) = -1000000003)) (fun f => rgF a b nu (nI f)) nI i = (v, v2) → J p l e (Rm 6) s m args below meth c 0 0 D cI cZ cQ ad np A 6 Q x g2 11 [some (.ref (ad 27)), some (.int v), some (.int v2), some (.int (nI i)), none, none] [] := by
    intro n
    induction n with
    | zero => intros; omega
    | succ n ih =>
      intro i v v2 h1 h2 hv
      refine j_iload_n C dX4_calmest_11 rfl ?_
      refine j_iconst (v := 1) C dX4_calmest_12 rfl ?_
      refine j_aload_n C dX4_calmest_13 rfl ?_
      refine jg_X4_firsts C dX4_calmest_14 n_X4_calmest_X4 (by decide +kernel) (Nat.lt_of_lt_of_le (by decide) hnp) ?_
      refine j_ishl C dX4_calmest_17 ?_
      rw [e1, fcF_eq (by omega), ← hN]
      refine j_icmp_ge C 83 dX4_calmest_18 (by decide) (fun hc => ?_) (fun hc => ?_)
      · have he : i = N := by have := (nI_leI (by omega) (by omega)).mp hc; omega
        subst he
        refine j_iload_n C dX4_calmest_83 rfl ?_
        exact HR _ _ _ _ _ _ rfl rfl dX4_calmest_84 ⟨_, rfl, by unfold cmF; rw [← hN, hv], hM.sm hS, Fm.sm hS⟩
      · have hlt : i < N := by have := mt (nI_leI (by omega) (by omega)).mpr hc; omega
        refine j_aload_n C dX4_calmest_21 rfl ?_
        refine j_iload_n C dX4_calmest_22 rfl ?_
        refine jVp1 (ci := 4) C dX4_calmest_23 gX4_calmest_X4_regretOf rfl pd_X4_regretOf ⟨by decide, by decide⟩ (Nat.lt_of_lt_of_le (by decide) hnp) rfl rfl rfl (Nat.le_of_ble_eq_true rfl) (c_X4_regretOf hnp (hM.sm hS) hW h5) ?_
        refine j_istore C dX4_calmest_26 (by decide) ?_
        refine j_iload C dX4_calmest_28 rfl ?_
        refine j_ldc (v := (-1000000003)) C dX4_calmest_30 (by decide +kernel) ?_
        refine j_icmp_eq C 51 dX4_calmest_32 (by decide) (fun hc32 => ?_) (fun hc32 => ?_)
        · refine j_iconst (v := 0) C dX4_calmest_51 rfl ?_
          refine j_istore C dX4_calmest_52 (by decide) ?_
          refine j_iload C dX4_calmest_54 rfl ?_
          refine j_if_eq C 63 dX4_calmest_56 (by decide) (fun hc56 => ?_) (fun hc56 => ?_)
          · refine j_iload_n C dX4_calmest_63 rfl ?_
            refine j_istore_n C dX4_calmest_64 (by decide) ?_
            refine j_iload C dX4_calmest_65 rfl ?_
            refine j_if_eq C 75 dX4_calmest_67 (by decide) (fun hc67 => ?_) (fun hc67 => ?_)
            · refine j_iload_n C dX4_calmest_75 rfl ?_
              refine j_istore_n C dX4_calmest_76 (by decide) ?_
              refine j_iincN (n := 1) C dX4_calmest_77 rfl (by decide) ?_
              refine j_goto C 11 dX4_calmest_80 (by decide) ?_
              refine j_drop 4 ?_
              refine j_drop 5 ?_
              first
              | exact ih (i + 1) _ _ (by omega) (by omega) (sel_n hv (congrArg (fun z => !z) (decide_eq_true hc32)))
              | exact ih (i + 1) _ _ (by omega) (by omega) (sel_t hv (congrArg (fun z => !z) (decide_eq_false hc32)) (Or.inl hc38))
              | exact ih (i + 1) _ _ (by omega) (by omega) (sel_t hv (congrArg (fun z => !z) (decide_eq_false hc32)) (Or.inr (Int32.not_le.mp hc44)))
              | exact ih (i + 1) _ _ (by omega) (by omega) (sel_f hv hc38 (Int32.not_lt.mpr hc44))
            · exact absurd rfl hc67
          · exact absurd rfl hc56
        · refine j_iload_n C dX4_calmest_35 rfl ?_
          refine j_ldc (v := (-1000000003)) C dX4_calmest_36 (by decide +kernel) ?_
          refine j_icmp_eq C 47 dX4_calmest_38 (by decide) (fun hc38 => ?_) (fun hc38 => ?_)
          · refine j_iconst (v := 1) C dX4_calmest_47 rfl ?_
            refine j_goto C 52 dX4_calmest_48 (by decide) ?_
            refine j_istore C dX4_calmest_52 (by decide) ?_
            refine j_iload C dX4_calmest_54 rfl ?_
            refine j_if_eq C 63 dX4_calmest_56 (by decide) (fun hc56 => ?_) (fun hc56 => ?_)
            · exact absurd hc56 (by decide)
            · refine j_iload_n C dX4_calmest_59 rfl ?_
              refine j_goto C 64 dX4_calmest_60 (by decide) ?_
              refine j_istore_n C dX4_calmest_64 (by decide) ?_
              refine j_iload C dX4_calmest_65 rfl ?_
              refine j_if_eq C 75 dX4_calmest_67 (by decide) (fun hc67 => ?_) (fun hc67 => ?_)
              · exact absurd hc67 (by decide)
              · refine j_iload C dX4_calmest_70 rfl ?_
                refine j_goto C 76 dX4_calmest_72 (by decide) ?_
                refine j_istore_n C dX4_calmest_76 (by decide) ?_
                refine j_iincN (n := 1) C dX4_calmest_77 rfl (by decide) ?_
                refine j_goto C 11 dX4_calmest_80 (by decide) ?_
                refine j_drop 4 ?_
                refine j_drop 5 ?_
                first
                | exact ih (i + 1) _ _ (by omega) (by omega) (sel_n hv (congrArg (fun z => !z) (decide_eq_true hc32)))
                | exact ih (i + 1) _ _ (by omega) (by omega) (sel_t hv (congrArg (fun z => !z) (decide_eq_false hc32)) (Or.inl hc38))
                | exact ih (i + 1) _ _ (by omega) (by omega) (sel_t hv (congrArg (fun z => !z) (decide_eq_false hc32)) (Or.inr (Int32.not_le.mp hc44)))
                | exact ih (i + 1) _ _ (by omega) (by omega) (sel_f hv hc38 (Int32.not_lt.mpr hc44))
          · refine j_iload C dX4_calmest_41 rfl ?_
            refine j_iload_n C dX4_calmest_43 rfl ?_
            refine j_icmp_ge C 51 dX4_calmest_44 (by decide) (fun hc44 => ?_) (fun hc44 => ?_)
            · refine j_iconst (v := 0) C dX4_calmest_51 rfl ?_
              refine j_istore C dX4_calmest_52 (by decide) ?_
              refine j_iload C dX4_calmest_54 rfl ?_
              refine j_if_eq C 63 dX4_calmest_56 (by decide) (fun hc56 => ?_) (fun hc56 => ?_)
              · refine j_iload_n C dX4_calmest_63 rfl ?_
                refine j_istore_n C dX4_calmest_64 (by decide) ?_
                refine j_iload C dX4_calmest_65 rfl ?_
                refine j_if_eq C 75 dX4_calmest_67 (by decide) (fun hc67 => ?_) (fun hc67 => ?_)
                · refine j_iload_n C dX4_calmest_75 rfl ?_
                  refine j_istore_n C dX4_calmest_76 (by decide) ?_
                  refine j_iincN (n := 1) C dX4_calmest_77 rfl (by decide) ?_
                  refine j_goto C 11 dX4_calmest_80 (by decide) ?_
                  refine j_drop 4 ?_
                  refine j_drop 5 ?_
                  first
                  | exact ih (i + 1) _ _ (by omega) (by omega) (sel_n hv (congrArg (fun z => !z) (decide_eq_true hc32)))
                  | exact ih (i + 1) _ _ (by omega) (by omega) (sel_t hv (congrArg (fun z => !z) (decide_eq_false hc32)) (Or.inl hc38))
                  | exact ih (i + 1) _ _ (by omega) (by omega) (sel_t hv (congrArg (fun z => !z) (decide_eq_false hc32)) (Or.inr (Int32.not_le.mp hc44)))
                  | exact ih (i + 1) _ _ (by omega) (by omega) (sel_f hv hc38 (Int32.not_lt.mpr hc44))
                · exact absurd rfl hc67
              · exact absurd rfl hc56
            · refine j_iconst (v := 1) C dX4_calmest_47 rfl ?_
              refine j_goto C 52 dX4_calmest_48 (by decide) ?_
              refine j_istore C dX4_calmest_52 (by decide) ?_
              refine j_iload C dX4_calmest_54 rfl ?_
              refine j_if_eq C 63 dX4_calmest_56 (by decide) (fun hc56 => ?_) (fun hc56 => ?_)
              · exact absurd hc56 (by decide)
              · refine j_iload_n C dX4_calmest_59 rfl ?_
                refine j_goto C 64 dX4_calmest_60 (by decide) ?_
                refine j_istore_n C dX4_calmest_64 (by decide) ?_
                refine j_iload C dX4_calmest_65 rfl ?_
                refine j_if_eq C 75 dX4_calmest_67 (by decide) (fun hc67 => ?_) (fun hc67 => ?_)
                · exact absurd hc67 (by decide)
                · refine j_iload C dX4_calmest_70 rfl ?_
                  refine j_goto C 76 dX4_calmest_72 (by decide) ?_
                  refine j_istore_n C dX4_calmest_76 (by decide) ?_
                  refine j_iincN (n := 1) C dX4_calmest_77 rfl (by decide) ?_
                  refine j_goto C 11 dX4_calmest_80 (by decide) ?_
                  refine j_drop 4 ?_
                  refine j_drop 5 ?_
                  first
                  | exact ih (i + 1) _ _ (by omega) (by omega) (sel_n hv (congrArg (fun z => !z) (decide_eq_true hc32)))
                  | exact ih (i + 1) _ _ (by omega) (by omega) (sel_t hv (congrArg (fun z => !z) (decide_eq_false hc32)) (Or.inl hc38))
                  | exact ih (i + 1) _ _ (by omega) (by omega) (sel_t hv (congrArg (fun z => !z) (decide_eq_false hc32)) (Or.inr (Int32.not_le.mp hc44)))
                  | exact ih (i + 1) _ _ (by omega) (by omega) (sel_f hv hc38 (Int32.not_lt.mpr hc44))
  refine j_ldc (v := (-1000000003)) C dX4_calmest_4 (by decide +kernel) ?_
  refine j_istore_n C dX4_calmest_6 (by decide) ?_
  refine j_iconst (v := 0) C dX4_calmest_7 rfl ?_
  refine j_istore_n C dX4_calmest_8 (by decide) ?_
  refine j_iconst (v := 0) C dX4_calmest_9 rfl ?_
  refine j_istore_n C dX4_calmest_10 (by decide) ?_
  exact hL (N + 1) 0 _ _ (by omega) (by omega) rfl
theorem n_X4_waiting_X4 : ∀ w ∈ wsX40, w ∈ wsX4_waiting := by decide +kernel
set_option maxHeartbeats 4000000 in
set_option maxRecDepth 100000 in
theorem c_X4_waiting {l : Launch} {D : va_G} {cI cZ cQ : ClassId} {ad : Nat → Nat} {np : Nat} {x : Nat → Nat} {g : Nat → Nat → Int32} (hnp : 41 ≤ np) {a : Nat → Nat} {b nu : Nat → Nat → Int32} (hM : RM x g a b nu) (hW : WF a b nu) {part : Int32} : Cn l D cI cZ cQ ad np 6 yX4_waiting wsX4_waiting [.ref (ad 27), .int part] x g (EM (waR a b nu part) x g a b nu) := by
  refine cn_of (own := RX4) (by decide) rfl rfl (by simp [Value.category]) (Nat.le_of_ble_eq_true rfl) ?_
  intro p e s m args below meth c A Q C HR HV
  obtain ⟨⟨e0, e1, e2, e3, e4, e5, e6⟩, hg, hnu⟩ := id hM
  obtain ⟨⟨w0, ⟨w1, w1'⟩, w2, w3, w4, w5, w6⟩, wt, wn, wq⟩ := id hW
  have b9 : g 28 = b 9 := hg 9 (by decide) (by decide)
  have b10 : g 29 = b 10 := hg 10 (by decide) (by decide)
  have b11 : g 30 = b 11 := hg 11 (by decide) (by decide)
  have b12 : g 31 = b 12 := hg 12 (by decide) (by decide)
  have b13 : g 32 = b 13 := hg 13 (by decide) (by decide)
  have b14 : g 33 = b 14 := hg 14 (by decide) (by decide)
  have b15 : g 34 = b 15 := hg 15 (by decide) (by decide)
  have b16 : g 35 = b 16 := hg 16 (by decide) (by decide)
  have b17 : g 36 = b 17 := hg 17 (by decide) (by decide)
  refine j_iload_n C dX4_waiting_0 rfl ?_
  refine j_iconst (v := 0) C dX4_waiting_1 rfl ?_
  refine j_iconst (v := 1) C dX4_waiting_2 rfl ?_
  refine jSp3 C dX4_waiting_3 gX4_waiting_X4_in rfl pd_X4_in ⟨by decide, by decide⟩ (Nat.le_of_ble_eq_true rfl) c_X4_in ?_
  refine j_if_ne C 12 dX4_waiting_6 (by decide) (fun hc6 => ?_) (fun hc6 => ?_)
  · refine j_aload_n C dX4_waiting_12 rfl ?_
    refine jVp0 (ci := 4) C dX4_waiting_13 gX4_waiting_X4_twoStep rfl pd_X4_twoStep ⟨by decide, by decide⟩ (Nat.lt_of_lt_of_le (by decide) hnp) rfl rfl rfl (Nat.le_of_ble_eq_true rfl) (c_X4_twoStep hnp hM hW) ?_
    refine j_istore_n C dX4_waiting_16 (by decide) ?_
    refine j_iload_n C dX4_waiting_17 rfl ?_
    refine j_ldc (v := (-1000000003)) C dX4_waiting_18 (by decide +kernel) ?_
    refine j_icmp_ne C 26 dX4_waiting_20 (by decide) (fun hc20 => ?_) (fun hc20 => ?_)
    · obtain ⟨f, hf1, hf2, hf3⟩ := tw_spec hW hc20
      obtain ⟨-, -, -, -, wv, hto⟩ := cb_bd hW hf3
      have hw1 : -64000000 ≤ (cbF a b nu (twF a b nu)).toInt := by rw [hf2]; exact (cb_bd hW hf3).2.2.1
      have hw2 : (cbF a b nu (twF a b nu)).toInt ≤ 64000000 := by rw [hf2]; exact (cb_bd hW hf3).2.2.2.1
      have hwb := wa_bd hW hf1 hto hw1 hw2 (a 6) (Nat.le_refl _)
      refine j_aload_n C dX4_waiting_26 rfl ?_
      refine jVv0 (ci := 4) C dX4_waiting_27 gX4_waiting_X4_findBests rfl pd_X4_findBests ⟨by decide, by decide⟩ (Nat.lt_of_lt_of_le (by decide) hnp) rfl rfl rfl (Nat.le_of_ble_eq_true rfl) (c_X4_findBests hnp hM hW) (fun x2 g2 hp => ?_)
      obtain ⟨hxe, hS, h5⟩ := hp
      have hxe := hxe.symm
      subst hxe
      refine j_aload_n C dX4_waiting_30 rfl ?_
      refine j_iload_n C dX4_waiting_31 rfl ?_
      refine jVp1 (ci := 4) C dX4_waiting_32 gX4_waiting_X4_total rfl pd_X4_total ⟨by decide, by decide⟩ (Nat.lt_of_lt_of_le (by decide) hnp) rfl rfl rfl (Nat.le_of_ble_eq_true rfl) (c_X4_total hnp (hM.sm hS) hW) ?_
      rw [← show cbF a b nu (twF a b nu) = toF a b nu (twF a b nu) by rw [hf2]; exact (cb_bd hW hf3).2.1]
      refine j_istore_n C dX4_waiting_35 (by decide) ?_
      have hL : ∀ (n : Nat) (i : Nat) (v : Int32), i ≤ a 6 → a 6 - i < n → v = waN a b nu (cbF a b nu (twF a b nu)) i → J p l e (Rm 6) s m args below meth c 0 0 D cI cZ cQ ad np A 5 Q x g2 39 [some (.ref (ad 27)), some (.int part), some (.int (twF a b nu)), some (.int v), some (.int (nI i))] [] := by
        intro n
        induction n with
        | zero => intros; omega
        | succ n ih =>
          intro i v h1 h2 hv
          refine j_iload C dX4_waiting_39 rfl ?_
          refine j_aload_n C dX4_waiting_41 rfl ?_
          refine jg_X4_futures C dX4_waiting_42 n_X4_waiting_X4 (by decide +kernel) (Nat.lt_of_lt_of_le (by decide) hnp) ?_
          refine j_icmp_ge C 86 dX4_waiting_45 (by decide) (fun hc => ?_) (fun hc => ?_)
          · have he : i = a 6 := by have := (nI_leI (by omega) (by omega)).mp hc; omega
            subst he
            refine j_iload_n C dX4_waiting_86 rfl ?_
            refine j_aload_n C dX4_waiting_87 rfl ?_
            refine jVp0 (ci := 4) C dX4_waiting_88 gX4_waiting_X4_allOdds rfl pd_X4_allOdds ⟨by decide, by decide⟩ (Nat.lt_of_lt_of_le (by decide) hnp) rfl rfl rfl (Nat.le_of_ble_eq_true rfl) (c_X4_allOdds hnp (hM.sm hS) hW) ?_
            rw [(od_nat hW).1]
            refine j_iload_n C dX4_waiting_91 rfl ?_
            refine jSp3 C dX4_waiting_92 gX4_waiting_X4_lowest rfl pd_X4_lowest ⟨by decide, by decide⟩ (Nat.le_of_ble_eq_true rfl) (c_X4_lowest (by rw [hv]; have := hwb.1; omega) ((od_nat hW).2.2 (cb_bd hW hf3).1) (od_nat hW).2.1) ?_
            exact HR _ _ _ _ _ _ rfl rfl dX4_waiting_95 ⟨_, rfl, by unfold waR; rw [show inW part 0 1 = true from bI_n0.mp hc6]; rw [hv]; exact (if_neg hc20).symm, hM.sm hS, Fm.sm hS⟩
          · have hlt : i < a 6 := by have := mt (nI_leI (by omega) (by omega)).mpr hc; omega
            refine j_iload_n C dX4_waiting_48 rfl ?_
            refine j_aload_n C dX4_waiting_49 rfl ?_
            refine jg_X4_kept C dX4_waiting_50 n_X4_waiting_X4 (by decide +kernel) (Nat.lt_of_lt_of_le (by decide) hnp) ?_
            refine j_iload C dX4_waiting_53 rfl ?_
            refine j_zald C _ dX4_waiting_55 (Nat.lt_of_lt_of_le (by decide) hnp) (Or.inr rfl) rfl (by omega) ?_
            rw [hS 36 (by decide), b17]
            refine j_if_eq C 63 dX4_waiting_56 (by decide) (fun hc56 => ?_) (fun hc56 => ?_)
            · refine j_aload_n C dX4_waiting_63 rfl ?_
              refine jg_X4_odds C dX4_waiting_64 n_X4_waiting_X4 (by decide +kernel) (Nat.lt_of_lt_of_le (by decide) hnp) ?_
              refine j_iload C dX4_waiting_67 rfl ?_
              refine j_iald C _ dX4_waiting_69 (Nat.lt_of_lt_of_le (by decide) hnp) rfl rfl (show _ < 8 by omega) ?_
              rw [hS 35 (by decide), b16]
              refine j_aload_n C dX4_waiting_70 rfl ?_
              refine jg_X4_bests C dX4_waiting_71 n_X4_waiting_X4 (by decide +kernel) (Nat.lt_of_lt_of_le (by decide) hnp) ?_
              refine j_iload C dX4_waiting_74 rfl ?_
              refine j_iald C i dX4_waiting_76 (Nat.lt_of_lt_of_le (by decide) hnp) rfl rfl (show _ < 8 by omega) ?_
              rw [h5 i hlt]
              refine j_imul C dX4_waiting_77 ?_
              refine j_isub C dX4_waiting_78 ?_
              refine j_istore_n C dX4_waiting_79 (by decide) ?_
              refine j_iincN (n := 1) C dX4_waiting_80 rfl (by decide) ?_
              refine j_goto C 39 dX4_waiting_83 (by decide) ?_
              first
              | exact ih (i + 1) _ (by omega) (by omega) (by simp only [waN]; rw [if_pos hc56, hv])
              | exact ih (i + 1) _ (by omega) (by omega) (by simp only [waN]; rw [if_neg hc56, hv, Int32.sub_zero])
            · refine j_iconst (v := 0) C dX4_waiting_59 rfl ?_
              refine j_goto C 78 dX4_waiting_60 (by decide) ?_
              refine j_isub C dX4_waiting_78 ?_
              refine j_istore_n C dX4_waiting_79 (by decide) ?_
              refine j_iincN (n := 1) C dX4_waiting_80 rfl (by decide) ?_
              refine j_goto C 39 dX4_waiting_83 (by decide) ?_
              first
              | exact ih (i + 1) _ (by omega) (by omega) (by simp only [waN]; rw [if_pos hc56, hv])
              | exact ih (i + 1) _ (by omega) (by omega) (by simp only [waN]; rw [if_neg hc56, hv, Int32.sub_zero])
      refine j_iconst (v := 0) C dX4_waiting_36 rfl ?_
      refine j_istore C dX4_waiting_37 (by decide) ?_
      exact hL (a 6 + 1) 0 _ (by omega) (by omega) rfl
    · refine j_ldc (v := (-1000000003)) C dX4_waiting_23 (by decide +kernel) ?_
      exact HR _ _ _ _ _ _ rfl rfl dX4_waiting_25 ⟨_, rfl, by unfold waR; rw [show inW part 0 1 = true from bI_n0.mp hc6]; exact (if_pos hc20).symm, hM, Fm.rf⟩
  · refine j_ldc (v := (-1000000001)) C dX4_waiting_9 (by decide +kernel) ?_
    exact HR _ _ _ _ _ _ rfl rfl dX4_waiting_11 ⟨_, rfl, by unfold waR; rw [show inW part 0 1 = false from bI_0.mp hc6]; rfl, hM, Fm.rf⟩
theorem n_X4_chance_X4 : ∀ w ∈ wsX40, w ∈ wsX4_chance := by decide +kernel
set_option maxHeartbeats 4000000 in
set_option maxRecDepth 100000 in
theorem c_X4_chance {l : Launch} {D : va_G} {cI cZ cQ : ClassId} {ad : Nat → Nat} {np : Nat} {x : Nat → Nat} {g : Nat → Nat → Int32} (hnp : 41 ≤ np) {a : Nat → Nat} {b nu : Nat → Nat → Int32} (hM : RM x g a b nu) (hW : WF a b nu) {plan part : Int32} : Cn l D cI cZ cQ ad np 3 yX4_chance wsX4_chance [.ref (ad 27), .int plan, .int part] x g (EM (chR a b nu plan part) x g a b nu) := by
  refine cn_of (own := RX4) (by decide) rfl rfl (by simp [Value.category]) (Nat.le_of_ble_eq_true rfl) ?_
  intro p e s m args below meth c A Q C HR HV
  obtain ⟨⟨e0, e1, e2, e3, e4, e5, e6⟩, hg, hnu⟩ := id hM
  obtain ⟨⟨w0, ⟨w1, w1'⟩, w2, w3, w4, w5, w6⟩, wt, wn, wq⟩ := id hW
  have b9 : g 28 = b 9 := hg 9 (by decide) (by decide)
  have b10 : g 29 = b 10 := hg 10 (by decide) (by decide)
  have b11 : g 30 = b 11 := hg 11 (by decide) (by decide)
  have b12 : g 31 = b 12 := hg 12 (by decide) (by decide)
  have b13 : g 32 = b 13 := hg 13 (by decide) (by decide)
  have b14 : g 33 = b 14 := hg 14 (by decide) (by decide)
  have b15 : g 34 = b 15 := hg 15 (by decide) (by decide)
  have b16 : g 35 = b 16 := hg 16 (by decide) (by decide)
  have b17 : g 36 = b 17 := hg 17 (by decide) (by decide)
  refine j_aload_n C dX4_chance_0 rfl ?_
  refine j_iload_n C dX4_chance_1 rfl ?_
  refine jVp1 (ci := 4) C dX4_chance_2 gX4_chance_X4_isPlan rfl pd_X4_isPlan ⟨by decide, by decide⟩ (Nat.lt_of_lt_of_le (by decide) hnp) rfl rfl rfl (Nat.le_of_ble_eq_true rfl) (c_X4_isPlan hnp) ?_
  rw [e1, e2]
  refine j_if_eq C 17 dX4_chance_5 (by decide) (fun hc5 => ?_) (fun hc5 => ?_)
  · refine j_ldc (v := (-1000000001)) C dX4_chance_17 (by decide +kernel) ?_
    have hb : (plOk a plan && inW part 0 1) = false := by
      first
      | (rw [show plOk a plan = false from bI_0.mp hc5]; rfl)
      | (rw [show inW part 0 1 = false from bI_0.mp hc14, Bool.and_false])
    exact HR _ _ _ _ _ _ rfl rfl dX4_chance_19 ⟨_, rfl, by unfold chR; rw [hb]; rfl, hM, Fm.rf⟩
  · refine j_iload_n C dX4_chance_8 rfl ?_
    refine j_iconst (v := 0) C dX4_chance_9 rfl ?_
    refine j_iconst (v := 1) C dX4_chance_10 rfl ?_
    refine jSp3 C dX4_chance_11 gX4_chance_X4_in rfl pd_X4_in ⟨by decide, by decide⟩ (Nat.le_of_ble_eq_true rfl) c_X4_in ?_
    refine j_if_ne C 20 dX4_chance_14 (by decide) (fun hc14 => ?_) (fun hc14 => ?_)
    · refine j_aload_n C dX4_chance_20 rfl ?_
      refine jVp0 (ci := 4) C dX4_chance_21 gX4_chance_X4_counted rfl pd_X4_counted ⟨by decide, by decide⟩ (Nat.lt_of_lt_of_le (by decide) hnp) rfl rfl rfl (Nat.le_of_ble_eq_true rfl) (c_X4_counted hnp hM hW) ?_
      refine j_if_ne C 30 dX4_chance_24 (by decide) (fun hc24 => ?_) (fun hc24 => ?_)
      · have hL : ∀ (n : Nat) (i : Nat) (v : Int32), i ≤ a 6 → a 6 - i < n → v = chN a b nu plan i → J p l e (Rm 3) s m args below meth c 0 0 D cI cZ cQ ad np A 5 Q x g 35 [some (.ref (ad 27)), some (.int plan), some (.int part), some (.int v), some (.int (nI i))] [] := by
          intro n
          induction n with
          | zero => intros; omega
          | succ n ih =>
            intro i v h1 h2 hv
            refine j_iload C dX4_chance_35 rfl ?_
            refine j_aload_n C dX4_chance_37 rfl ?_
            refine jg_X4_futures C dX4_chance_38 n_X4_chance_X4 (by decide +kernel) (Nat.lt_of_lt_of_le (by decide) hnp) ?_
            refine j_icmp_ge C 84 dX4_chance_41 (by decide) (fun hc => ?_) (fun hc => ?_)
            · have he : i = a 6 := by have := (nI_leI (by omega) (by omega)).mp hc; omega
              subst he
              refine j_iload_n C dX4_chance_84 rfl ?_
              refine j_aload_n C dX4_chance_85 rfl ?_
              refine jVp0 (ci := 4) C dX4_chance_86 gX4_chance_X4_allOdds rfl pd_X4_allOdds ⟨by decide, by decide⟩ (Nat.lt_of_lt_of_le (by decide) hnp) rfl rfl rfl (Nat.le_of_ble_eq_true rfl) (c_X4_allOdds hnp hM hW) ?_
              rw [(od_nat hW).1]
              refine j_iload_n C dX4_chance_89 rfl ?_
              refine jSp3 C dX4_chance_90 gX4_chance_X4_lowest rfl pd_X4_lowest ⟨by decide, by decide⟩ (Nat.le_of_ble_eq_true rfl) (c_X4_lowest (by rw [hv]; have := (ch_bd hW plan (a 6) (Nat.le_refl _)).1; omega) ((od_nat hW).2.2 (fun q => hc24 ((cnt_0 hW).1.mpr q))) (od_nat hW).2.1) ?_
              exact HR _ _ _ _ _ _ rfl rfl dX4_chance_93 ⟨_, rfl, by unfold chR; rw [show plOk a plan = true from bI_n0.mp hc5, show inW part 0 1 = true from bI_n0.mp hc14]; rw [hv]; exact (if_neg (fun q => hc24 ((cnt_0 hW).1.mpr q))).symm, hM, Fm.rf⟩
            · have hlt : i < a 6 := by have := mt (nI_leI (by omega) (by omega)).mpr hc; omega
              refine j_iload_n C dX4_chance_44 rfl ?_
              refine j_aload_n C dX4_chance_45 rfl ?_
              refine jg_X4_kept C dX4_chance_46 n_X4_chance_X4 (by decide +kernel) (Nat.lt_of_lt_of_le (by decide) hnp) ?_
              refine j_iload C dX4_chance_49 rfl ?_
              refine j_zald C _ dX4_chance_51 (Nat.lt_of_lt_of_le (by decide) hnp) (Or.inr rfl) rfl (by omega) ?_
              rw [b17]
              refine j_if_ne C 75 dX4_chance_52 (by decide) (fun hc52 => ?_) (fun hc52 => ?_)
              · refine j_iconst (v := 0) C dX4_chance_75 rfl ?_
                refine j_iadd C dX4_chance_76 ?_
                refine j_istore_n C dX4_chance_77 (by decide) ?_
                refine j_iincN (n := 1) C dX4_chance_78 rfl (by decide) ?_
                refine j_goto C 35 dX4_chance_81 (by decide) ?_
                first
                | exact ih (i + 1) _ (by omega) (by omega) (ch_t hv hc52 (bI_n0.mp hc62))
                | exact ih (i + 1) _ (by omega) (by omega) (by rw [Int32.add_zero]; exact ch_k hv hc52)
                | exact ih (i + 1) _ (by omega) (by omega) (by rw [Int32.add_zero]; exact ch_n hv (bI_0.mp hc62))
              · refine j_aload_n C dX4_chance_55 rfl ?_
                refine j_iload_n C dX4_chance_56 rfl ?_
                refine j_iload C dX4_chance_57 rfl ?_
                refine jVp2 (ci := 4) C dX4_chance_59 gX4_chance_X4_holds rfl pd_X4_holds ⟨by decide, by decide⟩ (Nat.lt_of_lt_of_le (by decide) hnp) rfl rfl rfl (Nat.le_of_ble_eq_true rfl) (c_X4_holds hnp hM hW hlt) ?_
                refine j_if_eq C 75 dX4_chance_62 (by decide) (fun hc62 => ?_) (fun hc62 => ?_)
                · refine j_iconst (v := 0) C dX4_chance_75 rfl ?_
                  refine j_iadd C dX4_chance_76 ?_
                  refine j_istore_n C dX4_chance_77 (by decide) ?_
                  refine j_iincN (n := 1) C dX4_chance_78 rfl (by decide) ?_
                  refine j_goto C 35 dX4_chance_81 (by decide) ?_
                  first
                  | exact ih (i + 1) _ (by omega) (by omega) (ch_t hv hc52 (bI_n0.mp hc62))
                  | exact ih (i + 1) _ (by omega) (by omega) (by rw [Int32.add_zero]; exact ch_k hv hc52)
                  | exact ih (i + 1) _ (by omega) (by omega) (by rw [Int32.add_zero]; exact ch_n hv (bI_0.mp hc62))
                · refine j_aload_n C dX4_chance_65 rfl ?_
                  refine jg_X4_odds C dX4_chance_66 n_X4_chance_X4 (by decide +kernel) (Nat.lt_of_lt_of_le (by decide) hnp) ?_
                  refine j_iload C dX4_chance_69 rfl ?_
                  refine j_iald C _ dX4_chance_71 (Nat.lt_of_lt_of_le (by decide) hnp) rfl rfl (show _ < 8 by omega) ?_
                  rw [b16]
                  refine j_goto C 76 dX4_chance_72 (by decide) ?_
                  refine j_iadd C dX4_chance_76 ?_
                  refine j_istore_n C dX4_chance_77 (by decide) ?_
                  refine j_iincN (n := 1) C dX4_chance_78 rfl (by decide) ?_
                  refine j_goto C 35 dX4_chance_81 (by decide) ?_
                  first
                  | exact ih (i + 1) _ (by omega) (by omega) (ch_t hv hc52 (bI_n0.mp hc62))
                  | exact ih (i + 1) _ (by omega) (by omega) (by rw [Int32.add_zero]; exact ch_k hv hc52)
                  | exact ih (i + 1) _ (by omega) (by omega) (by rw [Int32.add_zero]; exact ch_n hv (bI_0.mp hc62))
        refine j_iconst (v := 0) C dX4_chance_30 rfl ?_
        refine j_istore_n C dX4_chance_31 (by decide) ?_
        refine j_iconst (v := 0) C dX4_chance_32 rfl ?_
        refine j_istore C dX4_chance_33 (by decide) ?_
        exact hL (a 6 + 1) 0 _ (by omega) (by omega) rfl
      · refine j_ldc (v := (-1000000003)) C dX4_chance_27 (by decide +kernel) ?_
        exact HR _ _ _ _ _ _ rfl rfl dX4_chance_29 ⟨_, rfl, by unfold chR; rw [show plOk a plan = true from bI_n0.mp hc5, show inW part 0 1 = true from bI_n0.mp hc14]; exact (if_pos ((cnt_0 hW).1.mp hc24)).symm, hM, Fm.rf⟩
    · refine j_ldc (v := (-1000000001)) C dX4_chance_17 (by decide +kernel) ?_
      have hb : (plOk a plan && inW part 0 1) = false := by
        first
        | (rw [show plOk a plan = false from bI_0.mp hc5]; rfl)
        | (rw [show inW part 0 1 = false from bI_0.mp hc14, Bool.and_false])
      exact HR _ _ _ _ _ _ rfl rfl dX4_chance_19 ⟨_, rfl, by unfold chR; rw [hb]; rfl, hM, Fm.rf⟩
