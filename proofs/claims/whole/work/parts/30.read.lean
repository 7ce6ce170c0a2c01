theorem ch_t {a : Nat → Nat} {b nu : Nat → Nat → Int32} {plan v : Int32} {i : Nat} (hv : v = chN a b nu plan i) (h1 : b 17 i = 0) (h2 : hoF a b nu plan i = true) : v + b 16 i = chN a b nu plan (i + 1) := by simp [chN, h1, h2, hv]
theorem ch_k {a : Nat → Nat} {b nu : Nat → Nat → Int32} {plan v : Int32} {i : Nat} (hv : v = chN a b nu plan i) (h1 : ¬ b 17 i = 0) : v = chN a b nu plan (i + 1) := by simp [chN, h1, hv]
theorem ch_n {a : Nat → Nat} {b nu : Nat → Nat → Int32} {plan v : Int32} {i : Nat} (hv : v = chN a b nu plan i) (h2 : hoF a b nu plan i = false) : v = chN a b nu plan (i + 1) := by simp [chN, h2, hv]
theorem n_X3_told_X0 : ∀ w ∈ wsX00, w ∈ wsX3_told := by decide +kernel
theorem n_X3_told_X1 : ∀ w ∈ wsX10, w ∈ wsX3_told := by decide +kernel
theorem n_X3_told_X2 : ∀ w ∈ wsX20, w ∈ wsX3_told := by decide +kernel
theorem n_X3_told_X3 : ∀ w ∈ wsX30, w ∈ wsX3_told := by decide +kernel
set_option maxHeartbeats 4000000 in
set_option maxRecDepth 100000 in
theorem c_X3_told {l : Launch} {D : va_G} {cI cZ cQ : ClassId} {ad : Nat → Nat} {np : Nat} {x : Nat → Nat} {g : Nat → Nat → Int32} (hnp : 27 ≤ np) {a : Nat → Nat} {b nu : Nat → Nat → Int32} (hX : RX x g a b nu) (hW : WF a b nu) {w : Int32} : Cn l D cI cZ cQ ad np 1 yX3_told wsX3_told [.ref (ad 0), .int w] x g (EX (toldF a b w) x g a b nu) := by
  refine cn_of (own := RX3) (by decide) rfl rfl (by simp [Value.category]) (Nat.le_of_ble_eq_true rfl) ?_
  intro p e s m args below meth c A Q C HR HV
  obtain ⟨hx, hg, hnu⟩ := id hX
  obtain ⟨⟨w0, ⟨w1, w1'⟩, w2, w3, w4, w5, w6⟩, wt, wn, wq⟩ := id hW
  have e0 := hx 0 (by decide)
  have e1 := hx 1 (by decide)
  have e2 := hx 2 (by decide)
  have e3 := hx 3 (by decide)
  have e4 := hx 4 (by decide)
  have e5 := hx 5 (by decide)
  have e6 := hx 6 (by decide)
  have b9 := hg 9 (by decide) (by decide)
  have b10 := hg 10 (by decide) (by decide)
  have b11 := hg 11 (by decide) (by decide)
  have b12 := hg 12 (by decide) (by decide)
  have b13 := hg 13 (by decide) (by decide)
  have b14 := hg 14 (by decide) (by decide)
  have b15 := hg 15 (by decide) (by decide)
  have b16 := hg 16 (by decide) (by decide)
  have b17 := hg 17 (by decide) (by decide)
  refine j_iload_n C dX3_told_0 rfl ?_
  by_cases h0 : w = 0
  · subst h0
    refine j_tableIn C 48 (off := 47) dX3_told_1 (by decide) (by decide) (by decide) (by decide) ?_
    refine j_aload_n C dX3_told_48 rfl ?_
    refine jg_X3_names C dX3_told_49 n_X3_told_X3 (by decide +kernel) (Nat.lt_of_lt_of_le (by decide) hnp) ?_
    refine jg_X1_count C dX3_told_52 n_X3_told_X1 (by decide +kernel) (Nat.lt_of_lt_of_le (by decide) hnp) ?_
    exact HR _ _ _ _ _ _ rfl rfl dX3_told_55 ⟨_, rfl, by rw [e4]; rfl, hX, Fx.rf⟩
  by_cases h1 : w = 1
  · subst h1
    refine j_tableIn C 56 (off := 55) dX3_told_1 (by decide) (by decide) (by decide) (by decide) ?_
    refine j_aload_n C dX3_told_56 rfl ?_
    refine jg_X3_rowCount C dX3_told_57 n_X3_told_X3 (by decide +kernel) (Nat.lt_of_lt_of_le (by decide) hnp) ?_
    exact HR _ _ _ _ _ _ rfl rfl dX3_told_60 ⟨_, rfl, by rw [e0]; rfl, hX, Fx.rf⟩
  by_cases h2 : w = 2
  · subst h2
    refine j_tableIn C 61 (off := 60) dX3_told_1 (by decide) (by decide) (by decide) (by decide) ?_
    refine j_aload_n C dX3_told_61 rfl ?_
    refine jg_X3_terms C dX3_told_62 n_X3_told_X3 (by decide +kernel) (Nat.lt_of_lt_of_le (by decide) hnp) ?_
    refine jg_X2_count C dX3_told_65 n_X3_told_X2 (by decide +kernel) (Nat.lt_of_lt_of_le (by decide) hnp) ?_
    exact HR _ _ _ _ _ _ rfl rfl dX3_told_68 ⟨_, rfl, by rw [e5]; rfl, hX, Fx.rf⟩
  by_cases h3 : w = 3
  · subst h3
    refine j_tableIn C 69 (off := 68) dX3_told_1 (by decide) (by decide) (by decide) (by decide) ?_
    refine j_aload_n C dX3_told_69 rfl ?_
    refine jg_X3_listed C dX3_told_70 n_X3_told_X3 (by decide +kernel) (Nat.lt_of_lt_of_le (by decide) hnp) ?_
    refine jg_X0_count C dX3_told_73 n_X3_told_X0 (by decide +kernel) (Nat.lt_of_lt_of_le (by decide) hnp) ?_
    exact HR _ _ _ _ _ _ rfl rfl dX3_told_76 ⟨_, rfl, by rw [e6]; rfl, hX, Fx.rf⟩
  by_cases h4 : w = 4
  · subst h4
    refine j_tableIn C 77 (off := 76) dX3_told_1 (by decide) (by decide) (by decide) (by decide) ?_
    refine j_aload_n C dX3_told_77 rfl ?_
    refine jg_X3_listed C dX3_told_78 n_X3_told_X3 (by decide +kernel) (Nat.lt_of_lt_of_le (by decide) hnp) ?_
    refine jVp0 (ci := 0) C dX3_told_81 gX3_told_X0_countCounted rfl pd_X0_countCounted ⟨by decide, by decide⟩ (Nat.lt_of_lt_of_le (by decide) hnp) rfl rfl rfl (Nat.le_of_ble_eq_true rfl) (c_X0_countCounted hnp b17 (by omega)) ?_
    exact HR _ _ _ _ _ _ rfl rfl dX3_told_84 ⟨_, rfl, by rw [e6]; rfl, hX, Fx.rf⟩
  by_cases h5 : w = 5
  · subst h5
    refine j_tableIn C 85 (off := 84) dX3_told_1 (by decide) (by decide) (by decide) (by decide) ?_
    refine j_aload_n C dX3_told_85 rfl ?_
    refine jg_X3_firstCount C dX3_told_86 n_X3_told_X3 (by decide +kernel) (Nat.lt_of_lt_of_le (by decide) hnp) ?_
    exact HR _ _ _ _ _ _ rfl rfl dX3_told_89 ⟨_, rfl, by rw [e1]; rfl, hX, Fx.rf⟩
  by_cases h6 : w = 6
  · subst h6
    refine j_tableIn C 90 (off := 89) dX3_told_1 (by decide) (by decide) (by decide) (by decide) ?_
    refine j_aload_n C dX3_told_90 rfl ?_
    refine jg_X3_secondCount C dX3_told_91 n_X3_told_X3 (by decide +kernel) (Nat.lt_of_lt_of_le (by decide) hnp) ?_
    exact HR _ _ _ _ _ _ rfl rfl dX3_told_94 ⟨_, rfl, by rw [e2]; rfl, hX, Fx.rf⟩
  by_cases h7 : w = 7
  · subst h7
    refine j_tableIn C 95 (off := 94) dX3_told_1 (by decide) (by decide) (by decide) (by decide) ?_
    refine j_aload_n C dX3_told_95 rfl ?_
    refine jg_X3_budgetNow C dX3_told_96 n_X3_told_X3 (by decide +kernel) (Nat.lt_of_lt_of_le (by decide) hnp) ?_
    exact HR _ _ _ _ _ _ rfl rfl dX3_told_99 ⟨_, rfl, by rw [e3]; rfl, hX, Fx.rf⟩
  refine j_tableOut C 100 dX3_told_1 (told_out h0 h1 h2 h3 h4 h5 h6 h7) (by decide) ?_
  refine j_ldc (v := (-1000000001)) C dX3_told_100 (by decide +kernel) ?_
  exact HR _ _ _ _ _ _ rfl rfl dX3_told_102 ⟨_, rfl, (told_no h0 h1 h2 h3 h4 h5 h6 h7).symm, hX, Fx.rf⟩
theorem n_X3_comes_X0 : ∀ w ∈ wsX00, w ∈ wsX3_comes := by decide +kernel
theorem n_X3_comes_X1 : ∀ w ∈ wsX10, w ∈ wsX3_comes := by decide +kernel
theorem n_X3_comes_X3 : ∀ w ∈ wsX30, w ∈ wsX3_comes := by decide +kernel
set_option maxHeartbeats 4000000 in
set_option maxRecDepth 100000 in
theorem c_X3_comes {l : Launch} {D : va_G} {cI cZ cQ : ClassId} {ad : Nat → Nat} {np : Nat} {x : Nat → Nat} {g : Nat → Nat → Int32} (hnp : 27 ≤ np) {a : Nat → Nat} {b nu : Nat → Nat → Int32} (hX : RX x g a b nu) (hW : WF a b nu) {plan row fu : Int32} : Cn l D cI cZ cQ ad np 2 yX3_comes wsX3_comes [.ref (ad 0), .int plan, .int row, .int fu] x g (EX (comR a b nu plan row fu) x g a b nu) := by
  refine cn_of (own := RX3) (by decide) rfl rfl (by simp [Value.category]) (Nat.le_of_ble_eq_true rfl) ?_
  intro p e s m args below meth c A Q C HR HV
  obtain ⟨hx, hg, hnu⟩ := id hX
  obtain ⟨⟨w0, ⟨w1, w1'⟩, w2, w3, w4, w5, w6⟩, wt, wn, wq⟩ := id hW
  have e0 := hx 0 (by decide)
  have e1 := hx 1 (by decide)
  have e2 := hx 2 (by decide)
  have e3 := hx 3 (by decide)
  have e4 := hx 4 (by decide)
  have e5 := hx 5 (by decide)
  have e6 := hx 6 (by decide)
  have b9 := hg 9 (by decide) (by decide)
  have b10 := hg 10 (by decide) (by decide)
  have b11 := hg 11 (by decide) (by decide)
  have b12 := hg 12 (by decide) (by decide)
  have b13 := hg 13 (by decide) (by decide)
  have b14 := hg 14 (by decide) (by decide)
  have b15 := hg 15 (by decide) (by decide)
  have b16 := hg 16 (by decide) (by decide)
  have b17 := hg 17 (by decide) (by decide)
  refine j_aload_n C dX3_comes_0 rfl ?_
  refine j_iload_n C dX3_comes_1 rfl ?_
  refine jVp1 (ci := 3) C dX3_comes_2 gX3_comes_X3_isPlan rfl pd_X3_isPlan ⟨by decide, by decide⟩ (Nat.lt_of_lt_of_le (by decide) hnp) rfl rfl rfl (Nat.le_of_ble_eq_true rfl) (c_X3_isPlan hnp) ?_
  rw [e1, e2]
  refine j_if_eq C 16 dX3_comes_5 (by decide) (fun hc5 => ?_) (fun hc5 => ?_)
  · refine j_ldc (v := (-1000000001)) C dX3_comes_16 (by decide +kernel) ?_
    have hb : (plOk a plan && rwOk a row && inW fu (-1) (nI (a 6) - 1)) = false := by
      first
      | (rw [show plOk a plan = false from bI_0.mp hc5]; rfl)
      | (rw [show rwOk a row = false from bI_0.mp hc13, Bool.and_false]; rfl)
    exact HR _ _ _ _ _ _ rfl rfl dX3_comes_18 ⟨_, rfl, by unfold comR; rw [hb]; rfl, hX, Fx.rf⟩
  · refine j_aload_n C dX3_comes_8 rfl ?_
    refine j_iload_n C dX3_comes_9 rfl ?_
    refine jVp1 (ci := 3) C dX3_comes_10 gX3_comes_X3_isRowOrCost rfl pd_X3_isRowOrCost ⟨by decide, by decide⟩ (Nat.lt_of_lt_of_le (by decide) hnp) rfl rfl rfl (Nat.le_of_ble_eq_true rfl) (c_X3_isRowOrCost hnp) ?_
    rw [e0]
    refine j_if_ne C 19 dX3_comes_13 (by decide) (fun hc13 => ?_) (fun hc13 => ?_)
    · have hq1 : plOk a plan = true := bI_n0.mp hc5
      have hq2 : rwOk a row = true := bI_n0.mp hc13
      obtain ⟨r0, hr0, hr⟩ := inW_m1 (by omega) hq2
      refine j_iload_n C dX3_comes_19 rfl ?_
      refine j_iconst (v := (-1)) C dX3_comes_20 rfl ?_
      refine j_icmp_eq C 35 dX3_comes_21 (by decide) (fun hc21 => ?_) (fun hc21 => ?_)
      · refine j_aload_n C dX3_comes_35 rfl ?_
        refine jg_X3_terms C dX3_comes_36 n_X3_comes_X3 (by decide +kernel) (Nat.lt_of_lt_of_le (by decide) hnp) ?_
        refine j_iload_n C dX3_comes_39 rfl ?_
        refine j_iload_n C dX3_comes_40 rfl ?_
        refine j_iconst (v := (-1)) C dX3_comes_41 rfl ?_
        refine j_icmp_ne C 55 dX3_comes_42 (by decide) (fun hc42 => ?_) (fun hc42 => ?_)
        · exact absurd hc21 hc42
        · refine j_aload_n C dX3_comes_45 rfl ?_
          refine jg_X3_names C dX3_comes_46 n_X3_comes_X3 (by decide +kernel) (Nat.lt_of_lt_of_le (by decide) hnp) ?_
          refine jg_X1_usual C dX3_comes_49 n_X3_comes_X1 (by decide +kernel) (Nat.lt_of_lt_of_le (by decide) hnp) ?_
          refine j_goto C 64 dX3_comes_52 (by decide) ?_
          refine j_aload_n C dX3_comes_64 rfl ?_
          refine jg_X3_sums C dX3_comes_65 n_X3_comes_X3 (by decide +kernel) (Nat.lt_of_lt_of_le (by decide) hnp) ?_
          refine jVv3 (ci := 2) C dX3_comes_68 gX3_comes_X2_sumUp rfl pd_X2_sumUp ⟨by decide, by decide⟩ (Nat.lt_of_lt_of_le (by decide) hnp) rfl rfl rfl (Nat.le_of_ble_eq_true rfl) (c_X2_sumUp (num := b 10) (k := 10) hnp hX hW (by omega) rfl rfl (by decide) b10) (fun x2 g2 hp => ?_)
          obtain ⟨hxe, f, rfl, hf⟩ := hp
          have hxe := hxe.symm
          subst hxe
          refine j_aload_n C dX3_comes_71 rfl ?_
          refine jg_X3_sums C dX3_comes_72 n_X3_comes_X3 (by decide +kernel) (Nat.lt_of_lt_of_le (by decide) hnp) ?_
          refine j_iload_n C dX3_comes_75 rfl ?_
          refine jSp1 C dX3_comes_76 gX3_comes_X3_slotOf rfl pd_X3_slotOf ⟨by decide, by decide⟩ (Nat.le_of_ble_eq_true rfl) c_X3_slotOf ?_
          refine j_iald C r0 dX3_comes_79 (Nat.lt_of_lt_of_le (by decide) hnp) rfl (by rw [hr]; exact slot_eq r0) (show _ < 11 by omega) ?_
          rw [va_us]
          have hfq : inW fu (-1) (nI (a 6) - 1) = true := by
            rw [hc21]
            simp only [inW, Bool.and_eq_true, decide_eq_true_eq]
            refine ⟨by decide, ?_⟩
            rw [Int32.le_iff_toInt_le, show (nI (a 6) - 1).toInt = (a 6 : Int) - 1 from by rw [show (1 : Int32) = nI 1 from rfl]; exact pk_sub_toInt (by omega) (by omega)]
            have : (-1 : Int32).toInt = -1 := by decide
            omega
          have hlt0 : fu < 0 := by rw [hc21]; decide
          have hb : (plOk a plan && rwOk a row && inW fu (-1) (nI (a 6) - 1)) = true := by rw [hq1, hq2, hfq]; rfl
          exact HR _ _ _ _ _ _ rfl rfl dX3_comes_80 ⟨_, rfl, by unfold comR; rw [hb, if_pos hlt0, hr]; exact hf r0 hr0, hX.sx S4.up.sx, Fx.sx S4.up.sx⟩
      · refine j_aload_n C dX3_comes_24 rfl ?_
        refine j_iload_n C dX3_comes_25 rfl ?_
        refine jVp1 (ci := 3) C dX3_comes_26 gX3_comes_X3_isListed rfl pd_X3_isListed ⟨by decide, by decide⟩ (Nat.lt_of_lt_of_le (by decide) hnp) rfl rfl rfl (Nat.le_of_ble_eq_true rfl) (c_X3_isListed hnp) ?_
        rw [e6]
        refine j_if_ne C 35 dX3_comes_29 (by decide) (fun hc29 => ?_) (fun hc29 => ?_)
        · obtain ⟨i0, hi0, rfl⟩ := inW_ix (by omega) (bI_n0.mp hc29)
          refine j_aload_n C dX3_comes_35 rfl ?_
          refine jg_X3_terms C dX3_comes_36 n_X3_comes_X3 (by decide +kernel) (Nat.lt_of_lt_of_le (by decide) hnp) ?_
          refine j_iload_n C dX3_comes_39 rfl ?_
          refine j_iload_n C dX3_comes_40 rfl ?_
          refine j_iconst (v := (-1)) C dX3_comes_41 rfl ?_
          refine j_icmp_ne C 55 dX3_comes_42 (by decide) (fun hc42 => ?_) (fun hc42 => ?_)
          · refine j_aload_n C dX3_comes_55 rfl ?_
            refine jg_X3_listed C dX3_comes_56 n_X3_comes_X3 (by decide +kernel) (Nat.lt_of_lt_of_le (by decide) hnp) ?_
            refine jg_X0_numbers C dX3_comes_59 n_X3_comes_X0 (by decide +kernel) (Nat.lt_of_lt_of_le (by decide) hnp) ?_
            refine j_iload_n C dX3_comes_62 rfl ?_
            refine j_aald C i0 dX3_comes_63 (Nat.lt_of_lt_of_le (by decide) hnp) rfl (by omega) ?_
            refine j_aload_n C dX3_comes_64 rfl ?_
            refine jg_X3_sums C dX3_comes_65 n_X3_comes_X3 (by decide +kernel) (Nat.lt_of_lt_of_le (by decide) hnp) ?_
            refine jVv3 (ci := 2) C dX3_comes_68 gX3_comes_X2_sumUp rfl pd_X2_sumUp ⟨by decide, by decide⟩ (Nat.lt_of_lt_of_le (by decide) hnp) rfl rfl rfl (Nat.le_of_ble_eq_true rfl) (c_X2_sumUp (num := nu i0) (k := 19 + i0) hnp hX hW (by omega) (isI_row (by omega)) (LN_row (by omega)) (by omega) (hnu i0 (by omega))) (fun x2 g2 hp => ?_)
            obtain ⟨hxe, f, rfl, hf⟩ := hp
            have hxe := hxe.symm
            subst hxe
            refine j_aload_n C dX3_comes_71 rfl ?_
            refine jg_X3_sums C dX3_comes_72 n_X3_comes_X3 (by decide +kernel) (Nat.lt_of_lt_of_le (by decide) hnp) ?_
            refine j_iload_n C dX3_comes_75 rfl ?_
            refine jSp1 C dX3_comes_76 gX3_comes_X3_slotOf rfl pd_X3_slotOf ⟨by decide, by decide⟩ (Nat.le_of_ble_eq_true rfl) c_X3_slotOf ?_
            refine j_iald C r0 dX3_comes_79 (Nat.lt_of_lt_of_le (by decide) hnp) rfl (by rw [hr]; exact slot_eq r0) (show _ < 11 by omega) ?_
            rw [va_us]
            have hfq : inW (nI i0) (-1) (nI (a 6) - 1) = true := by
              have h1 := bI_n0.mp hc29
              simp only [inW, Bool.and_eq_true, decide_eq_true_eq] at h1 ⊢
              exact ⟨Int32.le_trans (by decide) h1.1, h1.2⟩
            have hb : (plOk a plan && rwOk a row && inW (nI i0) (-1) (nI (a 6) - 1)) = true := by rw [hq1, hq2, hfq]; rfl
            exact HR _ _ _ _ _ _ rfl rfl dX3_comes_80 ⟨_, rfl, by unfold comR; rw [hb, if_neg (nI_pos (by omega)), nI_clamp (by omega), hr]; exact hf r0 hr0, hX.sx S4.up.sx, Fx.sx S4.up.sx⟩
          · exact absurd hc42 hc21
        · refine j_ldc (v := (-1000000001)) C dX3_comes_32 (by decide +kernel) ?_
          have hb : inW fu (-1) (nI (a 6) - 1) = false := by
            cases hq : inW fu (-1) (nI (a 6) - 1) with
            | false => rfl
            | true =>
              rcases inW_m1' (by omega) hq with q | ⟨j, hj, q⟩
              · exact absurd q hc21
              · exact absurd (inW_no (by omega) j hj q) (by rw [bI_0.mp hc29]; decide)
          exact HR _ _ _ _ _ _ rfl rfl dX3_comes_34 ⟨_, rfl, by unfold comR; rw [hb, Bool.and_false]; rfl, hX, Fx.rf⟩
    · refine j_ldc (v := (-1000000001)) C dX3_comes_16 (by decide +kernel) ?_
      have hb : (plOk a plan && rwOk a row && inW fu (-1) (nI (a 6) - 1)) = false := by
        first
        | (rw [show plOk a plan = false from bI_0.mp hc5]; rfl)
        | (rw [show rwOk a row = false from bI_0.mp hc13, Bool.and_false]; rfl)
      exact HR _ _ _ _ _ _ rfl rfl dX3_comes_18 ⟨_, rfl, by unfold comR; rw [hb]; rfl, hX, Fx.rf⟩
set_option maxHeartbeats 4000000 in
set_option maxRecDepth 100000 in
theorem c_X3_worst {l : Launch} {D : va_G} {cI cZ cQ : ClassId} {ad : Nat → Nat} {np : Nat} {x : Nat → Nat} {g : Nat → Nat → Int32} (hnp : 27 ≤ np) {a : Nat → Nat} {b nu : Nat → Nat → Int32} (hX : RX x g a b nu) (hW : WF a b nu) {plan row : Int32} : Cn l D cI cZ cQ ad np 3 yX3_worst wsX3_worst [.ref (ad 0), .int plan, .int row] x g (EX (woR a b plan row) x g a b nu) := by
  refine cn_of (own := RX3) (by decide) rfl rfl (by simp [Value.category]) (Nat.le_of_ble_eq_true rfl) ?_
  intro p e s m args below meth c A Q C HR HV
  obtain ⟨hx, hg, hnu⟩ := id hX
  obtain ⟨⟨w0, ⟨w1, w1'⟩, w2, w3, w4, w5, w6⟩, wt, wn, wq⟩ := id hW
  have e0 := hx 0 (by decide)
  have e1 := hx 1 (by decide)
  have e2 := hx 2 (by decide)
  have e3 := hx 3 (by decide)
  have e4 := hx 4 (by decide)
  have e5 := hx 5 (by decide)
  have e6 := hx 6 (by decide)
  have b9 := hg 9 (by decide) (by decide)
  have b10 := hg 10 (by decide) (by decide)
  have b11 := hg 11 (by decide) (by decide)
  have b12 := hg 12 (by decide) (by decide)
  have b13 := hg 13 (by decide) (by decide)
  have b14 := hg 14 (by decide) (by decide)
  have b15 := hg 15 (by decide) (by decide)
  have b16 := hg 16 (by decide) (by decide)
  have b17 := hg 17 (by decide) (by decide)
  refine j_aload_n C dX3_worst_0 rfl ?_
  refine j_iload_n C dX3_worst_1 rfl ?_
  refine jVp1 (ci := 3) C dX3_worst_2 gX3_worst_X3_isPlan rfl pd_X3_isPlan ⟨by decide, by decide⟩ (Nat.lt_of_lt_of_le (by decide) hnp) rfl rfl rfl (Nat.le_of_ble_eq_true rfl) (c_X3_isPlan hnp) ?_
  rw [e1, e2]
  refine j_if_eq C 16 dX3_worst_5 (by decide) (fun hc5 => ?_) (fun hc5 => ?_)
  · refine j_ldc (v := (-1000000001)) C dX3_worst_16 (by decide +kernel) ?_
    have hb : (plOk a plan && rwOk a row) = false := by
      first
      | (rw [show plOk a plan = false from bI_0.mp hc5]; rfl)
      | (rw [show rwOk a row = false from bI_0.mp hc13, Bool.and_false])
    exact HR _ _ _ _ _ _ rfl rfl dX3_worst_18 ⟨_, rfl, by unfold woR; rw [hb]; rfl, hX, Fx.rf⟩
  · refine j_aload_n C dX3_worst_8 rfl ?_
    refine j_iload_n C dX3_worst_9 rfl ?_
    refine jVp1 (ci := 3) C dX3_worst_10 gX3_worst_X3_isRowOrCost rfl pd_X3_isRowOrCost ⟨by decide, by decide⟩ (Nat.lt_of_lt_of_le (by decide) hnp) rfl rfl rfl (Nat.le_of_ble_eq_true rfl) (c_X3_isRowOrCost hnp) ?_
    rw [e0]
    refine j_if_ne C 19 dX3_worst_13 (by decide) (fun hc13 => ?_) (fun hc13 => ?_)
    · refine j_aload_n C dX3_worst_19 rfl ?_
      refine j_iload_n C dX3_worst_20 rfl ?_
      refine j_iload_n C dX3_worst_21 rfl ?_
      refine jVi2 (ci := 3) C dX3_worst_22 gX3_worst_X3_findWorst rfl pd_X3_findWorst ⟨by decide, by decide⟩ (Nat.lt_of_lt_of_le (by decide) hnp) rfl rfl rfl (Nat.le_of_ble_eq_true rfl) (c_X3_findWorst hnp hX hW) (fun rr x2 g2 hp => ?_)
      obtain ⟨rfl, rfl, hS, h8⟩ := hp
      exact HR _ _ _ _ _ _ rfl rfl dX3_worst_25 ⟨_, rfl, by unfold woR; rw [show plOk a plan = true from bI_n0.mp hc5, show rwOk a row = true from bI_n0.mp hc13]; rfl, hX.sx hS, Fx.sx hS⟩
    · refine j_ldc (v := (-1000000001)) C dX3_worst_16 (by decide +kernel) ?_
      have hb : (plOk a plan && rwOk a row) = false := by
        first
        | (rw [show plOk a plan = false from bI_0.mp hc5]; rfl)
        | (rw [show rwOk a row = false from bI_0.mp hc13, Bool.and_false])
      exact HR _ _ _ _ _ _ rfl rfl dX3_worst_18 ⟨_, rfl, by unfold woR; rw [hb]; rfl, hX, Fx.rf⟩
theorem n_X3_worstName_X3 : ∀ w ∈ wsX30, w ∈ wsX3_worstName := by decide +kernel
set_option maxHeartbeats 4000000 in
set_option maxRecDepth 100000 in
theorem c_X3_worstName {l : Launch} {D : va_G} {cI cZ cQ : ClassId} {ad : Nat → Nat} {np : Nat} {x : Nat → Nat} {g : Nat → Nat → Int32} (hnp : 27 ≤ np) {a : Nat → Nat} {b nu : Nat → Nat → Int32} (hX : RX x g a b nu) (hW : WF a b nu) {plan row nm : Int32} : Cn l D cI cZ cQ ad np 3 yX3_worstName wsX3_worstName [.ref (ad 0), .int plan, .int row, .int nm] x g (EX (wnR a b plan row nm) x g a b nu) := by
  refine cn_of (own := RX3) (by decide) rfl rfl (by simp [Value.category]) (Nat.le_of_ble_eq_true rfl) ?_
  intro p e s m args below meth c A Q C HR HV
  obtain ⟨hx, hg, hnu⟩ := id hX
  obtain ⟨⟨w0, ⟨w1, w1'⟩, w2, w3, w4, w5, w6⟩, wt, wn, wq⟩ := id hW
  have e0 := hx 0 (by decide)
  have e1 := hx 1 (by decide)
  have e2 := hx 2 (by decide)
  have e3 := hx 3 (by decide)
  have e4 := hx 4 (by decide)
  have e5 := hx 5 (by decide)
  have e6 := hx 6 (by decide)
  have b9 := hg 9 (by decide) (by decide)
  have b10 := hg 10 (by decide) (by decide)
  have b11 := hg 11 (by decide) (by decide)
  have b12 := hg 12 (by decide) (by decide)
  have b13 := hg 13 (by decide) (by decide)
  have b14 := hg 14 (by decide) (by decide)
  have b15 := hg 15 (by decide) (by decide)
  have b16 := hg 16 (by decide) (by decide)
  have b17 := hg 17 (by decide) (by decide)
  refine j_aload_n C dX3_worstName_0 rfl ?_
  refine j_iload_n C dX3_worstName_1 rfl ?_
  refine jVp1 (ci := 3) C dX3_worstName_2 gX3_worstName_X3_isPlan rfl pd_X3_isPlan ⟨by decide, by decide⟩ (Nat.lt_of_lt_of_le (by decide) hnp) rfl rfl rfl (Nat.le_of_ble_eq_true rfl) (c_X3_isPlan hnp) ?_
  rw [e1, e2]
  refine j_if_eq C 24 dX3_worstName_5 (by decide) (fun hc5 => ?_) (fun hc5 => ?_)
  · refine j_ldc (v := (-1000000001)) C dX3_worstName_24 (by decide +kernel) ?_
    have hb : (plOk a plan && rwOk a row && neOk a nm) = false := by
      first
      | (rw [show plOk a plan = false from bI_0.mp hc5]; rfl)
      | (rw [show rwOk a row = false from bI_0.mp hc13, Bool.and_false]; rfl)
      | (rw [show neOk a nm = false from bI_0.mp hc21, Bool.and_false])
    exact HR _ _ _ _ _ _ rfl rfl dX3_worstName_26 ⟨_, rfl, by unfold wnR; rw [hb]; rfl, hX, Fx.rf⟩
  · refine j_aload_n C dX3_worstName_8 rfl ?_
    refine j_iload_n C dX3_worstName_9 rfl ?_
    refine jVp1 (ci := 3) C dX3_worstName_10 gX3_worstName_X3_isRowOrCost rfl pd_X3_isRowOrCost ⟨by decide, by decide⟩ (Nat.lt_of_lt_of_le (by decide) hnp) rfl rfl rfl (Nat.le_of_ble_eq_true rfl) (c_X3_isRowOrCost hnp) ?_
    rw [e0]
    refine j_if_eq C 24 dX3_worstName_13 (by decide) (fun hc13 => ?_) (fun hc13 => ?_)
    · refine j_ldc (v := (-1000000001)) C dX3_worstName_24 (by decide +kernel) ?_
      have hb : (plOk a plan && rwOk a row && neOk a nm) = false := by
        first
        | (rw [show plOk a plan = false from bI_0.mp hc5]; rfl)
        | (rw [show rwOk a row = false from bI_0.mp hc13, Bool.and_false]; rfl)
        | (rw [show neOk a nm = false from bI_0.mp hc21, Bool.and_false])
      exact HR _ _ _ _ _ _ rfl rfl dX3_worstName_26 ⟨_, rfl, by unfold wnR; rw [hb]; rfl, hX, Fx.rf⟩
    · refine j_aload_n C dX3_worstName_16 rfl ?_
      refine j_iload_n C dX3_worstName_17 rfl ?_
      refine jVp1 (ci := 3) C dX3_worstName_18 gX3_worstName_X3_isName rfl pd_X3_isName ⟨by decide, by decide⟩ (Nat.lt_of_lt_of_le (by decide) hnp) rfl rfl rfl (Nat.le_of_ble_eq_true rfl) (c_X3_isName hnp) ?_
      rw [e4]
      refine j_if_ne C 27 dX3_worstName_21 (by decide) (fun hc21 => ?_) (fun hc21 => ?_)
      · have hq := bI_n0.mp hc21
        obtain ⟨n0, hn0, rfl⟩ := inW_ix (by omega) hq
        refine j_aload_n C dX3_worstName_27 rfl ?_
        refine j_iload_n C dX3_worstName_28 rfl ?_
        refine j_iload_n C dX3_worstName_29 rfl ?_
        refine jVi2 (ci := 3) C dX3_worstName_30 gX3_worstName_X3_findWorst rfl pd_X3_findWorst ⟨by decide, by decide⟩ (Nat.lt_of_lt_of_le (by decide) hnp) rfl rfl rfl (Nat.le_of_ble_eq_true rfl) (c_X3_findWorst hnp hX hW) (fun rr x2 g2 hp => ?_)
        obtain ⟨rfl, rfl, hS, h8⟩ := hp
        refine j_pop C dX3_worstName_33 rfl ?_
        refine j_aload_n C dX3_worstName_34 rfl ?_
        refine jg_X3_worstNumbers C dX3_worstName_35 n_X3_worstName_X3 (by decide +kernel) (Nat.lt_of_lt_of_le (by decide) hnp) ?_
        refine j_iload_n C dX3_worstName_38 rfl ?_
        refine j_iald C n0 dX3_worstName_39 (Nat.lt_of_lt_of_le (by decide) hnp) rfl rfl (show _ < 12 by omega) ?_
        rw [h8 n0 hn0]
        exact HR _ _ _ _ _ _ rfl rfl dX3_worstName_40 ⟨_, rfl, by unfold wnR; rw [show plOk a plan = true from bI_n0.mp hc5, show rwOk a row = true from bI_n0.mp hc13, show neOk a (nI n0) = true from hq, nI_clamp (by omega)]; rfl, hX.sx hS, Fx.sx hS⟩
      · refine j_ldc (v := (-1000000001)) C dX3_worstName_24 (by decide +kernel) ?_
        have hb : (plOk a plan && rwOk a row && neOk a nm) = false := by
          first
          | (rw [show plOk a plan = false from bI_0.mp hc5]; rfl)
          | (rw [show rwOk a row = false from bI_0.mp hc13, Bool.and_false]; rfl)
          | (rw [show neOk a nm = false from bI_0.mp hc21, Bool.and_false])
        exact HR _ _ _ _ _ _ rfl rfl dX3_worstName_26 ⟨_, rfl, by unfold wnR; rw [hb]; rfl, hX, Fx.rf⟩
set_option maxHeartbeats 4000000 in
set_option maxRecDepth 100000 in
theorem c_X3_breaks {l : Launch} {D : va_G} {cI cZ cQ : ClassId} {ad : Nat → Nat} {np : Nat} {x : Nat → Nat} {g : Nat → Nat → Int32} (hnp : 27 ≤ np) {a : Nat → Nat} {b nu : Nat → Nat → Int32} (hX : RX x g a b nu) (hW : WF a b nu) {plan : Int32} : Cn l D cI cZ cQ ad np 4 yX3_breaks wsX3_breaks [.ref (ad 0), .int plan] x g (EX (brR a b plan) x g a b nu) := by
  refine cn_of (own := RX3) (by decide) rfl rfl (by simp [Value.category]) (Nat.le_of_ble_eq_true rfl) ?_
  intro p e s m args below meth c A Q C HR HV
  obtain ⟨hx, hg, hnu⟩ := id hX
  obtain ⟨⟨w0, ⟨w1, w1'⟩, w2, w3, w4, w5, w6⟩, wt, wn, wq⟩ := id hW
  have e0 := hx 0 (by decide)
  have e1 := hx 1 (by decide)
  have e2 := hx 2 (by decide)
  have e3 := hx 3 (by decide)
  have e4 := hx 4 (by decide)
  have e5 := hx 5 (by decide)
  have e6 := hx 6 (by decide)
  have b9 := hg 9 (by decide) (by decide)
  have b10 := hg 10 (by decide) (by decide)
  have b11 := hg 11 (by decide) (by decide)
  have b12 := hg 12 (by decide) (by decide)
  have b13 := hg 13 (by decide) (by decide)
  have b14 := hg 14 (by decide) (by decide)
  have b15 := hg 15 (by decide) (by decide)
  have b16 := hg 16 (by decide) (by decide)
  have b17 := hg 17 (by decide) (by decide)
  refine j_aload_n C dX3_breaks_0 rfl ?_
  refine j_iload_n C dX3_breaks_1 rfl ?_
  refine jVp1 (ci := 3) C dX3_breaks_2 gX3_breaks_X3_isPlan rfl pd_X3_isPlan ⟨by decide, by decide⟩ (Nat.lt_of_lt_of_le (by decide) hnp) rfl rfl rfl (Nat.le_of_ble_eq_true rfl) (c_X3_isPlan hnp) ?_
  rw [e1, e2]
  refine j_if_ne C 11 dX3_breaks_5 (by decide) (fun hc5 => ?_) (fun hc5 => ?_)
  · refine j_aload_n C dX3_breaks_11 rfl ?_
    refine j_iload_n C dX3_breaks_12 rfl ?_
    refine jVi1 (ci := 3) C dX3_breaks_13 gX3_breaks_X3_firstBroken rfl pd_X3_firstBroken ⟨by decide, by decide⟩ (Nat.lt_of_lt_of_le (by decide) hnp) rfl rfl rfl (Nat.le_of_ble_eq_true rfl) (c_X3_firstBroken hnp hX hW) (fun rr x2 g2 hp => ?_)
    obtain ⟨rfl, rfl, hS⟩ := hp
    exact HR _ _ _ _ _ _ rfl rfl dX3_breaks_16 ⟨_, rfl, by unfold brR; rw [show plOk a plan = true from bI_n0.mp hc5]; rfl, hX.sx hS, Fx.sx hS⟩
  · refine j_ldc (v := (-1000000001)) C dX3_breaks_8 (by decide +kernel) ?_
    exact HR _ _ _ _ _ _ rfl rfl dX3_breaks_10 ⟨_, rfl, by unfold brR; rw [show plOk a plan = false from bI_0.mp hc5]; rfl, hX, Fx.rf⟩
set_option maxHeartbeats 4000000 in
set_option maxRecDepth 100000 in
theorem c_X3_safest {l : Launch} {D : va_G} {cI cZ cQ : ClassId} {ad : Nat → Nat} {np : Nat} {x : Nat → Nat} {g : Nat → Nat → Int32} (hnp : 27 ≤ np) {a : Nat → Nat} {b nu : Nat → Nat → Int32} (hX : RX x g a b nu) (hW : WF a b nu) : Cn l D cI cZ cQ ad np 4 yX3_safest wsX3_safest [.ref (ad 0)] x g (EX (sfF a b) x g a b nu) := by
  refine cn_of (own := RX3) (by decide) rfl rfl (by simp [Value.category]) (Nat.le_of_ble_eq_true rfl) ?_
  intro p e s m args below meth c A Q C HR HV
  obtain ⟨hx, hg, hnu⟩ := id hX
  obtain ⟨⟨w0, ⟨w1, w1'⟩, w2, w3, w4, w5, w6⟩, wt, wn, wq⟩ := id hW
  have e0 := hx 0 (by decide)
  have e1 := hx 1 (by decide)
  have e2 := hx 2 (by decide)
  have e3 := hx 3 (by decide)
  have e4 := hx 4 (by decide)
  have e5 := hx 5 (by decide)
  have e6 := hx 6 (by decide)
  have b9 := hg 9 (by decide) (by decide)
  have b10 := hg 10 (by decide) (by decide)
  have b11 := hg 11 (by decide) (by decide)
  have b12 := hg 12 (by decide) (by decide)
  have b13 := hg 13 (by decide) (by decide)
  have b14 := hg 14 (by decide) (by decide)
  have b15 := hg 15 (by decide) (by decide)
  have b16 := hg 16 (by decide) (by decide)
  have b17 := hg 17 (by decide) (by decide)
  obtain ⟨N, hN⟩ : ∃ N, N = 2 ^ (a 1 + a 2) := ⟨_, rfl⟩
  have hN2 : N ≤ 1024 := by rw [hN]; exact p2_le (by omega)
  have hL : ∀ (n : Nat) (i : Nat) (v v2 : Int32) (g2 : Nat → Nat → Int32), i ≤ N → N - i < n → Sx g g2 → selS (fun p => decide (fbF a b (nI p) (a 0) = -1000000003)) (fun p => (wsF a b (nI p) (-1)).2.2) nI i = (v, v2) → J p l e (Rm 4) s m args below meth c 0 0 D cI cZ cQ ad np A 5 Q x g2 7 [some (.ref (ad 0)), some (.int v), some (.int v2), some (.int (nI i)), none] [] := by
    intro n
    induction n with
    | zero => intros; omega
    | succ n ih =>
      intro i v v2 g2 h1 h2 hS hv
      refine j_iload_n C dX3_safest_7 rfl ?_
      refine j_aload_n C dX3_safest_8 rfl ?_
      refine jVp0 (ci := 3) C dX3_safest_9 gX3_safest_X3_planCount rfl pd_X3_planCount ⟨by decide, by decide⟩ (Nat.lt_of_lt_of_le (by decide) hnp) rfl rfl rfl (Nat.le_of_ble_eq_true rfl) (c_X3_planCount hnp) ?_
      unfold pcF
      rw [e1, e2, pcF_eq (by omega), ← hN]
      refine j_icmp_ge C 56 dX3_safest_12 (by decide) (fun hc => ?_) (fun hc => ?_)
      · have he : i = N := by have := (nI_leI (by omega) (by omega)).mp hc; omega
        subst he
        refine j_iload_n C dX3_safest_56 rfl ?_
        exact HR _ _ _ _ _ _ rfl rfl dX3_safest_57 ⟨_, rfl, by unfold sfF; rw [← hN, hv], hX.sx hS, Fx.sx hS⟩
      · have hlt : i < N := by have := mt (nI_leI (by omega) (by omega)).mpr hc; omega
        refine j_aload_n C dX3_safest_15 rfl ?_
        refine j_iload_n C dX3_safest_16 rfl ?_
        refine j_iconst (v := (-1)) C dX3_safest_17 rfl ?_
        refine jVi2 (ci := 3) C dX3_safest_18 gX3_safest_X3_findWorst rfl pd_X3_findWorst ⟨by decide, by decide⟩ (Nat.lt_of_lt_of_le (by decide) hnp) rfl rfl rfl (Nat.le_of_ble_eq_true rfl) (c_X3_findWorst hnp (hX.sx hS) hW) (fun rr x2 g2 hp => ?_)
        obtain ⟨rfl, rfl, hS2, -⟩ := hp
        have hS := hS.tr hS2
        refine j_istore C dX3_safest_21 (by decide) ?_
        refine j_iload_n C dX3_safest_23 rfl ?_
        refine j_ldc (v := (-1000000003)) C dX3_safest_24 (by decide +kernel) ?_
        refine j_icmp_eq C 35 dX3_safest_26 (by decide) (fun hc26 => ?_) (fun hc26 => ?_)
        · refine j_aload_n C dX3_safest_35 rfl ?_
          refine j_iload_n C dX3_safest_36 rfl ?_
          refine jVi1 (ci := 3) C dX3_safest_37 gX3_safest_X3_firstBroken rfl pd_X3_firstBroken ⟨by decide, by decide⟩ (Nat.lt_of_lt_of_le (by decide) hnp) rfl rfl rfl (Nat.le_of_ble_eq_true rfl) (c_X3_firstBroken hnp (hX.sx hS) hW) (fun rr x2 g2 hp => ?_)
          obtain ⟨rfl, rfl, hS2⟩ := hp
          have hS := hS.tr hS2
          refine j_ldc (v := (-1000000003)) C dX3_safest_40 (by decide +kernel) ?_
          refine j_icmp_ne C 50 dX3_safest_42 (by decide) (fun hc42 => ?_) (fun hc42 => ?_)
          · refine j_iincN (n := 1) C dX3_safest_50 rfl (by decide) ?_
            refine j_goto C 7 dX3_safest_53 (by decide) ?_
            refine j_drop 4 ?_
            first
            | exact ih (i + 1) _ _ _ (by omega) (by omega) hS (sel_n hv (decide_eq_false hc42))
            | exact ih (i + 1) _ _ _ (by omega) (by omega) hS (sel_t hv (decide_eq_true hc42) (Or.inl hc26))
            | exact ih (i + 1) _ _ _ (by omega) (by omega) hS (sel_t hv (decide_eq_true hc42) (Or.inr (Int32.not_le.mp hc32)))
            | exact ih (i + 1) _ _ _ (by omega) (by omega) hS (sel_f hv hc26 (Int32.not_lt.mpr hc32))
          · refine j_iload_n C dX3_safest_45 rfl ?_
            refine j_istore_n C dX3_safest_46 (by decide) ?_
            refine j_iload C dX3_safest_47 rfl ?_
            refine j_istore_n C dX3_safest_49 (by decide) ?_
            refine j_iincN (n := 1) C dX3_safest_50 rfl (by decide) ?_
            refine j_goto C 7 dX3_safest_53 (by decide) ?_
            refine j_drop 4 ?_
            first
            | exact ih (i + 1) _ _ _ (by omega) (by omega) hS (sel_n hv (decide_eq_false hc42))
            | exact ih (i + 1) _ _ _ (by omega) (by omega) hS (sel_t hv (decide_eq_true hc42) (Or.inl hc26))
            | exact ih (i + 1) _ _ _ (by omega) (by omega) hS (sel_t hv (decide_eq_true hc42) (Or.inr (Int32.not_le.mp hc32)))
            | exact ih (i + 1) _ _ _ (by omega) (by omega) hS (sel_f hv hc26 (Int32.not_lt.mpr hc32))
        · refine j_iload C dX3_safest_29 rfl ?_
          refine j_iload_n C dX3_safest_31 rfl ?_
          refine j_icmp_ge C 50 dX3_safest_32 (by decide) (fun hc32 => ?_) (fun hc32 => ?_)
          · refine j_iincN (n := 1) C dX3_safest_50 rfl (by decide) ?_
            refine j_goto C 7 dX3_safest_53 (by decide) ?_
            refine j_drop 4 ?_
            first
            | exact ih (i + 1) _ _ _ (by omega) (by omega) hS (sel_n hv (decide_eq_false hc42))
            | exact ih (i + 1) _ _ _ (by omega) (by omega) hS (sel_t hv (decide_eq_true hc42) (Or.inl hc26))
            | exact ih (i + 1) _ _ _ (by omega) (by omega) hS (sel_t hv (decide_eq_true hc42) (Or.inr (Int32.not_le.mp hc32)))
            | exact ih (i + 1) _ _ _ (by omega) (by omega) hS (sel_f hv hc26 (Int32.not_lt.mpr hc32))
          · refine j_aload_n C dX3_safest_35 rfl ?_
            refine j_iload_n C dX3_safest_36 rfl ?_
            refine jVi1 (ci := 3) C dX3_safest_37 gX3_safest_X3_firstBroken rfl pd_X3_firstBroken ⟨by decide, by decide⟩ (Nat.lt_of_lt_of_le (by decide) hnp) rfl rfl rfl (Nat.le_of_ble_eq_true rfl) (c_X3_firstBroken hnp (hX.sx hS) hW) (fun rr x2 g2 hp => ?_)
            obtain ⟨rfl, rfl, hS2⟩ := hp
            have hS := hS.tr hS2
            refine j_ldc (v := (-1000000003)) C dX3_safest_40 (by decide +kernel) ?_
            refine j_icmp_ne C 50 dX3_safest_42 (by decide) (fun hc42 => ?_) (fun hc42 => ?_)
            · refine j_iincN (n := 1) C dX3_safest_50 rfl (by decide) ?_
              refine j_goto C 7 dX3_safest_53 (by decide) ?_
              refine j_drop 4 ?_
              first
              | exact ih (i + 1) _ _ _ (by omega) (by omega) hS (sel_n hv (decide_eq_false hc42))
              | exact ih (i + 1) _ _ _ (by omega) (by omega) hS (sel_t hv (decide_eq_true hc42) (Or.inl hc26))
              | exact ih (i + 1) _ _ _ (by omega) (by omega) hS (sel_t hv (decide_eq_true hc42) (Or.inr (Int32.not_le.mp hc32)))
              | exact ih (i + 1) _ _ _ (by omega) (by omega) hS (sel_f hv hc26 (Int32.not_lt.mpr hc32))
            · refine j_iload_n C dX3_safest_45 rfl ?_
              refine j_istore_n C dX3_safest_46 (by decide) ?_
              refine j_iload C dX3_safest_47 rfl ?_
              refine j_istore_n C dX3_safest_49 (by decide) ?_
              refine j_iincN (n := 1) C dX3_safest_50 rfl (by decide) ?_
              refine j_goto C 7 dX3_safest_53 (by decide) ?_
              refine j_drop 4 ?_
              first
              | exact ih (i + 1) _ _ _ (by omega) (by omega) hS (sel_n hv (decide_eq_false hc42))
              | exact ih (i + 1) _ _ _ (by omega) (by omega) hS (sel_t hv (decide_eq_true hc42) (Or.inl hc26))
              | exact ih (i + 1) _ _ _ (by omega) (by omega) hS (sel_t hv (decide_eq_true hc42) (Or.inr (Int32.not_le.mp hc32)))
              | exact ih (i + 1) _ _ _ (by omega) (by omega) hS (sel_f hv hc26 (Int32.not_lt.mpr hc32))
  refine j_ldc (v := (-1000000003)) C dX3_safest_0 (by decide +kernel) ?_
  refine j_istore_n C dX3_safest_2 (by decide) ?_
  refine j_iconst (v := 0) C dX3_safest_3 rfl ?_
  refine j_istore_n C dX3_safest_4 (by decide) ?_
  refine j_iconst (v := 0) C dX3_safest_5 rfl ?_
  refine j_istore_n C dX3_safest_6 (by decide) ?_
  exact hL (N + 1) 0 _ _ _ (by omega) (by omega) Sx.rf rfl
set_option maxHeartbeats 4000000 in
set_option maxRecDepth 100000 in
theorem c_X3_answer {l : Launch} {D : va_G} {cI cZ cQ : ClassId} {ad : Nat → Nat} {np : Nat} {x : Nat → Nat} {g : Nat → Nat → Int32} (hnp : 27 ≤ np) {a : Nat → Nat} {b nu : Nat → Nat → Int32} (hX : RX x g a b nu) (hW : WF a b nu) {first fu : Int32} : Cn l D cI cZ cQ ad np 4 yX3_answer wsX3_answer [.ref (ad 0), .int first, .int fu] x g (EX (anR a b nu first fu) x g a b nu) := by
  refine cn_of (own := RX3) (by decide) rfl rfl (by simp [Value.category]) (Nat.le_of_ble_eq_true rfl) ?_
  intro p e s m args below meth c A Q C HR HV
  obtain ⟨hx, hg, hnu⟩ := id hX
  obtain ⟨⟨w0, ⟨w1, w1'⟩, w2, w3, w4, w5, w6⟩, wt, wn, wq⟩ := id hW
  have e0 := hx 0 (by decide)
  have e1 := hx 1 (by decide)
  have e2 := hx 2 (by decide)
  have e3 := hx 3 (by decide)
  have e4 := hx 4 (by decide)
  have e5 := hx 5 (by decide)
  have e6 := hx 6 (by decide)
  have b9 := hg 9 (by decide) (by decide)
  have b10 := hg 10 (by decide) (by decide)
  have b11 := hg 11 (by decide) (by decide)
  have b12 := hg 12 (by decide) (by decide)
  have b13 := hg 13 (by decide) (by decide)
  have b14 := hg 14 (by decide) (by decide)
  have b15 := hg 15 (by decide) (by decide)
  have b16 := hg 16 (by decide) (by decide)
  have b17 := hg 17 (by decide) (by decide)
  refine j_aload_n C dX3_answer_0 rfl ?_
  refine j_iload_n C dX3_answer_1 rfl ?_
  refine jVp1 (ci := 3) C dX3_answer_2 gX3_answer_X3_isFirstPart rfl pd_X3_isFirstPart ⟨by decide, by decide⟩ (Nat.lt_of_lt_of_le (by decide) hnp) rfl rfl rfl (Nat.le_of_ble_eq_true rfl) (c_X3_isFirstPart hnp) ?_
  rw [e1]
  refine j_if_eq C 16 dX3_answer_5 (by decide) (fun hc5 => ?_) (fun hc5 => ?_)
  · refine j_ldc (v := (-1000000001)) C dX3_answer_16 (by decide +kernel) ?_
    have hb : (fiOk a first && fuOk a fu) = false := by
      first
      | (rw [show fiOk a first = false from bI_0.mp hc5]; rfl)
      | (rw [show fuOk a fu = false from bI_0.mp hc13, Bool.and_false])
    exact HR _ _ _ _ _ _ rfl rfl dX3_answer_18 ⟨_, rfl, by unfold anR; rw [hb]; rfl, hX, Fx.rf⟩
  · refine j_aload_n C dX3_answer_8 rfl ?_
    refine j_iload_n C dX3_answer_9 rfl ?_
    refine jVp1 (ci := 3) C dX3_answer_10 gX3_answer_X3_isListed rfl pd_X3_isListed ⟨by decide, by decide⟩ (Nat.lt_of_lt_of_le (by decide) hnp) rfl rfl rfl (Nat.le_of_ble_eq_true rfl) (c_X3_isListed hnp) ?_
    rw [e6]
    refine j_if_ne C 19 dX3_answer_13 (by decide) (fun hc13 => ?_) (fun hc13 => ?_)
    · have hq := bI_n0.mp hc13
      obtain ⟨i0, hi0, rfl⟩ := inW_ix (by omega) hq
      refine j_aload_n C dX3_answer_19 rfl ?_
      refine j_iload_n C dX3_answer_20 rfl ?_
      refine j_iload_n C dX3_answer_21 rfl ?_
      refine jVi2 (ci := 3) C dX3_answer_22 gX3_answer_X3_findAnswer rfl pd_X3_findAnswer ⟨by decide, by decide⟩ (Nat.lt_of_lt_of_le (by decide) hnp) rfl rfl rfl (Nat.le_of_ble_eq_true rfl) (c_X3_findAnswer hnp hX hW hi0) (fun rr x2 g2 hp => ?_)
      obtain ⟨rfl, rfl, hS⟩ := hp
      exact HR _ _ _ _ _ _ rfl rfl dX3_answer_25 ⟨_, rfl, by unfold anR; rw [show fiOk a first = true from bI_n0.mp hc5, show fuOk a (nI i0) = true from hq, nI_clamp (by omega)]; rfl, hX.sx hS.sx, Fx.sx hS.sx⟩
    · refine j_ldc (v := (-1000000001)) C dX3_answer_16 (by decide +kernel) ?_
      have hb : (fiOk a first && fuOk a fu) = false := by
        first
        | (rw [show fiOk a first = false from bI_0.mp hc5]; rfl)
        | (rw [show fuOk a fu = false from bI_0.mp hc13, Bool.and_false])
      exact HR _ _ _ _ _ _ rfl rfl dX3_answer_18 ⟨_, rfl, by unfold anR; rw [hb]; rfl, hX, Fx.rf⟩
set_option maxHeartbeats 4000000 in
set_option maxRecDepth 100000 in
theorem c_X3_twoStep {l : Launch} {D : va_G} {cI cZ cQ : ClassId} {ad : Nat → Nat} {np : Nat} {x : Nat → Nat} {g : Nat → Nat → Int32} (hnp : 27 ≤ np) {a : Nat → Nat} {b nu : Nat → Nat → Int32} (hX : RX x g a b nu) (hW : WF a b nu) : Cn l D cI cZ cQ ad np 6 yX3_twoStep wsX3_twoStep [.ref (ad 0)] x g (EX (twF a b nu) x g a b nu) := by
  refine cn_of (own := RX3) (by decide) rfl rfl (by simp [Value.category]) (Nat.le_of_ble_eq_true rfl) ?_
  intro p e s m args below meth c A Q C HR HV
  refine j_aload_n C dX3_twoStep_0 rfl ?_
  refine jVi0 (ci := 3) C dX3_twoStep_1 gX3_twoStep_X3_findTwoStep rfl pd_X3_findTwoStep ⟨by decide, by decide⟩ (Nat.lt_of_lt_of_le (by decide) hnp) rfl rfl rfl (Nat.le_of_ble_eq_true rfl) (c_X3_findTwoStep hnp hX hW) (fun rr x2 g2 hp => ?_)
  obtain ⟨rfl, rfl, hS⟩ := hp
  exact HR _ _ _ _ _ _ rfl rfl dX3_twoStep_4 ⟨_, rfl, rfl, hX.sx hS.sx, Fx.sx hS.sx⟩
theorem n_X3_mean_X3 : ∀ w ∈ wsX30, w ∈ wsX3_mean := by decide +kernel
set_option maxHeartbeats 4000000 in
set_option maxRecDepth 100000 in
theorem c_X3_mean {l : Launch} {D : va_G} {cI cZ cQ : ClassId} {ad : Nat → Nat} {np : Nat} {x : Nat → Nat} {g : Nat → Nat → Int32} (hnp : 27 ≤ np) {a : Nat → Nat} {b nu : Nat → Nat → Int32} (hX : RX x g a b nu) (hW : WF a b nu) {first part : Int32} : Cn l D cI cZ cQ ad np 5 yX3_mean wsX3_mean [.ref (ad 0), .int first, .int part] x g (EX (meR a b nu first part) x g a b nu) := by
  refine cn_of (own := RX3) (by decide) rfl rfl (by simp [Value.category]) (Nat.le_of_ble_eq_true rfl) ?_
  intro p e s m args below meth c A Q C HR HV
  obtain ⟨hx, hg, hnu⟩ := id hX
  obtain ⟨⟨w0, ⟨w1, w1'⟩, w2, w3, w4, w5, w6⟩, wt, wn, wq⟩ := id hW
  have e0 := hx 0 (by decide)
  have e1 := hx 1 (by decide)
  have e2 := hx 2 (by decide)
  have e3 := hx 3 (by decide)
  have e4 := hx 4 (by decide)
  have e5 := hx 5 (by decide)
  have e6 := hx 6 (by decide)
  have b9 := hg 9 (by decide) (by decide)
  have b10 := hg 10 (by decide) (by decide)
  have b11 := hg 11 (by decide) (by decide)
  have b12 := hg 12 (by decide) (by decide)
  have b13 := hg 13 (by decide) (by decide)
  have b14 := hg 14 (by decide) (by decide)
  have b15 := hg 15 (by decide) (by decide)
  have b16 := hg 16 (by decide) (by decide)
  have b17 := hg 17 (by decide) (by decide)
  refine j_aload_n C dX3_mean_0 rfl ?_
  refine j_iload_n C dX3_mean_1 rfl ?_
  refine jVp1 (ci := 3) C dX3_mean_2 gX3_mean_X3_isFirstPart rfl pd_X3_isFirstPart ⟨by decide, by decide⟩ (Nat.lt_of_lt_of_le (by decide) hnp) rfl rfl rfl (Nat.le_of_ble_eq_true rfl) (c_X3_isFirstPart hnp) ?_
  rw [e1]
  refine j_if_eq C 15 dX3_mean_5 (by decide) (fun hc5 => ?_) (fun hc5 => ?_)
  · refine j_ldc (v := (-1000000001)) C dX3_mean_15 (by decide +kernel) ?_
    have hb : (fiOk a first && inW part 0 1) = false := by
      first
      | (rw [show fiOk a first = false from bI_0.mp hc5]; rfl)
      | (rw [show inW part 0 1 = false from bI_0.mp hc12, Bool.and_false])
    exact HR _ _ _ _ _ _ rfl rfl dX3_mean_17 ⟨_, rfl, by unfold meR; rw [hb]; rfl, hX, Fx.rf⟩
  · refine j_iload_n C dX3_mean_8 rfl ?_
    refine jSp1 C dX3_mean_9 gX3_mean_X3_isPart rfl pd_X3_isPart ⟨by decide, by decide⟩ (Nat.le_of_ble_eq_true rfl) c_X3_isPart ?_
    refine j_if_ne C 18 dX3_mean_12 (by decide) (fun hc12 => ?_) (fun hc12 => ?_)
    · refine j_aload_n C dX3_mean_18 rfl ?_
      refine j_iload_n C dX3_mean_19 rfl ?_
      refine jVi1 (ci := 3) C dX3_mean_20 gX3_mean_X3_costByOdds rfl pd_X3_costByOdds ⟨by decide, by decide⟩ (Nat.lt_of_lt_of_le (by decide) hnp) rfl rfl rfl (Nat.le_of_ble_eq_true rfl) (c_X3_costByOdds hnp hX hW) (fun rr x2 g2 hp => ?_)
      obtain ⟨rfl, rfl, hS⟩ := hp
      refine j_istore_n C dX3_mean_23 (by decide) ?_
      refine j_iload_n C dX3_mean_24 rfl ?_
      refine j_ldc (v := (-1000000003)) C dX3_mean_25 (by decide +kernel) ?_
      refine j_icmp_ne C 33 dX3_mean_27 (by decide) (fun hc27 => ?_) (fun hc27 => ?_)
      · refine j_iload_n C dX3_mean_33 rfl ?_
        refine j_aload_n C dX3_mean_34 rfl ?_
        refine jg_X3_listed C dX3_mean_35 n_X3_mean_X3 (by decide +kernel) (Nat.lt_of_lt_of_le (by decide) hnp) ?_
        refine jVp0 (ci := 0) C dX3_mean_38 gX3_mean_X0_countedOdds rfl pd_X0_countedOdds ⟨by decide, by decide⟩ (Nat.lt_of_lt_of_le (by decide) hnp) rfl rfl rfl (Nat.le_of_ble_eq_true rfl) (c_X0_countedOdds (b := b) hnp ((hS 17 (by decide)).trans b17) ((hS 16 (by decide)).trans b16) (by omega)) ?_
        rw [e6, (od_nat hW).1]
        refine j_iload_n C dX3_mean_41 rfl ?_
        refine jSp3 C dX3_mean_42 gX3_mean_X3_partOfFraction rfl pd_X3_partOfFraction ⟨by decide, by decide⟩ (Nat.le_of_ble_eq_true rfl) (c_X3_partOfFraction (by have := (cb_bd hW hc27).2.2.1; omega) ((od_nat hW).2.2 (cb_bd hW hc27).1) (od_nat hW).2.1) ?_
        exact HR _ _ _ _ _ _ rfl rfl dX3_mean_45 ⟨_, rfl, by unfold meR; rw [show fiOk a first = true from bI_n0.mp hc5, show inW part 0 1 = true from bI_n0.mp hc12]; exact (if_neg hc27).symm, hX.sx hS.sx, Fx.sx hS.sx⟩
      · refine j_ldc (v := (-1000000003)) C dX3_mean_30 (by decide +kernel) ?_
        exact HR _ _ _ _ _ _ rfl rfl dX3_mean_32 ⟨_, rfl, by unfold meR; rw [show fiOk a first = true from bI_n0.mp hc5, show inW part 0 1 = true from bI_n0.mp hc12]; exact (if_pos hc27).symm, hX.sx hS.sx, Fx.sx hS.sx⟩
    · refine j_ldc (v := (-1000000001)) C dX3_mean_15 (by decide +kernel) ?_
      have hb : (fiOk a first && inW part 0 1) = false := by
        first
        | (rw [show fiOk a first = false from bI_0.mp hc5]; rfl)
        | (rw [show inW part 0 1 = false from bI_0.mp hc12, Bool.and_false])
      exact HR _ _ _ _ _ _ rfl rfl dX3_mean_17 ⟨_, rfl, by unfold meR; rw [hb]; rfl, hX, Fx.rf⟩
set_option maxHeartbeats 4000000 in
set_option maxRecDepth 100000 in
theorem c_X3_best {l : Launch} {D : va_G} {cI cZ cQ : ClassId} {ad : Nat → Nat} {np : Nat} {x : Nat → Nat} {g : Nat → Nat → Int32} (hnp : 27 ≤ np) {a : Nat → Nat} {b nu : Nat → Nat → Int32} (hX : RX x g a b nu) (hW : WF a b nu) {fu : Int32} : Cn l D cI cZ cQ ad np 4 yX3_best wsX3_best [.ref (ad 0), .int fu] x g (EX (bsR a b nu fu) x g a b nu) := by
  refine cn_of (own := RX3) (by decide) rfl rfl (by simp [Value.category]) (Nat.le_of_ble_eq_true rfl) ?_
  intro p e s m args below meth c A Q C HR HV
  obtain ⟨hx, hg, hnu⟩ := id hX
  obtain ⟨⟨w0, ⟨w1, w1'⟩, w2, w3, w4, w5, w6⟩, wt, wn, wq⟩ := id hW
  have e0 := hx 0 (by decide)
  have e1 := hx 1 (by decide)
  have e2 := hx 2 (by decide)
  have e3 := hx 3 (by decide)
  have e4 := hx 4 (by decide)
  have e5 := hx 5 (by decide)
  have e6 := hx 6 (by decide)
  have b9 := hg 9 (by decide) (by decide)
  have b10 := hg 10 (by decide) (by decide)
  have b11 := hg 11 (by decide) (by decide)
  have b12 := hg 12 (by decide) (by decide)
  have b13 := hg 13 (by decide) (by decide)
  have b14 := hg 14 (by decide) (by decide)
  have b15 := hg 15 (by decide) (by decide)
  have b16 := hg 16 (by decide) (by decide)
  have b17 := hg 17 (by decide) (by decide)
  refine j_aload_n C dX3_best_0 rfl ?_
  refine j_iload_n C dX3_best_1 rfl ?_
  refine jVp1 (ci := 3) C dX3_best_2 gX3_best_X3_isListed rfl pd_X3_isListed ⟨by decide, by decide⟩ (Nat.lt_of_lt_of_le (by decide) hnp) rfl rfl rfl (Nat.le_of_ble_eq_true rfl) (c_X3_isListed hnp) ?_
  rw [e6]
  refine j_if_ne C 11 dX3_best_5 (by decide) (fun hc5 => ?_) (fun hc5 => ?_)
  · have hq := bI_n0.mp hc5
    obtain ⟨i0, hi0, rfl⟩ := inW_ix (by omega) hq
    refine j_aload_n C dX3_best_11 rfl ?_
    refine j_iload_n C dX3_best_12 rfl ?_
    refine jVi1 (ci := 3) C dX3_best_13 gX3_best_X3_leastCost rfl pd_X3_leastCost ⟨by decide, by decide⟩ (Nat.lt_of_lt_of_le (by decide) hnp) rfl rfl rfl (Nat.le_of_ble_eq_true rfl) (c_X3_leastCost hnp hX hW hi0) (fun rr x2 g2 hp => ?_)
    obtain ⟨rfl, rfl, hS⟩ := hp
    exact HR _ _ _ _ _ _ rfl rfl dX3_best_16 ⟨_, rfl, by unfold bsR; rw [show fuOk a (nI i0) = true from hq, nI_clamp (by omega)]; rfl, hX.sx hS.sx, Fx.sx hS.sx⟩
  · refine j_ldc (v := (-1000000001)) C dX3_best_8 (by decide +kernel) ?_
    exact HR _ _ _ _ _ _ rfl rfl dX3_best_10 ⟨_, rfl, by unfold bsR; rw [show fuOk a fu = false from bI_0.mp hc5]; rfl, hX, Fx.rf⟩
set_option maxHeartbeats 4000000 in
set_option maxRecDepth 100000 in
theorem c_X3_regret {l : Launch} {D : va_G} {cI cZ cQ : ClassId} {ad : Nat → Nat} {np : Nat} {x : Nat → Nat} {g : Nat → Nat → Int32} (hnp : 27 ≤ np) {a : Nat → Nat} {b nu : Nat → Nat → Int32} (hX : RX x g a b nu) (hW : WF a b nu) {first : Int32} : Cn l D cI cZ cQ ad np 5 yX3_regret wsX3_regret [.ref (ad 0), .int first] x g (EX (reR a b nu first) x g a b nu) := by
  refine cn_of (own := RX3) (by decide) rfl rfl (by simp [Value.category]) (Nat.le_of_ble_eq_true rfl) ?_
  intro p e s m args below meth c A Q C HR HV
  obtain ⟨hx, hg, hnu⟩ := id hX
  obtain ⟨⟨w0, ⟨w1, w1'⟩, w2, w3, w4, w5, w6⟩, wt, wn, wq⟩ := id hW
  have e0 := hx 0 (by decide)
  have e1 := hx 1 (by decide)
  have e2 := hx 2 (by decide)
  have e3 := hx 3 (by decide)
  have e4 := hx 4 (by decide)
  have e5 := hx 5 (by decide)
  have e6 := hx 6 (by decide)
  have b9 := hg 9 (by decide) (by decide)
  have b10 := hg 10 (by decide) (by decide)
  have b11 := hg 11 (by decide) (by decide)
  have b12 := hg 12 (by decide) (by decide)
  have b13 := hg 13 (by decide) (by decide)
  have b14 := hg 14 (by decide) (by decide)
  have b15 := hg 15 (by decide) (by decide)
  have b16 := hg 16 (by decide) (by decide)
  have b17 := hg 17 (by decide) (by decide)
  refine j_aload_n C dX3_regret_0 rfl ?_
  refine j_iload_n C dX3_regret_1 rfl ?_
  refine jVp1 (ci := 3) C dX3_regret_2 gX3_regret_X3_isFirstPart rfl pd_X3_isFirstPart ⟨by decide, by decide⟩ (Nat.lt_of_lt_of_le (by decide) hnp) rfl rfl rfl (Nat.le_of_ble_eq_true rfl) (c_X3_isFirstPart hnp) ?_
  rw [e1]
  refine j_if_ne C 11 dX3_regret_5 (by decide) (fun hc5 => ?_) (fun hc5 => ?_)
  · refine j_aload_n C dX3_regret_11 rfl ?_
    refine jVv0 (ci := 3) C dX3_regret_12 gX3_regret_X3_fillBests rfl pd_X3_fillBests ⟨by decide, by decide⟩ (Nat.lt_of_lt_of_le (by decide) hnp) rfl rfl rfl (Nat.le_of_ble_eq_true rfl) (c_X3_fillBests hnp hX hW) (fun x2 g2 hp => ?_)
    obtain ⟨hxe, hS, h5⟩ := hp
    have hxe := hxe.symm
    subst hxe
    refine j_aload_n C dX3_regret_15 rfl ?_
    refine j_iload_n C dX3_regret_16 rfl ?_
    refine jVi1 (ci := 3) C dX3_regret_17 gX3_regret_X3_greatestRegret rfl pd_X3_greatestRegret ⟨by decide, by decide⟩ (Nat.lt_of_lt_of_le (by decide) hnp) rfl rfl rfl (Nat.le_of_ble_eq_true rfl) (c_X3_greatestRegret hnp (hX.sx hS) hW h5) (fun rr x2 g2 hp => ?_)
    obtain ⟨rfl, rfl, hS2⟩ := hp
    have hS := hS.tr hS2.sx
    exact HR _ _ _ _ _ _ rfl rfl dX3_regret_20 ⟨_, rfl, by unfold reR; rw [show fiOk a first = true from bI_n0.mp hc5]; rfl, hX.sx hS, Fx.sx hS⟩
  · refine j_ldc (v := (-1000000001)) C dX3_regret_8 (by decide +kernel) ?_
    exact HR _ _ _ _ _ _ rfl rfl dX3_regret_10 ⟨_, rfl, by unfold reR; rw [show fiOk a first = false from bI_0.mp hc5]; rfl, hX, Fx.rf⟩
set_option maxHeartbeats 4000000 in
set_option maxRecDepth 100000 in
theorem c_X3_calmest {l : Launch} {D : va_G} {cI cZ cQ : ClassId} {ad : Nat → Nat} {np : Nat} {x : Nat → Nat} {g : Nat → Nat → Int32} (hnp : 27 ≤ np) {a : Nat → Nat} {b nu : Nat → Nat → Int32} (hX : RX x g a b nu) (hW : WF a b nu) : Cn l D cI cZ cQ ad np 5 yX3_calmest wsX3_calmest [.ref (ad 0)] x g (EX (cmF a b nu) x g a b nu) := by
  refine cn_of (own := RX3) (by decide) rfl rfl (by simp [Value.category]) (Nat.le_of_ble_eq_true rfl) ?_
  intro p e s m args below meth c A Q C HR HV
  obtain ⟨hx, hg, hnu⟩ := id hX
  obtain ⟨⟨w0, ⟨w1, w1'⟩, w2, w3, w4, w5, w6⟩, wt, wn, wq⟩ := id hW
  have e0 := hx 0 (by decide)
  have e1 := hx 1 (by decide)
  have e2 := hx 2 (by decide)
  have e3 := hx 3 (by decide)
  have e4 := hx 4 (by decide)
  have e5 := hx 5 (by decide)
  have e6 := hx 6 (by decide)
  have b9 := hg 9 (by decide) (by decide)
  have b10 := hg 10 (by decide) (by decide)
  have b11 := hg 11 (by decide) (by decide)
  have b12 := hg 12 (by decide) (by decide)
  have b13 := hg 13 (by decide) (by decide)
  have b14 := hg 14 (by decide) (by decide)
  have b15 := hg 15 (by decide) (by decide)
  have b16 := hg 16 (by decide) (by decide)
  have b17 := hg 17 (by decide) (by decide)
  obtain ⟨N, hN⟩ : ∃ N, N = 2 ^ (a 1) := ⟨_, rfl⟩
  have hN2 : N ≤ 1024 := by rw [hN]; exact p2_le (by omega)
  refine j_aload_n C dX3_calmest_0 rfl ?_
  refine jVv0 (ci := 3) C dX3_calmest_1 gX3_calmest_X3_fillBests rfl pd_X3_fillBests ⟨by decide, by decide⟩ (Nat.lt_of_lt_of_le (by decide) hnp) rfl rfl rfl (Nat.le_of_ble_eq_true rfl) (c_X3_fillBests hnp hX hW) (fun x2 g2 hp => ?_)
  obtain ⟨hxe, hS, h5⟩ := hp
  have hxe := hxe.symm
  subst hxe
  have hL : ∀ (n : Nat) (i : Nat) (v v2 : Int32) (g2 : Nat → Nat → Int32), i ≤ N → N - i < n → Sx g g2 → (∀ j, j < a 6 → b 17 j = 0 → g2 5 j = lcF a b nu j) → selS (fun f => !decide (rgF a b nu (nI f) = -1000000003)) (fun f => rgF a b nu (nI f)) nI i = (v, v2) → J p l e (Rm 5) s m args below meth c 0 0 D cI cZ cQ ad np A 5 Q x g2 11 [some (.ref (ad 0)), some (.int v), some (.int v2), some (.int (nI i)), none] [] := by
    intro n
    induction n with
    | zero => intros; omega
    | succ n ih =>
      intro i v v2 g2 h1 h2 hS h5 hv
      refine j_iload_n C dX3_calmest_11 rfl ?_
      refine j_aload_n C dX3_calmest_12 rfl ?_
      refine jVp0 (ci := 3) C dX3_calmest_13 gX3_calmest_X3_firstPartCount rfl pd_X3_firstPartCount ⟨by decide, by decide⟩ (Nat.lt_of_lt_of_le (by decide) hnp) rfl rfl rfl (Nat.le_of_ble_eq_true rfl) (c_X3_firstPartCount hnp) ?_
      unfold fcF
      rw [e1, fcF_eq (by omega), ← hN]
      refine j_icmp_ge C 56 dX3_calmest_16 (by decide) (fun hc => ?_) (fun hc => ?_)
      · have he : i = N := by have := (nI_leI (by omega) (by omega)).mp hc; omega
        subst he
        refine j_iload_n C dX3_calmest_56 rfl ?_
        exact HR _ _ _ _ _ _ rfl rfl dX3_calmest_57 ⟨_, rfl, by unfold cmF; rw [← hN, hv], hX.sx hS, Fx.sx hS⟩
      · have hlt : i < N := by have := mt (nI_leI (by omega) (by omega)).mpr hc; omega
        refine j_aload_n C dX3_calmest_19 rfl ?_
        refine j_iload_n C dX3_calmest_20 rfl ?_
        refine jVi1 (ci := 3) C dX3_calmest_21 gX3_calmest_X3_greatestRegret rfl pd_X3_greatestRegret ⟨by decide, by decide⟩ (Nat.lt_of_lt_of_le (by decide) hnp) rfl rfl rfl (Nat.le_of_ble_eq_true rfl) (c_X3_greatestRegret hnp (hX.sx hS) hW h5) (fun rr x2 g2 hp => ?_)
        obtain ⟨rfl, rfl, hS2⟩ := hp
        have h5 : ∀ j, j < a 6 → b 17 j = 0 → g2 5 j = lcF a b nu j := fun j hj hk => by rw [hS2 5 (by decide)]; exact h5 j hj hk
        have hS := hS.tr hS2.sx
        refine j_istore C dX3_calmest_24 (by decide) ?_
        refine j_iload C dX3_calmest_26 rfl ?_
        refine j_ldc (v := (-1000000003)) C dX3_calmest_28 (by decide +kernel) ?_
        refine j_icmp_eq C 50 dX3_calmest_30 (by decide) (fun hc30 => ?_) (fun hc30 => ?_)
        · refine j_iincN (n := 1) C dX3_calmest_50 rfl (by decide) ?_
          refine j_goto C 11 dX3_calmest_53 (by decide) ?_
          refine j_drop 4 ?_
          first
          | exact ih (i + 1) _ _ _ (by omega) (by omega) hS h5 (sel_n hv (congrArg (fun z => !z) (decide_eq_true hc30)))
          | exact ih (i + 1) _ _ _ (by omega) (by omega) hS h5 (sel_t hv (congrArg (fun z => !z) (decide_eq_false hc30)) (Or.inl hc36))
          | exact ih (i + 1) _ _ _ (by omega) (by omega) hS h5 (sel_t hv (congrArg (fun z => !z) (decide_eq_false hc30)) (Or.inr (Int32.not_le.mp hc42)))
          | exact ih (i + 1) _ _ _ (by omega) (by omega) hS h5 (sel_f hv hc36 (Int32.not_lt.mpr hc42))
        · refine j_iload_n C dX3_calmest_33 rfl ?_
          refine j_ldc (v := (-1000000003)) C dX3_calmest_34 (by decide +kernel) ?_
          refine j_icmp_eq C 45 dX3_calmest_36 (by decide) (fun hc36 => ?_) (fun hc36 => ?_)
          · refine j_iload_n C dX3_calmest_45 rfl ?_
            refine j_istore_n C dX3_calmest_46 (by decide) ?_
            refine j_iload C dX3_calmest_47 rfl ?_
            refine j_istore_n C dX3_calmest_49 (by decide) ?_
            refine j_iincN (n := 1) C dX3_calmest_50 rfl (by decide) ?_
            refine j_goto C 11 dX3_calmest_53 (by decide) ?_
            refine j_drop 4 ?_
            first
            | exact ih (i + 1) _ _ _ (by omega) (by omega) hS h5 (sel_n hv (congrArg (fun z => !z) (decide_eq_true hc30)))
            | exact ih (i + 1) _ _ _ (by omega) (by omega) hS h5 (sel_t hv (congrArg (fun z => !z) (decide_eq_false hc30)) (Or.inl hc36))
            | exact ih (i + 1) _ _ _ (by omega) (by omega) hS h5 (sel_t hv (congrArg (fun z => !z) (decide_eq_false hc30)) (Or.inr (Int32.not_le.mp hc42)))
            | exact ih (i + 1) _ _ _ (by omega) (by omega) hS h5 (sel_f hv hc36 (Int32.not_lt.mpr hc42))
          · refine j_iload C dX3_calmest_39 rfl ?_
            refine j_iload_n C dX3_calmest_41 rfl ?_
            refine j_icmp_ge C 50 dX3_calmest_42 (by decide) (fun hc42 => ?_) (fun hc42 => ?_)
            · refine j_iincN (n := 1) C dX3_calmest_50 rfl (by decide) ?_
              refine j_goto C 11 dX3_calmest_53 (by decide) ?_
              refine j_drop 4 ?_
              first
              | exact ih (i + 1) _ _ _ (by omega) (by omega) hS h5 (sel_n hv (congrArg (fun z => !z) (decide_eq_true hc30)))
              | exact ih (i + 1) _ _ _ (by omega) (by omega) hS h5 (sel_t hv (congrArg (fun z => !z) (decide_eq_false hc30)) (Or.inl hc36))
              | exact ih (i + 1) _ _ _ (by omega) (by omega) hS h5 (sel_t hv (congrArg (fun z => !z) (decide_eq_false hc30)) (Or.inr (Int32.not_le.mp hc42)))
              | exact ih (i + 1) _ _ _ (by omega) (by omega) hS h5 (sel_f hv hc36 (Int32.not_lt.mpr hc42))
            · refine j_iload_n C dX3_calmest_45 rfl ?_
              refine j_istore_n C dX3_calmest_46 (by decide) ?_
              refine j_iload C dX3_calmest_47 rfl ?_
              refine j_istore_n C dX3_calmest_49 (by decide) ?_
              refine j_iincN (n := 1) C dX3_calmest_50 rfl (by decide) ?_
              refine j_goto C 11 dX3_calmest_53 (by decide) ?_
              refine j_drop 4 ?_
              first
              | exact ih (i + 1) _ _ _ (by omega) (by omega) hS h5 (sel_n hv (congrArg (fun z => !z) (decide_eq_true hc30)))
              | exact ih (i + 1) _ _ _ (by omega) (by omega) hS h5 (sel_t hv (congrArg (fun z => !z) (decide_eq_false hc30)) (Or.inl hc36))
              | exact ih (i + 1) _ _ _ (by omega) (by omega) hS h5 (sel_t hv (congrArg (fun z => !z) (decide_eq_false hc30)) (Or.inr (Int32.not_le.mp hc42)))
              | exact ih (i + 1) _ _ _ (by omega) (by omega) hS h5 (sel_f hv hc36 (Int32.not_lt.mpr hc42))
  refine j_ldc (v := (-1000000003)) C dX3_calmest_4 (by decide +kernel) ?_
  refine j_istore_n C dX3_calmest_6 (by decide) ?_
  refine j_iconst (v := 0) C dX3_calmest_7 rfl ?_
  refine j_istore_n C dX3_calmest_8 (by decide) ?_
  refine j_iconst (v := 0) C dX3_calmest_9 rfl ?_
  refine j_istore_n C dX3_calmest_10 (by decide) ?_
  exact hL (N + 1) 0 _ _ _ (by omega) (by omega) hS h5 rfl
theorem n_X3_waiting_X0 : ∀ w ∈ wsX00, w ∈ wsX3_waiting := by decide +kernel
theorem n_X3_waiting_X3 : ∀ w ∈ wsX30, w ∈ wsX3_waiting := by decide +kernel
set_option maxHeartbeats 4000000 in
set_option maxRecDepth 100000 in
theorem c_X3_waiting {l : Launch} {D : va_G} {cI cZ cQ : ClassId} {ad : Nat → Nat} {np : Nat} {x : Nat → Nat} {g : Nat → Nat → Int32} (hnp : 27 ≤ np) {a : Nat → Nat} {b nu : Nat → Nat → Int32} (hX : RX x g a b nu) (hW : WF a b nu) {part : Int32} : Cn l D cI cZ cQ ad np 6 yX3_waiting wsX3_waiting [.ref (ad 0), .int part] x g (EX (waR a b nu part) x g a b nu) := by
  refine cn_of (own := RX3) (by decide) rfl rfl (by simp [Value.category]) (Nat.le_of_ble_eq_true rfl) ?_
  intro p e s m args below meth c A Q C HR HV
  obtain ⟨hx, hg, hnu⟩ := id hX
  obtain ⟨⟨w0, ⟨w1, w1'⟩, w2, w3, w4, w5, w6⟩, wt, wn, wq⟩ := id hW
  have e0 := hx 0 (by decide)
  have e1 := hx 1 (by decide)
  have e2 := hx 2 (by decide)
  have e3 := hx 3 (by decide)
  have e4 := hx 4 (by decide)
  have e5 := hx 5 (by decide)
  have e6 := hx 6 (by decide)
  have b9 := hg 9 (by decide) (by decide)
  have b10 := hg 10 (by decide) (by decide)
  have b11 := hg 11 (by decide) (by decide)
  have b12 := hg 12 (by decide) (by decide)
  have b13 := hg 13 (by decide) (by decide)
  have b14 := hg 14 (by decide) (by decide)
  have b15 := hg 15 (by decide) (by decide)
  have b16 := hg 16 (by decide) (by decide)
  have b17 := hg 17 (by decide) (by decide)
  refine j_iload_n C dX3_waiting_0 rfl ?_
  refine jSp1 C dX3_waiting_1 gX3_waiting_X3_isPart rfl pd_X3_isPart ⟨by decide, by decide⟩ (Nat.le_of_ble_eq_true rfl) c_X3_isPart ?_
  refine j_if_ne C 10 dX3_waiting_4 (by decide) (fun hc4 => ?_) (fun hc4 => ?_)
  · refine j_aload_n C dX3_waiting_10 rfl ?_
    refine jVi0 (ci := 3) C dX3_waiting_11 gX3_waiting_X3_findTwoStep rfl pd_X3_findTwoStep ⟨by decide, by decide⟩ (Nat.lt_of_lt_of_le (by decide) hnp) rfl rfl rfl (Nat.le_of_ble_eq_true rfl) (c_X3_findTwoStep hnp hX hW) (fun rr x2 g2 hp => ?_)
    obtain ⟨hre, hxe, hS0⟩ := hp
    have hxe := hxe.symm
    subst hxe
    subst hre
    refine j_istore_n C dX3_waiting_14 (by decide) ?_
    refine j_iload_n C dX3_waiting_15 rfl ?_
    refine j_ldc (v := (-1000000003)) C dX3_waiting_16 (by decide +kernel) ?_
    refine j_icmp_ne C 24 dX3_waiting_18 (by decide) (fun hc18 => ?_) (fun hc18 => ?_)
    · obtain ⟨f, hf1, hf2, hf3⟩ := tw_spec hW hc18
      obtain ⟨-, -, -, -, wv, hto⟩ := cb_bd hW hf3
      have hw1 : -64000000 ≤ (cbF a b nu (twF a b nu)).toInt := by rw [hf2]; exact (cb_bd hW hf3).2.2.1
      have hw2 : (cbF a b nu (twF a b nu)).toInt ≤ 64000000 := by rw [hf2]; exact (cb_bd hW hf3).2.2.2.1
      have hwb := wa_bd hW hf1 hto hw1 hw2 (a 6) (Nat.le_refl _)
      refine j_aload_n C dX3_waiting_24 rfl ?_
      refine jVv0 (ci := 3) C dX3_waiting_25 gX3_waiting_X3_fillBests rfl pd_X3_fillBests ⟨by decide, by decide⟩ (Nat.lt_of_lt_of_le (by decide) hnp) rfl rfl rfl (Nat.le_of_ble_eq_true rfl) (c_X3_fillBests hnp (hX.sx hS0.sx) hW) (fun x2 g2 hp => ?_)
      obtain ⟨hxe, hS1, h5⟩ := hp
      have hxe := hxe.symm
      subst hxe
      have hS := hS0.sx.tr hS1
      refine j_aload_n C dX3_waiting_28 rfl ?_
      refine j_iload_n C dX3_waiting_29 rfl ?_
      refine jVi1 (ci := 3) C dX3_waiting_30 gX3_waiting_X3_costByOdds rfl pd_X3_costByOdds ⟨by decide, by decide⟩ (Nat.lt_of_lt_of_le (by decide) hnp) rfl rfl rfl (Nat.le_of_ble_eq_true rfl) (c_X3_costByOdds hnp (hX.sx hS) hW) (fun rr x2 g2 hp => ?_)
      obtain ⟨hre, hxe, hS2⟩ := hp
      have hxe := hxe.symm
      subst hxe
      subst hre
      have h5 : ∀ j, j < a 6 → b 17 j = 0 → g2 5 j = lcF a b nu j := fun j hj hk => by rw [hS2 5 (by decide)]; exact h5 j hj hk
      have hS := hS.tr hS2.sx
      refine j_istore_n C dX3_waiting_33 (by decide) ?_
      have hL : ∀ (n : Nat) (i : Nat) (v : Int32), i ≤ a 6 → a 6 - i < n → v = waN a b nu (cbF a b nu (twF a b nu)) i → J p l e (Rm 6) s m args below meth c 0 0 D cI cZ cQ ad np A 5 Q x g2 37 [some (.ref (ad 0)), some (.int part), some (.int (twF a b nu)), some (.int v), some (.int (nI i))] [] := by
        intro n
        induction n with
        | zero => intros; omega
        | succ n ih =>
          intro i v h1 h2 hv
          refine j_iload C dX3_waiting_37 rfl ?_
          refine j_aload_n C dX3_waiting_39 rfl ?_
          refine jg_X3_listed C dX3_waiting_40 n_X3_waiting_X3 (by decide +kernel) (Nat.lt_of_lt_of_le (by decide) hnp) ?_
          refine jg_X0_count C dX3_waiting_43 n_X3_waiting_X0 (by decide +kernel) (Nat.lt_of_lt_of_le (by decide) hnp) ?_
          refine j_icmp_ge C 89 dX3_waiting_46 (by decide) (fun hc => ?_) (fun hc => ?_)
          · have he : i = a 6 := by have := (nI_leI (by omega) (by omega)).mp hc; omega
            subst he
            refine j_iload_n C dX3_waiting_89 rfl ?_
            refine j_aload_n C dX3_waiting_90 rfl ?_
            refine jg_X3_listed C dX3_waiting_91 n_X3_waiting_X3 (by decide +kernel) (Nat.lt_of_lt_of_le (by decide) hnp) ?_
            refine jVp0 (ci := 0) C dX3_waiting_94 gX3_waiting_X0_countedOdds rfl pd_X0_countedOdds ⟨by decide, by decide⟩ (Nat.lt_of_lt_of_le (by decide) hnp) rfl rfl rfl (Nat.le_of_ble_eq_true rfl) (c_X0_countedOdds (b := b) hnp ((hS 17 (by decide)).trans b17) ((hS 16 (by decide)).trans b16) (by omega)) ?_
            rw [e6, (od_nat hW).1]
            refine j_iload_n C dX3_waiting_97 rfl ?_
            refine jSp3 C dX3_waiting_98 gX3_waiting_X3_partOfFraction rfl pd_X3_partOfFraction ⟨by decide, by decide⟩ (Nat.le_of_ble_eq_true rfl) (c_X3_partOfFraction (by rw [hv]; have := hwb.1; omega) ((od_nat hW).2.2 (cb_bd hW hf3).1) (od_nat hW).2.1) ?_
            exact HR _ _ _ _ _ _ rfl rfl dX3_waiting_101 ⟨_, rfl, by unfold waR; rw [show inW part 0 1 = true from bI_n0.mp hc4]; rw [hv]; exact (if_neg hc18).symm, hX.sx hS, Fx.sx hS⟩
          · have hlt : i < a 6 := by have := mt (nI_leI (by omega) (by omega)).mpr hc; omega
            refine j_aload_n C dX3_waiting_49 rfl ?_
            refine jg_X3_listed C dX3_waiting_50 n_X3_waiting_X3 (by decide +kernel) (Nat.lt_of_lt_of_le (by decide) hnp) ?_
            refine jg_X0_kept C dX3_waiting_53 n_X3_waiting_X0 (by decide +kernel) (Nat.lt_of_lt_of_le (by decide) hnp) ?_
            refine j_iload C dX3_waiting_56 rfl ?_
            refine j_zald C _ dX3_waiting_58 (Nat.lt_of_lt_of_le (by decide) hnp) (Or.inl rfl) rfl (by omega) ?_
            rw [hS 17 (by decide), b17]
            refine j_if_ne C 83 dX3_waiting_59 (by decide) (fun hc59 => ?_) (fun hc59 => ?_)
            · refine j_iincN (n := 1) C dX3_waiting_83 rfl (by decide) ?_
              refine j_goto C 37 dX3_waiting_86 (by decide) ?_
              first
              | exact ih (i + 1) _ (by omega) (by omega) (by simp only [waN]; rw [if_pos hc59, hv])
              | exact ih (i + 1) _ (by omega) (by omega) (by simp only [waN]; rw [if_neg hc59, hv])
            · refine j_iload_n C dX3_waiting_62 rfl ?_
              refine j_aload_n C dX3_waiting_63 rfl ?_
              refine jg_X3_listed C dX3_waiting_64 n_X3_waiting_X3 (by decide +kernel) (Nat.lt_of_lt_of_le (by decide) hnp) ?_
              refine jg_X0_odds C dX3_waiting_67 n_X3_waiting_X0 (by decide +kernel) (Nat.lt_of_lt_of_le (by decide) hnp) ?_
              refine j_iload C dX3_waiting_70 rfl ?_
              refine j_iald C _ dX3_waiting_72 (Nat.lt_of_lt_of_le (by decide) hnp) rfl rfl (show _ < 8 by omega) ?_
              rw [hS 16 (by decide), b16]
              refine j_aload_n C dX3_waiting_73 rfl ?_
              refine jg_X3_bests C dX3_waiting_74 n_X3_waiting_X3 (by decide +kernel) (Nat.lt_of_lt_of_le (by decide) hnp) ?_
              refine j_iload C dX3_waiting_77 rfl ?_
              refine j_iald C i dX3_waiting_79 (Nat.lt_of_lt_of_le (by decide) hnp) rfl rfl (show _ < 8 by omega) ?_
              rw [h5 i hlt hc59]
              refine j_imul C dX3_waiting_80 ?_
              refine j_isub C dX3_waiting_81 ?_
              refine j_istore_n C dX3_waiting_82 (by decide) ?_
              refine j_iincN (n := 1) C dX3_waiting_83 rfl (by decide) ?_
              refine j_goto C 37 dX3_waiting_86 (by decide) ?_
              first
              | exact ih (i + 1) _ (by omega) (by omega) (by simp only [waN]; rw [if_pos hc59, hv])
              | exact ih (i + 1) _ (by omega) (by omega) (by simp only [waN]; rw [if_neg hc59, hv])
      refine j_iconst (v := 0) C dX3_waiting_34 rfl ?_
      refine j_istore C dX3_waiting_35 (by decide) ?_
      exact hL (a 6 + 1) 0 _ (by omega) (by omega) rfl
    · refine j_ldc (v := (-1000000003)) C dX3_waiting_21 (by decide +kernel) ?_
      exact HR _ _ _ _ _ _ rfl rfl dX3_waiting_23 ⟨_, rfl, by unfold waR; rw [show inW part 0 1 = true from bI_n0.mp hc4]; exact (if_pos hc18).symm, hX.sx hS0.sx, Fx.sx hS0.sx⟩
  · refine j_ldc (v := (-1000000001)) C dX3_waiting_7 (by decide +kernel) ?_
    exact HR _ _ _ _ _ _ rfl rfl dX3_waiting_9 ⟨_, rfl, by unfold waR; rw [show inW part 0 1 = false from bI_0.mp hc4]; rfl, hX, Fx.rf⟩
theorem n_X3_chance_X0 : ∀ w ∈ wsX00, w ∈ wsX3_chance := by decide +kernel
theorem n_X3_chance_X3 : ∀ w ∈ wsX30, w ∈ wsX3_chance := by decide +kernel
set_option maxHeartbeats 4000000 in
set_option maxRecDepth 100000 in
theorem c_X3_chance {l : Launch} {D : va_G} {cI cZ cQ : ClassId} {ad : Nat → Nat} {np : Nat} {x : Nat → Nat} {g : Nat → Nat → Int32} (hnp : 27 ≤ np) {a : Nat → Nat} {b nu : Nat → Nat → Int32} (hX : RX x g a b nu) (hW : WF a b nu) {plan part : Int32} : Cn l D cI cZ cQ ad np 3 yX3_chance wsX3_chance [.ref (ad 0), .int plan, .int part] x g (EX (chR a b nu plan part) x g a b nu) := by
  refine cn_of (own := RX3) (by decide) rfl rfl (by simp [Value.category]) (Nat.le_of_ble_eq_true rfl) ?_
  intro p e s m args below meth c A Q C HR HV
  obtain ⟨hx, hg, hnu⟩ := id hX
  obtain ⟨⟨w0, ⟨w1, w1'⟩, w2, w3, w4, w5, w6⟩, wt, wn, wq⟩ := id hW
  have e0 := hx 0 (by decide)
  have e1 := hx 1 (by decide)
  have e2 := hx 2 (by decide)
  have e3 := hx 3 (by decide)
  have e4 := hx 4 (by decide)
  have e5 := hx 5 (by decide)
  have e6 := hx 6 (by decide)
  have b9 := hg 9 (by decide) (by decide)
  have b10 := hg 10 (by decide) (by decide)
  have b11 := hg 11 (by decide) (by decide)
  have b12 := hg 12 (by decide) (by decide)
  have b13 := hg 13 (by decide) (by decide)
  have b14 := hg 14 (by decide) (by decide)
  have b15 := hg 15 (by decide) (by decide)
  have b16 := hg 16 (by decide) (by decide)
  have b17 := hg 17 (by decide) (by decide)
  refine j_aload_n C dX3_chance_0 rfl ?_
  refine j_iload_n C dX3_chance_1 rfl ?_
  refine jVp1 (ci := 3) C dX3_chance_2 gX3_chance_X3_isPlan rfl pd_X3_isPlan ⟨by decide, by decide⟩ (Nat.lt_of_lt_of_le (by decide) hnp) rfl rfl rfl (Nat.le_of_ble_eq_true rfl) (c_X3_isPlan hnp) ?_
  rw [e1, e2]
  refine j_if_eq C 15 dX3_chance_5 (by decide) (fun hc5 => ?_) (fun hc5 => ?_)
  · refine j_ldc (v := (-1000000001)) C dX3_chance_15 (by decide +kernel) ?_
    have hb : (plOk a plan && inW part 0 1) = false := by
      first
      | (rw [show plOk a plan = false from bI_0.mp hc5]; rfl)
      | (rw [show inW part 0 1 = false from bI_0.mp hc12, Bool.and_false])
    exact HR _ _ _ _ _ _ rfl rfl dX3_chance_17 ⟨_, rfl, by unfold chR; rw [hb]; rfl, hX, Fx.rf⟩
  · refine j_iload_n C dX3_chance_8 rfl ?_
    refine jSp1 C dX3_chance_9 gX3_chance_X3_isPart rfl pd_X3_isPart ⟨by decide, by decide⟩ (Nat.le_of_ble_eq_true rfl) c_X3_isPart ?_
    refine j_if_ne C 18 dX3_chance_12 (by decide) (fun hc12 => ?_) (fun hc12 => ?_)
    · refine j_aload_n C dX3_chance_18 rfl ?_
      refine jg_X3_listed C dX3_chance_19 n_X3_chance_X3 (by decide +kernel) (Nat.lt_of_lt_of_le (by decide) hnp) ?_
      refine jVp0 (ci := 0) C dX3_chance_22 gX3_chance_X0_countedOdds rfl pd_X0_countedOdds ⟨by decide, by decide⟩ (Nat.lt_of_lt_of_le (by decide) hnp) rfl rfl rfl (Nat.le_of_ble_eq_true rfl) (c_X0_countedOdds (b := b) hnp b17 b16 (by omega)) ?_
      rw [e6]
      refine j_istore_n C dX3_chance_25 (by decide) ?_
      refine j_iload_n C dX3_chance_26 rfl ?_
      refine j_if_ne C 33 dX3_chance_27 (by decide) (fun hc27 => ?_) (fun hc27 => ?_)
      · have hL : ∀ (n : Nat) (i : Nat) (v : Int32) (g2 : Nat → Nat → Int32), i ≤ a 6 → a 6 - i < n → S4 g g2 → v = chN a b nu plan i → J p l e (Rm 3) s m args below meth c 0 0 D cI cZ cQ ad np A 6 Q x g2 39 [some (.ref (ad 0)), some (.int plan), some (.int part), some (.int (odsF b (a 6))), some (.int v), some (.int (nI i))] [] := by
          intro n
          induction n with
          | zero => intros; omega
          | succ n ih =>
            intro i v g2 h1 h2 hS hv
            refine j_iload C dX3_chance_39 rfl ?_
            refine j_aload_n C dX3_chance_41 rfl ?_
            refine jg_X3_listed C dX3_chance_42 n_X3_chance_X3 (by decide +kernel) (Nat.lt_of_lt_of_le (by decide) hnp) ?_
            refine jg_X0_count C dX3_chance_45 n_X3_chance_X0 (by decide +kernel) (Nat.lt_of_lt_of_le (by decide) hnp) ?_
            refine j_icmp_ge C 95 dX3_chance_48 (by decide) (fun hc => ?_) (fun hc => ?_)
            · have he : i = a 6 := by have := (nI_leI (by omega) (by omega)).mp hc; omega
              subst he
              refine j_iload C dX3_chance_95 rfl ?_
              refine j_iload_n C dX3_chance_97 rfl ?_
              rw [(od_nat hW).1]
              refine j_iload_n C dX3_chance_98 rfl ?_
              refine jSp3 C dX3_chance_99 gX3_chance_X3_partOfFraction rfl pd_X3_partOfFraction ⟨by decide, by decide⟩ (Nat.le_of_ble_eq_true rfl) (c_X3_partOfFraction (by rw [hv]; have := (ch_bd hW plan (a 6) (Nat.le_refl _)).1; omega) ((od_nat hW).2.2 hc27) (od_nat hW).2.1) ?_
              exact HR _ _ _ _ _ _ rfl rfl dX3_chance_102 ⟨_, rfl, by unfold chR; rw [show plOk a plan = true from bI_n0.mp hc5, show inW part 0 1 = true from bI_n0.mp hc12]; rw [hv]; exact (if_neg hc27).symm, hX.sx hS.sx, Fx.sx hS.sx⟩
            · have hlt : i < a 6 := by have := mt (nI_leI (by omega) (by omega)).mpr hc; omega
              refine j_aload_n C dX3_chance_51 rfl ?_
              refine jg_X3_listed C dX3_chance_52 n_X3_chance_X3 (by decide +kernel) (Nat.lt_of_lt_of_le (by decide) hnp) ?_
              refine jg_X0_kept C dX3_chance_55 n_X3_chance_X0 (by decide +kernel) (Nat.lt_of_lt_of_le (by decide) hnp) ?_
              refine j_iload C dX3_chance_58 rfl ?_
              refine j_zald C _ dX3_chance_60 (Nat.lt_of_lt_of_le (by decide) hnp) (Or.inl rfl) rfl (by omega) ?_
              rw [hS 17 (by decide), b17]
              refine j_if_ne C 89 dX3_chance_61 (by decide) (fun hc61 => ?_) (fun hc61 => ?_)
              · refine j_iincN (n := 1) C dX3_chance_89 rfl (by decide) ?_
                refine j_goto C 39 dX3_chance_92 (by decide) ?_
                first
                | exact ih (i + 1) _ _ (by omega) (by omega) hS (ch_t hv hc61 (bI_n0.mp hc71))
                | exact ih (i + 1) _ _ (by omega) (by omega) hS (ch_k hv hc61)
                | exact ih (i + 1) _ _ (by omega) (by omega) hS (ch_n hv (bI_0.mp hc71))
              · refine j_aload_n C dX3_chance_64 rfl ?_
                refine j_iload_n C dX3_chance_65 rfl ?_
                refine j_iload C dX3_chance_66 rfl ?_
                refine jVi2 (ci := 3) C dX3_chance_68 gX3_chance_X3_allHold rfl pd_X3_allHold ⟨by decide, by decide⟩ (Nat.lt_of_lt_of_le (by decide) hnp) rfl rfl rfl (Nat.le_of_ble_eq_true rfl) (c_X3_allHold hnp (hX.sx hS.sx) hW hlt) (fun rr x2 g2 hp => ?_)
                obtain ⟨rfl, rfl, hS2, -⟩ := hp
                have hS := hS.tr hS2
                refine j_if_eq C 89 dX3_chance_71 (by decide) (fun hc71 => ?_) (fun hc71 => ?_)
                · refine j_iincN (n := 1) C dX3_chance_89 rfl (by decide) ?_
                  refine j_goto C 39 dX3_chance_92 (by decide) ?_
                  first
                  | exact ih (i + 1) _ _ (by omega) (by omega) hS (ch_t hv hc61 (bI_n0.mp hc71))
                  | exact ih (i + 1) _ _ (by omega) (by omega) hS (ch_k hv hc61)
                  | exact ih (i + 1) _ _ (by omega) (by omega) hS (ch_n hv (bI_0.mp hc71))
                · refine j_iload C dX3_chance_74 rfl ?_
                  refine j_aload_n C dX3_chance_76 rfl ?_
                  refine jg_X3_listed C dX3_chance_77 n_X3_chance_X3 (by decide +kernel) (Nat.lt_of_lt_of_le (by decide) hnp) ?_
                  refine jg_X0_odds C dX3_chance_80 n_X3_chance_X0 (by decide +kernel) (Nat.lt_of_lt_of_le (by decide) hnp) ?_
                  refine j_iload C dX3_chance_83 rfl ?_
                  refine j_iald C _ dX3_chance_85 (Nat.lt_of_lt_of_le (by decide) hnp) rfl rfl (show _ < 8 by omega) ?_
                  rw [hS 16 (by decide), b16]
                  refine j_iadd C dX3_chance_86 ?_
                  refine j_istore C dX3_chance_87 (by decide) ?_
                  refine j_iincN (n := 1) C dX3_chance_89 rfl (by decide) ?_
                  refine j_goto C 39 dX3_chance_92 (by decide) ?_
                  first
                  | exact ih (i + 1) _ _ (by omega) (by omega) hS (ch_t hv hc61 (bI_n0.mp hc71))
                  | exact ih (i + 1) _ _ (by omega) (by omega) hS (ch_k hv hc61)
                  | exact ih (i + 1) _ _ (by omega) (by omega) hS (ch_n hv (bI_0.mp hc71))
        refine j_iconst (v := 0) C dX3_chance_33 rfl ?_
        refine j_istore C dX3_chance_34 (by decide) ?_
        refine j_iconst (v := 0) C dX3_chance_36 rfl ?_
        refine j_istore C dX3_chance_37 (by decide) ?_
        exact hL (a 6 + 1) 0 _ _ (by omega) (by omega) S4.rf rfl
      · refine j_ldc (v := (-1000000003)) C dX3_chance_30 (by decide +kernel) ?_
        exact HR _ _ _ _ _ _ rfl rfl dX3_chance_32 ⟨_, rfl, by unfold chR; rw [show plOk a plan = true from bI_n0.mp hc5, show inW part 0 1 = true from bI_n0.mp hc12]; exact (if_pos hc27).symm, hX, Fx.rf⟩
    · refine j_ldc (v := (-1000000001)) C dX3_chance_15 (by decide +kernel) ?_
      have hb : (plOk a plan && inW part 0 1) = false := by
        first
        | (rw [show plOk a plan = false from bI_0.mp hc5]; rfl)
        | (rw [show inW part 0 1 = false from bI_0.mp hc12, Bool.and_false])
      exact HR _ _ _ _ _ _ rfl rfl dX3_chance_17 ⟨_, rfl, by unfold chR; rw [hb]; rfl, hX, Fx.rf⟩
