theorem n_X3_worstOf_X1 : ∀ w ∈ wsX10, w ∈ wsX3_worstOf := by decide +kernel
theorem n_X3_worstOf_X3 : ∀ w ∈ wsX30, w ∈ wsX3_worstOf := by decide +kernel
set_option maxHeartbeats 4000000 in
set_option maxRecDepth 100000 in
theorem c_X3_worstOf {l : Launch} {D : va_G} {cI cZ cQ : ClassId} {ad : Nat → Nat} {np : Nat} {x : Nat → Nat} {g : Nat → Nat → Int32} (hnp : 27 ≤ np) {n : Nat} (hn : n < 12) : Cn l D cI cZ cQ ad np 0 yX3_worstOf wsX3_worstOf [.ref (ad 0), .int (nI n)] x g (rp (if 0 < g 6 n then g 11 n else g 9 n) x g) := by
  refine cn_of (own := RX3) (by decide) rfl rfl (by simp [Value.category]) (Nat.le_of_ble_eq_true rfl) ?_
  intro p e s m args below meth c A Q C HR HV
  refine j_aload_n C dX3_worstOf_0 rfl ?_
  refine jg_X3_weights C dX3_worstOf_1 n_X3_worstOf_X3 (by decide +kernel) (Nat.lt_of_lt_of_le (by decide) hnp) ?_
  refine j_iload_n C dX3_worstOf_4 rfl ?_
  refine j_iald C n dX3_worstOf_5 (Nat.lt_of_lt_of_le (by decide) hnp) rfl rfl (show _ < 12 by omega) ?_
  refine j_if_le C 21 dX3_worstOf_6 (by decide) (fun hc6 => ?_) (fun hc6 => ?_)
  · refine j_aload_n C dX3_worstOf_21 rfl ?_
    refine jg_X3_names C dX3_worstOf_22 n_X3_worstOf_X3 (by decide +kernel) (Nat.lt_of_lt_of_le (by decide) hnp) ?_
    refine jg_X1_least C dX3_worstOf_25 n_X3_worstOf_X1 (by decide +kernel) (Nat.lt_of_lt_of_le (by decide) hnp) ?_
    refine j_iload_n C dX3_worstOf_28 rfl ?_
    refine j_iald C n dX3_worstOf_29 (Nat.lt_of_lt_of_le (by decide) hnp) rfl rfl (show _ < 12 by omega) ?_
    first
    | exact HR _ _ _ _ _ _ rfl rfl dX3_worstOf_30 ⟨_, rfl, (if_neg (Int32.not_lt.mpr hc6)).symm, rfl, rfl⟩
    | exact HR _ _ _ _ _ _ rfl rfl dX3_worstOf_30 ⟨_, rfl, (if_pos (Int32.not_le.mp hc6)).symm, rfl, rfl⟩
  · refine j_aload_n C dX3_worstOf_9 rfl ?_
    refine jg_X3_names C dX3_worstOf_10 n_X3_worstOf_X3 (by decide +kernel) (Nat.lt_of_lt_of_le (by decide) hnp) ?_
    refine jg_X1_greatest C dX3_worstOf_13 n_X3_worstOf_X1 (by decide +kernel) (Nat.lt_of_lt_of_le (by decide) hnp) ?_
    refine j_iload_n C dX3_worstOf_16 rfl ?_
    refine j_iald C n dX3_worstOf_17 (Nat.lt_of_lt_of_le (by decide) hnp) rfl rfl (show _ < 12 by omega) ?_
    refine j_goto C 30 dX3_worstOf_18 (by decide) ?_
    first
    | exact HR _ _ _ _ _ _ rfl rfl dX3_worstOf_30 ⟨_, rfl, (if_neg (Int32.not_lt.mpr hc6)).symm, rfl, rfl⟩
    | exact HR _ _ _ _ _ _ rfl rfl dX3_worstOf_30 ⟨_, rfl, (if_pos (Int32.not_le.mp hc6)).symm, rfl, rfl⟩
theorem n_X3_greatestGain_X1 : ∀ w ∈ wsX10, w ∈ wsX3_greatestGain := by decide +kernel
theorem n_X3_greatestGain_X3 : ∀ w ∈ wsX30, w ∈ wsX3_greatestGain := by decide +kernel
set_option maxHeartbeats 4000000 in
set_option maxRecDepth 100000 in
theorem c_X3_greatestGain {l : Launch} {D : va_G} {cI cZ cQ : ClassId} {ad : Nat → Nat} {np : Nat} {x : Nat → Nat} {g : Nat → Nat → Int32} (hnp : 27 ≤ np) (h4 : x 4 ≤ 12) : Cn l D cI cZ cQ ad np 0 yX3_greatestGain wsX3_greatestGain [.ref (ad 0)] x g (rp (pkI (pkF (g 7) (x 4))) x g) := by
  refine cn_of (own := RX3) (by decide) rfl rfl (by simp [Value.category]) (Nat.le_of_ble_eq_true rfl) ?_
  intro p e s m args below meth c A Q C HR HV
  have hL : ∀ (n : Nat) (i : Nat) (v v2 : Int32), i ≤ x 4 → x 4 - i < n → v = pkI (pkF (g 7) i) → v2 = pkV (g 7) (pkF (g 7) i) → J p l e (Rm 0) s m args below meth c 0 0 D cI cZ cQ ad np A 4 Q x g 7 [some (.ref (ad 0)), some (.int v), some (.int v2), some (.int (nI i))] [] := by
    intro n
    induction n with
    | zero => intros; omega
    | succ n ih =>
      intro i v v2 h1 h2 hv hv2
      refine j_iload_n C dX3_greatestGain_7 rfl ?_
      refine j_aload_n C dX3_greatestGain_8 rfl ?_
      refine jg_X3_names C dX3_greatestGain_9 n_X3_greatestGain_X3 (by decide +kernel) (Nat.lt_of_lt_of_le (by decide) hnp) ?_
      refine jg_X1_count C dX3_greatestGain_12 n_X3_greatestGain_X1 (by decide +kernel) (Nat.lt_of_lt_of_le (by decide) hnp) ?_
      refine j_icmp_ge C 43 dX3_greatestGain_15 (by decide) (fun hc => ?_) (fun hc => ?_)
      · have he : i = x 4 := by have := (nI_leI (by omega) (by omega)).mp hc; omega
        subst he
        refine j_iload_n C dX3_greatestGain_43 rfl ?_
        exact HR _ _ _ _ _ _ rfl rfl dX3_greatestGain_44 ⟨_, rfl, hv, rfl, rfl⟩
      · have hlt : i < x 4 := by have := mt (nI_leI (by omega) (by omega)).mpr hc; omega
        refine j_aload_n C dX3_greatestGain_18 rfl ?_
        refine jg_X3_gains C dX3_greatestGain_19 n_X3_greatestGain_X3 (by decide +kernel) (Nat.lt_of_lt_of_le (by decide) hnp) ?_
        refine j_iload_n C dX3_greatestGain_22 rfl ?_
        refine j_iald C i dX3_greatestGain_23 (Nat.lt_of_lt_of_le (by decide) hnp) rfl rfl (show _ < 12 by omega) ?_
        refine j_iload_n C dX3_greatestGain_24 rfl ?_
        refine j_icmp_le C 37 dX3_greatestGain_25 (by decide) (fun hc25 => ?_) (fun hc25 => ?_)
        · refine j_iincN (n := 1) C dX3_greatestGain_37 rfl (by decide) ?_
          refine j_goto C 7 dX3_greatestGain_40 (by decide) ?_
          first
          | exact ih (i + 1) _ _ (by omega) (by omega) (by rw [pkF_new (by rw [← hv2]; exact Int32.not_le.mp hc25)]; rfl) (by rw [pkF_new (by rw [← hv2]; exact Int32.not_le.mp hc25)]; rfl)
          | exact ih (i + 1) _ _ (by omega) (by omega) (by rw [pkF_old (by rw [← hv2]; exact Int32.not_lt.mpr hc25)]; exact hv) (by rw [pkF_old (by rw [← hv2]; exact Int32.not_lt.mpr hc25)]; exact hv2)
        · refine j_iload_n C dX3_greatestGain_28 rfl ?_
          refine j_istore_n C dX3_greatestGain_29 (by decide) ?_
          refine j_aload_n C dX3_greatestGain_30 rfl ?_
          refine jg_X3_gains C dX3_greatestGain_31 n_X3_greatestGain_X3 (by decide +kernel) (Nat.lt_of_lt_of_le (by decide) hnp) ?_
          refine j_iload_n C dX3_greatestGain_34 rfl ?_
          refine j_iald C i dX3_greatestGain_35 (Nat.lt_of_lt_of_le (by decide) hnp) rfl rfl (show _ < 12 by omega) ?_
          refine j_istore_n C dX3_greatestGain_36 (by decide) ?_
          refine j_iincN (n := 1) C dX3_greatestGain_37 rfl (by decide) ?_
          refine j_goto C 7 dX3_greatestGain_40 (by decide) ?_
          first
          | exact ih (i + 1) _ _ (by omega) (by omega) (by rw [pkF_new (by rw [← hv2]; exact Int32.not_le.mp hc25)]; rfl) (by rw [pkF_new (by rw [← hv2]; exact Int32.not_le.mp hc25)]; rfl)
          | exact ih (i + 1) _ _ (by omega) (by omega) (by rw [pkF_old (by rw [← hv2]; exact Int32.not_lt.mpr hc25)]; exact hv) (by rw [pkF_old (by rw [← hv2]; exact Int32.not_lt.mpr hc25)]; exact hv2)
  refine j_ldc (v := (-1000000003)) C dX3_greatestGain_0 (by decide +kernel) ?_
  refine j_istore_n C dX3_greatestGain_2 (by decide) ?_
  refine j_iconst (v := 0) C dX3_greatestGain_3 rfl ?_
  refine j_istore_n C dX3_greatestGain_4 (by decide) ?_
  refine j_iconst (v := 0) C dX3_greatestGain_5 rfl ?_
  refine j_istore_n C dX3_greatestGain_6 (by decide) ?_
  exact hL (x 4 + 1) 0 _ _ (by omega) (by omega) rfl rfl
theorem n_X3_findWorst_X1 : ∀ w ∈ wsX10, w ∈ wsX3_findWorst := by decide +kernel
theorem n_X3_findWorst_X3 : ∀ w ∈ wsX30, w ∈ wsX3_findWorst := by decide +kernel
set_option maxHeartbeats 4000000 in
set_option maxRecDepth 100000 in
theorem c_X3_findWorst {l : Launch} {D : va_G} {cI cZ cQ : ClassId} {ad : Nat → Nat} {np : Nat} {x : Nat → Nat} {g : Nat → Nat → Int32} (hnp : 27 ≤ np) {a : Nat → Nat} {b nu : Nat → Nat → Int32} (hX : RX x g a b nu) (hW : WF a b nu) {plan row : Int32} : Cn l D cI cZ cQ ad np 2 yX3_findWorst wsX3_findWorst [.ref (ad 0), .int plan, .int row] x g (ri (fun r x' g' => r = (wsF a b plan row).2.2 ∧ x' = x ∧ Sx g g' ∧ ∀ n, n < a 4 → g' 8 n = (wsF a b plan row).2.1 n)) := by
  refine cn_of (own := RX3) (by decide) rfl rfl (by simp [Value.category]) (Nat.le_of_ble_eq_true rfl) ?_
  intro p e s m args below meth c A Q C HR HV
  obtain ⟨hx, hg, hnu⟩ := id hX
  obtain ⟨⟨w0, ⟨w1, w1'⟩, w2, w3, w4, w5, w6⟩, wt, wn, wq⟩ := id hW
  have e0 := hx 0 (by decide)
  have e1 := hx 1 (by decide)
  have e2 := hx 2 (by decide)
  have e3 := hx 3 (by decide)
  have e4 := hx 4 (by decide)
  have e5 := hx 5 (by decide)
  have e6 := hx 6 (by decide)
  have b9 := hg 9 (by decide) (by decide)
  have b10 := hg 10 (by decide) (by decide)
  have b11 := hg 11 (by decide) (by decide)
  have b12 := hg 12 (by decide) (by decide)
  have b13 := hg 13 (by decide) (by decide)
  have b14 := hg 14 (by decide) (by decide)
  have b15 := hg 15 (by decide) (by decide)
  have b16 := hg 16 (by decide) (by decide)
  have b17 := hg 17 (by decide) (by decide)
  have hL2 : ∀ (n : Nat) (k : Nat) (v : Int32) (g2 : Nat → Nat → Int32), k ≤ a 3 → a 3 - k < n → Sx g g2 → (∀ n, n < a 4 → g2 6 n = wF b plan row n (a 5)) → (∀ n, n < a 4 → g2 7 n = (grF (a 4) (upF b plan row (a 5)) (gaF b plan row (a 5), b 10, sumF b (b 10) plan row (a 5)) k).1 n) → (∀ n, n < a 4 → g2 8 n = (grF (a 4) (upF b plan row (a 5)) (gaF b plan row (a 5), b 10, sumF b (b 10) plan row (a 5)) k).2.1 n) → v = (grF (a 4) (upF b plan row (a 5)) (gaF b plan row (a 5), b 10, sumF b (b 10) plan row (a 5)) k).2.2 → J p l e (Rm 2) s m args below meth c 0 0 D cI cZ cQ ad np A 6 Q x g2 108 [some (.ref (ad 0)), some (.int plan), some (.int row), some (.int v), some (.int (nI k)), none] [] := by
    intro n
    induction n with
    | zero => intros; omega
    | succ n ih =>
      intro k v g2 h1 h2 hS h6 h7 h8 hv
      refine j_iload C dX3_findWorst_108 rfl ?_
      refine j_aload_n C dX3_findWorst_110 rfl ?_
      refine jg_X3_budgetNow C dX3_findWorst_111 n_X3_findWorst_X3 (by decide +kernel) (Nat.lt_of_lt_of_le (by decide) hnp) ?_
      refine j_icmp_ge C 170 dX3_findWorst_114 (by decide) (fun hc => ?_) (fun hc => ?_)
      · have he : k = a 3 := by have := (nI_leI (by omega) (by omega)).mp hc; omega
        subst he
        refine j_iload_n C dX3_findWorst_170 rfl ?_
        first
        | exact HR _ _ _ _ _ _ rfl rfl dX3_findWorst_171 ⟨_, rfl, hv, rfl, hS, h8⟩
        | exact HR _ _ _ _ _ _ rfl rfl dX3_findWorst_171 ⟨_, rfl, by rw [hv]; exact congrArg (fun q => q.2.2) hst.symm, rfl, hS, fun n hn => (h8 n hn).trans (congrArg (fun q => q.2.1 n) hst.symm)⟩
      · have hlt : k < a 3 := by have := mt (nI_leI (by omega) (by omega)).mpr hc; omega
        have hX2 := hX.sx hS
        have c9 := hX2.2.1 9 (by decide) (by decide)
        have c11 := hX2.2.1 11 (by decide) (by decide)
        refine j_aload_n C dX3_findWorst_117 rfl ?_
        refine jVp0 (ci := 3) C dX3_findWorst_118 gX3_findWorst_X3_greatestGain rfl pd_X3_greatestGain ⟨by decide, by decide⟩ (Nat.lt_of_lt_of_le (by decide) hnp) rfl rfl rfl (Nat.le_of_ble_eq_true rfl) (c_X3_greatestGain hnp (by omega)) ?_
        refine j_istore C dX3_findWorst_121 (by decide) ?_
        refine j_iload C dX3_findWorst_123 rfl ?_
        refine j_ldc (v := (-1000000003)) C dX3_findWorst_125 (by decide +kernel) ?_
        refine j_icmp_ne C 133 dX3_findWorst_127 (by decide) (fun hc127 => ?_) (fun hc127 => ?_)
        · obtain ⟨j, hpj⟩ : ∃ j, pkF (g2 7) (x 4) = some j := by
            cases hpk : pkF (g2 7) (x 4) with
            | none => rw [hpk] at hc127; exact absurd rfl hc127
            | some j => exact ⟨j, rfl⟩
          have hjl := pkF_lt hpj
          rw [hpj]
          refine j_iload_n C dX3_findWorst_133 rfl ?_
          refine j_aload_n C dX3_findWorst_134 rfl ?_
          refine jg_X3_gains C dX3_findWorst_135 n_X3_findWorst_X3 (by decide +kernel) (Nat.lt_of_lt_of_le (by decide) hnp) ?_
          refine j_iload C dX3_findWorst_138 rfl ?_
          refine j_iald C j dX3_findWorst_140 (Nat.lt_of_lt_of_le (by decide) hnp) rfl rfl (show _ < 12 by omega) ?_
          refine j_iadd C dX3_findWorst_141 ?_
          refine j_istore_n C dX3_findWorst_142 (by decide) ?_
          refine j_aload_n C dX3_findWorst_143 rfl ?_
          refine jg_X3_gains C dX3_findWorst_144 n_X3_findWorst_X3 (by decide +kernel) (Nat.lt_of_lt_of_le (by decide) hnp) ?_
          refine j_iload C dX3_findWorst_147 rfl ?_
          refine j_iconst (v := 0) C dX3_findWorst_149 rfl ?_
          refine j_iast C j dX3_findWorst_150 (Nat.lt_of_lt_of_le (by decide) hnp) rfl rfl (show _ < 12 by omega) ?_
          refine j_aload_n C dX3_findWorst_151 rfl ?_
          refine jg_X3_worstNumbers C dX3_findWorst_152 n_X3_findWorst_X3 (by decide +kernel) (Nat.lt_of_lt_of_le (by decide) hnp) ?_
          refine j_iload C dX3_findWorst_155 rfl ?_
          refine j_aload_n C dX3_findWorst_157 rfl ?_
          refine j_iload C dX3_findWorst_158 rfl ?_
          refine jVp1 (ci := 3) C dX3_findWorst_160 gX3_findWorst_X3_worstOf rfl pd_X3_worstOf ⟨by decide, by decide⟩ (Nat.lt_of_lt_of_le (by decide) hnp) rfl rfl rfl (Nat.le_of_ble_eq_true rfl) (c_X3_worstOf (n := j) hnp (by omega)) ?_
          rw [va_un _ 7 6 _ (by decide), va_un _ 7 11 _ (by decide), va_un _ 7 9 _ (by decide), h6 j (by omega), c11, c9]
          refine j_iast C j dX3_findWorst_163 (Nat.lt_of_lt_of_le (by decide) hnp) rfl rfl (show _ < 12 by omega) ?_
          refine j_iincN (n := 1) C dX3_findWorst_164 rfl (by decide) ?_
          refine j_goto C 108 dX3_findWorst_167 (by decide) ?_
          have hpk2 : pkF (grF (a 4) (upF b plan row (a 5)) (gaF b plan row (a 5), b 10, sumF b (b 10) plan row (a 5)) k).1 (a 4) = some j := by have h9 := hpj; rw [e4] at h9; rw [← h9]; exact (pkF_congr (fun n hn => h7 n hn)).symm
          have hgs : grF (a 4) (upF b plan row (a 5)) (gaF b plan row (a 5), b 10, sumF b (b 10) plan row (a 5)) (k + 1) = (upd (grF (a 4) (upF b plan row (a 5)) (gaF b plan row (a 5), b 10, sumF b (b 10) plan row (a 5)) k).1 j 0, upd (grF (a 4) (upF b plan row (a 5)) (gaF b plan row (a 5), b 10, sumF b (b 10) plan row (a 5)) k).2.1 j (upF b plan row (a 5) j), (grF (a 4) (upF b plan row (a 5)) (gaF b plan row (a 5), b 10, sumF b (b 10) plan row (a 5)) k).2.2 + (grF (a 4) (upF b plan row (a 5)) (gaF b plan row (a 5), b 10, sumF b (b 10) plan row (a 5)) k).1 j) := by
            show gsF _ _ _ = _
            unfold gsF
            rw [hpk2]
          refine j_drop 5 ?_
          refine ih (k + 1) _ _ (by omega) (by omega) ((hS.up ⟨by decide, by decide⟩).up ⟨by decide, by decide⟩) (fun n hn => ?_) (fun n hn => ?_) (fun n hn => ?_) ?_
          · rw [va_un _ 8 6 _ (by decide), va_un _ 7 6 _ (by decide)]; exact h6 n hn
          · rw [va_un _ 8 7 _ (by decide), va_us, hgs]
            simp only [upd]
            rw [h7 n hn]
          · rw [va_us, va_un _ 7 8 _ (by decide), hgs]
            simp only [upd]
            rw [h8 n hn]
            rfl
          · rw [hgs, hv, h7 j (by omega)]
        · have hpn : pkF (g2 7) (x 4) = none := by
            cases hpk : pkF (g2 7) (x 4) with
            | none => rfl
            | some j => rw [hpk] at hc127; exact absurd hc127 (nI_none (by have := pkF_lt hpk; omega))
          have hpn2 : pkF (grF (a 4) (upF b plan row (a 5)) (gaF b plan row (a 5), b 10, sumF b (b 10) plan row (a 5)) k).1 (a 4) = none := by have h9 := hpn; rw [e4] at h9; rw [← h9]; exact (pkF_congr (fun n hn => h7 n hn)).symm
          have hst : grF (a 4) (upF b plan row (a 5)) (gaF b plan row (a 5), b 10, sumF b (b 10) plan row (a 5)) (a 3) = grF (a 4) (upF b plan row (a 5)) (gaF b plan row (a 5), b 10, sumF b (b 10) plan row (a 5)) k := by have := grF_stop hpn2 (a 3 - k); rwa [show k + (a 3 - k) = a 3 by omega] at this
          refine j_goto C 170 dX3_findWorst_130 (by decide) ?_
          refine j_iload_n C dX3_findWorst_170 rfl ?_
          first
          | exact HR _ _ _ _ _ _ rfl rfl dX3_findWorst_171 ⟨_, rfl, hv, rfl, hS, h8⟩
          | exact HR _ _ _ _ _ _ rfl rfl dX3_findWorst_171 ⟨_, rfl, by rw [hv]; exact congrArg (fun q => q.2.2) hst.symm, rfl, hS, fun n hn => (h8 n hn).trans (congrArg (fun q => q.2.1 n) hst.symm)⟩
  have hL1 : ∀ (n : Nat) (i : Nat) (v : Int32) (g2 : Nat → Nat → Int32), i ≤ a 4 → a 4 - i < n → Sx g g2 → (∀ n, n < a 4 → g2 6 n = wF b plan row n (a 5)) → (∀ n, n < i → g2 7 n = gaF b plan row (a 5) n) → (∀ n, n < i → g2 8 n = b 10 n) → v = bsF b plan row (a 5) i → J p l e (Rm 2) s m args below meth c 0 0 D cI cZ cQ ad np A 6 Q x g2 17 [some (.ref (ad 0)), some (.int plan), some (.int row), some (.int v), some (.int (nI i)), none] [] := by
    intro n
    induction n with
    | zero => intros; omega
    | succ n ih =>
      intro i v g2 h1 h2 hS h6 h7 h8 hv
      refine j_iload C dX3_findWorst_17 rfl ?_
      refine j_aload_n C dX3_findWorst_19 rfl ?_
      refine jg_X3_names C dX3_findWorst_20 n_X3_findWorst_X3 (by decide +kernel) (Nat.lt_of_lt_of_le (by decide) hnp) ?_
      refine jg_X1_count C dX3_findWorst_23 n_X3_findWorst_X1 (by decide +kernel) (Nat.lt_of_lt_of_le (by decide) hnp) ?_
      refine j_icmp_ge C 105 dX3_findWorst_26 (by decide) (fun hc => ?_) (fun hc => ?_)
      · have he : i = a 4 := by have := (nI_leI (by omega) (by omega)).mp hc; omega
        subst he
        refine j_iconst (v := 0) C dX3_findWorst_105 rfl ?_
        refine j_istore C dX3_findWorst_106 (by decide) ?_
        exact hL2 (a 3 + 1) 0 _ _ (by omega) (by omega) hS h6 h7 h8 (by rw [hv]; exact bsF_sum hW plan row (a 5) (Nat.le_refl _))
      · have hlt : i < a 4 := by have := mt (nI_leI (by omega) (by omega)).mpr hc; omega
        have hX2 := hX.sx hS
        have c9 := hX2.2.1 9 (by decide) (by decide)
        have c10 := hX2.2.1 10 (by decide) (by decide)
        have c11 := hX2.2.1 11 (by decide) (by decide)
        refine j_iload_n C dX3_findWorst_29 rfl ?_
        refine j_aload_n C dX3_findWorst_30 rfl ?_
        refine jg_X3_weights C dX3_findWorst_31 n_X3_findWorst_X3 (by decide +kernel) (Nat.lt_of_lt_of_le (by decide) hnp) ?_
        refine j_iload C dX3_findWorst_34 rfl ?_
        refine j_iald C i dX3_findWorst_36 (Nat.lt_of_lt_of_le (by decide) hnp) rfl rfl (show _ < 12 by omega) ?_
        rw [h6 i hlt]
        refine j_aload_n C dX3_findWorst_37 rfl ?_
        refine jg_X3_names C dX3_findWorst_38 n_X3_findWorst_X3 (by decide +kernel) (Nat.lt_of_lt_of_le (by decide) hnp) ?_
        refine jg_X1_usual C dX3_findWorst_41 n_X3_findWorst_X1 (by decide +kernel) (Nat.lt_of_lt_of_le (by decide) hnp) ?_
        refine j_iload C dX3_findWorst_44 rfl ?_
        refine j_iald C i dX3_findWorst_46 (Nat.lt_of_lt_of_le (by decide) hnp) rfl rfl (show _ < 12 by omega) ?_
        rw [c10]
        refine j_imul C dX3_findWorst_47 ?_
        refine j_iadd C dX3_findWorst_48 ?_
        refine j_istore_n C dX3_findWorst_49 (by decide) ?_
        refine j_aload_n C dX3_findWorst_50 rfl ?_
        refine jg_X3_gains C dX3_findWorst_51 n_X3_findWorst_X3 (by decide +kernel) (Nat.lt_of_lt_of_le (by decide) hnp) ?_
        refine j_iload C dX3_findWorst_54 rfl ?_
        refine j_aload_n C dX3_findWorst_56 rfl ?_
        refine jg_X3_weights C dX3_findWorst_57 n_X3_findWorst_X3 (by decide +kernel) (Nat.lt_of_lt_of_le (by decide) hnp) ?_
        refine j_iload C dX3_findWorst_60 rfl ?_
        refine j_iald C i dX3_findWorst_62 (Nat.lt_of_lt_of_le (by decide) hnp) rfl rfl (show _ < 12 by omega) ?_
        rw [h6 i hlt]
        refine j_aload_n C dX3_findWorst_63 rfl ?_
        refine j_iload C dX3_findWorst_64 rfl ?_
        refine jVp1 (ci := 3) C dX3_findWorst_66 gX3_findWorst_X3_worstOf rfl pd_X3_worstOf ⟨by decide, by decide⟩ (Nat.lt_of_lt_of_le (by decide) hnp) rfl rfl rfl (Nat.le_of_ble_eq_true rfl) (c_X3_worstOf hnp (by omega)) ?_
        rw [h6 i hlt, c11, c9]
        refine j_aload_n C dX3_findWorst_69 rfl ?_
        refine jg_X3_names C dX3_findWorst_70 n_X3_findWorst_X3 (by decide +kernel) (Nat.lt_of_lt_of_le (by decide) hnp) ?_
        refine jg_X1_usual C dX3_findWorst_73 n_X3_findWorst_X1 (by decide +kernel) (Nat.lt_of_lt_of_le (by decide) hnp) ?_
        refine j_iload C dX3_findWorst_76 rfl ?_
        refine j_iald C i dX3_findWorst_78 (Nat.lt_of_lt_of_le (by decide) hnp) rfl rfl (show _ < 12 by omega) ?_
        rw [c10]
        refine j_isub C dX3_findWorst_79 ?_
        refine j_imul C dX3_findWorst_80 ?_
        refine j_iast C i dX3_findWorst_81 (Nat.lt_of_lt_of_le (by decide) hnp) rfl rfl (show _ < 12 by omega) ?_
        refine j_aload_n C dX3_findWorst_82 rfl ?_
        refine jg_X3_worstNumbers C dX3_findWorst_83 n_X3_findWorst_X3 (by decide +kernel) (Nat.lt_of_lt_of_le (by decide) hnp) ?_
        refine j_iload C dX3_findWorst_86 rfl ?_
        refine j_aload_n C dX3_findWorst_88 rfl ?_
        refine jg_X3_names C dX3_findWorst_89 n_X3_findWorst_X3 (by decide +kernel) (Nat.lt_of_lt_of_le (by decide) hnp) ?_
        refine jg_X1_usual C dX3_findWorst_92 n_X3_findWorst_X1 (by decide +kernel) (Nat.lt_of_lt_of_le (by decide) hnp) ?_
        refine j_iload C dX3_findWorst_95 rfl ?_
        refine j_iald C i dX3_findWorst_97 (Nat.lt_of_lt_of_le (by decide) hnp) rfl rfl (show _ < 12 by omega) ?_
        rw [va_un _ 7 10 _ (by decide), c10]
        refine j_iast C i dX3_findWorst_98 (Nat.lt_of_lt_of_le (by decide) hnp) rfl rfl (show _ < 12 by omega) ?_
        refine j_iincN (n := 1) C dX3_findWorst_99 rfl (by decide) ?_
        refine j_goto C 17 dX3_findWorst_102 (by decide) ?_
        refine ih (i + 1) _ _ (by omega) (by omega) ((hS.up ⟨by decide, by decide⟩).up ⟨by decide, by decide⟩) (fun n hn => ?_) (fun n hn => ?_) (fun n hn => ?_) ?_
        · rw [va_un _ 8 6 _ (by decide), va_un _ 7 6 _ (by decide)]; exact h6 n hn
        · rw [va_un _ 8 7 _ (by decide), va_us]
          simp only [upd]
          by_cases hni : n = i
          · subst hni; rw [if_pos rfl]; rfl
          · rw [if_neg hni]; exact h7 n (by omega)
        · rw [va_us, va_un _ 7 8 _ (by decide)]
          simp only [upd]
          by_cases hni : n = i
          · subst hni; rw [if_pos rfl]
          · rw [if_neg hni]; exact h8 n (by omega)
        · rw [hv]; rfl
  refine j_aload_n C dX3_findWorst_0 rfl ?_
  refine jg_X3_terms C dX3_findWorst_1 n_X3_findWorst_X3 (by decide +kernel) (Nat.lt_of_lt_of_le (by decide) hnp) ?_
  refine j_iload_n C dX3_findWorst_4 rfl ?_
  refine j_iload_n C dX3_findWorst_5 rfl ?_
  refine j_aload_n C dX3_findWorst_6 rfl ?_
  refine jg_X3_weights C dX3_findWorst_7 n_X3_findWorst_X3 (by decide +kernel) (Nat.lt_of_lt_of_le (by decide) hnp) ?_
  refine jVi3 (ci := 2) C dX3_findWorst_10 gX3_findWorst_X2_weigh rfl pd_X2_weigh ⟨by decide, by decide⟩ (Nat.lt_of_lt_of_le (by decide) hnp) rfl rfl rfl (Nat.le_of_ble_eq_true rfl) (c_X2_weigh hnp hX hW) (fun rr x2 g2 hp => ?_)
  obtain ⟨rfl, rfl, f, rfl, hf⟩ := hp
  refine j_istore_n C dX3_findWorst_13 (by decide) ?_
  refine j_iconst (v := 0) C dX3_findWorst_14 rfl ?_
  refine j_istore C dX3_findWorst_15 (by decide) ?_
  exact hL1 (a 4 + 1) 0 _ _ (by omega) (by omega) (Sx.rf.up ⟨by decide, by decide⟩) (fun n hn => by rw [va_us]; exact hf n hn) (fun n hn => absurd hn (Nat.not_lt_zero n)) (fun n hn => absurd hn (Nat.not_lt_zero n)) rfl
/-- the first row below n that does not hold at worst -/
def fbF (a : Nat → Nat) (b : Nat → Nat → Int32) (plan : Int32) : Nat → Int32
  | 0 => -1000000003
  | n + 1 => if fbF a b plan n = -1000000003 then (if 0 < (wsF a b plan (nI n)).2.2 then nI n else -1000000003) else fbF a b plan n
theorem fbF_up {a : Nat → Nat} {b : Nat → Nat → Int32} {plan : Int32} {n : Nat} (h : ¬ fbF a b plan n = -1000000003) : ∀ k, fbF a b plan (n + k) = fbF a b plan n := by
  intro k
  induction k with
  | zero => rfl
  | succ k ih =>
    show (if fbF a b plan (n + k) = -1000000003 then _ else _) = _
    rw [if_neg (by show ¬ fbF a b plan (n + k) = _; rw [ih]; exact h)]
    exact ih
theorem n_X3_firstBroken_X3 : ∀ w ∈ wsX30, w ∈ wsX3_firstBroken := by decide +kernel
set_option maxHeartbeats 4000000 in
set_option maxRecDepth 100000 in
theorem c_X3_firstBroken {l : Launch} {D : va_G} {cI cZ cQ : ClassId} {ad : Nat → Nat} {np : Nat} {x : Nat → Nat} {g : Nat → Nat → Int32} (hnp : 27 ≤ np) {a : Nat → Nat} {b nu : Nat → Nat → Int32} (hX : RX x g a b nu) (hW : WF a b nu) {plan : Int32} : Cn l D cI cZ cQ ad np 3 yX3_firstBroken wsX3_firstBroken [.ref (ad 0), .int plan] x g (ri (fun r x' g' => r = fbF a b plan (a 0) ∧ x' = x ∧ Sx g g')) := by
  refine cn_of (own := RX3) (by decide) rfl rfl (by simp [Value.category]) (Nat.le_of_ble_eq_true rfl) ?_
  intro p e s m args below meth c A Q C HR HV
  obtain ⟨hx, hg, hnu⟩ := id hX
  obtain ⟨⟨w0, ⟨w1, w1'⟩, w2, w3, w4, w5, w6⟩, wt, wn, wq⟩ := id hW
  have e0 := hx 0 (by decide)
  have e1 := hx 1 (by decide)
  have e2 := hx 2 (by decide)
  have e3 := hx 3 (by decide)
  have e4 := hx 4 (by decide)
  have e5 := hx 5 (by decide)
  have e6 := hx 6 (by decide)
  have b9 := hg 9 (by decide) (by decide)
  have b10 := hg 10 (by decide) (by decide)
  have b11 := hg 11 (by decide) (by decide)
  have b12 := hg 12 (by decide) (by decide)
  have b13 := hg 13 (by decide) (by decide)
  have b14 := hg 14 (by decide) (by decide)
  have b15 := hg 15 (by decide) (by decide)
  have b16 := hg 16 (by decide) (by decide)
  have b17 := hg 17 (by decide) (by decide)
  have hL : ∀ (n : Nat) (i : Nat) (g2 : Nat → Nat → Int32), i ≤ a 0 → a 0 - i < n → Sx g g2 → fbF a b plan i = -1000000003 → J p l e (Rm 3) s m args below meth c 0 0 D cI cZ cQ ad np A 3 Q x g2 2 [some (.ref (ad 0)), some (.int plan), some (.int (nI i))] [] := by
    intro n
    induction n with
    | zero => intros; omega
    | succ n ih =>
      intro i g2 h1 h2 hS hv
      refine j_iload_n C dX3_firstBroken_2 rfl ?_
      refine j_aload_n C dX3_firstBroken_3 rfl ?_
      refine jg_X3_rowCount C dX3_firstBroken_4 n_X3_firstBroken_X3 (by decide +kernel) (Nat.lt_of_lt_of_le (by decide) hnp) ?_
      refine j_icmp_ge C 27 dX3_firstBroken_7 (by decide) (fun hc => ?_) (fun hc => ?_)
      · have he : i = a 0 := by have := (nI_leI (by omega) (by omega)).mp hc; omega
        subst he
        refine j_ldc (v := (-1000000003)) C dX3_firstBroken_27 (by decide +kernel) ?_
        exact HR _ _ _ _ _ _ rfl rfl dX3_firstBroken_29 ⟨_, rfl, hv.symm, rfl, hS⟩
      · have hlt : i < a 0 := by have := mt (nI_leI (by omega) (by omega)).mpr hc; omega
        have hfin : 0 < (wsF a b plan (nI i)).2.2 → nI i = fbF a b plan (a 0) := fun hp => by
          have h3 : fbF a b plan (i + 1) = nI i := by
            show (if fbF a b plan i = -1000000003 then _ else _) = _
            rw [if_pos hv, if_pos hp]
          have h4 := fbF_up (n := i + 1) (by rw [h3]; exact nI_none (by omega)) (a 0 - (i + 1))
          rw [show i + 1 + (a 0 - (i + 1)) = a 0 by omega] at h4
          rw [h4, h3]
        refine j_aload_n C dX3_firstBroken_10 rfl ?_
        refine j_iload_n C dX3_firstBroken_11 rfl ?_
        refine j_iload_n C dX3_firstBroken_12 rfl ?_
        refine jVi2 (ci := 3) C dX3_firstBroken_13 gX3_firstBroken_X3_findWorst rfl pd_X3_findWorst ⟨by decide, by decide⟩ (Nat.lt_of_lt_of_le (by decide) hnp) rfl rfl rfl (Nat.le_of_ble_eq_true rfl) (c_X3_findWorst hnp (hX.sx hS) hW) (fun rr x2 g2 hp => ?_)
        obtain ⟨rfl, rfl, hS2, -⟩ := hp
        have hS := hS.tr hS2
        refine j_if_le C 21 dX3_firstBroken_16 (by decide) (fun hc16 => ?_) (fun hc16 => ?_)
        · refine j_iincN (n := 1) C dX3_firstBroken_21 rfl (by decide) ?_
          refine j_goto C 2 dX3_firstBroken_24 (by decide) ?_
          refine ih (i + 1) _ (by omega) (by omega) hS ?_
          show (if fbF a b plan i = -1000000003 then _ else _) = _
          rw [if_pos hv, if_neg (Int32.not_lt.mpr hc16)]
        · refine j_iload_n C dX3_firstBroken_19 rfl ?_
          exact HR _ _ _ _ _ _ rfl rfl dX3_firstBroken_20 ⟨_, rfl, hfin (Int32.not_le.mp hc16), rfl, hS⟩
  refine j_iconst (v := 0) C dX3_firstBroken_0 rfl ?_
  refine j_istore_n C dX3_firstBroken_1 (by decide) ?_
  exact hL (a 0 + 1) 0 _ (by omega) (by omega) Sx.rf rfl
