theorem n_X0_putInAll_X0 : ∀ w ∈ wsX00, w ∈ wsX0_putInAll := by decide +kernel
set_option maxHeartbeats 4000000 in
set_option maxRecDepth 100000 in
theorem c_X0_putInAll {l : Launch} {D : va_G} {cI cZ cQ : ClassId} {ad : Nat → Nat} {np : Nat} {x : Nat → Nat} {g : Nat → Nat → Int32} (hnp : 27 ≤ np) {n0 : Nat} {v : Int32} (hn : n0 < 12) (h6 : x 6 ≤ 8) : Cn l D cI cZ cQ ad np 0 yX0_putInAll wsX0_putInAll [.ref (ad 3), .int (nI n0), .int v] x g (rv (fun x' g' => x' = x ∧ g' = piF g (x 6) n0 v)) := by
  refine cn_of (own := RX0) (by decide) rfl rfl (by simp [Value.category]) (Nat.le_of_ble_eq_true rfl) ?_
  intro p e s m args below meth c A Q C HR HV
  have hL : ∀ (n : Nat) (i : Nat), i ≤ x 6 → x 6 - i < n → J p l e (Rm 0) s m args below meth c 0 0 D cI cZ cQ ad np A 4 Q x (piF g i n0 v) 2 [some (.ref (ad 3)), some (.int (nI n0)), some (.int v), some (.int (nI i))] [] := by
    intro n
    induction n with
    | zero => intros; omega
    | succ n ih =>
      intro i h1 h2
      refine j_iload_n C dX0_putInAll_2 rfl ?_
      refine j_aload_n C dX0_putInAll_3 rfl ?_
      refine jg_X0_count C dX0_putInAll_4 n_X0_putInAll_X0 (by decide +kernel) (Nat.lt_of_lt_of_le (by decide) hnp) ?_
      refine j_icmp_ge C 25 dX0_putInAll_7 (by decide) (fun hc => ?_) (fun hc => ?_)
      · have he : i = x 6 := by have := (nI_leI (by omega) (by omega)).mp hc; omega
        subst he
        exact HV _ _ _ _ rfl dX0_putInAll_25 ⟨rfl, rfl, rfl⟩
      · have hlt : i < x 6 := by have := mt (nI_leI (by omega) (by omega)).mpr hc; omega
        refine j_aload_n C dX0_putInAll_10 rfl ?_
        refine jg_X0_numbers C dX0_putInAll_11 n_X0_putInAll_X0 (by decide +kernel) (Nat.lt_of_lt_of_le (by decide) hnp) ?_
        refine j_iload_n C dX0_putInAll_14 rfl ?_
        refine j_aald C i dX0_putInAll_15 (Nat.lt_of_lt_of_le (by decide) hnp) rfl (by omega) ?_
        refine j_iload_n C dX0_putInAll_16 rfl ?_
        refine j_iload_n C dX0_putInAll_17 rfl ?_
        refine j_iast C n0 dX0_putInAll_18 (by omega) (isI_row (by omega)) rfl (by rw [LN_row (by omega)]; exact hn) ?_
        rw [piF_s]
        refine j_iincN (n := 1) C dX0_putInAll_19 rfl (by decide) ?_
        refine j_goto C 2 dX0_putInAll_22 (by decide) ?_
        exact ih (i + 1) (by omega) (by omega)
  refine j_iconst (v := 0) C dX0_putInAll_0 rfl ?_
  refine j_istore_n C dX0_putInAll_1 (by decide) ?_
  have hL0 := hL (x 6 + 1) 0 (by omega) (by omega)
  rw [piF_0] at hL0
  exact hL0
theorem n_X0_countCounted_X0 : ∀ w ∈ wsX00, w ∈ wsX0_countCounted := by decide +kernel
set_option maxHeartbeats 4000000 in
set_option maxRecDepth 100000 in
theorem c_X0_countCounted {l : Launch} {D : va_G} {cI cZ cQ : ClassId} {ad : Nat → Nat} {np : Nat} {x : Nat → Nat} {g : Nat → Nat → Int32} (hnp : 27 ≤ np) {b : Nat → Nat → Int32} (hb : g 17 = b 17) (h6 : x 6 ≤ 8) : Cn l D cI cZ cQ ad np 0 yX0_countCounted wsX0_countCounted [.ref (ad 3)] x g (rp (cntF b (x 6)) x g) := by
  refine cn_of (own := RX0) (by decide) rfl rfl (by simp [Value.category]) (Nat.le_of_ble_eq_true rfl) ?_
  intro p e s m args below meth c A Q C HR HV
  have hL : ∀ (n : Nat) (i : Nat) (r : Int32), i ≤ x 6 → x 6 - i < n → r = cntF b i → J p l e (Rm 0) s m args below meth c 0 0 D cI cZ cQ ad np A 3 Q x g 4 [some (.ref (ad 3)), some (.int r), some (.int (nI i))] [] := by
    intro n
    induction n with
    | zero => intros; omega
    | succ n ih =>
      intro i r h1 h2 hr
      refine j_iload_n C dX0_countCounted_4 rfl ?_
      refine j_aload_n C dX0_countCounted_5 rfl ?_
      refine jg_X0_count C dX0_countCounted_6 n_X0_countCounted_X0 (by decide +kernel) (Nat.lt_of_lt_of_le (by decide) hnp) ?_
      refine j_icmp_ge C 30 dX0_countCounted_9 (by decide) (fun hc => ?_) (fun hc => ?_)
      · have he : i = x 6 := by have := (nI_leI (by omega) (by omega)).mp hc; omega
        subst he
        refine j_iload_n C dX0_countCounted_30 rfl ?_
        exact HR _ _ _ _ _ _ rfl rfl dX0_countCounted_31 ⟨_, rfl, hr, rfl, rfl⟩
      · have hlt : i < x 6 := by have := mt (nI_leI (by omega) (by omega)).mpr hc; omega
        refine j_aload_n C dX0_countCounted_12 rfl ?_
        refine jg_X0_kept C dX0_countCounted_13 n_X0_countCounted_X0 (by decide +kernel) (Nat.lt_of_lt_of_le (by decide) hnp) ?_
        refine j_iload_n C dX0_countCounted_16 rfl ?_
        refine j_zald C _ dX0_countCounted_17 (Nat.lt_of_lt_of_le (by decide) hnp) (Or.inl rfl) rfl (by omega) ?_
        refine j_if_ne C 24 dX0_countCounted_18 (by decide) (fun hc18 => ?_) (fun hc18 => ?_)
        · refine j_iincN (n := 1) C dX0_countCounted_24 rfl (by decide) ?_
          refine j_goto C 4 dX0_countCounted_27 (by decide) ?_
          first
          | exact ih (i + 1) _ (by omega) (by omega) (by simp only [cntF]; rw [if_pos (by rw [← hb]; exact hc18), hr]; rfl)
          | exact ih (i + 1) _ (by omega) (by omega) (by simp only [cntF]; rw [if_neg (by rw [← hb]; exact hc18), hr])
        · refine j_iinc C dX0_countCounted_21 rfl rfl (by decide) ?_
          refine j_iincN (n := 1) C dX0_countCounted_24 rfl (by decide) ?_
          refine j_goto C 4 dX0_countCounted_27 (by decide) ?_
          first
          | exact ih (i + 1) _ (by omega) (by omega) (by simp only [cntF]; rw [if_pos (by rw [← hb]; exact hc18), hr]; rfl)
          | exact ih (i + 1) _ (by omega) (by omega) (by simp only [cntF]; rw [if_neg (by rw [← hb]; exact hc18), hr])
  refine j_iconst (v := 0) C dX0_countCounted_0 rfl ?_
  refine j_istore_n C dX0_countCounted_1 (by decide) ?_
  refine j_iconst (v := 0) C dX0_countCounted_2 rfl ?_
  refine j_istore_n C dX0_countCounted_3 (by decide) ?_
  exact hL (x 6 + 1) 0 _ (by omega) (by omega) rfl
theorem n_X0_countedOdds_X0 : ∀ w ∈ wsX00, w ∈ wsX0_countedOdds := by decide +kernel
set_option maxHeartbeats 4000000 in
set_option maxRecDepth 100000 in
theorem c_X0_countedOdds {l : Launch} {D : va_G} {cI cZ cQ : ClassId} {ad : Nat → Nat} {np : Nat} {x : Nat → Nat} {g : Nat → Nat → Int32} (hnp : 27 ≤ np) {b : Nat → Nat → Int32} (hb : g 17 = b 17) (hb2 : g 16 = b 16) (h6 : x 6 ≤ 8) : Cn l D cI cZ cQ ad np 0 yX0_countedOdds wsX0_countedOdds [.ref (ad 3)] x g (rp (odsF b (x 6)) x g) := by
  refine cn_of (own := RX0) (by decide) rfl rfl (by simp [Value.category]) (Nat.le_of_ble_eq_true rfl) ?_
  intro p e s m args below meth c A Q C HR HV
  have hL : ∀ (n : Nat) (i : Nat) (r : Int32), i ≤ x 6 → x 6 - i < n → r = odsF b i → J p l e (Rm 0) s m args below meth c 0 0 D cI cZ cQ ad np A 3 Q x g 4 [some (.ref (ad 3)), some (.int r), some (.int (nI i))] [] := by
    intro n
    induction n with
    | zero => intros; omega
    | succ n ih =>
      intro i r h1 h2 hr
      refine j_iload_n C dX0_countedOdds_4 rfl ?_
      refine j_aload_n C dX0_countedOdds_5 rfl ?_
      refine jg_X0_count C dX0_countedOdds_6 n_X0_countedOdds_X0 (by decide +kernel) (Nat.lt_of_lt_of_le (by decide) hnp) ?_
      refine j_icmp_ge C 36 dX0_countedOdds_9 (by decide) (fun hc => ?_) (fun hc => ?_)
      · have he : i = x 6 := by have := (nI_leI (by omega) (by omega)).mp hc; omega
        subst he
        refine j_iload_n C dX0_countedOdds_36 rfl ?_
        exact HR _ _ _ _ _ _ rfl rfl dX0_countedOdds_37 ⟨_, rfl, hr, rfl, rfl⟩
      · have hlt : i < x 6 := by have := mt (nI_leI (by omega) (by omega)).mpr hc; omega
        refine j_aload_n C dX0_countedOdds_12 rfl ?_
        refine jg_X0_kept C dX0_countedOdds_13 n_X0_countedOdds_X0 (by decide +kernel) (Nat.lt_of_lt_of_le (by decide) hnp) ?_
        refine j_iload_n C dX0_countedOdds_16 rfl ?_
        refine j_zald C _ dX0_countedOdds_17 (Nat.lt_of_lt_of_le (by decide) hnp) (Or.inl rfl) rfl (by omega) ?_
        refine j_if_ne C 30 dX0_countedOdds_18 (by decide) (fun hc18 => ?_) (fun hc18 => ?_)
        · refine j_iincN (n := 1) C dX0_countedOdds_30 rfl (by decide) ?_
          refine j_goto C 4 dX0_countedOdds_33 (by decide) ?_
          first
          | exact ih (i + 1) _ (by omega) (by omega) (by simp only [odsF]; rw [if_pos (by rw [← hb]; exact hc18), hr, ← hb2])
          | exact ih (i + 1) _ (by omega) (by omega) (by simp only [odsF]; rw [if_neg (by rw [← hb]; exact hc18), hr])
        · refine j_iload_n C dX0_countedOdds_21 rfl ?_
          refine j_aload_n C dX0_countedOdds_22 rfl ?_
          refine jg_X0_odds C dX0_countedOdds_23 n_X0_countedOdds_X0 (by decide +kernel) (Nat.lt_of_lt_of_le (by decide) hnp) ?_
          refine j_iload_n C dX0_countedOdds_26 rfl ?_
          refine j_iald C _ dX0_countedOdds_27 (Nat.lt_of_lt_of_le (by decide) hnp) rfl rfl (show _ < 8 by omega) ?_
          refine j_iadd C dX0_countedOdds_28 ?_
          refine j_istore_n C dX0_countedOdds_29 (by decide) ?_
          refine j_iincN (n := 1) C dX0_countedOdds_30 rfl (by decide) ?_
          refine j_goto C 4 dX0_countedOdds_33 (by decide) ?_
          first
          | exact ih (i + 1) _ (by omega) (by omega) (by simp only [odsF]; rw [if_pos (by rw [← hb]; exact hc18), hr, ← hb2])
          | exact ih (i + 1) _ (by omega) (by omega) (by simp only [odsF]; rw [if_neg (by rw [← hb]; exact hc18), hr])
  refine j_iconst (v := 0) C dX0_countedOdds_0 rfl ?_
  refine j_istore_n C dX0_countedOdds_1 (by decide) ?_
  refine j_iconst (v := 0) C dX0_countedOdds_2 rfl ?_
  refine j_istore_n C dX0_countedOdds_3 (by decide) ?_
  exact hL (x 6 + 1) 0 _ (by omega) (by omega) rfl
theorem n_X0_add_X0 : ∀ w ∈ wsX00, w ∈ wsX0_add := by decide +kernel
theorem n_X0_add_X1 : ∀ w ∈ wsX10, w ∈ wsX0_add := by decide +kernel
set_option maxHeartbeats 4000000 in
set_option maxRecDepth 100000 in
theorem c_X0_add {l : Launch} {D : va_G} {cI cZ cQ : ClassId} {ad : Nat → Nat} {np : Nat} {x : Nat → Nat} {g : Nat → Nat → Int32} (hnp : 27 ≤ np) {od kp : Int32} (hkp : vp_nar .boolean kp = kp) (h6 : x 6 < 8) (h4 : x 4 ≤ 12) : Cn l D cI cZ cQ ad np 0 yX0_add wsX0_add [.ref (ad 3), .int od, .int kp, .ref (ad 1)] x g (rp (nI (x 6)) (va_up x 6 (x 6 + 1)) (va_up (va_up (va_up g 16 (upd (g 16) (x 6) od)) 17 (upd (g 17) (x 6) kp)) (19 + x 6) (cpF (g (19 + x 6)) (g 10) (x 4)))) := by
  refine cn_of (own := RX0) (by decide) rfl rfl (by simp [Value.category]) (Nat.le_of_ble_eq_true rfl) ?_
  intro p e s m args below meth c A Q C HR HV
  have hL : ∀ (n : Nat) (i : Nat), i ≤ x 4 → x 4 - i < n → J p l e (Rm 0) s m args below meth c 0 0 D cI cZ cQ ad np A 5 Q x (va_up (va_up (va_up g 16 (upd (g 16) (x 6) od)) 17 (upd (g 17) (x 6) kp)) (19 + x 6) (cpF (g (19 + x 6)) (g 10) i)) 23 [some (.ref (ad 3)), some (.int od), some (.int kp), some (.ref (ad 1)), some (.int (nI i))] [] := by
    intro n
    induction n with
    | zero => intros; omega
    | succ n ih =>
      intro i h1 h2
      refine j_iload C dX0_add_23 rfl ?_
      refine j_aload_n C dX0_add_25 rfl ?_
      refine jg_X1_count C dX0_add_26 n_X0_add_X1 (by decide +kernel) (Nat.lt_of_lt_of_le (by decide) hnp) ?_
      refine j_icmp_ge C 57 dX0_add_29 (by decide) (fun hc => ?_) (fun hc => ?_)
      · have he : i = x 4 := by have := (nI_leI (by omega) (by omega)).mp hc; omega
        subst he
        refine j_aload_n C dX0_add_57 rfl ?_
        refine j_dup C dX0_add_58 rfl ?_
        refine jg_X0_count C dX0_add_59 n_X0_add_X0 (by decide +kernel) (Nat.lt_of_lt_of_le (by decide) hnp) ?_
        refine j_iconst (v := 1) C dX0_add_62 rfl ?_
        refine j_iadd C dX0_add_63 ?_
        refine jp_X0_count C (x 6 + 1) dX0_add_64 n_X0_add_X0 (by decide +kernel) (Nat.lt_of_lt_of_le (by decide) hnp) (nI_1 (x 6)) ?_
        refine j_aload_n C dX0_add_67 rfl ?_
        refine jg_X0_count C dX0_add_68 n_X0_add_X0 (by decide +kernel) (Nat.lt_of_lt_of_le (by decide) hnp) ?_
        refine j_iconst (v := 1) C dX0_add_71 rfl ?_
        refine j_isub C dX0_add_72 ?_
        rw [va_us, nI_pred]
        exact HR _ _ _ _ _ _ rfl rfl dX0_add_73 ⟨_, rfl, rfl, rfl, rfl⟩
      · have hlt : i < x 4 := by have := mt (nI_leI (by omega) (by omega)).mpr hc; omega
        refine j_aload_n C dX0_add_32 rfl ?_
        refine jg_X0_numbers C dX0_add_33 n_X0_add_X0 (by decide +kernel) (Nat.lt_of_lt_of_le (by decide) hnp) ?_
        refine j_aload_n C dX0_add_36 rfl ?_
        refine jg_X0_count C dX0_add_37 n_X0_add_X0 (by decide +kernel) (Nat.lt_of_lt_of_le (by decide) hnp) ?_
        refine j_aald C (x 6) dX0_add_40 (Nat.lt_of_lt_of_le (by decide) hnp) rfl (by omega) ?_
        refine j_iload C dX0_add_41 rfl ?_
        refine j_aload_n C dX0_add_43 rfl ?_
        refine jg_X1_usual C dX0_add_44 n_X0_add_X1 (by decide +kernel) (Nat.lt_of_lt_of_le (by decide) hnp) ?_
        refine j_iload C dX0_add_47 rfl ?_
        refine j_iald C i dX0_add_49 (Nat.lt_of_lt_of_le (by decide) hnp) rfl rfl (show _ < 12 by omega) ?_
        refine j_iast C i dX0_add_50 (by omega) (isI_row (by omega)) rfl (by rw [LN_row (by omega)]; omega) ?_
        rw [va_us, va_uu, va_un _ _ 10 _ (by omega), va_un _ 17 10 _ (by decide), va_un _ 16 10 _ (by decide), cpF_s]
        refine j_iincN (n := 1) C dX0_add_51 rfl (by decide) ?_
        refine j_goto C 23 dX0_add_54 (by decide) ?_
        exact ih (i + 1) (by omega) (by omega)
  refine j_aload_n C dX0_add_0 rfl ?_
  refine jg_X0_odds C dX0_add_1 n_X0_add_X0 (by decide +kernel) (Nat.lt_of_lt_of_le (by decide) hnp) ?_
  refine j_aload_n C dX0_add_4 rfl ?_
  refine jg_X0_count C dX0_add_5 n_X0_add_X0 (by decide +kernel) (Nat.lt_of_lt_of_le (by decide) hnp) ?_
  refine j_iload_n C dX0_add_8 rfl ?_
  refine j_iast C _ dX0_add_9 (Nat.lt_of_lt_of_le (by decide) hnp) rfl rfl (show _ < 8 by omega) ?_
  refine j_aload_n C dX0_add_10 rfl ?_
  refine jg_X0_kept C dX0_add_11 n_X0_add_X0 (by decide +kernel) (Nat.lt_of_lt_of_le (by decide) hnp) ?_
  refine j_aload_n C dX0_add_14 rfl ?_
  refine jg_X0_count C dX0_add_15 n_X0_add_X0 (by decide +kernel) (Nat.lt_of_lt_of_le (by decide) hnp) ?_
  refine j_iload_n C dX0_add_18 rfl ?_
  refine j_zast C _ dX0_add_19 (Nat.lt_of_lt_of_le (by decide) hnp) (Or.inl rfl) rfl (by omega) hkp ?_
  refine j_iconst (v := 0) C dX0_add_20 rfl ?_
  refine j_istore C dX0_add_21 (by decide) ?_
  have hL0 := hL (x 4 + 1) 0 (by omega) (by omega)
  rw [cpF_0, show g (19 + x 6) = (va_up (va_up g 16 (upd (g 16) (x 6) od)) 17 (upd (g 17) (x 6) kp)) (19 + x 6) by rw [va_un _ _ _ _ (by omega), va_un _ _ _ _ (by omega)], va_id] at hL0
  rw [va_un _ 16 17 _ (by decide)]
  exact hL0
theorem n_X1_add_X1 : ∀ w ∈ wsX10, w ∈ wsX1_add := by decide +kernel
set_option maxHeartbeats 4000000 in
set_option maxRecDepth 100000 in
theorem c_X1_add {l : Launch} {D : va_G} {cI cZ cQ : ClassId} {ad : Nat → Nat} {np : Nat} {x : Nat → Nat} {g : Nat → Nat → Int32} (hnp : 27 ≤ np) {lo us hi : Int32} (h4 : x 4 < 12) : Cn l D cI cZ cQ ad np 0 yX1_add wsX1_add [.ref (ad 1), .int lo, .int us, .int hi] x g (rp (nI (x 4)) (va_up x 4 (x 4 + 1)) (va_up (va_up (va_up g 9 (upd (g 9) (x 4) lo)) 10 (upd (g 10) (x 4) us)) 11 (upd (g 11) (x 4) hi))) := by
  refine cn_of (own := RX1) (by decide) rfl rfl (by simp [Value.category]) (Nat.le_of_ble_eq_true rfl) ?_
  intro p e s m args below meth c A Q C HR HV
  refine j_aload_n C dX1_add_0 rfl ?_
  refine jg_X1_least C dX1_add_1 n_X1_add_X1 (by decide +kernel) (Nat.lt_of_lt_of_le (by decide) hnp) ?_
  refine j_aload_n C dX1_add_4 rfl ?_
  refine jg_X1_count C dX1_add_5 n_X1_add_X1 (by decide +kernel) (Nat.lt_of_lt_of_le (by decide) hnp) ?_
  refine j_iload_n C dX1_add_8 rfl ?_
  refine j_iast C _ dX1_add_9 (Nat.lt_of_lt_of_le (by decide) hnp) rfl rfl (show _ < 12 by omega) ?_
  refine j_aload_n C dX1_add_10 rfl ?_
  refine jg_X1_usual C dX1_add_11 n_X1_add_X1 (by decide +kernel) (Nat.lt_of_lt_of_le (by decide) hnp) ?_
  refine j_aload_n C dX1_add_14 rfl ?_
  refine jg_X1_count C dX1_add_15 n_X1_add_X1 (by decide +kernel) (Nat.lt_of_lt_of_le (by decide) hnp) ?_
  refine j_iload_n C dX1_add_18 rfl ?_
  refine j_iast C _ dX1_add_19 (Nat.lt_of_lt_of_le (by decide) hnp) rfl rfl (show _ < 12 by omega) ?_
  refine j_aload_n C dX1_add_20 rfl ?_
  refine jg_X1_greatest C dX1_add_21 n_X1_add_X1 (by decide +kernel) (Nat.lt_of_lt_of_le (by decide) hnp) ?_
  refine j_aload_n C dX1_add_24 rfl ?_
  refine jg_X1_count C dX1_add_25 n_X1_add_X1 (by decide +kernel) (Nat.lt_of_lt_of_le (by decide) hnp) ?_
  refine j_iload_n C dX1_add_28 rfl ?_
  refine j_iast C _ dX1_add_29 (Nat.lt_of_lt_of_le (by decide) hnp) rfl rfl (show _ < 12 by omega) ?_
  refine j_aload_n C dX1_add_30 rfl ?_
  refine j_dup C dX1_add_31 rfl ?_
  refine jg_X1_count C dX1_add_32 n_X1_add_X1 (by decide +kernel) (Nat.lt_of_lt_of_le (by decide) hnp) ?_
  refine j_iconst (v := 1) C dX1_add_35 rfl ?_
  refine j_iadd C dX1_add_36 ?_
  refine jp_X1_count C (x 4 + 1) dX1_add_37 n_X1_add_X1 (by decide +kernel) (Nat.lt_of_lt_of_le (by decide) hnp) (nI_1 (x 4)) ?_
  refine j_aload_n C dX1_add_40 rfl ?_
  refine jg_X1_count C dX1_add_41 n_X1_add_X1 (by decide +kernel) (Nat.lt_of_lt_of_le (by decide) hnp) ?_
  refine j_iconst (v := 1) C dX1_add_44 rfl ?_
  refine j_isub C dX1_add_45 ?_
  rw [va_us, nI_pred, va_un _ 9 10 _ (by decide), va_un _ 10 11 _ (by decide), va_un _ 9 11 _ (by decide)]
  exact HR _ _ _ _ _ _ rfl rfl dX1_add_46 ⟨_, rfl, rfl, rfl, rfl⟩
theorem n_X2_add_X2 : ∀ w ∈ wsX20, w ∈ wsX2_add := by decide +kernel
set_option maxHeartbeats 4000000 in
set_option maxRecDepth 100000 in
theorem c_X2_add {l : Launch} {D : va_G} {cI cZ cQ : ClassId} {ad : Nat → Nat} {np : Nat} {x : Nat → Nat} {g : Nat → Nat → Int32} (hnp : 27 ≤ np) {rw ch nm fc : Int32} (h5 : x 5 < 40) : Cn l D cI cZ cQ ad np 0 yX2_add wsX2_add [.ref (ad 2), .int rw, .int ch, .int nm, .int fc] x g (rp (nI (x 5 + 1)) (va_up x 5 (x 5 + 1)) (va_up (va_up (va_up (va_up g 12 (upd (g 12) (x 5) rw)) 13 (upd (g 13) (x 5) ch)) 14 (upd (g 14) (x 5) nm)) 15 (upd (g 15) (x 5) fc))) := by
  refine cn_of (own := RX2) (by decide) rfl rfl (by simp [Value.category]) (Nat.le_of_ble_eq_true rfl) ?_
  intro p e s m args below meth c A Q C HR HV
  refine j_aload_n C dX2_add_0 rfl ?_
  refine jg_X2_rowOf C dX2_add_1 n_X2_add_X2 (by decide +kernel) (Nat.lt_of_lt_of_le (by decide) hnp) ?_
  refine j_aload_n C dX2_add_4 rfl ?_
  refine jg_X2_count C dX2_add_5 n_X2_add_X2 (by decide +kernel) (Nat.lt_of_lt_of_le (by decide) hnp) ?_
  refine j_iload_n C dX2_add_8 rfl ?_
  refine j_iast C _ dX2_add_9 (Nat.lt_of_lt_of_le (by decide) hnp) rfl rfl (show _ < 40 by omega) ?_
  refine j_aload_n C dX2_add_10 rfl ?_
  refine jg_X2_choiceOf C dX2_add_11 n_X2_add_X2 (by decide +kernel) (Nat.lt_of_lt_of_le (by decide) hnp) ?_
  refine j_aload_n C dX2_add_14 rfl ?_
  refine jg_X2_count C dX2_add_15 n_X2_add_X2 (by decide +kernel) (Nat.lt_of_lt_of_le (by decide) hnp) ?_
  refine j_iload_n C dX2_add_18 rfl ?_
  refine j_iast C _ dX2_add_19 (Nat.lt_of_lt_of_le (by decide) hnp) rfl rfl (show _ < 40 by omega) ?_
  refine j_aload_n C dX2_add_20 rfl ?_
  refine jg_X2_nameOf C dX2_add_21 n_X2_add_X2 (by decide +kernel) (Nat.lt_of_lt_of_le (by decide) hnp) ?_
  refine j_aload_n C dX2_add_24 rfl ?_
  refine jg_X2_count C dX2_add_25 n_X2_add_X2 (by decide +kernel) (Nat.lt_of_lt_of_le (by decide) hnp) ?_
  refine j_iload_n C dX2_add_28 rfl ?_
  refine j_iast C _ dX2_add_29 (Nat.lt_of_lt_of_le (by decide) hnp) rfl rfl (show _ < 40 by omega) ?_
  refine j_aload_n C dX2_add_30 rfl ?_
  refine jg_X2_factorOf C dX2_add_31 n_X2_add_X2 (by decide +kernel) (Nat.lt_of_lt_of_le (by decide) hnp) ?_
  refine j_aload_n C dX2_add_34 rfl ?_
  refine jg_X2_count C dX2_add_35 n_X2_add_X2 (by decide +kernel) (Nat.lt_of_lt_of_le (by decide) hnp) ?_
  refine j_iload C dX2_add_38 rfl ?_
  refine j_iast C _ dX2_add_40 (Nat.lt_of_lt_of_le (by decide) hnp) rfl rfl (show _ < 40 by omega) ?_
  refine j_aload_n C dX2_add_41 rfl ?_
  refine j_dup C dX2_add_42 rfl ?_
  refine jg_X2_count C dX2_add_43 n_X2_add_X2 (by decide +kernel) (Nat.lt_of_lt_of_le (by decide) hnp) ?_
  refine j_iconst (v := 1) C dX2_add_46 rfl ?_
  refine j_iadd C dX2_add_47 ?_
  refine jp_X2_count C (x 5 + 1) dX2_add_48 n_X2_add_X2 (by decide +kernel) (Nat.lt_of_lt_of_le (by decide) hnp) (nI_1 (x 5)) ?_
  refine j_aload_n C dX2_add_51 rfl ?_
  refine jg_X2_count C dX2_add_52 n_X2_add_X2 (by decide +kernel) (Nat.lt_of_lt_of_le (by decide) hnp) ?_
  rw [va_us, va_un _ 12 13 _ (by decide), va_un _ 13 14 _ (by decide), va_un _ 12 14 _ (by decide), va_un _ 14 15 _ (by decide), va_un _ 13 15 _ (by decide), va_un _ 12 15 _ (by decide)]
  exact HR _ _ _ _ _ _ rfl rfl dX2_add_55 ⟨_, rfl, rfl, rfl, rfl⟩
theorem n_X2_isTaken_X2 : ∀ w ∈ wsX20, w ∈ wsX2_isTaken := by decide +kernel
set_option maxHeartbeats 4000000 in
set_option maxRecDepth 100000 in
theorem c_X2_isTaken {l : Launch} {D : va_G} {cI cZ cQ : ClassId} {ad : Nat → Nat} {np : Nat} {x : Nat → Nat} {g : Nat → Nat → Int32} (hnp : 27 ≤ np) {b : Nat → Nat → Int32} {i : Nat} {plan : Int32} (hb : g 13 = b 13) (hi : i < 40) (hch : b 13 i = -1 ∨ ¬ b 13 i < 0) : Cn l D cI cZ cQ ad np 0 yX2_isTaken wsX2_isTaken [.ref (ad 2), .int (nI i), .int plan] x g (rp (bI (tkF b plan i)) x g) := by
  refine cn_of (own := RX2) (by decide) rfl rfl (by simp [Value.category]) (Nat.le_of_ble_eq_true rfl) ?_
  intro p e s m args below meth c A Q C HR HV
  refine j_aload_n C dX2_isTaken_0 rfl ?_
  refine jg_X2_choiceOf C dX2_isTaken_1 n_X2_isTaken_X2 (by decide +kernel) (Nat.lt_of_lt_of_le (by decide) hnp) ?_
  refine j_iload_n C dX2_isTaken_4 rfl ?_
  refine j_iald C i dX2_isTaken_5 (Nat.lt_of_lt_of_le (by decide) hnp) rfl rfl (show _ < 40 by omega) ?_
  refine j_iconst (v := (-1)) C dX2_isTaken_6 rfl ?_
  refine j_icmp_eq C 24 dX2_isTaken_7 (by decide) (fun hc7 => ?_) (fun hc7 => ?_)
  · refine j_iconst (v := 1) C dX2_isTaken_24 rfl ?_
    refine j_goto C 29 dX2_isTaken_25 (by decide) ?_
    exact HR _ _ _ _ _ _ rfl rfl dX2_isTaken_29 ⟨_, rfl, by simp only [tkF, ← hb]; simp_all [bI], rfl, rfl⟩
  · refine j_iload_n C dX2_isTaken_10 rfl ?_
    refine j_aload_n C dX2_isTaken_11 rfl ?_
    refine jg_X2_choiceOf C dX2_isTaken_12 n_X2_isTaken_X2 (by decide +kernel) (Nat.lt_of_lt_of_le (by decide) hnp) ?_
    refine j_iload_n C dX2_isTaken_15 rfl ?_
    refine j_iald C i dX2_isTaken_16 (Nat.lt_of_lt_of_le (by decide) hnp) rfl rfl (show _ < 40 by omega) ?_
    refine j_ishr C dX2_isTaken_17 ?_
    refine j_iconst (v := 1) C dX2_isTaken_18 rfl ?_
    refine j_iand C dX2_isTaken_19 ?_
    refine j_iconst (v := 1) C dX2_isTaken_20 rfl ?_
    refine j_icmp_ne C 28 dX2_isTaken_21 (by decide) (fun hc21 => ?_) (fun hc21 => ?_)
    · refine j_iconst (v := 0) C dX2_isTaken_28 rfl ?_
      exact HR _ _ _ _ _ _ rfl rfl dX2_isTaken_29 ⟨_, rfl, by simp only [tkF, ← hb]; simp_all [bI], rfl, rfl⟩
    · refine j_iconst (v := 1) C dX2_isTaken_24 rfl ?_
      refine j_goto C 29 dX2_isTaken_25 (by decide) ?_
      exact HR _ _ _ _ _ _ rfl rfl dX2_isTaken_29 ⟨_, rfl, by simp only [tkF, ← hb]; simp_all [bI], rfl, rfl⟩
