theorem n_X3_allHold_X0 : ∀ w ∈ wsX00, w ∈ wsX3_allHold := by decide +kernel
theorem n_X3_allHold_X3 : ∀ w ∈ wsX30, w ∈ wsX3_allHold := by decide +kernel
set_option maxHeartbeats 4000000 in
set_option maxRecDepth 100000 in
theorem c_X3_allHold {l : Launch} {D : va_G} {cI cZ cQ : ClassId} {ad : Nat → Nat} {np : Nat} {x : Nat → Nat} {g : Nat → Nat → Int32} (hnp : 27 ≤ np) {a : Nat → Nat} {b nu : Nat → Nat → Int32} (hX : RX x g a b nu) (hW : WF a b nu) {plan : Int32} {i0 : Nat} (hi0 : i0 < a 6) : Cn l D cI cZ cQ ad np 2 yX3_allHold wsX3_allHold [.ref (ad 0), .int plan, .int (nI i0)] x g (ri (fun r x' g' => r = bI (hoF a b nu plan i0) ∧ x' = x ∧ S4 g g' ∧ g' 4 0 = coF a b nu plan i0)) := by
  refine cn_of (own := RX3) (by decide) rfl rfl (by simp [Value.category]) (Nat.le_of_ble_eq_true rfl) ?_
  intro p e s m args below meth c A Q C HR HV
  obtain ⟨hx, hg, hnu⟩ := id hX
  obtain ⟨⟨w0, ⟨w1, w1'⟩, w2, w3, w4, w5, w6⟩, wt, wn, wq⟩ := id hW
  have e0 := hx 0 (by decide)
  have e1 := hx 1 (by decide)
  have e2 := hx 2 (by decide)
  have e3 := hx 3 (by decide)
  have e4 := hx 4 (by decide)
  have e5 := hx 5 (by decide)
  have e6 := hx 6 (by decide)
  have b9 := hg 9 (by decide) (by decide)
  have b10 := hg 10 (by decide) (by decide)
  have b11 := hg 11 (by decide) (by decide)
  have b12 := hg 12 (by decide) (by decide)
  have b13 := hg 13 (by decide) (by decide)
  have b14 := hg 14 (by decide) (by decide)
  have b15 := hg 15 (by decide) (by decide)
  have b16 := hg 16 (by decide) (by decide)
  have b17 := hg 17 (by decide) (by decide)
  refine j_aload_n C dX3_allHold_0 rfl ?_
  refine jg_X3_terms C dX3_allHold_1 n_X3_allHold_X3 (by decide +kernel) (Nat.lt_of_lt_of_le (by decide) hnp) ?_
  refine j_iload_n C dX3_allHold_4 rfl ?_
  refine j_aload_n C dX3_allHold_5 rfl ?_
  refine jg_X3_listed C dX3_allHold_6 n_X3_allHold_X3 (by decide +kernel) (Nat.lt_of_lt_of_le (by decide) hnp) ?_
  refine jg_X0_numbers C dX3_allHold_9 n_X3_allHold_X0 (by decide +kernel) (Nat.lt_of_lt_of_le (by decide) hnp) ?_
  refine j_iload_n C dX3_allHold_12 rfl ?_
  refine j_aald C i0 dX3_allHold_13 (Nat.lt_of_lt_of_le (by decide) hnp) rfl (by omega) ?_
  refine j_aload_n C dX3_allHold_14 rfl ?_
  refine jg_X3_sums C dX3_allHold_15 n_X3_allHold_X3 (by decide +kernel) (Nat.lt_of_lt_of_le (by decide) hnp) ?_
  refine jVv3 (ci := 2) C dX3_allHold_18 gX3_allHold_X2_sumUp rfl pd_X2_sumUp ⟨by decide, by decide⟩ (Nat.lt_of_lt_of_le (by decide) hnp) rfl rfl rfl (Nat.le_of_ble_eq_true rfl) (c_X2_sumUp (num := nu i0) (k := 19 + i0) hnp hX hW (by omega) (isI_row (by omega)) (LN_row (by omega)) (by omega) (hnu i0 (by omega))) (fun x2 g2 hp => ?_)
  obtain ⟨hxe, f, rfl, hf⟩ := hp
  have hxe := hxe.symm
  subst hxe
  have hL : ∀ (n : Nat) (i : Nat), i ≤ a 0 → a 0 - i < n → hoN a b (nu i0) plan i = true → J p l e (Rm 2) s m args below meth c 0 0 D cI cZ cQ ad np A 4 Q x (va_up g 4 f) 23 [some (.ref (ad 0)), some (.int plan), some (.int (nI i0)), some (.int (nI i))] [] := by
    intro n
    induction n with
    | zero => intros; omega
    | succ n ih =>
      intro i h1 h2 hv
      refine j_iload_n C dX3_allHold_23 rfl ?_
      refine j_aload_n C dX3_allHold_24 rfl ?_
      refine jg_X3_rowCount C dX3_allHold_25 n_X3_allHold_X3 (by decide +kernel) (Nat.lt_of_lt_of_le (by decide) hnp) ?_
      refine j_icmp_ge C 51 dX3_allHold_28 (by decide) (fun hc => ?_) (fun hc => ?_)
      · have he : i = a 0 := by have := (nI_leI (by omega) (by omega)).mp hc; omega
        subst he
        refine j_iconst (v := 1) C dX3_allHold_51 rfl ?_
        exact HR _ _ _ _ _ _ rfl rfl dX3_allHold_52 ⟨_, rfl, by unfold hoF; rw [hv]; rfl, rfl, S4.up, by rw [va_us]; exact hf 0 (by omega)⟩
      · have hlt : i < a 0 := by have := mt (nI_leI (by omega) (by omega)).mpr hc; omega
        refine j_aload_n C dX3_allHold_31 rfl ?_
        refine jg_X3_sums C dX3_allHold_32 n_X3_allHold_X3 (by decide +kernel) (Nat.lt_of_lt_of_le (by decide) hnp) ?_
        refine j_iload_n C dX3_allHold_35 rfl ?_
        refine jSp1 C dX3_allHold_36 gX3_allHold_X3_slotOf rfl pd_X3_slotOf ⟨by decide, by decide⟩ (Nat.le_of_ble_eq_true rfl) c_X3_slotOf ?_
        refine j_iald C (i + 1) dX3_allHold_39 (Nat.lt_of_lt_of_le (by decide) hnp) rfl (slot_s i) (show _ < 11 by omega) ?_
        rw [va_us, hf (i + 1) (by omega), nI_pred]
        refine j_if_le C 45 dX3_allHold_40 (by decide) (fun hc40 => ?_) (fun hc40 => ?_)
        · refine j_iincN (n := 1) C dX3_allHold_45 rfl (by decide) ?_
          refine j_goto C 23 dX3_allHold_48 (by decide) ?_
          exact ih (i + 1) (by omega) (by omega) (by unfold hoN; rw [hv, decide_eq_false (Int32.not_lt.mpr hc40)]; rfl)
        · refine j_iconst (v := 0) C dX3_allHold_43 rfl ?_
          exact HR _ _ _ _ _ _ rfl rfl dX3_allHold_44 ⟨_, rfl, by unfold hoF; rw [hoN_f (Int32.not_le.mp hc40) _ hlt]; rfl, rfl, S4.up, by rw [va_us]; exact hf 0 (by omega)⟩
  refine j_iconst (v := 0) C dX3_allHold_21 rfl ?_
  refine j_istore_n C dX3_allHold_22 (by decide) ?_
  exact hL (a 0 + 1) 0 (by omega) (by omega) rfl
theorem n_X3_costOf_X0 : ∀ w ∈ wsX00, w ∈ wsX3_costOf := by decide +kernel
theorem n_X3_costOf_X3 : ∀ w ∈ wsX30, w ∈ wsX3_costOf := by decide +kernel
set_option maxHeartbeats 4000000 in
set_option maxRecDepth 100000 in
theorem c_X3_costOf {l : Launch} {D : va_G} {cI cZ cQ : ClassId} {ad : Nat → Nat} {np : Nat} {x : Nat → Nat} {g : Nat → Nat → Int32} (hnp : 27 ≤ np) {a : Nat → Nat} {b nu : Nat → Nat → Int32} (hX : RX x g a b nu) (hW : WF a b nu) {plan : Int32} {i0 : Nat} (hi0 : i0 < a 6) : Cn l D cI cZ cQ ad np 2 yX3_costOf wsX3_costOf [.ref (ad 0), .int plan, .int (nI i0)] x g (ri (fun r x' g' => r = coF a b nu plan i0 ∧ x' = x ∧ S4 g g')) := by
  refine cn_of (own := RX3) (by decide) rfl rfl (by simp [Value.category]) (Nat.le_of_ble_eq_true rfl) ?_
  intro p e s m args below meth c A Q C HR HV
  obtain ⟨hx, hg, hnu⟩ := id hX
  obtain ⟨⟨w0, ⟨w1, w1'⟩, w2, w3, w4, w5, w6⟩, wt, wn, wq⟩ := id hW
  have e0 := hx 0 (by decide)
  have e1 := hx 1 (by decide)
  have e2 := hx 2 (by decide)
  have e3 := hx 3 (by decide)
  have e4 := hx 4 (by decide)
  have e5 := hx 5 (by decide)
  have e6 := hx 6 (by decide)
  have b9 := hg 9 (by decide) (by decide)
  have b10 := hg 10 (by decide) (by decide)
  have b11 := hg 11 (by decide) (by decide)
  have b12 := hg 12 (by decide) (by decide)
  have b13 := hg 13 (by decide) (by decide)
  have b14 := hg 14 (by decide) (by decide)
  have b15 := hg 15 (by decide) (by decide)
  have b16 := hg 16 (by decide) (by decide)
  have b17 := hg 17 (by decide) (by decide)
  refine j_aload_n C dX3_costOf_0 rfl ?_
  refine jg_X3_terms C dX3_costOf_1 n_X3_costOf_X3 (by decide +kernel) (Nat.lt_of_lt_of_le (by decide) hnp) ?_
  refine j_iload_n C dX3_costOf_4 rfl ?_
  refine j_aload_n C dX3_costOf_5 rfl ?_
  refine jg_X3_listed C dX3_costOf_6 n_X3_costOf_X3 (by decide +kernel) (Nat.lt_of_lt_of_le (by decide) hnp) ?_
  refine jg_X0_numbers C dX3_costOf_9 n_X3_costOf_X0 (by decide +kernel) (Nat.lt_of_lt_of_le (by decide) hnp) ?_
  refine j_iload_n C dX3_costOf_12 rfl ?_
  refine j_aald C i0 dX3_costOf_13 (Nat.lt_of_lt_of_le (by decide) hnp) rfl (by omega) ?_
  refine j_aload_n C dX3_costOf_14 rfl ?_
  refine jg_X3_sums C dX3_costOf_15 n_X3_costOf_X3 (by decide +kernel) (Nat.lt_of_lt_of_le (by decide) hnp) ?_
  refine jVv3 (ci := 2) C dX3_costOf_18 gX3_costOf_X2_sumUp rfl pd_X2_sumUp ⟨by decide, by decide⟩ (Nat.lt_of_lt_of_le (by decide) hnp) rfl rfl rfl (Nat.le_of_ble_eq_true rfl) (c_X2_sumUp (num := nu i0) (k := 19 + i0) hnp hX hW (by omega) (isI_row (by omega)) (LN_row (by omega)) (by omega) (hnu i0 (by omega))) (fun x2 g2 hp => ?_)
  obtain ⟨hxe, f, rfl, hf⟩ := hp
  have hxe := hxe.symm
  subst hxe
  refine j_aload_n C dX3_costOf_21 rfl ?_
  refine jg_X3_sums C dX3_costOf_22 n_X3_costOf_X3 (by decide +kernel) (Nat.lt_of_lt_of_le (by decide) hnp) ?_
  refine j_iconst (v := (-1)) C dX3_costOf_25 rfl ?_
  refine jSp1 C dX3_costOf_26 gX3_costOf_X3_slotOf rfl pd_X3_slotOf ⟨by decide, by decide⟩ (Nat.le_of_ble_eq_true rfl) c_X3_slotOf ?_
  refine j_iald C 0 dX3_costOf_29 (Nat.lt_of_lt_of_le (by decide) hnp) rfl (by decide) (show _ < 11 by omega) ?_
  rw [va_us]
  exact HR _ _ _ _ _ _ rfl rfl dX3_costOf_30 ⟨_, rfl, hf 0 (by omega), rfl, S4.up⟩
theorem n_X3_findAnswer_X3 : ∀ w ∈ wsX30, w ∈ wsX3_findAnswer := by decide +kernel
set_option maxHeartbeats 4000000 in
set_option maxRecDepth 100000 in
theorem c_X3_findAnswer {l : Launch} {D : va_G} {cI cZ cQ : ClassId} {ad : Nat → Nat} {np : Nat} {x : Nat → Nat} {g : Nat → Nat → Int32} (hnp : 27 ≤ np) {a : Nat → Nat} {b nu : Nat → Nat → Int32} (hX : RX x g a b nu) (hW : WF a b nu) {first : Int32} {i0 : Nat} (hi0 : i0 < a 6) : Cn l D cI cZ cQ ad np 3 yX3_findAnswer wsX3_findAnswer [.ref (ad 0), .int first, .int (nI i0)] x g (ri (fun r x' g' => r = ansF a b nu first i0 ∧ x' = x ∧ S4 g g')) := by
  refine cn_of (own := RX3) (by decide) rfl rfl (by simp [Value.category]) (Nat.le_of_ble_eq_true rfl) ?_
  intro p e s m args below meth c A Q C HR HV
  obtain ⟨hx, hg, hnu⟩ := id hX
  obtain ⟨⟨w0, ⟨w1, w1'⟩, w2, w3, w4, w5, w6⟩, wt, wn, wq⟩ := id hW
  have e0 := hx 0 (by decide)
  have e1 := hx 1 (by decide)
  have e2 := hx 2 (by decide)
  have e3 := hx 3 (by decide)
  have e4 := hx 4 (by decide)
  have e5 := hx 5 (by decide)
  have e6 := hx 6 (by decide)
  have b9 := hg 9 (by decide) (by decide)
  have b10 := hg 10 (by decide) (by decide)
  have b11 := hg 11 (by decide) (by decide)
  have b12 := hg 12 (by decide) (by decide)
  have b13 := hg 13 (by decide) (by decide)
  have b14 := hg 14 (by decide) (by decide)
  have b15 := hg 15 (by decide) (by decide)
  have b16 := hg 16 (by decide) (by decide)
  have b17 := hg 17 (by decide) (by decide)
  obtain ⟨N, hN⟩ : ∃ N, N = 2 ^ (a 2) := ⟨_, rfl⟩
  have hN2 : N ≤ 1024 := by rw [hN]; exact p2_le (by omega)
  have hL : ∀ (n : Nat) (i : Nat) (v v2 : Int32) (g2 : Nat → Nat → Int32), i ≤ N → N - i < n → S4 g g2 → selS (fun s => hoF a b nu (plF a first s) i0) (fun s => coF a b nu (plF a first s) i0) (plF a first) i = (v, v2) → J p l e (Rm 3) s m args below meth c 0 0 D cI cZ cQ ad np A 8 Q x g2 9 [some (.ref (ad 0)), some (.int first), some (.int (nI i0)), some (.int v), some (.int v2), some (.int (nI i)), none, none] [] := by
    intro n
    induction n with
    | zero => intros; omega
    | succ n ih =>
      intro i v v2 g2 h1 h2 hS hv
      refine j_iload C dX3_findAnswer_9 rfl ?_
      refine j_iconst (v := 1) C dX3_findAnswer_11 rfl ?_
      refine j_aload_n C dX3_findAnswer_12 rfl ?_
      refine jg_X3_secondCount C dX3_findAnswer_13 n_X3_findAnswer_X3 (by decide +kernel) (Nat.lt_of_lt_of_le (by decide) hnp) ?_
      refine j_ishl C dX3_findAnswer_16 ?_
      rw [e2, fcF_eq (by omega), ← hN]
      refine j_icmp_ge C 81 dX3_findAnswer_17 (by decide) (fun hc => ?_) (fun hc => ?_)
      · have he : i = N := by have := (nI_leI (by omega) (by omega)).mp hc; omega
        subst he
        refine j_iload_n C dX3_findAnswer_81 rfl ?_
        exact HR _ _ _ _ _ _ rfl rfl dX3_findAnswer_82 ⟨_, rfl, by unfold ansF; rw [← hN, hv], rfl, hS⟩
      · have hlt : i < N := by have := mt (nI_leI (by omega) (by omega)).mpr hc; omega
        refine j_iload_n C dX3_findAnswer_20 rfl ?_
        refine j_iload C dX3_findAnswer_21 rfl ?_
        refine j_aload_n C dX3_findAnswer_23 rfl ?_
        refine jg_X3_firstCount C dX3_findAnswer_24 n_X3_findAnswer_X3 (by decide +kernel) (Nat.lt_of_lt_of_le (by decide) hnp) ?_
        refine j_ishl C dX3_findAnswer_27 ?_
        refine j_ior C dX3_findAnswer_28 ?_
        rw [e1]
        refine j_eqi (v := plF a first i) rfl ?_
        refine j_istore C dX3_findAnswer_29 (by decide) ?_
        refine j_aload_n C dX3_findAnswer_31 rfl ?_
        refine j_iload C dX3_findAnswer_32 rfl ?_
        refine j_iload_n C dX3_findAnswer_34 rfl ?_
        refine jVi2 (ci := 3) C dX3_findAnswer_35 gX3_findAnswer_X3_allHold rfl pd_X3_allHold ⟨by decide, by decide⟩ (Nat.lt_of_lt_of_le (by decide) hnp) rfl rfl rfl (Nat.le_of_ble_eq_true rfl) (c_X3_allHold hnp (hX.sx hS.sx) hW hi0) (fun rr x2 g2 hp => ?_)
        obtain ⟨rfl, rfl, hS2, h40⟩ := hp
        have hS := hS.tr hS2
        refine j_if_ne C 44 dX3_findAnswer_38 (by decide) (fun hc38 => ?_) (fun hc38 => ?_)
        · refine j_aload_n C dX3_findAnswer_44 rfl ?_
          refine jg_X3_sums C dX3_findAnswer_45 n_X3_findAnswer_X3 (by decide +kernel) (Nat.lt_of_lt_of_le (by decide) hnp) ?_
          refine j_iconst (v := (-1)) C dX3_findAnswer_48 rfl ?_
          refine jSp1 C dX3_findAnswer_49 gX3_findAnswer_X3_slotOf rfl pd_X3_slotOf ⟨by decide, by decide⟩ (Nat.le_of_ble_eq_true rfl) c_X3_slotOf ?_
          refine j_iald C 0 dX3_findAnswer_52 (Nat.lt_of_lt_of_le (by decide) hnp) rfl (by decide) (show _ < 11 by omega) ?_
          rw [h40]
          refine j_istore C dX3_findAnswer_53 (by decide) ?_
          refine j_iload_n C dX3_findAnswer_55 rfl ?_
          refine j_ldc (v := (-1000000003)) C dX3_findAnswer_56 (by decide +kernel) ?_
          refine j_icmp_eq C 68 dX3_findAnswer_58 (by decide) (fun hc58 => ?_) (fun hc58 => ?_)
          · refine j_iload C dX3_findAnswer_68 rfl ?_
            refine j_istore_n C dX3_findAnswer_70 (by decide) ?_
            refine j_iload C dX3_findAnswer_71 rfl ?_
            refine j_istore C dX3_findAnswer_73 (by decide) ?_
            refine j_iincN (n := 1) C dX3_findAnswer_75 rfl (by decide) ?_
            refine j_goto C 9 dX3_findAnswer_78 (by decide) ?_
            refine j_drop 6 ?_
            refine j_drop 7 ?_
            first
            | exact ih (i + 1) _ _ _ (by omega) (by omega) hS (sel_n hv (bI_0.mp hc38))
            | exact ih (i + 1) _ _ _ (by omega) (by omega) hS (sel_t hv (bI_n0.mp hc38) (Or.inl hc58))
            | exact ih (i + 1) _ _ _ (by omega) (by omega) hS (sel_t hv (bI_n0.mp hc38) (Or.inr (Int32.not_le.mp hc65)))
            | exact ih (i + 1) _ _ _ (by omega) (by omega) hS (sel_f hv hc58 (Int32.not_lt.mpr hc65))
          · refine j_iload C dX3_findAnswer_61 rfl ?_
            refine j_iload C dX3_findAnswer_63 rfl ?_
            refine j_icmp_ge C 75 dX3_findAnswer_65 (by decide) (fun hc65 => ?_) (fun hc65 => ?_)
            · refine j_iincN (n := 1) C dX3_findAnswer_75 rfl (by decide) ?_
              refine j_goto C 9 dX3_findAnswer_78 (by decide) ?_
              refine j_drop 6 ?_
              refine j_drop 7 ?_
              first
              | exact ih (i + 1) _ _ _ (by omega) (by omega) hS (sel_n hv (bI_0.mp hc38))
              | exact ih (i + 1) _ _ _ (by omega) (by omega) hS (sel_t hv (bI_n0.mp hc38) (Or.inl hc58))
              | exact ih (i + 1) _ _ _ (by omega) (by omega) hS (sel_t hv (bI_n0.mp hc38) (Or.inr (Int32.not_le.mp hc65)))
              | exact ih (i + 1) _ _ _ (by omega) (by omega) hS (sel_f hv hc58 (Int32.not_lt.mpr hc65))
            · refine j_iload C dX3_findAnswer_68 rfl ?_
              refine j_istore_n C dX3_findAnswer_70 (by decide) ?_
              refine j_iload C dX3_findAnswer_71 rfl ?_
              refine j_istore C dX3_findAnswer_73 (by decide) ?_
              refine j_iincN (n := 1) C dX3_findAnswer_75 rfl (by decide) ?_
              refine j_goto C 9 dX3_findAnswer_78 (by decide) ?_
              refine j_drop 6 ?_
              refine j_drop 7 ?_
              first
              | exact ih (i + 1) _ _ _ (by omega) (by omega) hS (sel_n hv (bI_0.mp hc38))
              | exact ih (i + 1) _ _ _ (by omega) (by omega) hS (sel_t hv (bI_n0.mp hc38) (Or.inl hc58))
              | exact ih (i + 1) _ _ _ (by omega) (by omega) hS (sel_t hv (bI_n0.mp hc38) (Or.inr (Int32.not_le.mp hc65)))
              | exact ih (i + 1) _ _ _ (by omega) (by omega) hS (sel_f hv hc58 (Int32.not_lt.mpr hc65))
        · refine j_goto C 75 dX3_findAnswer_41 (by decide) ?_
          refine j_iincN (n := 1) C dX3_findAnswer_75 rfl (by decide) ?_
          refine j_goto C 9 dX3_findAnswer_78 (by decide) ?_
          refine j_drop 6 ?_
          refine j_drop 7 ?_
          first
          | exact ih (i + 1) _ _ _ (by omega) (by omega) hS (sel_n hv (bI_0.mp hc38))
          | exact ih (i + 1) _ _ _ (by omega) (by omega) hS (sel_t hv (bI_n0.mp hc38) (Or.inl hc58))
          | exact ih (i + 1) _ _ _ (by omega) (by omega) hS (sel_t hv (bI_n0.mp hc38) (Or.inr (Int32.not_le.mp hc65)))
          | exact ih (i + 1) _ _ _ (by omega) (by omega) hS (sel_f hv hc58 (Int32.not_lt.mpr hc65))
  refine j_ldc (v := (-1000000003)) C dX3_findAnswer_0 (by decide +kernel) ?_
  refine j_istore_n C dX3_findAnswer_2 (by decide) ?_
  refine j_iconst (v := 0) C dX3_findAnswer_3 rfl ?_
  refine j_istore C dX3_findAnswer_4 (by decide) ?_
  refine j_iconst (v := 0) C dX3_findAnswer_6 rfl ?_
  refine j_istore C dX3_findAnswer_7 (by decide) ?_
  exact hL (N + 1) 0 _ _ _ (by omega) (by omega) S4.rf rfl
theorem n_X3_costByOdds_X0 : ∀ w ∈ wsX00, w ∈ wsX3_costByOdds := by decide +kernel
theorem n_X3_costByOdds_X3 : ∀ w ∈ wsX30, w ∈ wsX3_costByOdds := by decide +kernel
set_option maxHeartbeats 4000000 in
set_option maxRecDepth 100000 in
theorem c_X3_costByOdds {l : Launch} {D : va_G} {cI cZ cQ : ClassId} {ad : Nat → Nat} {np : Nat} {x : Nat → Nat} {g : Nat → Nat → Int32} (hnp : 27 ≤ np) {a : Nat → Nat} {b nu : Nat → Nat → Int32} (hX : RX x g a b nu) (hW : WF a b nu) {first : Int32} : Cn l D cI cZ cQ ad np 4 yX3_costByOdds wsX3_costByOdds [.ref (ad 0), .int first] x g (ri (fun r x' g' => r = cbF a b nu first ∧ x' = x ∧ S4 g g')) := by
  refine cn_of (own := RX3) (by decide) rfl rfl (by simp [Value.category]) (Nat.le_of_ble_eq_true rfl) ?_
  intro p e s m args below meth c A Q C HR HV
  obtain ⟨hx, hg, hnu⟩ := id hX
  obtain ⟨⟨w0, ⟨w1, w1'⟩, w2, w3, w4, w5, w6⟩, wt, wn, wq⟩ := id hW
  have e0 := hx 0 (by decide)
  have e1 := hx 1 (by decide)
  have e2 := hx 2 (by decide)
  have e3 := hx 3 (by decide)
  have e4 := hx 4 (by decide)
  have e5 := hx 5 (by decide)
  have e6 := hx 6 (by decide)
  have b9 := hg 9 (by decide) (by decide)
  have b10 := hg 10 (by decide) (by decide)
  have b11 := hg 11 (by decide) (by decide)
  have b12 := hg 12 (by decide) (by decide)
  have b13 := hg 13 (by decide) (by decide)
  have b14 := hg 14 (by decide) (by decide)
  have b15 := hg 15 (by decide) (by decide)
  have b16 := hg 16 (by decide) (by decide)
  have b17 := hg 17 (by decide) (by decide)
  refine j_aload_n C dX3_costByOdds_0 rfl ?_
  refine jg_X3_listed C dX3_costByOdds_1 n_X3_costByOdds_X3 (by decide +kernel) (Nat.lt_of_lt_of_le (by decide) hnp) ?_
  refine jVp0 (ci := 0) C dX3_costByOdds_4 gX3_costByOdds_X0_countedOdds rfl pd_X0_countedOdds ⟨by decide, by decide⟩ (Nat.lt_of_lt_of_le (by decide) hnp) rfl rfl rfl (Nat.le_of_ble_eq_true rfl) (c_X0_countedOdds hnp b17 b16 (by omega)) ?_
  rw [e6]
  refine j_if_ne C 13 dX3_costByOdds_7 (by decide) (fun hc7 => ?_) (fun hc7 => ?_)
  · have hL : ∀ (n : Nat) (i : Nat) (v : Int32) (g2 : Nat → Nat → Int32), i ≤ a 6 → a 6 - i < n → S4 g g2 → toS a b nu first i = some v → J p l e (Rm 4) s m args below meth c 0 0 D cI cZ cQ ad np A 5 Q x g2 17 [some (.ref (ad 0)), some (.int first), some (.int v), some (.int (nI i)), none] [] := by
      intro n
      induction n with
      | zero => intros; omega
      | succ n ih =>
        intro i v g2 h1 h2 hS hv
        refine j_iload_n C dX3_costByOdds_17 rfl ?_
        refine j_aload_n C dX3_costByOdds_18 rfl ?_
        refine jg_X3_listed C dX3_costByOdds_19 n_X3_costByOdds_X3 (by decide +kernel) (Nat.lt_of_lt_of_le (by decide) hnp) ?_
        refine jg_X0_count C dX3_costByOdds_22 n_X3_costByOdds_X0 (by decide +kernel) (Nat.lt_of_lt_of_le (by decide) hnp) ?_
        refine j_icmp_ge C 87 dX3_costByOdds_25 (by decide) (fun hc => ?_) (fun hc => ?_)
        · have he : i = a 6 := by have := (nI_leI (by omega) (by omega)).mp hc; omega
          subst he
          refine j_iload_n C dX3_costByOdds_87 rfl ?_
          exact HR _ _ _ _ _ _ rfl rfl dX3_costByOdds_88 ⟨_, rfl, by unfold cbF toF; rw [if_neg hc7, hv]; rfl, rfl, hS⟩
        · have hlt : i < a 6 := by have := mt (nI_leI (by omega) (by omega)).mpr hc; omega
          refine j_aload_n C dX3_costByOdds_28 rfl ?_
          refine jg_X3_listed C dX3_costByOdds_29 n_X3_costByOdds_X3 (by decide +kernel) (Nat.lt_of_lt_of_le (by decide) hnp) ?_
          refine jg_X0_kept C dX3_costByOdds_32 n_X3_costByOdds_X0 (by decide +kernel) (Nat.lt_of_lt_of_le (by decide) hnp) ?_
          refine j_iload_n C dX3_costByOdds_35 rfl ?_
          refine j_zald C _ dX3_costByOdds_36 (Nat.lt_of_lt_of_le (by decide) hnp) (Or.inl rfl) rfl (by omega) ?_
          rw [hS 17 (by decide), b17]
          refine j_if_eq C 43 dX3_costByOdds_37 (by decide) (fun hc37 => ?_) (fun hc37 => ?_)
          · refine j_aload_n C dX3_costByOdds_43 rfl ?_
            refine j_iload_n C dX3_costByOdds_44 rfl ?_
            refine j_iload_n C dX3_costByOdds_45 rfl ?_
            refine jVi2 (ci := 3) C dX3_costByOdds_46 gX3_costByOdds_X3_findAnswer rfl pd_X3_findAnswer ⟨by decide, by decide⟩ (Nat.lt_of_lt_of_le (by decide) hnp) rfl rfl rfl (Nat.le_of_ble_eq_true rfl) (c_X3_findAnswer hnp (hX.sx hS.sx) hW hlt) (fun rr x2 g2 hp => ?_)
            obtain ⟨rfl, rfl, hS2⟩ := hp
            have hS := hS.tr hS2
            refine j_istore C dX3_costByOdds_49 (by decide) ?_
            refine j_iload C dX3_costByOdds_51 rfl ?_
            refine j_ldc (v := (-1000000003)) C dX3_costByOdds_53 (by decide +kernel) ?_
            refine j_icmp_ne C 61 dX3_costByOdds_55 (by decide) (fun hc55 => ?_) (fun hc55 => ?_)
            · refine j_iload_n C dX3_costByOdds_61 rfl ?_
              refine j_aload_n C dX3_costByOdds_62 rfl ?_
              refine jg_X3_listed C dX3_costByOdds_63 n_X3_costByOdds_X3 (by decide +kernel) (Nat.lt_of_lt_of_le (by decide) hnp) ?_
              refine jg_X0_odds C dX3_costByOdds_66 n_X3_costByOdds_X0 (by decide +kernel) (Nat.lt_of_lt_of_le (by decide) hnp) ?_
              refine j_iload_n C dX3_costByOdds_69 rfl ?_
              refine j_iald C _ dX3_costByOdds_70 (Nat.lt_of_lt_of_le (by decide) hnp) rfl rfl (show _ < 8 by omega) ?_
              rw [hS 16 (by decide), b16]
              refine j_aload_n C dX3_costByOdds_71 rfl ?_
              refine j_iload C dX3_costByOdds_72 rfl ?_
              refine j_iload_n C dX3_costByOdds_74 rfl ?_
              refine jVi2 (ci := 3) C dX3_costByOdds_75 gX3_costByOdds_X3_costOf rfl pd_X3_costOf ⟨by decide, by decide⟩ (Nat.lt_of_lt_of_le (by decide) hnp) rfl rfl rfl (Nat.le_of_ble_eq_true rfl) (c_X3_costOf hnp (hX.sx hS.sx) hW hlt) (fun rr x2 g2 hp => ?_)
              obtain ⟨rfl, rfl, hS2⟩ := hp
              have hS := hS.tr hS2
              refine j_imul C dX3_costByOdds_78 ?_
              refine j_iadd C dX3_costByOdds_79 ?_
              refine j_istore_n C dX3_costByOdds_80 (by decide) ?_
              refine j_iincN (n := 1) C dX3_costByOdds_81 rfl (by decide) ?_
              refine j_goto C 17 dX3_costByOdds_84 (by decide) ?_
              refine j_drop 4 ?_
              first
              | exact ih (i + 1) _ _ (by omega) (by omega) hS (toS_k hv hc37)
              | exact ih (i + 1) _ _ (by omega) (by omega) hS (toS_s hv hc37 hc55)
            · refine j_ldc (v := (-1000000003)) C dX3_costByOdds_58 (by decide +kernel) ?_
              exact HR _ _ _ _ _ _ rfl rfl dX3_costByOdds_60 ⟨_, rfl, by unfold cbF toF; rw [if_neg hc7, ← show i + 1 + (a 6 - (i + 1)) = a 6 by omega, toS_n hv hc37 hc55]; rfl, rfl, hS⟩
          · refine j_goto C 81 dX3_costByOdds_40 (by decide) ?_
            refine j_iincN (n := 1) C dX3_costByOdds_81 rfl (by decide) ?_
            refine j_goto C 17 dX3_costByOdds_84 (by decide) ?_
            refine j_drop 4 ?_
            first
            | exact ih (i + 1) _ _ (by omega) (by omega) hS (toS_k hv hc37)
            | exact ih (i + 1) _ _ (by omega) (by omega) hS (toS_s hv hc37 hc55)
    refine j_iconst (v := 0) C dX3_costByOdds_13 rfl ?_
    refine j_istore_n C dX3_costByOdds_14 (by decide) ?_
    refine j_iconst (v := 0) C dX3_costByOdds_15 rfl ?_
    refine j_istore_n C dX3_costByOdds_16 (by decide) ?_
    exact hL (a 6 + 1) 0 _ _ (by omega) (by omega) S4.rf rfl
  · refine j_ldc (v := (-1000000003)) C dX3_costByOdds_10 (by decide +kernel) ?_
    exact HR _ _ _ _ _ _ rfl rfl dX3_costByOdds_12 ⟨_, rfl, (if_pos hc7).symm, rfl, S4.rf⟩
set_option maxHeartbeats 4000000 in
set_option maxRecDepth 100000 in
theorem c_X3_findTwoStep {l : Launch} {D : va_G} {cI cZ cQ : ClassId} {ad : Nat → Nat} {np : Nat} {x : Nat → Nat} {g : Nat → Nat → Int32} (hnp : 27 ≤ np) {a : Nat → Nat} {b nu : Nat → Nat → Int32} (hX : RX x g a b nu) (hW : WF a b nu) : Cn l D cI cZ cQ ad np 5 yX3_findTwoStep wsX3_findTwoStep [.ref (ad 0)] x g (ri (fun r x' g' => r = twF a b nu ∧ x' = x ∧ S4 g g')) := by
  refine cn_of (own := RX3) (by decide) rfl rfl (by simp [Value.category]) (Nat.le_of_ble_eq_true rfl) ?_
  intro p e s m args below meth c A Q C HR HV
  obtain ⟨hx, hg, hnu⟩ := id hX
  obtain ⟨⟨w0, ⟨w1, w1'⟩, w2, w3, w4, w5, w6⟩, wt, wn, wq⟩ := id hW
  have e0 := hx 0 (by decide)
  have e1 := hx 1 (by decide)
  have e2 := hx 2 (by decide)
  have e3 := hx 3 (by decide)
  have e4 := hx 4 (by decide)
  have e5 := hx 5 (by decide)
  have e6 := hx 6 (by decide)
  have b9 := hg 9 (by decide) (by decide)
  have b10 := hg 10 (by decide) (by decide)
  have b11 := hg 11 (by decide) (by decide)
  have b12 := hg 12 (by decide) (by decide)
  have b13 := hg 13 (by decide) (by decide)
  have b14 := hg 14 (by decide) (by decide)
  have b15 := hg 15 (by decide) (by decide)
  have b16 := hg 16 (by decide) (by decide)
  have b17 := hg 17 (by decide) (by decide)
  obtain ⟨N, hN⟩ : ∃ N, N = 2 ^ (a 1) := ⟨_, rfl⟩
  have hN2 : N ≤ 1024 := by rw [hN]; exact p2_le (by omega)
  have hL : ∀ (n : Nat) (i : Nat) (v v2 : Int32) (g2 : Nat → Nat → Int32), i ≤ N → N - i < n → S4 g g2 → selS (fun f => !decide (cbF a b nu (nI f) = -1000000003)) (fun f => cbF a b nu (nI f)) nI i = (v, v2) → J p l e (Rm 5) s m args below meth c 0 0 D cI cZ cQ ad np A 5 Q x g2 7 [some (.ref (ad 0)), some (.int v), some (.int v2), some (.int (nI i)), none] [] := by
    intro n
    induction n with
    | zero => intros; omega
    | succ n ih =>
      intro i v v2 g2 h1 h2 hS hv
      refine j_iload_n C dX3_findTwoStep_7 rfl ?_
      refine j_aload_n C dX3_findTwoStep_8 rfl ?_
      refine jVp0 (ci := 3) C dX3_findTwoStep_9 gX3_findTwoStep_X3_firstPartCount rfl pd_X3_firstPartCount ⟨by decide, by decide⟩ (Nat.lt_of_lt_of_le (by decide) hnp) rfl rfl rfl (Nat.le_of_ble_eq_true rfl) (c_X3_firstPartCount hnp) ?_
      unfold fcF
      rw [e1, fcF_eq (by omega), ← hN]
      refine j_icmp_ge C 52 dX3_findTwoStep_12 (by decide) (fun hc => ?_) (fun hc => ?_)
      · have he : i = N := by have := (nI_leI (by omega) (by omega)).mp hc; omega
        subst he
        refine j_iload_n C dX3_findTwoStep_52 rfl ?_
        exact HR _ _ _ _ _ _ rfl rfl dX3_findTwoStep_53 ⟨_, rfl, by unfold twF; rw [← hN, hv], rfl, hS⟩
      · have hlt : i < N := by have := mt (nI_leI (by omega) (by omega)).mpr hc; omega
        refine j_aload_n C dX3_findTwoStep_15 rfl ?_
        refine j_iload_n C dX3_findTwoStep_16 rfl ?_
        refine jVi1 (ci := 3) C dX3_findTwoStep_17 gX3_findTwoStep_X3_costByOdds rfl pd_X3_costByOdds ⟨by decide, by decide⟩ (Nat.lt_of_lt_of_le (by decide) hnp) rfl rfl rfl (Nat.le_of_ble_eq_true rfl) (c_X3_costByOdds hnp (hX.sx hS.sx) hW) (fun rr x2 g2 hp => ?_)
        obtain ⟨rfl, rfl, hS2⟩ := hp
        have hS := hS.tr hS2
        refine j_istore C dX3_findTwoStep_20 (by decide) ?_
        refine j_iload C dX3_findTwoStep_22 rfl ?_
        refine j_ldc (v := (-1000000003)) C dX3_findTwoStep_24 (by decide +kernel) ?_
        refine j_icmp_eq C 46 dX3_findTwoStep_26 (by decide) (fun hc26 => ?_) (fun hc26 => ?_)
        · refine j_iincN (n := 1) C dX3_findTwoStep_46 rfl (by decide) ?_
          refine j_goto C 7 dX3_findTwoStep_49 (by decide) ?_
          refine j_drop 4 ?_
          first
          | exact ih (i + 1) _ _ _ (by omega) (by omega) hS (sel_n hv (congrArg (fun z => !z) (decide_eq_true hc26)))
          | exact ih (i + 1) _ _ _ (by omega) (by omega) hS (sel_t hv (congrArg (fun z => !z) (decide_eq_false hc26)) (Or.inl hc32))
          | exact ih (i + 1) _ _ _ (by omega) (by omega) hS (sel_t hv (congrArg (fun z => !z) (decide_eq_false hc26)) (Or.inr (Int32.not_le.mp hc38)))
          | exact ih (i + 1) _ _ _ (by omega) (by omega) hS (sel_f hv hc32 (Int32.not_lt.mpr hc38))
        · refine j_iload_n C dX3_findTwoStep_29 rfl ?_
          refine j_ldc (v := (-1000000003)) C dX3_findTwoStep_30 (by decide +kernel) ?_
          refine j_icmp_eq C 41 dX3_findTwoStep_32 (by decide) (fun hc32 => ?_) (fun hc32 => ?_)
          · refine j_iload_n C dX3_findTwoStep_41 rfl ?_
            refine j_istore_n C dX3_findTwoStep_42 (by decide) ?_
            refine j_iload C dX3_findTwoStep_43 rfl ?_
            refine j_istore_n C dX3_findTwoStep_45 (by decide) ?_
            refine j_iincN (n := 1) C dX3_findTwoStep_46 rfl (by decide) ?_
            refine j_goto C 7 dX3_findTwoStep_49 (by decide) ?_
            refine j_drop 4 ?_
            first
            | exact ih (i + 1) _ _ _ (by omega) (by omega) hS (sel_n hv (congrArg (fun z => !z) (decide_eq_true hc26)))
            | exact ih (i + 1) _ _ _ (by omega) (by omega) hS (sel_t hv (congrArg (fun z => !z) (decide_eq_false hc26)) (Or.inl hc32))
            | exact ih (i + 1) _ _ _ (by omega) (by omega) hS (sel_t hv (congrArg (fun z => !z) (decide_eq_false hc26)) (Or.inr (Int32.not_le.mp hc38)))
            | exact ih (i + 1) _ _ _ (by omega) (by omega) hS (sel_f hv hc32 (Int32.not_lt.mpr hc38))
          · refine j_iload C dX3_findTwoStep_35 rfl ?_
            refine j_iload_n C dX3_findTwoStep_37 rfl ?_
            refine j_icmp_ge C 46 dX3_findTwoStep_38 (by decide) (fun hc38 => ?_) (fun hc38 => ?_)
            · refine j_iincN (n := 1) C dX3_findTwoStep_46 rfl (by decide) ?_
              refine j_goto C 7 dX3_findTwoStep_49 (by decide) ?_
              refine j_drop 4 ?_
              first
              | exact ih (i + 1) _ _ _ (by omega) (by omega) hS (sel_n hv (congrArg (fun z => !z) (decide_eq_true hc26)))
              | exact ih (i + 1) _ _ _ (by omega) (by omega) hS (sel_t hv (congrArg (fun z => !z) (decide_eq_false hc26)) (Or.inl hc32))
              | exact ih (i + 1) _ _ _ (by omega) (by omega) hS (sel_t hv (congrArg (fun z => !z) (decide_eq_false hc26)) (Or.inr (Int32.not_le.mp hc38)))
              | exact ih (i + 1) _ _ _ (by omega) (by omega) hS (sel_f hv hc32 (Int32.not_lt.mpr hc38))
            · refine j_iload_n C dX3_findTwoStep_41 rfl ?_
              refine j_istore_n C dX3_findTwoStep_42 (by decide) ?_
              refine j_iload C dX3_findTwoStep_43 rfl ?_
              refine j_istore_n C dX3_findTwoStep_45 (by decide) ?_
              refine j_iincN (n := 1) C dX3_findTwoStep_46 rfl (by decide) ?_
              refine j_goto C 7 dX3_findTwoStep_49 (by decide) ?_
              refine j_drop 4 ?_
              first
              | exact ih (i + 1) _ _ _ (by omega) (by omega) hS (sel_n hv (congrArg (fun z => !z) (decide_eq_true hc26)))
              | exact ih (i + 1) _ _ _ (by omega) (by omega) hS (sel_t hv (congrArg (fun z => !z) (decide_eq_false hc26)) (Or.inl hc32))
              | exact ih (i + 1) _ _ _ (by omega) (by omega) hS (sel_t hv (congrArg (fun z => !z) (decide_eq_false hc26)) (Or.inr (Int32.not_le.mp hc38)))
              | exact ih (i + 1) _ _ _ (by omega) (by omega) hS (sel_f hv hc32 (Int32.not_lt.mpr hc38))
  refine j_ldc (v := (-1000000003)) C dX3_findTwoStep_0 (by decide +kernel) ?_
  refine j_istore_n C dX3_findTwoStep_2 (by decide) ?_
  refine j_iconst (v := 0) C dX3_findTwoStep_3 rfl ?_
  refine j_istore_n C dX3_findTwoStep_4 (by decide) ?_
  refine j_iconst (v := 0) C dX3_findTwoStep_5 rfl ?_
  refine j_istore_n C dX3_findTwoStep_6 (by decide) ?_
  exact hL (N + 1) 0 _ _ _ (by omega) (by omega) S4.rf rfl
theorem n_X3_leastCost_X3 : ∀ w ∈ wsX30, w ∈ wsX3_leastCost := by decide +kernel
set_option maxHeartbeats 4000000 in
set_option maxRecDepth 100000 in
theorem c_X3_leastCost {l : Launch} {D : va_G} {cI cZ cQ : ClassId} {ad : Nat → Nat} {np : Nat} {x : Nat → Nat} {g : Nat → Nat → Int32} (hnp : 27 ≤ np) {a : Nat → Nat} {b nu : Nat → Nat → Int32} (hX : RX x g a b nu) (hW : WF a b nu) {i0 : Nat} (hi0 : i0 < a 6) : Cn l D cI cZ cQ ad np 3 yX3_leastCost wsX3_leastCost [.ref (ad 0), .int (nI i0)] x g (ri (fun r x' g' => r = lcF a b nu i0 ∧ x' = x ∧ S4 g g')) := by
  refine cn_of (own := RX3) (by decide) rfl rfl (by simp [Value.category]) (Nat.le_of_ble_eq_true rfl) ?_
  intro p e s m args below meth c A Q C HR HV
  obtain ⟨hx, hg, hnu⟩ := id hX
  obtain ⟨⟨w0, ⟨w1, w1'⟩, w2, w3, w4, w5, w6⟩, wt, wn, wq⟩ := id hW
  have e0 := hx 0 (by decide)
  have e1 := hx 1 (by decide)
  have e2 := hx 2 (by decide)
  have e3 := hx 3 (by decide)
  have e4 := hx 4 (by decide)
  have e5 := hx 5 (by decide)
  have e6 := hx 6 (by decide)
  have b9 := hg 9 (by decide) (by decide)
  have b10 := hg 10 (by decide) (by decide)
  have b11 := hg 11 (by decide) (by decide)
  have b12 := hg 12 (by decide) (by decide)
  have b13 := hg 13 (by decide) (by decide)
  have b14 := hg 14 (by decide) (by decide)
  have b15 := hg 15 (by decide) (by decide)
  have b16 := hg 16 (by decide) (by decide)
  have b17 := hg 17 (by decide) (by decide)
  obtain ⟨N, hN⟩ : ∃ N, N = 2 ^ (a 1 + a 2) := ⟨_, rfl⟩
  have hN2 : N ≤ 1024 := by rw [hN]; exact p2_le (by omega)
  have hL : ∀ (n : Nat) (i : Nat) (v : Int32) (g2 : Nat → Nat → Int32), i ≤ N → N - i < n → S4 g g2 → minS (fun p => hoF a b nu (nI p) i0) (fun p => coF a b nu (nI p) i0) i = v → J p l e (Rm 3) s m args below meth c 0 0 D cI cZ cQ ad np A 5 Q x g2 5 [some (.ref (ad 0)), some (.int (nI i0)), some (.int v), some (.int (nI i)), none] [] := by
    intro n
    induction n with
    | zero => intros; omega
    | succ n ih =>
      intro i v g2 h1 h2 hS hv
      refine j_iload_n C dX3_leastCost_5 rfl ?_
      refine j_aload_n C dX3_leastCost_6 rfl ?_
      refine jVp0 (ci := 3) C dX3_leastCost_7 gX3_leastCost_X3_planCount rfl pd_X3_planCount ⟨by decide, by decide⟩ (Nat.lt_of_lt_of_le (by decide) hnp) rfl rfl rfl (Nat.le_of_ble_eq_true rfl) (c_X3_planCount hnp) ?_
      unfold pcF
      rw [e1, e2, pcF_eq (by omega), ← hN]
      refine j_icmp_ge C 57 dX3_leastCost_10 (by decide) (fun hc => ?_) (fun hc => ?_)
      · have he : i = N := by have := (nI_leI (by omega) (by omega)).mp hc; omega
        subst he
        refine j_iload_n C dX3_leastCost_57 rfl ?_
        exact HR _ _ _ _ _ _ rfl rfl dX3_leastCost_58 ⟨_, rfl, by unfold lcF; rw [← hN, hv], rfl, hS⟩
      · have hlt : i < N := by have := mt (nI_leI (by omega) (by omega)).mpr hc; omega
        refine j_aload_n C dX3_leastCost_13 rfl ?_
        refine j_iload_n C dX3_leastCost_14 rfl ?_
        refine j_iload_n C dX3_leastCost_15 rfl ?_
        refine jVi2 (ci := 3) C dX3_leastCost_16 gX3_leastCost_X3_allHold rfl pd_X3_allHold ⟨by decide, by decide⟩ (Nat.lt_of_lt_of_le (by decide) hnp) rfl rfl rfl (Nat.le_of_ble_eq_true rfl) (c_X3_allHold hnp (hX.sx hS.sx) hW hi0) (fun rr x2 g2 hp => ?_)
        obtain ⟨rfl, rfl, hS2, h40⟩ := hp
        have hS := hS.tr hS2
        refine j_if_ne C 25 dX3_leastCost_19 (by decide) (fun hc19 => ?_) (fun hc19 => ?_)
        · refine j_aload_n C dX3_leastCost_25 rfl ?_
          refine jg_X3_sums C dX3_leastCost_26 n_X3_leastCost_X3 (by decide +kernel) (Nat.lt_of_lt_of_le (by decide) hnp) ?_
          refine j_iconst (v := (-1)) C dX3_leastCost_29 rfl ?_
          refine jSp1 C dX3_leastCost_30 gX3_leastCost_X3_slotOf rfl pd_X3_slotOf ⟨by decide, by decide⟩ (Nat.le_of_ble_eq_true rfl) c_X3_slotOf ?_
          refine j_iald C 0 dX3_leastCost_33 (Nat.lt_of_lt_of_le (by decide) hnp) rfl (by decide) (show _ < 11 by omega) ?_
          rw [h40]
          refine j_istore C dX3_leastCost_34 (by decide) ?_
          refine j_iload_n C dX3_leastCost_36 rfl ?_
          refine j_ldc (v := (-1000000003)) C dX3_leastCost_37 (by decide +kernel) ?_
          refine j_icmp_eq C 48 dX3_leastCost_39 (by decide) (fun hc39 => ?_) (fun hc39 => ?_)
          · refine j_iload C dX3_leastCost_48 rfl ?_
            refine j_istore_n C dX3_leastCost_50 (by decide) ?_
            refine j_iincN (n := 1) C dX3_leastCost_51 rfl (by decide) ?_
            refine j_goto C 5 dX3_leastCost_54 (by decide) ?_
            refine j_drop 4 ?_
            first
            | exact ih (i + 1) _ _ (by omega) (by omega) hS (min_n hv (bI_0.mp hc19))
            | exact ih (i + 1) _ _ (by omega) (by omega) hS (min_t hv (bI_n0.mp hc19) (Or.inl hc39))
            | exact ih (i + 1) _ _ (by omega) (by omega) hS (min_t hv (bI_n0.mp hc19) (Or.inr (Int32.not_le.mp hc45)))
            | exact ih (i + 1) _ _ (by omega) (by omega) hS (min_f hv hc39 (Int32.not_lt.mpr hc45))
          · refine j_iload C dX3_leastCost_42 rfl ?_
            refine j_iload_n C dX3_leastCost_44 rfl ?_
            refine j_icmp_ge C 51 dX3_leastCost_45 (by decide) (fun hc45 => ?_) (fun hc45 => ?_)
            · refine j_iincN (n := 1) C dX3_leastCost_51 rfl (by decide) ?_
              refine j_goto C 5 dX3_leastCost_54 (by decide) ?_
              refine j_drop 4 ?_
              first
              | exact ih (i + 1) _ _ (by omega) (by omega) hS (min_n hv (bI_0.mp hc19))
              | exact ih (i + 1) _ _ (by omega) (by omega) hS (min_t hv (bI_n0.mp hc19) (Or.inl hc39))
              | exact ih (i + 1) _ _ (by omega) (by omega) hS (min_t hv (bI_n0.mp hc19) (Or.inr (Int32.not_le.mp hc45)))
              | exact ih (i + 1) _ _ (by omega) (by omega) hS (min_f hv hc39 (Int32.not_lt.mpr hc45))
            · refine j_iload C dX3_leastCost_48 rfl ?_
              refine j_istore_n C dX3_leastCost_50 (by decide) ?_
              refine j_iincN (n := 1) C dX3_leastCost_51 rfl (by decide) ?_
              refine j_goto C 5 dX3_leastCost_54 (by decide) ?_
              refine j_drop 4 ?_
              first
              | exact ih (i + 1) _ _ (by omega) (by omega) hS (min_n hv (bI_0.mp hc19))
              | exact ih (i + 1) _ _ (by omega) (by omega) hS (min_t hv (bI_n0.mp hc19) (Or.inl hc39))
              | exact ih (i + 1) _ _ (by omega) (by omega) hS (min_t hv (bI_n0.mp hc19) (Or.inr (Int32.not_le.mp hc45)))
              | exact ih (i + 1) _ _ (by omega) (by omega) hS (min_f hv hc39 (Int32.not_lt.mpr hc45))
        · refine j_goto C 51 dX3_leastCost_22 (by decide) ?_
          refine j_iincN (n := 1) C dX3_leastCost_51 rfl (by decide) ?_
          refine j_goto C 5 dX3_leastCost_54 (by decide) ?_
          refine j_drop 4 ?_
          first
          | exact ih (i + 1) _ _ (by omega) (by omega) hS (min_n hv (bI_0.mp hc19))
          | exact ih (i + 1) _ _ (by omega) (by omega) hS (min_t hv (bI_n0.mp hc19) (Or.inl hc39))
          | exact ih (i + 1) _ _ (by omega) (by omega) hS (min_t hv (bI_n0.mp hc19) (Or.inr (Int32.not_le.mp hc45)))
          | exact ih (i + 1) _ _ (by omega) (by omega) hS (min_f hv hc39 (Int32.not_lt.mpr hc45))
  refine j_ldc (v := (-1000000003)) C dX3_leastCost_0 (by decide +kernel) ?_
  refine j_istore_n C dX3_leastCost_2 (by decide) ?_
  refine j_iconst (v := 0) C dX3_leastCost_3 rfl ?_
  refine j_istore_n C dX3_leastCost_4 (by decide) ?_
  exact hL (N + 1) 0 _ _ (by omega) (by omega) S4.rf rfl
theorem n_X3_fillBests_X0 : ∀ w ∈ wsX00, w ∈ wsX3_fillBests := by decide +kernel
theorem n_X3_fillBests_X3 : ∀ w ∈ wsX30, w ∈ wsX3_fillBests := by decide +kernel
set_option maxHeartbeats 4000000 in
set_option maxRecDepth 100000 in
theorem c_X3_fillBests {l : Launch} {D : va_G} {cI cZ cQ : ClassId} {ad : Nat → Nat} {np : Nat} {x : Nat → Nat} {g : Nat → Nat → Int32} (hnp : 27 ≤ np) {a : Nat → Nat} {b nu : Nat → Nat → Int32} (hX : RX x g a b nu) (hW : WF a b nu) : Cn l D cI cZ cQ ad np 4 yX3_fillBests wsX3_fillBests [.ref (ad 0)] x g (rv (fun x' g' => x' = x ∧ Sx g g' ∧ ∀ j, j < a 6 → b 17 j = 0 → g' 5 j = lcF a b nu j)) := by
  refine cn_of (own := RX3) (by decide) rfl rfl (by simp [Value.category]) (Nat.le_of_ble_eq_true rfl) ?_
  intro p e s m args below meth c A Q C HR HV
  obtain ⟨hx, hg, hnu⟩ := id hX
  obtain ⟨⟨w0, ⟨w1, w1'⟩, w2, w3, w4, w5, w6⟩, wt, wn, wq⟩ := id hW
  have e0 := hx 0 (by decide)
  have e1 := hx 1 (by decide)
  have e2 := hx 2 (by decide)
  have e3 := hx 3 (by decide)
  have e4 := hx 4 (by decide)
  have e5 := hx 5 (by decide)
  have e6 := hx 6 (by decide)
  have b9 := hg 9 (by decide) (by decide)
  have b10 := hg 10 (by decide) (by decide)
  have b11 := hg 11 (by decide) (by decide)
  have b12 := hg 12 (by decide) (by decide)
  have b13 := hg 13 (by decide) (by decide)
  have b14 := hg 14 (by decide) (by decide)
  have b15 := hg 15 (by decide) (by decide)
  have b16 := hg 16 (by decide) (by decide)
  have b17 := hg 17 (by decide) (by decide)
  have hL : ∀ (n : Nat) (i : Nat) (g2 : Nat → Nat → Int32), i ≤ a 6 → a 6 - i < n → Sx g g2 → (∀ j, j < i → b 17 j = 0 → g2 5 j = lcF a b nu j) → J p l e (Rm 4) s m args below meth c 0 0 D cI cZ cQ ad np A 2 Q x g2 2 [some (.ref (ad 0)), some (.int (nI i))] [] := by
    intro n
    induction n with
    | zero => intros; omega
    | succ n ih =>
      intro i g2 h1 h2 hS h5
      refine j_iload_n C dX3_fillBests_2 rfl ?_
      refine j_aload_n C dX3_fillBests_3 rfl ?_
      refine jg_X3_listed C dX3_fillBests_4 n_X3_fillBests_X3 (by decide +kernel) (Nat.lt_of_lt_of_le (by decide) hnp) ?_
      refine jg_X0_count C dX3_fillBests_7 n_X3_fillBests_X0 (by decide +kernel) (Nat.lt_of_lt_of_le (by decide) hnp) ?_
      refine j_icmp_ge C 42 dX3_fillBests_10 (by decide) (fun hc => ?_) (fun hc => ?_)
      · have he : i = a 6 := by have := (nI_leI (by omega) (by omega)).mp hc; omega
        subst he
        exact HV _ _ _ _ rfl dX3_fillBests_42 ⟨rfl, rfl, hS, h5⟩
      · have hlt : i < a 6 := by have := mt (nI_leI (by omega) (by omega)).mpr hc; omega
        refine j_aload_n C dX3_fillBests_13 rfl ?_
        refine jg_X3_listed C dX3_fillBests_14 n_X3_fillBests_X3 (by decide +kernel) (Nat.lt_of_lt_of_le (by decide) hnp) ?_
        refine jg_X0_kept C dX3_fillBests_17 n_X3_fillBests_X0 (by decide +kernel) (Nat.lt_of_lt_of_le (by decide) hnp) ?_
        refine j_iload_n C dX3_fillBests_20 rfl ?_
        refine j_zald C _ dX3_fillBests_21 (Nat.lt_of_lt_of_le (by decide) hnp) (Or.inl rfl) rfl (by omega) ?_
        rw [hS 17 (by decide), b17]
        refine j_if_ne C 36 dX3_fillBests_22 (by decide) (fun hc22 => ?_) (fun hc22 => ?_)
        · refine j_iincN (n := 1) C dX3_fillBests_36 rfl (by decide) ?_
          refine j_goto C 2 dX3_fillBests_39 (by decide) ?_
          first
          | (refine ih (i + 1) _ (by omega) (by omega) hS (fun j hj hk => ?_)
             by_cases hji : j = i
             · subst hji; exact absurd hk hc22
             · exact h5 j (by omega) hk)
          | (refine ih (i + 1) _ (by omega) (by omega) (hS.up ⟨by decide, by decide⟩) (fun j hj hk => ?_)
             rw [va_us]
             simp only [upd]
             by_cases hji : j = i
             · subst hji; rw [if_pos rfl]
             · rw [if_neg hji]; exact h5 j (by omega) hk)
        · refine j_aload_n C dX3_fillBests_25 rfl ?_
          refine jg_X3_bests C dX3_fillBests_26 n_X3_fillBests_X3 (by decide +kernel) (Nat.lt_of_lt_of_le (by decide) hnp) ?_
          refine j_iload_n C dX3_fillBests_29 rfl ?_
          refine j_aload_n C dX3_fillBests_30 rfl ?_
          refine j_iload_n C dX3_fillBests_31 rfl ?_
          refine jVi1 (ci := 3) C dX3_fillBests_32 gX3_fillBests_X3_leastCost rfl pd_X3_leastCost ⟨by decide, by decide⟩ (Nat.lt_of_lt_of_le (by decide) hnp) rfl rfl rfl (Nat.le_of_ble_eq_true rfl) (c_X3_leastCost hnp (hX.sx hS) hW hlt) (fun rr x2 g2 hp => ?_)
          obtain ⟨rfl, rfl, hS2⟩ := hp
          have h5 : ∀ j, j < i → b 17 j = 0 → g2 5 j = lcF a b nu j := fun j hj hk => by rw [hS2 5 (by decide)]; exact h5 j hj hk
          have hS := hS.tr hS2.sx
          refine j_iast C i dX3_fillBests_35 (Nat.lt_of_lt_of_le (by decide) hnp) rfl rfl (show _ < 8 by omega) ?_
          refine j_iincN (n := 1) C dX3_fillBests_36 rfl (by decide) ?_
          refine j_goto C 2 dX3_fillBests_39 (by decide) ?_
          first
          | (refine ih (i + 1) _ (by omega) (by omega) hS (fun j hj hk => ?_)
             by_cases hji : j = i
             · subst hji; exact absurd hk hc22
             · exact h5 j (by omega) hk)
          | (refine ih (i + 1) _ (by omega) (by omega) (hS.up ⟨by decide, by decide⟩) (fun j hj hk => ?_)
             rw [va_us]
             simp only [upd]
             by_cases hji : j = i
             · subst hji; rw [if_pos rfl]
             · rw [if_neg hji]; exact h5 j (by omega) hk)
  refine j_iconst (v := 0) C dX3_fillBests_0 rfl ?_
  refine j_istore_n C dX3_fillBests_1 (by decide) ?_
  exact hL (a 6 + 1) 0 _ (by omega) (by omega) Sx.rf (fun j hj => absurd hj (Nat.not_lt_zero j))
theorem n_X3_greatestRegret_X0 : ∀ w ∈ wsX00, w ∈ wsX3_greatestRegret := by decide +kernel
theorem n_X3_greatestRegret_X3 : ∀ w ∈ wsX30, w ∈ wsX3_greatestRegret := by decide +kernel
set_option maxHeartbeats 4000000 in
set_option maxRecDepth 100000 in
theorem c_X3_greatestRegret {l : Launch} {D : va_G} {cI cZ cQ : ClassId} {ad : Nat → Nat} {np : Nat} {x : Nat → Nat} {g : Nat → Nat → Int32} (hnp : 27 ≤ np) {a : Nat → Nat} {b nu : Nat → Nat → Int32} (hX : RX x g a b nu) (hW : WF a b nu) {first : Int32} (h5 : ∀ j, j < a 6 → b 17 j = 0 → g 5 j = lcF a b nu j) : Cn l D cI cZ cQ ad np 4 yX3_greatestRegret wsX3_greatestRegret [.ref (ad 0), .int first] x g (ri (fun r x' g' => r = rgF a b nu first ∧ x' = x ∧ S4 g g')) := by
  refine cn_of (own := RX3) (by decide) rfl rfl (by simp [Value.category]) (Nat.le_of_ble_eq_true rfl) ?_
  intro p e s m args below meth c A Q C HR HV
  obtain ⟨hx, hg, hnu⟩ := id hX
  obtain ⟨⟨w0, ⟨w1, w1'⟩, w2, w3, w4, w5, w6⟩, wt, wn, wq⟩ := id hW
  have e0 := hx 0 (by decide)
  have e1 := hx 1 (by decide)
  have e2 := hx 2 (by decide)
  have e3 := hx 3 (by decide)
  have e4 := hx 4 (by decide)
  have e5 := hx 5 (by decide)
  have e6 := hx 6 (by decide)
  have b9 := hg 9 (by decide) (by decide)
  have b10 := hg 10 (by decide) (by decide)
  have b11 := hg 11 (by decide) (by decide)
  have b12 := hg 12 (by decide) (by decide)
  have b13 := hg 13 (by decide) (by decide)
  have b14 := hg 14 (by decide) (by decide)
  have b15 := hg 15 (by decide) (by decide)
  have b16 := hg 16 (by decide) (by decide)
  have b17 := hg 17 (by decide) (by decide)
  refine j_aload_n C dX3_greatestRegret_0 rfl ?_
  refine jg_X3_listed C dX3_greatestRegret_1 n_X3_greatestRegret_X3 (by decide +kernel) (Nat.lt_of_lt_of_le (by decide) hnp) ?_
  refine jVp0 (ci := 0) C dX3_greatestRegret_4 gX3_greatestRegret_X0_countedOdds rfl pd_X0_countedOdds ⟨by decide, by decide⟩ (Nat.lt_of_lt_of_le (by decide) hnp) rfl rfl rfl (Nat.le_of_ble_eq_true rfl) (c_X0_countedOdds hnp b17 b16 (by omega)) ?_
  rw [e6]
  refine j_if_ne C 13 dX3_greatestRegret_7 (by decide) (fun hc7 => ?_) (fun hc7 => ?_)
  · have hL : ∀ (n : Nat) (i : Nat) (v : Int32) (g2 : Nat → Nat → Int32), i ≤ a 6 → a 6 - i < n → S4 g g2 → rgS a b nu (lcF a b nu) first i = some v → J p l e (Rm 4) s m args below meth c 0 0 D cI cZ cQ ad np A 5 Q x g2 17 [some (.ref (ad 0)), some (.int first), some (.int v), some (.int (nI i)), none] [] := by
      intro n
      induction n with
      | zero => intros; omega
      | succ n ih =>
        intro i v g2 h1 h2 hS hv
        refine j_iload_n C dX3_greatestRegret_17 rfl ?_
        refine j_aload_n C dX3_greatestRegret_18 rfl ?_
        refine jg_X3_listed C dX3_greatestRegret_19 n_X3_greatestRegret_X3 (by decide +kernel) (Nat.lt_of_lt_of_le (by decide) hnp) ?_
        refine jg_X0_count C dX3_greatestRegret_22 n_X3_greatestRegret_X0 (by decide +kernel) (Nat.lt_of_lt_of_le (by decide) hnp) ?_
        refine j_icmp_ge C 86 dX3_greatestRegret_25 (by decide) (fun hc => ?_) (fun hc => ?_)
        · have he : i = a 6 := by have := (nI_leI (by omega) (by omega)).mp hc; omega
          subst he
          refine j_iload_n C dX3_greatestRegret_86 rfl ?_
          exact HR _ _ _ _ _ _ rfl rfl dX3_greatestRegret_87 ⟨_, rfl, by unfold rgF; rw [if_neg hc7, hv]; rfl, rfl, hS⟩
        · have hlt : i < a 6 := by have := mt (nI_leI (by omega) (by omega)).mpr hc; omega
          refine j_aload_n C dX3_greatestRegret_28 rfl ?_
          refine jg_X3_listed C dX3_greatestRegret_29 n_X3_greatestRegret_X3 (by decide +kernel) (Nat.lt_of_lt_of_le (by decide) hnp) ?_
          refine jg_X0_kept C dX3_greatestRegret_32 n_X3_greatestRegret_X0 (by decide +kernel) (Nat.lt_of_lt_of_le (by decide) hnp) ?_
          refine j_iload_n C dX3_greatestRegret_35 rfl ?_
          refine j_zald C _ dX3_greatestRegret_36 (Nat.lt_of_lt_of_le (by decide) hnp) (Or.inl rfl) rfl (by omega) ?_
          rw [hS 17 (by decide), b17]
          refine j_if_eq C 43 dX3_greatestRegret_37 (by decide) (fun hc37 => ?_) (fun hc37 => ?_)
          · refine j_aload_n C dX3_greatestRegret_43 rfl ?_
            refine j_iload_n C dX3_greatestRegret_44 rfl ?_
            refine j_iload_n C dX3_greatestRegret_45 rfl ?_
            refine jVi2 (ci := 3) C dX3_greatestRegret_46 gX3_greatestRegret_X3_findAnswer rfl pd_X3_findAnswer ⟨by decide, by decide⟩ (Nat.lt_of_lt_of_le (by decide) hnp) rfl rfl rfl (Nat.le_of_ble_eq_true rfl) (c_X3_findAnswer hnp (hX.sx hS.sx) hW hlt) (fun rr x2 g2 hp => ?_)
            obtain ⟨rfl, rfl, hS2⟩ := hp
            have hS := hS.tr hS2
            refine j_istore C dX3_greatestRegret_49 (by decide) ?_
            refine j_iload C dX3_greatestRegret_51 rfl ?_
            refine j_ldc (v := (-1000000003)) C dX3_greatestRegret_53 (by decide +kernel) ?_
            refine j_icmp_ne C 61 dX3_greatestRegret_55 (by decide) (fun hc55 => ?_) (fun hc55 => ?_)
            · refine j_iload_n C dX3_greatestRegret_61 rfl ?_
              refine j_aload_n C dX3_greatestRegret_62 rfl ?_
              refine j_iload C dX3_greatestRegret_63 rfl ?_
              refine j_iload_n C dX3_greatestRegret_65 rfl ?_
              refine jVi2 (ci := 3) C dX3_greatestRegret_66 gX3_greatestRegret_X3_costOf rfl pd_X3_costOf ⟨by decide, by decide⟩ (Nat.lt_of_lt_of_le (by decide) hnp) rfl rfl rfl (Nat.le_of_ble_eq_true rfl) (c_X3_costOf hnp (hX.sx hS.sx) hW hlt) (fun rr x2 g2 hp => ?_)
              obtain ⟨rfl, rfl, hS2⟩ := hp
              have hS := hS.tr hS2
              refine j_aload_n C dX3_greatestRegret_69 rfl ?_
              refine jg_X3_bests C dX3_greatestRegret_70 n_X3_greatestRegret_X3 (by decide +kernel) (Nat.lt_of_lt_of_le (by decide) hnp) ?_
              refine j_iload_n C dX3_greatestRegret_73 rfl ?_
              refine j_iald C i dX3_greatestRegret_74 (Nat.lt_of_lt_of_le (by decide) hnp) rfl rfl (show _ < 8 by omega) ?_
              rw [hS 5 (by decide), h5 i hlt hc37]
              refine j_isub C dX3_greatestRegret_75 ?_
              refine j_max C dX3_greatestRegret_76 (by decide +kernel) (by decide +kernel) (by decide +kernel) (by decide +kernel) (by decide) (by decide) ?_
              refine j_istore_n C dX3_greatestRegret_79 (by decide) ?_
              refine j_iincN (n := 1) C dX3_greatestRegret_80 rfl (by decide) ?_
              refine j_goto C 17 dX3_greatestRegret_83 (by decide) ?_
              refine j_drop 4 ?_
              first
              | exact ih (i + 1) _ _ (by omega) (by omega) hS (rgS_k hv hc37)
              | exact ih (i + 1) _ _ (by omega) (by omega) hS (rgS_s hv hc37 hc55)
            · refine j_ldc (v := (-1000000003)) C dX3_greatestRegret_58 (by decide +kernel) ?_
              exact HR _ _ _ _ _ _ rfl rfl dX3_greatestRegret_60 ⟨_, rfl, by unfold rgF; rw [if_neg hc7, ← show i + 1 + (a 6 - (i + 1)) = a 6 by omega, rgS_n hv hc37 hc55]; rfl, rfl, hS⟩
          · refine j_goto C 80 dX3_greatestRegret_40 (by decide) ?_
            refine j_iincN (n := 1) C dX3_greatestRegret_80 rfl (by decide) ?_
            refine j_goto C 17 dX3_greatestRegret_83 (by decide) ?_
            refine j_drop 4 ?_
            first
            | exact ih (i + 1) _ _ (by omega) (by omega) hS (rgS_k hv hc37)
            | exact ih (i + 1) _ _ (by omega) (by omega) hS (rgS_s hv hc37 hc55)
    refine j_iconst (v := 0) C dX3_greatestRegret_13 rfl ?_
    refine j_istore_n C dX3_greatestRegret_14 (by decide) ?_
    refine j_iconst (v := 0) C dX3_greatestRegret_15 rfl ?_
    refine j_istore_n C dX3_greatestRegret_16 (by decide) ?_
    exact hL (a 6 + 1) 0 _ _ (by omega) (by omega) S4.rf rfl
  · refine j_ldc (v := (-1000000003)) C dX3_greatestRegret_10 (by decide +kernel) ?_
    exact HR _ _ _ _ _ _ rfl rfl dX3_greatestRegret_12 ⟨_, rfl, (if_pos hc7).symm, rfl, S4.rf⟩
