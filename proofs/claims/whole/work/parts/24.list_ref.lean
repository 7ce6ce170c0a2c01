theorem n_X4_holds_X4 : ∀ w ∈ wsX40, w ∈ wsX4_holds := by decide +kernel
set_option maxHeartbeats 4000000 in
set_option maxRecDepth 100000 in
theorem c_X4_holds {l : Launch} {D : va_G} {cI cZ cQ : ClassId} {ad : Nat → Nat} {np : Nat} {x : Nat → Nat} {g : Nat → Nat → Int32} (hnp : 41 ≤ np) {a : Nat → Nat} {b nu : Nat → Nat → Int32} (hM : RM x g a b nu) (hW : WF a b nu) {plan : Int32} {i0 : Nat} (hi0 : i0 < a 6) : Cn l D cI cZ cQ ad np 2 yX4_holds wsX4_holds [.ref (ad 27), .int plan, .int (nI i0)] x g (rp (bI (hoF a b nu plan i0)) x g) := by
  refine cn_of (own := RX4) (by decide) rfl rfl (by simp [Value.category]) (Nat.le_of_ble_eq_true rfl) ?_
  intro p e s m args below meth c A Q C HR HV
  obtain ⟨⟨e0, e1, e2, e3, e4, e5, e6⟩, hg, hnu⟩ := id hM
  obtain ⟨⟨w0, ⟨w1, w1'⟩, w2, w3, w4, w5, w6⟩, wt, wn, wq⟩ := id hW
  have b9 : g 28 = b 9 := hg 9 (by decide) (by decide)
  have b10 : g 29 = b 10 := hg 10 (by decide) (by decide)
  have b11 : g 30 = b 11 := hg 11 (by decide) (by decide)
  have b12 : g 31 = b 12 := hg 12 (by decide) (by decide)
  have b13 : g 32 = b 13 := hg 13 (by decide) (by decide)
  have b14 : g 33 = b 14 := hg 14 (by decide) (by decide)
  have b15 : g 34 = b 15 := hg 15 (by decide) (by decide)
  have b16 : g 35 = b 16 := hg 16 (by decide) (by decide)
  have b17 : g 36 = b 17 := hg 17 (by decide) (by decide)
  have hL : ∀ (n : Nat) (i : Nat), i ≤ a 0 → a 0 - i < n → hoN a b (nu i0) plan i = true → J p l e (Rm 2) s m args below meth c 0 0 D cI cZ cQ ad np A 4 Q x g 2 [some (.ref (ad 27)), some (.int plan), some (.int (nI i0)), some (.int (nI i))] [] := by
    intro n
    induction n with
    | zero => intros; omega
    | succ n ih =>
      intro i h1 h2 hv
      refine j_iload_n C dX4_holds_2 rfl ?_
      refine j_aload_n C dX4_holds_3 rfl ?_
      refine jg_X4_rows C dX4_holds_4 n_X4_holds_X4 (by decide +kernel) (Nat.lt_of_lt_of_le (by decide) hnp) ?_
      refine j_icmp_ge C 28 dX4_holds_7 (by decide) (fun hc => ?_) (fun hc => ?_)
      · have he : i = a 0 := by have := (nI_leI (by omega) (by omega)).mp hc; omega
        subst he
        refine j_iconst (v := 1) C dX4_holds_28 rfl ?_
        exact HR _ _ _ _ _ _ rfl rfl dX4_holds_29 ⟨_, rfl, by unfold hoF; rw [hv]; rfl, rfl, rfl⟩
      · have hlt : i < a 0 := by have := mt (nI_leI (by omega) (by omega)).mpr hc; omega
        refine j_aload_n C dX4_holds_10 rfl ?_
        refine j_iload_n C dX4_holds_11 rfl ?_
        refine j_iload_n C dX4_holds_12 rfl ?_
        refine j_iload_n C dX4_holds_13 rfl ?_
        refine jVp3 (ci := 4) C dX4_holds_14 gX4_holds_X4_sum rfl pd_X4_sum ⟨by decide, by decide⟩ (Nat.lt_of_lt_of_le (by decide) hnp) rfl rfl rfl (Nat.le_of_ble_eq_true rfl) (c_X4_sum (num := nu i0) hnp hM hW (Or.inr ⟨i0, hi0, rfl, rfl⟩)) ?_
        refine j_if_le C 22 dX4_holds_17 (by decide) (fun hc17 => ?_) (fun hc17 => ?_)
        · refine j_iincN (n := 1) C dX4_holds_22 rfl (by decide) ?_
          refine j_goto C 2 dX4_holds_25 (by decide) ?_
          exact ih (i + 1) (by omega) (by omega) (by unfold hoN; rw [hv, decide_eq_false (Int32.not_lt.mpr hc17)]; rfl)
        · refine j_iconst (v := 0) C dX4_holds_20 rfl ?_
          exact HR _ _ _ _ _ _ rfl rfl dX4_holds_21 ⟨_, rfl, by unfold hoF; rw [hoN_f (Int32.not_le.mp hc17) _ hlt]; rfl, rfl, rfl⟩
  refine j_iconst (v := 0) C dX4_holds_0 rfl ?_
  refine j_istore_n C dX4_holds_1 (by decide) ?_
  exact hL (a 0 + 1) 0 (by omega) (by omega) rfl
theorem n_X4_answerTo_X4 : ∀ w ∈ wsX40, w ∈ wsX4_answerTo := by decide +kernel
set_option maxHeartbeats 4000000 in
set_option maxRecDepth 100000 in
theorem c_X4_answerTo {l : Launch} {D : va_G} {cI cZ cQ : ClassId} {ad : Nat → Nat} {np : Nat} {x : Nat → Nat} {g : Nat → Nat → Int32} (hnp : 41 ≤ np) {a : Nat → Nat} {b nu : Nat → Nat → Int32} (hM : RM x g a b nu) (hW : WF a b nu) {first : Int32} {i0 : Nat} (hi0 : i0 < a 6) : Cn l D cI cZ cQ ad np 3 yX4_answerTo wsX4_answerTo [.ref (ad 27), .int first, .int (nI i0)] x g (rp (ansF a b nu first i0) x g) := by
  refine cn_of (own := RX4) (by decide) rfl rfl (by simp [Value.category]) (Nat.le_of_ble_eq_true rfl) ?_
  intro p e s m args below meth c A Q C HR HV
  obtain ⟨⟨e0, e1, e2, e3, e4, e5, e6⟩, hg, hnu⟩ := id hM
  obtain ⟨⟨w0, ⟨w1, w1'⟩, w2, w3, w4, w5, w6⟩, wt, wn, wq⟩ := id hW
  have b9 : g 28 = b 9 := hg 9 (by decide) (by decide)
  have b10 : g 29 = b 10 := hg 10 (by decide) (by decide)
  have b11 : g 30 = b 11 := hg 11 (by decide) (by decide)
  have b12 : g 31 = b 12 := hg 12 (by decide) (by decide)
  have b13 : g 32 = b 13 := hg 13 (by decide) (by decide)
  have b14 : g 33 = b 14 := hg 14 (by decide) (by decide)
  have b15 : g 34 = b 15 := hg 15 (by decide) (by decide)
  have b16 : g 35 = b 16 := hg 16 (by decide) (by decide)
  have b17 : g 36 = b 17 := hg 17 (by decide) (by decide)
  obtain ⟨N, hN⟩ : ∃ N, N = 2 ^ (a 2) := ⟨_, rfl⟩
  have hN2 : N ≤ 1024 := by rw [hN]; exact p2_le (by omega)
  have hL : ∀ (n : Nat) (i : Nat) (v v2 : Int32), i ≤ N → N - i < n → selS (fun s => hoF a b nu (plF a first s) i0) (fun s => coF a b nu (plF a first s) i0) (plF a first) i = (v, v2) → J p l e (Rm 3) s m args below meth c 0 0 D cI cZ cQ ad np A 9 Q x g 9 [some (.ref (ad 27)), some (.int first), some (.int (nI i0)), some (.int v), some (.int v2), some (.int (nI i)), none, none, none] [] := by
    intro n
    induction n with
    | zero => intros; omega
    | succ n ih =>
      intro i v v2 h1 h2 hv
      refine j_iload C dX4_answerTo_9 rfl ?_
      refine j_iconst (v := 1) C dX4_answerTo_11 rfl ?_
      refine j_aload_n C dX4_answerTo_12 rfl ?_
      refine jg_X4_seconds C dX4_answerTo_13 n_X4_answerTo_X4 (by decide +kernel) (Nat.lt_of_lt_of_le (by decide) hnp) ?_
      refine j_ishl C dX4_answerTo_16 ?_
      rw [e2, fcF_eq (by omega), ← hN]
      refine j_icmp_ge C 103 dX4_answerTo_17 (by decide) (fun hc => ?_) (fun hc => ?_)
      · have he : i = N := by have := (nI_leI (by omega) (by omega)).mp hc; omega
        subst he
        refine j_iload_n C dX4_answerTo_103 rfl ?_
        exact HR _ _ _ _ _ _ rfl rfl dX4_answerTo_104 ⟨_, rfl, by unfold ansF; rw [← hN, hv], rfl, rfl⟩
      · have hlt : i < N := by have := mt (nI_leI (by omega) (by omega)).mpr hc; omega
        refine j_iload_n C dX4_answerTo_20 rfl ?_
        refine j_iload C dX4_answerTo_21 rfl ?_
        refine j_aload_n C dX4_answerTo_23 rfl ?_
        refine jg_X4_firsts C dX4_answerTo_24 n_X4_answerTo_X4 (by decide +kernel) (Nat.lt_of_lt_of_le (by decide) hnp) ?_
        refine j_ishl C dX4_answerTo_27 ?_
        refine j_ior C dX4_answerTo_28 ?_
        rw [e1]
        refine j_eqi (v := plF a first i) rfl ?_
        refine j_istore C dX4_answerTo_29 (by decide) ?_
        refine j_aload_n C dX4_answerTo_31 rfl ?_
        refine j_iload C dX4_answerTo_32 rfl ?_
        refine j_iload_n C dX4_answerTo_34 rfl ?_
        refine jVp2 (ci := 4) C dX4_answerTo_35 gX4_answerTo_X4_holds rfl pd_X4_holds ⟨by decide, by decide⟩ (Nat.lt_of_lt_of_le (by decide) hnp) rfl rfl rfl (Nat.le_of_ble_eq_true rfl) (c_X4_holds hnp hM hW hi0) ?_
        refine j_if_eq C 97 dX4_answerTo_38 (by decide) (fun hc38 => ?_) (fun hc38 => ?_)
        · refine j_iincN (n := 1) C dX4_answerTo_97 rfl (by decide) ?_
          refine j_goto C 9 dX4_answerTo_100 (by decide) ?_
          refine j_drop 6 ?_
          refine j_drop 7 ?_
          refine j_drop 8 ?_
          first
          | exact ih (i + 1) _ _ (by omega) (by omega) (sel_n hv (bI_0.mp hc38))
          | exact ih (i + 1) _ _ (by omega) (by omega) (sel_t hv (bI_n0.mp hc38) (Or.inl hc54))
          | exact ih (i + 1) _ _ (by omega) (by omega) (sel_t hv (bI_n0.mp hc38) (Or.inr (Int32.not_le.mp hc61)))
          | exact ih (i + 1) _ _ (by omega) (by omega) (sel_f hv hc54 (Int32.not_lt.mpr hc61))
        · refine j_aload_n C dX4_answerTo_41 rfl ?_
          refine j_iload C dX4_answerTo_42 rfl ?_
          refine j_iconst (v := (-1)) C dX4_answerTo_44 rfl ?_
          refine j_iload_n C dX4_answerTo_45 rfl ?_
          refine jVp3 (ci := 4) C dX4_answerTo_46 gX4_answerTo_X4_sum rfl pd_X4_sum ⟨by decide, by decide⟩ (Nat.lt_of_lt_of_le (by decide) hnp) rfl rfl rfl (Nat.le_of_ble_eq_true rfl) (c_X4_sum (num := nu i0) hnp hM hW (Or.inr ⟨i0, hi0, rfl, rfl⟩)) ?_
          refine j_istore C dX4_answerTo_49 (by decide) ?_
          refine j_iload_n C dX4_answerTo_51 rfl ?_
          refine j_ldc (v := (-1000000003)) C dX4_answerTo_52 (by decide +kernel) ?_
          refine j_icmp_eq C 64 dX4_answerTo_54 (by decide) (fun hc54 => ?_) (fun hc54 => ?_)
          · refine j_iconst (v := 1) C dX4_answerTo_64 rfl ?_
            refine j_goto C 69 dX4_answerTo_65 (by decide) ?_
            refine j_istore C dX4_answerTo_69 (by decide) ?_
            refine j_iload C dX4_answerTo_71 rfl ?_
            refine j_if_eq C 81 dX4_answerTo_73 (by decide) (fun hc73 => ?_) (fun hc73 => ?_)
            · exact absurd hc73 (by decide)
            · refine j_iload C dX4_answerTo_76 rfl ?_
              refine j_goto C 82 dX4_answerTo_78 (by decide) ?_
              refine j_istore_n C dX4_answerTo_82 (by decide) ?_
              refine j_iload C dX4_answerTo_83 rfl ?_
              refine j_if_eq C 93 dX4_answerTo_85 (by decide) (fun hc85 => ?_) (fun hc85 => ?_)
              · exact absurd hc85 (by decide)
              · refine j_iload C dX4_answerTo_88 rfl ?_
                refine j_goto C 95 dX4_answerTo_90 (by decide) ?_
                refine j_istore C dX4_answerTo_95 (by decide) ?_
                refine j_iincN (n := 1) C dX4_answerTo_97 rfl (by decide) ?_
                refine j_goto C 9 dX4_answerTo_100 (by decide) ?_
                refine j_drop 6 ?_
                refine j_drop 7 ?_
                refine j_drop 8 ?_
                first
                | exact ih (i + 1) _ _ (by omega) (by omega) (sel_n hv (bI_0.mp hc38))
                | exact ih (i + 1) _ _ (by omega) (by omega) (sel_t hv (bI_n0.mp hc38) (Or.inl hc54))
                | exact ih (i + 1) _ _ (by omega) (by omega) (sel_t hv (bI_n0.mp hc38) (Or.inr (Int32.not_le.mp hc61)))
                | exact ih (i + 1) _ _ (by omega) (by omega) (sel_f hv hc54 (Int32.not_lt.mpr hc61))
          · refine j_iload C dX4_answerTo_57 rfl ?_
            refine j_iload C dX4_answerTo_59 rfl ?_
            refine j_icmp_ge C 68 dX4_answerTo_61 (by decide) (fun hc61 => ?_) (fun hc61 => ?_)
            · refine j_iconst (v := 0) C dX4_answerTo_68 rfl ?_
              refine j_istore C dX4_answerTo_69 (by decide) ?_
              refine j_iload C dX4_answerTo_71 rfl ?_
              refine j_if_eq C 81 dX4_answerTo_73 (by decide) (fun hc73 => ?_) (fun hc73 => ?_)
              · refine j_iload_n C dX4_answerTo_81 rfl ?_
                refine j_istore_n C dX4_answerTo_82 (by decide) ?_
                refine j_iload C dX4_answerTo_83 rfl ?_
                refine j_if_eq C 93 dX4_answerTo_85 (by decide) (fun hc85 => ?_) (fun hc85 => ?_)
                · refine j_iload C dX4_answerTo_93 rfl ?_
                  refine j_istore C dX4_answerTo_95 (by decide) ?_
                  refine j_iincN (n := 1) C dX4_answerTo_97 rfl (by decide) ?_
                  refine j_goto C 9 dX4_answerTo_100 (by decide) ?_
                  refine j_drop 6 ?_
                  refine j_drop 7 ?_
                  refine j_drop 8 ?_
                  first
                  | exact ih (i + 1) _ _ (by omega) (by omega) (sel_n hv (bI_0.mp hc38))
                  | exact ih (i + 1) _ _ (by omega) (by omega) (sel_t hv (bI_n0.mp hc38) (Or.inl hc54))
                  | exact ih (i + 1) _ _ (by omega) (by omega) (sel_t hv (bI_n0.mp hc38) (Or.inr (Int32.not_le.mp hc61)))
                  | exact ih (i + 1) _ _ (by omega) (by omega) (sel_f hv hc54 (Int32.not_lt.mpr hc61))
                · exact absurd rfl hc85
              · exact absurd rfl hc73
            · refine j_iconst (v := 1) C dX4_answerTo_64 rfl ?_
              refine j_goto C 69 dX4_answerTo_65 (by decide) ?_
              refine j_istore C dX4_answerTo_69 (by decide) ?_
              refine j_iload C dX4_answerTo_71 rfl ?_
              refine j_if_eq C 81 dX4_answerTo_73 (by decide) (fun hc73 => ?_) (fun hc73 => ?_)
              · exact absurd hc73 (by decide)
              · refine j_iload C dX4_answerTo_76 rfl ?_
                refine j_goto C 82 dX4_answerTo_78 (by decide) ?_
                refine j_istore_n C dX4_answerTo_82 (by decide) ?_
                refine j_iload C dX4_answerTo_83 rfl ?_
                refine j_if_eq C 93 dX4_answerTo_85 (by decide) (fun hc85 => ?_) (fun hc85 => ?_)
                · exact absurd hc85 (by decide)
                · refine j_iload C dX4_answerTo_88 rfl ?_
                  refine j_goto C 95 dX4_answerTo_90 (by decide) ?_
                  refine j_istore C dX4_answerTo_95 (by decide) ?_
                  refine j_iincN (n := 1) C dX4_answerTo_97 rfl (by decide) ?_
                  refine j_goto C 9 dX4_answerTo_100 (by decide) ?_
                  refine j_drop 6 ?_
                  refine j_drop 7 ?_
                  refine j_drop 8 ?_
                  first
                  | exact ih (i + 1) _ _ (by omega) (by omega) (sel_n hv (bI_0.mp hc38))
                  | exact ih (i + 1) _ _ (by omega) (by omega) (sel_t hv (bI_n0.mp hc38) (Or.inl hc54))
                  | exact ih (i + 1) _ _ (by omega) (by omega) (sel_t hv (bI_n0.mp hc38) (Or.inr (Int32.not_le.mp hc61)))
                  | exact ih (i + 1) _ _ (by omega) (by omega) (sel_f hv hc54 (Int32.not_lt.mpr hc61))
  refine j_ldc (v := (-1000000003)) C dX4_answerTo_0 (by decide +kernel) ?_
  refine j_istore_n C dX4_answerTo_2 (by decide) ?_
  refine j_iconst (v := 0) C dX4_answerTo_3 rfl ?_
  refine j_istore C dX4_answerTo_4 (by decide) ?_
  refine j_iconst (v := 0) C dX4_answerTo_6 rfl ?_
  refine j_istore C dX4_answerTo_7 (by decide) ?_
  exact hL (N + 1) 0 _ _ (by omega) (by omega) rfl
theorem n_X4_total_X4 : ∀ w ∈ wsX40, w ∈ wsX4_total := by decide +kernel
set_option maxHeartbeats 4000000 in
set_option maxRecDepth 100000 in
theorem c_X4_total {l : Launch} {D : va_G} {cI cZ cQ : ClassId} {ad : Nat → Nat} {np : Nat} {x : Nat → Nat} {g : Nat → Nat → Int32} (hnp : 41 ≤ np) {a : Nat → Nat} {b nu : Nat → Nat → Int32} (hM : RM x g a b nu) (hW : WF a b nu) {first : Int32} : Cn l D cI cZ cQ ad np 4 yX4_total wsX4_total [.ref (ad 27), .int first] x g (rp (toF a b nu first) x g) := by
  refine cn_of (own := RX4) (by decide) rfl rfl (by simp [Value.category]) (Nat.le_of_ble_eq_true rfl) ?_
  intro p e s m args below meth c A Q C HR HV
  obtain ⟨⟨e0, e1, e2, e3, e4, e5, e6⟩, hg, hnu⟩ := id hM
  obtain ⟨⟨w0, ⟨w1, w1'⟩, w2, w3, w4, w5, w6⟩, wt, wn, wq⟩ := id hW
  have b9 : g 28 = b 9 := hg 9 (by decide) (by decide)
  have b10 : g 29 = b 10 := hg 10 (by decide) (by decide)
  have b11 : g 30 = b 11 := hg 11 (by decide) (by decide)
  have b12 : g 31 = b 12 := hg 12 (by decide) (by decide)
  have b13 : g 32 = b 13 := hg 13 (by decide) (by decide)
  have b14 : g 33 = b 14 := hg 14 (by decide) (by decide)
  have b15 : g 34 = b 15 := hg 15 (by decide) (by decide)
  have b16 : g 35 = b 16 := hg 16 (by decide) (by decide)
  have b17 : g 36 = b 17 := hg 17 (by decide) (by decide)
  have hL : ∀ (n : Nat) (i : Nat) (v : Int32), i ≤ a 6 → a 6 - i < n → toS a b nu first i = some v → J p l e (Rm 4) s m args below meth c 0 0 D cI cZ cQ ad np A 5 Q x g 4 [some (.ref (ad 27)), some (.int first), some (.int v), some (.int (nI i)), none] [] := by
    intro n
    induction n with
    | zero => intros; omega
    | succ n ih =>
      intro i v h1 h2 hv
      refine j_iload_n C dX4_total_4 rfl ?_
      refine j_aload_n C dX4_total_5 rfl ?_
      refine jg_X4_futures C dX4_total_6 n_X4_total_X4 (by decide +kernel) (Nat.lt_of_lt_of_le (by decide) hnp) ?_
      refine j_icmp_ge C 63 dX4_total_9 (by decide) (fun hc => ?_) (fun hc => ?_)
      · have he : i = a 6 := by have := (nI_leI (by omega) (by omega)).mp hc; omega
        subst he
        refine j_iload_n C dX4_total_63 rfl ?_
        exact HR _ _ _ _ _ _ rfl rfl dX4_total_64 ⟨_, rfl, by unfold toF; rw [hv]; rfl, rfl, rfl⟩
      · have hlt : i < a 6 := by have := mt (nI_leI (by omega) (by omega)).mpr hc; omega
        refine j_aload_n C dX4_total_12 rfl ?_
        refine jg_X4_kept C dX4_total_13 n_X4_total_X4 (by decide +kernel) (Nat.lt_of_lt_of_le (by decide) hnp) ?_
        refine j_iload_n C dX4_total_16 rfl ?_
        refine j_zald C _ dX4_total_17 (Nat.lt_of_lt_of_le (by decide) hnp) (Or.inr rfl) rfl (by omega) ?_
        rw [b17]
        refine j_if_ne C 57 dX4_total_18 (by decide) (fun hc18 => ?_) (fun hc18 => ?_)
        · refine j_iincN (n := 1) C dX4_total_57 rfl (by decide) ?_
          refine j_goto C 4 dX4_total_60 (by decide) ?_
          refine j_drop 4 ?_
          first
          | exact ih (i + 1) _ (by omega) (by omega) (toS_k hv hc18)
          | exact ih (i + 1) _ (by omega) (by omega) (toS_s hv hc18 hc33)
        · refine j_aload_n C dX4_total_21 rfl ?_
          refine j_iload_n C dX4_total_22 rfl ?_
          refine j_iload_n C dX4_total_23 rfl ?_
          refine jVp2 (ci := 4) C dX4_total_24 gX4_total_X4_answerTo rfl pd_X4_answerTo ⟨by decide, by decide⟩ (Nat.lt_of_lt_of_le (by decide) hnp) rfl rfl rfl (Nat.le_of_ble_eq_true rfl) (c_X4_answerTo hnp hM hW hlt) ?_
          refine j_istore C dX4_total_27 (by decide) ?_
          refine j_iload C dX4_total_29 rfl ?_
          refine j_ldc (v := (-1000000003)) C dX4_total_31 (by decide +kernel) ?_
          refine j_icmp_ne C 39 dX4_total_33 (by decide) (fun hc33 => ?_) (fun hc33 => ?_)
          · refine j_iload_n C dX4_total_39 rfl ?_
            refine j_aload_n C dX4_total_40 rfl ?_
            refine jg_X4_odds C dX4_total_41 n_X4_total_X4 (by decide +kernel) (Nat.lt_of_lt_of_le (by decide) hnp) ?_
            refine j_iload_n C dX4_total_44 rfl ?_
            refine j_iald C _ dX4_total_45 (Nat.lt_of_lt_of_le (by decide) hnp) rfl rfl (show _ < 8 by omega) ?_
            rw [b16]
            refine j_aload_n C dX4_total_46 rfl ?_
            refine j_iload C dX4_total_47 rfl ?_
            refine j_iconst (v := (-1)) C dX4_total_49 rfl ?_
            refine j_iload_n C dX4_total_50 rfl ?_
            refine jVp3 (ci := 4) C dX4_total_51 gX4_total_X4_sum rfl pd_X4_sum ⟨by decide, by decide⟩ (Nat.lt_of_lt_of_le (by decide) hnp) rfl rfl rfl (Nat.le_of_ble_eq_true rfl) (c_X4_sum (num := nu i) hnp hM hW (Or.inr ⟨i, hlt, rfl, rfl⟩)) ?_
            refine j_imul C dX4_total_54 ?_
            refine j_iadd C dX4_total_55 ?_
            refine j_istore_n C dX4_total_56 (by decide) ?_
            refine j_iincN (n := 1) C dX4_total_57 rfl (by decide) ?_
            refine j_goto C 4 dX4_total_60 (by decide) ?_
            refine j_drop 4 ?_
            first
            | exact ih (i + 1) _ (by omega) (by omega) (toS_k hv hc18)
            | exact ih (i + 1) _ (by omega) (by omega) (toS_s hv hc18 hc33)
          · refine j_ldc (v := (-1000000003)) C dX4_total_36 (by decide +kernel) ?_
            exact HR _ _ _ _ _ _ rfl rfl dX4_total_38 ⟨_, rfl, by unfold toF; rw [← show i + 1 + (a 6 - (i + 1)) = a 6 by omega, toS_n hv hc18 hc33]; rfl, rfl, rfl⟩
  refine j_iconst (v := 0) C dX4_total_0 rfl ?_
  refine j_istore_n C dX4_total_1 (by decide) ?_
  refine j_iconst (v := 0) C dX4_total_2 rfl ?_
  refine j_istore_n C dX4_total_3 (by decide) ?_
  exact hL (a 6 + 1) 0 _ (by omega) (by omega) rfl
theorem n_X4_bestOf_X4 : ∀ w ∈ wsX40, w ∈ wsX4_bestOf := by decide +kernel
set_option maxHeartbeats 4000000 in
set_option maxRecDepth 100000 in
theorem c_X4_bestOf {l : Launch} {D : va_G} {cI cZ cQ : ClassId} {ad : Nat → Nat} {np : Nat} {x : Nat → Nat} {g : Nat → Nat → Int32} (hnp : 41 ≤ np) {a : Nat → Nat} {b nu : Nat → Nat → Int32} (hM : RM x g a b nu) (hW : WF a b nu) {i0 : Nat} (hi0 : i0 < a 6) : Cn l D cI cZ cQ ad np 4 yX4_bestOf wsX4_bestOf [.ref (ad 27), .int (nI i0)] x g (rp (lcF a b nu i0) x g) := by
  refine cn_of (own := RX4) (by decide) rfl rfl (by simp [Value.category]) (Nat.le_of_ble_eq_true rfl) ?_
  intro p e s m args below meth c A Q C HR HV
  obtain ⟨⟨e0, e1, e2, e3, e4, e5, e6⟩, hg, hnu⟩ := id hM
  obtain ⟨⟨w0, ⟨w1, w1'⟩, w2, w3, w4, w5, w6⟩, wt, wn, wq⟩ := id hW
  have b9 : g 28 = b 9 := hg 9 (by decide) (by decide)
  have b10 : g 29 = b 10 := hg 10 (by decide) (by decide)
  have b11 : g 30 = b 11 := hg 11 (by decide) (by decide)
  have b12 : g 31 = b 12 := hg 12 (by decide) (by decide)
  have b13 : g 32 = b 13 := hg 13 (by decide) (by decide)
  have b14 : g 33 = b 14 := hg 14 (by decide) (by decide)
  have b15 : g 34 = b 15 := hg 15 (by decide) (by decide)
  have b16 : g 35 = b 16 := hg 16 (by decide) (by decide)
  have b17 : g 36 = b 17 := hg 17 (by decide) (by decide)
  obtain ⟨N, hN⟩ : ∃ N, N = 2 ^ (a 1) := ⟨_, rfl⟩
  have hN2 : N ≤ 1024 := by rw [hN]; exact p2_le (by omega)
  have hL : ∀ (n : Nat) (i : Nat) (v : Int32), i ≤ N → N - i < n → minS (fun f => !decide (ansF a b nu (nI f) i0 = -1000000003)) (fun f => coF a b nu (ansF a b nu (nI f) i0) i0) i = v → J p l e (Rm 4) s m args below meth c 0 0 D cI cZ cQ ad np A 6 Q x g 5 [some (.ref (ad 27)), some (.int (nI i0)), some (.int v), some (.int (nI i)), none, none] [] := by
    intro n
    induction n with
    | zero => intros; omega
    | succ n ih =>
      intro i v h1 h2 hv
      refine j_iload_n C dX4_bestOf_5 rfl ?_
      refine j_iconst (v := 1) C dX4_bestOf_6 rfl ?_
      refine j_aload_n C dX4_bestOf_7 rfl ?_
      refine jg_X4_firsts C dX4_bestOf_8 n_X4_bestOf_X4 (by decide +kernel) (Nat.lt_of_lt_of_le (by decide) hnp) ?_
      refine j_ishl C dX4_bestOf_11 ?_
      rw [e1, fcF_eq (by omega), ← hN]
      refine j_icmp_ge C 76 dX4_bestOf_12 (by decide) (fun hc => ?_) (fun hc => ?_)
      · have he : i = N := by have := (nI_leI (by omega) (by omega)).mp hc; omega
        subst he
        refine j_iload_n C dX4_bestOf_76 rfl ?_
        exact HR _ _ _ _ _ _ rfl rfl dX4_bestOf_77 ⟨_, rfl, by rw [← bo_lc hW hi0]; unfold boF; rw [← hN, hv], rfl, rfl⟩
      · have hlt : i < N := by have := mt (nI_leI (by omega) (by omega)).mpr hc; omega
        refine j_aload_n C dX4_bestOf_15 rfl ?_
        refine j_iload_n C dX4_bestOf_16 rfl ?_
        refine j_iload_n C dX4_bestOf_17 rfl ?_
        refine jVp2 (ci := 4) C dX4_bestOf_18 gX4_bestOf_X4_answerTo rfl pd_X4_answerTo ⟨by decide, by decide⟩ (Nat.lt_of_lt_of_le (by decide) hnp) rfl rfl rfl (Nat.le_of_ble_eq_true rfl) (c_X4_answerTo hnp hM hW hi0) ?_
        refine j_istore C dX4_bestOf_21 (by decide) ?_
        refine j_iload C dX4_bestOf_23 rfl ?_
        refine j_ldc (v := (-1000000003)) C dX4_bestOf_25 (by decide +kernel) ?_
        refine j_icmp_ne C 34 dX4_bestOf_27 (by decide) (fun hc27 => ?_) (fun hc27 => ?_)
        · refine j_aload_n C dX4_bestOf_34 rfl ?_
          refine j_iload C dX4_bestOf_35 rfl ?_
          refine j_iconst (v := (-1)) C dX4_bestOf_37 rfl ?_
          refine j_iload_n C dX4_bestOf_38 rfl ?_
          refine jVp3 (ci := 4) C dX4_bestOf_39 gX4_bestOf_X4_sum rfl pd_X4_sum ⟨by decide, by decide⟩ (Nat.lt_of_lt_of_le (by decide) hnp) rfl rfl rfl (Nat.le_of_ble_eq_true rfl) (c_X4_sum (num := nu i0) hnp hM hW (Or.inr ⟨i0, hi0, rfl, rfl⟩)) ?_
          refine j_istore C dX4_bestOf_42 (by decide) ?_
          refine j_iload C dX4_bestOf_44 rfl ?_
          refine j_ldc (v := (-1000000003)) C dX4_bestOf_46 (by decide +kernel) ?_
          refine j_icmp_eq C 68 dX4_bestOf_48 (by decide) (fun hc48 => ?_) (fun hc48 => ?_)
          · exact absurd hc48 hc27
          · refine j_iload_n C dX4_bestOf_51 rfl ?_
            refine j_ldc (v := (-1000000003)) C dX4_bestOf_52 (by decide +kernel) ?_
            refine j_icmp_eq C 63 dX4_bestOf_54 (by decide) (fun hc54 => ?_) (fun hc54 => ?_)
            · refine j_iload C dX4_bestOf_63 rfl ?_
              refine j_goto C 69 dX4_bestOf_65 (by decide) ?_
              refine j_istore_n C dX4_bestOf_69 (by decide) ?_
              refine j_iincN (n := 1) C dX4_bestOf_70 rfl (by decide) ?_
              refine j_goto C 5 dX4_bestOf_73 (by decide) ?_
              refine j_drop 4 ?_
              refine j_drop 5 ?_
              first
              | exact ih (i + 1) _ (by omega) (by omega) (min_n hv (congrArg (fun z => !z) (decide_eq_true hc27)))
              | exact ih (i + 1) _ (by omega) (by omega) (min_t hv (congrArg (fun z => !z) (decide_eq_false hc27)) (Or.inl hc54))
              | exact ih (i + 1) _ (by omega) (by omega) (min_t hv (congrArg (fun z => !z) (decide_eq_false hc27)) (Or.inr (Int32.not_le.mp hc60)))
              | exact ih (i + 1) _ (by omega) (by omega) (min_f hv hc54 (Int32.not_lt.mpr hc60))
            · refine j_iload C dX4_bestOf_57 rfl ?_
              refine j_iload_n C dX4_bestOf_59 rfl ?_
              refine j_icmp_ge C 68 dX4_bestOf_60 (by decide) (fun hc60 => ?_) (fun hc60 => ?_)
              · refine j_iload_n C dX4_bestOf_68 rfl ?_
                refine j_istore_n C dX4_bestOf_69 (by decide) ?_
                refine j_iincN (n := 1) C dX4_bestOf_70 rfl (by decide) ?_
                refine j_goto C 5 dX4_bestOf_73 (by decide) ?_
                refine j_drop 4 ?_
                refine j_drop 5 ?_
                first
                | exact ih (i + 1) _ (by omega) (by omega) (min_n hv (congrArg (fun z => !z) (decide_eq_true hc27)))
                | exact ih (i + 1) _ (by omega) (by omega) (min_t hv (congrArg (fun z => !z) (decide_eq_false hc27)) (Or.inl hc54))
                | exact ih (i + 1) _ (by omega) (by omega) (min_t hv (congrArg (fun z => !z) (decide_eq_false hc27)) (Or.inr (Int32.not_le.mp hc60)))
                | exact ih (i + 1) _ (by omega) (by omega) (min_f hv hc54 (Int32.not_lt.mpr hc60))
              · refine j_iload C dX4_bestOf_63 rfl ?_
                refine j_goto C 69 dX4_bestOf_65 (by decide) ?_
                refine j_istore_n C dX4_bestOf_69 (by decide) ?_
                refine j_iincN (n := 1) C dX4_bestOf_70 rfl (by decide) ?_
                refine j_goto C 5 dX4_bestOf_73 (by decide) ?_
                refine j_drop 4 ?_
                refine j_drop 5 ?_
                first
                | exact ih (i + 1) _ (by omega) (by omega) (min_n hv (congrArg (fun z => !z) (decide_eq_true hc27)))
                | exact ih (i + 1) _ (by omega) (by omega) (min_t hv (congrArg (fun z => !z) (decide_eq_false hc27)) (Or.inl hc54))
                | exact ih (i + 1) _ (by omega) (by omega) (min_t hv (congrArg (fun z => !z) (decide_eq_false hc27)) (Or.inr (Int32.not_le.mp hc60)))
                | exact ih (i + 1) _ (by omega) (by omega) (min_f hv hc54 (Int32.not_lt.mpr hc60))
        · refine j_iconst (v := 0) C dX4_bestOf_30 rfl ?_
          refine j_goto C 42 dX4_bestOf_31 (by decide) ?_
          refine j_istore C dX4_bestOf_42 (by decide) ?_
          refine j_iload C dX4_bestOf_44 rfl ?_
          refine j_ldc (v := (-1000000003)) C dX4_bestOf_46 (by decide +kernel) ?_
          refine j_icmp_eq C 68 dX4_bestOf_48 (by decide) (fun hc48 => ?_) (fun hc48 => ?_)
          · refine j_iload_n C dX4_bestOf_68 rfl ?_
            refine j_istore_n C dX4_bestOf_69 (by decide) ?_
            refine j_iincN (n := 1) C dX4_bestOf_70 rfl (by decide) ?_
            refine j_goto C 5 dX4_bestOf_73 (by decide) ?_
            refine j_drop 4 ?_
            refine j_drop 5 ?_
            first
            | exact ih (i + 1) _ (by omega) (by omega) (min_n hv (congrArg (fun z => !z) (decide_eq_true hc27)))
            | exact ih (i + 1) _ (by omega) (by omega) (min_t hv (congrArg (fun z => !z) (decide_eq_false hc27)) (Or.inl hc54))
            | exact ih (i + 1) _ (by omega) (by omega) (min_t hv (congrArg (fun z => !z) (decide_eq_false hc27)) (Or.inr (Int32.not_le.mp hc60)))
            | exact ih (i + 1) _ (by omega) (by omega) (min_f hv hc54 (Int32.not_lt.mpr hc60))
          · exact absurd hc27 hc48
  refine j_ldc (v := (-1000000003)) C dX4_bestOf_0 (by decide +kernel) ?_
  refine j_istore_n C dX4_bestOf_2 (by decide) ?_
  refine j_iconst (v := 0) C dX4_bestOf_3 rfl ?_
  refine j_istore_n C dX4_bestOf_4 (by decide) ?_
  exact hL (N + 1) 0 _ (by omega) (by omega) rfl
theorem n_X4_findBests_X4 : ∀ w ∈ wsX40, w ∈ wsX4_findBests := by decide +kernel
set_option maxHeartbeats 4000000 in
set_option maxRecDepth 100000 in
theorem c_X4_findBests {l : Launch} {D : va_G} {cI cZ cQ : ClassId} {ad : Nat → Nat} {np : Nat} {x : Nat → Nat} {g : Nat → Nat → Int32} (hnp : 41 ≤ np) {a : Nat → Nat} {b nu : Nat → Nat → Int32} (hM : RM x g a b nu) (hW : WF a b nu) : Cn l D cI cZ cQ ad np 5 yX4_findBests wsX4_findBests [.ref (ad 27)] x g (rv (fun x' g' => x' = x ∧ Sm g g' ∧ ∀ j, j < a 6 → g' 40 j = lcF a b nu j)) := by
  refine cn_of (own := RX4) (by decide) rfl rfl (by simp [Value.category]) (Nat.le_of_ble_eq_true rfl) ?_
  intro p e s m args below meth c A Q C HR HV
  obtain ⟨⟨e0, e1, e2, e3, e4, e5, e6⟩, hg, hnu⟩ := id hM
  obtain ⟨⟨w0, ⟨w1, w1'⟩, w2, w3, w4, w5, w6⟩, wt, wn, wq⟩ := id hW
  have b9 : g 28 = b 9 := hg 9 (by decide) (by decide)
  have b10 : g 29 = b 10 := hg 10 (by decide) (by decide)
  have b11 : g 30 = b 11 := hg 11 (by decide) (by decide)
  have b12 : g 31 = b 12 := hg 12 (by decide) (by decide)
  have b13 : g 32 = b 13 := hg 13 (by decide) (by decide)
  have b14 : g 33 = b 14 := hg 14 (by decide) (by decide)
  have b15 : g 34 = b 15 := hg 15 (by decide) (by decide)
  have b16 : g 35 = b 16 := hg 16 (by decide) (by decide)
  have b17 : g 36 = b 17 := hg 17 (by decide) (by decide)
  have hL : ∀ (n : Nat) (i : Nat) (g2 : Nat → Nat → Int32), i ≤ a 6 → a 6 - i < n → Sm g g2 → (∀ j, j < i → g2 40 j = lcF a b nu j) → J p l e (Rm 5) s m args below meth c 0 0 D cI cZ cQ ad np A 2 Q x g2 2 [some (.ref (ad 27)), some (.int (nI i))] [] := by
    intro n
    induction n with
    | zero => intros; omega
    | succ n ih =>
      intro i g2 h1 h2 hS h5
      refine j_iload_n C dX4_findBests_2 rfl ?_
      refine j_aload_n C dX4_findBests_3 rfl ?_
      refine jg_X4_futures C dX4_findBests_4 n_X4_findBests_X4 (by decide +kernel) (Nat.lt_of_lt_of_le (by decide) hnp) ?_
      refine j_icmp_ge C 27 dX4_findBests_7 (by decide) (fun hc => ?_) (fun hc => ?_)
      · have he : i = a 6 := by have := (nI_leI (by omega) (by omega)).mp hc; omega
        subst he
        exact HV _ _ _ _ rfl dX4_findBests_27 ⟨rfl, rfl, hS, h5⟩
      · have hlt : i < a 6 := by have := mt (nI_leI (by omega) (by omega)).mpr hc; omega
        refine j_aload_n C dX4_findBests_10 rfl ?_
        refine jg_X4_bests C dX4_findBests_11 n_X4_findBests_X4 (by decide +kernel) (Nat.lt_of_lt_of_le (by decide) hnp) ?_
        refine j_iload_n C dX4_findBests_14 rfl ?_
        refine j_aload_n C dX4_findBests_15 rfl ?_
        refine j_iload_n C dX4_findBests_16 rfl ?_
        refine jVp1 (ci := 4) C dX4_findBests_17 gX4_findBests_X4_bestOf rfl pd_X4_bestOf ⟨by decide, by decide⟩ (Nat.lt_of_lt_of_le (by decide) hnp) rfl rfl rfl (Nat.le_of_ble_eq_true rfl) (c_X4_bestOf hnp (hM.sm hS) hW hlt) ?_
        refine j_iast C i dX4_findBests_20 (Nat.lt_of_lt_of_le (by decide) hnp) rfl rfl (show _ < 8 by omega) ?_
        refine j_iincN (n := 1) C dX4_findBests_21 rfl (by decide) ?_
        refine j_goto C 2 dX4_findBests_24 (by decide) ?_
        refine ih (i + 1) _ (by omega) (by omega) (hS.up ⟨by decide, by decide⟩) (fun j hj => ?_)
        rw [va_us]
        simp only [upd]
        by_cases hji : j = i
        · subst hji; rw [if_pos rfl]
        · rw [if_neg hji]; exact h5 j (by omega)
  refine j_iconst (v := 0) C dX4_findBests_0 rfl ?_
  refine j_istore_n C dX4_findBests_1 (by decide) ?_
  exact hL (a 6 + 1) 0 _ (by omega) (by omega) Sm.rf (fun j hj => absurd hj (Nat.not_lt_zero j))
theorem n_X4_regretOf_X4 : ∀ w ∈ wsX40, w ∈ wsX4_regretOf := by decide +kernel
set_option maxHeartbeats 4000000 in
set_option maxRecDepth 100000 in
theorem c_X4_regretOf {l : Launch} {D : va_G} {cI cZ cQ : ClassId} {ad : Nat → Nat} {np : Nat} {x : Nat → Nat} {g : Nat → Nat → Int32} (hnp : 41 ≤ np) {a : Nat → Nat} {b nu : Nat → Nat → Int32} (hM : RM x g a b nu) (hW : WF a b nu) {first : Int32} (h5 : ∀ j, j < a 6 → g 40 j = lcF a b nu j) : Cn l D cI cZ cQ ad np 5 yX4_regretOf wsX4_regretOf [.ref (ad 27), .int first] x g (rp (rgF a b nu first) x g) := by
  refine cn_of (own := RX4) (by decide) rfl rfl (by simp [Value.category]) (Nat.le_of_ble_eq_true rfl) ?_
  intro p e s m args below meth c A Q C HR HV
  obtain ⟨⟨e0, e1, e2, e3, e4, e5, e6⟩, hg, hnu⟩ := id hM
  obtain ⟨⟨w0, ⟨w1, w1'⟩, w2, w3, w4, w5, w6⟩, wt, wn, wq⟩ := id hW
  have b9 : g 28 = b 9 := hg 9 (by decide) (by decide)
  have b10 : g 29 = b 10 := hg 10 (by decide) (by decide)
  have b11 : g 30 = b 11 := hg 11 (by decide) (by decide)
  have b12 : g 31 = b 12 := hg 12 (by decide) (by decide)
  have b13 : g 32 = b 13 := hg 13 (by decide) (by decide)
  have b14 : g 33 = b 14 := hg 14 (by decide) (by decide)
  have b15 : g 34 = b 15 := hg 15 (by decide) (by decide)
  have b16 : g 35 = b 16 := hg 16 (by decide) (by decide)
  have b17 : g 36 = b 17 := hg 17 (by decide) (by decide)
  refine j_aload_n C dX4_regretOf_0 rfl ?_
  refine jVp0 (ci := 4) C dX4_regretOf_1 gX4_regretOf_X4_counted rfl pd_X4_counted ⟨by decide, by decide⟩ (Nat.lt_of_lt_of_le (by decide) hnp) rfl rfl rfl (Nat.le_of_ble_eq_true rfl) (c_X4_counted hnp hM hW) ?_
  refine j_if_eq C 17 dX4_regretOf_4 (by decide) (fun hc4 => ?_) (fun hc4 => ?_)
  · refine j_ldc (v := (-1000000003)) C dX4_regretOf_17 (by decide +kernel) ?_
    first
    | exact HR _ _ _ _ _ _ rfl rfl dX4_regretOf_19 ⟨_, rfl, (if_pos ((cnt_0 hW).1.mp hc4)).symm, rfl, rfl⟩
    | exact HR _ _ _ _ _ _ rfl rfl dX4_regretOf_19 ⟨_, rfl, by unfold rgF; rw [if_neg (fun q => hc4 ((cnt_0 hW).1.mpr q)), (to_rg (a 6)).mp ((to_nn hW).mp hc14)]; rfl, rfl, rfl⟩
  · refine j_aload_n C dX4_regretOf_7 rfl ?_
    refine j_iload_n C dX4_regretOf_8 rfl ?_
    refine jVp1 (ci := 4) C dX4_regretOf_9 gX4_regretOf_X4_total rfl pd_X4_total ⟨by decide, by decide⟩ (Nat.lt_of_lt_of_le (by decide) hnp) rfl rfl rfl (Nat.le_of_ble_eq_true rfl) (c_X4_total hnp hM hW) ?_
    refine j_ldc (v := (-1000000003)) C dX4_regretOf_12 (by decide +kernel) ?_
    refine j_icmp_ne C 20 dX4_regretOf_14 (by decide) (fun hc14 => ?_) (fun hc14 => ?_)
    · obtain ⟨vv, hall⟩ : ∃ vv, rgS a b nu (lcF a b nu) first (a 6) = some vv := by
        cases hq : rgS a b nu (lcF a b nu) first (a 6) with
        | none => exact absurd ((to_nn hW).mpr ((to_rg (a 6)).mpr hq)) hc14
        | some vv => exact ⟨vv, rfl⟩
      have hL : ∀ (n : Nat) (i : Nat) (v : Int32), i ≤ a 6 → a 6 - i < n → rgS a b nu (lcF a b nu) first i = some v → J p l e (Rm 5) s m args below meth c 0 0 D cI cZ cQ ad np A 5 Q x g 24 [some (.ref (ad 27)), some (.int first), some (.int v), some (.int (nI i)), none] [] := by
        intro n
        induction n with
        | zero => intros; omega
        | succ n ih =>
          intro i v h1 h2 hv
          refine j_iload_n C dX4_regretOf_24 rfl ?_
          refine j_aload_n C dX4_regretOf_25 rfl ?_
          refine jg_X4_futures C dX4_regretOf_26 n_X4_regretOf_X4 (by decide +kernel) (Nat.lt_of_lt_of_le (by decide) hnp) ?_
          refine j_icmp_ge C 85 dX4_regretOf_29 (by decide) (fun hc => ?_) (fun hc => ?_)
          · have he : i = a 6 := by have := (nI_leI (by omega) (by omega)).mp hc; omega
            subst he
            refine j_iload_n C dX4_regretOf_85 rfl ?_
            exact HR _ _ _ _ _ _ rfl rfl dX4_regretOf_86 ⟨_, rfl, by unfold rgF; rw [if_neg (fun q => hc4 ((cnt_0 hW).1.mpr q)), hv]; rfl, rfl, rfl⟩
          · have hlt : i < a 6 := by have := mt (nI_leI (by omega) (by omega)).mpr hc; omega
            refine j_aload_n C dX4_regretOf_32 rfl ?_
            refine jg_X4_kept C dX4_regretOf_33 n_X4_regretOf_X4 (by decide +kernel) (Nat.lt_of_lt_of_le (by decide) hnp) ?_
            refine j_iload_n C dX4_regretOf_36 rfl ?_
            refine j_zald C _ dX4_regretOf_37 (Nat.lt_of_lt_of_le (by decide) hnp) (Or.inr rfl) rfl (by omega) ?_
            rw [b17]
            refine j_if_eq C 45 dX4_regretOf_38 (by decide) (fun hc38 => ?_) (fun hc38 => ?_)
            · refine j_aload_n C dX4_regretOf_45 rfl ?_
              refine j_aload_n C dX4_regretOf_46 rfl ?_
              refine j_iload_n C dX4_regretOf_47 rfl ?_
              refine j_iload_n C dX4_regretOf_48 rfl ?_
              refine jVp2 (ci := 4) C dX4_regretOf_49 gX4_regretOf_X4_answerTo rfl pd_X4_answerTo ⟨by decide, by decide⟩ (Nat.lt_of_lt_of_le (by decide) hnp) rfl rfl rfl (Nat.le_of_ble_eq_true rfl) (c_X4_answerTo hnp hM hW hlt) ?_
              refine j_iconst (v := (-1)) C dX4_regretOf_52 rfl ?_
              refine j_iload_n C dX4_regretOf_53 rfl ?_
              refine jVp3 (ci := 4) C dX4_regretOf_54 gX4_regretOf_X4_sum rfl pd_X4_sum ⟨by decide, by decide⟩ (Nat.lt_of_lt_of_le (by decide) hnp) rfl rfl rfl (Nat.le_of_ble_eq_true rfl) (c_X4_sum (num := nu i) hnp hM hW (Or.inr ⟨i, hlt, rfl, rfl⟩)) ?_
              refine j_aload_n C dX4_regretOf_57 rfl ?_
              refine jg_X4_bests C dX4_regretOf_58 n_X4_regretOf_X4 (by decide +kernel) (Nat.lt_of_lt_of_le (by decide) hnp) ?_
              refine j_iload_n C dX4_regretOf_61 rfl ?_
              refine j_iald C i dX4_regretOf_62 (Nat.lt_of_lt_of_le (by decide) hnp) rfl rfl (show _ < 8 by omega) ?_
              rw [h5 i hlt]
              refine j_isub C dX4_regretOf_63 ?_
              refine j_istore C dX4_regretOf_64 (by decide) ?_
              refine j_iload C dX4_regretOf_66 rfl ?_
              refine j_iload_n C dX4_regretOf_68 rfl ?_
              refine j_icmp_le C 77 dX4_regretOf_69 (by decide) (fun hc69 => ?_) (fun hc69 => ?_)
              · refine j_iload_n C dX4_regretOf_77 rfl ?_
                refine j_istore_n C dX4_regretOf_78 (by decide) ?_
                refine j_iincN (n := 1) C dX4_regretOf_79 rfl (by decide) ?_
                refine j_goto C 24 dX4_regretOf_82 (by decide) ?_
                refine j_drop 4 ?_
                first
                | exact ih (i + 1) _ (by omega) (by omega) (rgS_k hv hc38)
                | exact absurd (rg_pos i v hv) hc69
                | exact ih (i + 1) _ (by omega) (by omega) (by rw [rgS_s hv hc38 (rg_ans hall hlt hc38)]; exact congrArg some (if_neg (Int32.not_lt.mpr hc69)))
                | exact ih (i + 1) _ (by omega) (by omega) (by rw [rgS_s hv hc38 (rg_ans hall hlt hc38)]; exact congrArg some (if_pos (Int32.not_le.mp hc69)))
              · refine j_iload C dX4_regretOf_72 rfl ?_
                refine j_goto C 78 dX4_regretOf_74 (by decide) ?_
                refine j_istore_n C dX4_regretOf_78 (by decide) ?_
                refine j_iincN (n := 1) C dX4_regretOf_79 rfl (by decide) ?_
                refine j_goto C 24 dX4_regretOf_82 (by decide) ?_
                refine j_drop 4 ?_
                first
                | exact ih (i + 1) _ (by omega) (by omega) (rgS_k hv hc38)
                | exact absurd (rg_pos i v hv) hc69
                | exact ih (i + 1) _ (by omega) (by omega) (by rw [rgS_s hv hc38 (rg_ans hall hlt hc38)]; exact congrArg some (if_neg (Int32.not_lt.mpr hc69)))
                | exact ih (i + 1) _ (by omega) (by omega) (by rw [rgS_s hv hc38 (rg_ans hall hlt hc38)]; exact congrArg some (if_pos (Int32.not_le.mp hc69)))
            · refine j_iconst (v := 0) C dX4_regretOf_41 rfl ?_
              refine j_goto C 64 dX4_regretOf_42 (by decide) ?_
              refine j_istore C dX4_regretOf_64 (by decide) ?_
              refine j_iload C dX4_regretOf_66 rfl ?_
              refine j_iload_n C dX4_regretOf_68 rfl ?_
              refine j_icmp_le C 77 dX4_regretOf_69 (by decide) (fun hc69 => ?_) (fun hc69 => ?_)
              · refine j_iload_n C dX4_regretOf_77 rfl ?_
                refine j_istore_n C dX4_regretOf_78 (by decide) ?_
                refine j_iincN (n := 1) C dX4_regretOf_79 rfl (by decide) ?_
                refine j_goto C 24 dX4_regretOf_82 (by decide) ?_
                refine j_drop 4 ?_
                first
                | exact ih (i + 1) _ (by omega) (by omega) (rgS_k hv hc38)
                | exact absurd (rg_pos i v hv) hc69
                | exact ih (i + 1) _ (by omega) (by omega) (by rw [rgS_s hv hc38 (rg_ans hall hlt hc38)]; exact congrArg some (if_neg (Int32.not_lt.mpr hc69)))
                | exact ih (i + 1) _ (by omega) (by omega) (by rw [rgS_s hv hc38 (rg_ans hall hlt hc38)]; exact congrArg some (if_pos (Int32.not_le.mp hc69)))
              · refine j_iload C dX4_regretOf_72 rfl ?_
                refine j_goto C 78 dX4_regretOf_74 (by decide) ?_
                refine j_istore_n C dX4_regretOf_78 (by decide) ?_
                refine j_iincN (n := 1) C dX4_regretOf_79 rfl (by decide) ?_
                refine j_goto C 24 dX4_regretOf_82 (by decide) ?_
                refine j_drop 4 ?_
                first
                | exact ih (i + 1) _ (by omega) (by omega) (rgS_k hv hc38)
                | exact absurd (rg_pos i v hv) hc69
                | exact ih (i + 1) _ (by omega) (by omega) (by rw [rgS_s hv hc38 (rg_ans hall hlt hc38)]; exact congrArg some (if_neg (Int32.not_lt.mpr hc69)))
                | exact ih (i + 1) _ (by omega) (by omega) (by rw [rgS_s hv hc38 (rg_ans hall hlt hc38)]; exact congrArg some (if_pos (Int32.not_le.mp hc69)))
      refine j_iconst (v := 0) C dX4_regretOf_20 rfl ?_
      refine j_istore_n C dX4_regretOf_21 (by decide) ?_
      refine j_iconst (v := 0) C dX4_regretOf_22 rfl ?_
      refine j_istore_n C dX4_regretOf_23 (by decide) ?_
      exact hL (a 6 + 1) 0 _ (by omega) (by omega) rfl
    · refine j_ldc (v := (-1000000003)) C dX4_regretOf_17 (by decide +kernel) ?_
      first
      | exact HR _ _ _ _ _ _ rfl rfl dX4_regretOf_19 ⟨_, rfl, (if_pos ((cnt_0 hW).1.mp hc4)).symm, rfl, rfl⟩
      | exact HR _ _ _ _ _ _ rfl rfl dX4_regretOf_19 ⟨_, rfl, by unfold rgF; rw [if_neg (fun q => hc4 ((cnt_0 hW).1.mpr q)), (to_rg (a 6)).mp ((to_nn hW).mp hc14)]; rfl, rfl, rfl⟩
