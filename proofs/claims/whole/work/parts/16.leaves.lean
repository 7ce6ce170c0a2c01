theorem on_off {b : Nat → Nat → Int32} {plan row : Int32} {t : Nat} (h : ¬ b 12 t = row) : onF b plan row t = false := by simp [onF, h]
theorem on_ntk {b : Nat → Nat → Int32} {plan row : Int32} {t : Nat} (h : tkF b plan t = false) : onF b plan row t = false := by simp [onF, h]
theorem on_on {b : Nat → Nat → Int32} {plan row : Int32} {t : Nat} (h1 : b 12 t = row) (h : tkF b plan t = true) : onF b plan row t = true := by simp [onF, h, h1]
theorem baF_off {b : Nat → Nat → Int32} {plan row v : Int32} {t : Nat} (h : onF b plan row t = false) (hv : v = baF b plan row t) : v = baF b plan row (t + 1) := by simp [baF, h, hv]
theorem wF_off {b : Nat → Nat → Int32} {plan row : Int32} {f : Nat → Int32} {t N : Nat} (h : onF b plan row t = false) (hf : ∀ n, n < N → f n = wF b plan row n t) : ∀ n, n < N → f n = wF b plan row n (t + 1) := fun n hn => by simp [wF, h, hf n hn]
theorem wF_no {b : Nat → Nat → Int32} {plan row : Int32} {f : Nat → Int32} {t N : Nat} (h : b 14 t < 0) (hN : N < 2 ^ 31) (hf : ∀ n, n < N → f n = wF b plan row n t) : ∀ n, n < N → f n = wF b plan row n (t + 1) := fun n hn => by
  have : ¬ b 14 t = nI n := fun e => nI_pos (n := n) (by omega) (e ▸ h)
  simp [wF, this, hf n hn]
theorem wF_on {b : Nat → Nat → Int32} {plan row : Int32} {f : Nat → Int32} {t N k : Nat} (h : onF b plan row t = true) (hk : b 14 t = nI k) (hkN : k < N) (hN : N < 2 ^ 31) (hf : ∀ n, n < N → f n = wF b plan row n t) : ∀ n, n < N → upd f k (f k + b 15 t) n = wF b plan row n (t + 1) := fun n hn => by
  simp only [wF, h, hk, Bool.true_and, decide_eq_true_eq]
  by_cases e : n = k
  · subst e
    rw [if_pos rfl, ← hf n hn]
    simp [upd]
  · rw [if_neg (fun q => e ((nI_eq (by omega) (by omega)).mp q).symm)]
    simp only [upd]
    rw [if_neg e]
    exact hf n hn
theorem m1_lt : (-1 : Int32) < 0 := by decide
theorem n_X2_weigh_X2 : ∀ w ∈ wsX20, w ∈ wsX2_weigh := by decide +kernel
set_option maxHeartbeats 4000000 in
set_option maxRecDepth 100000 in
theorem c_X2_weigh {l : Launch} {D : va_G} {cI cZ cQ : ClassId} {ad : Nat → Nat} {np : Nat} {x : Nat → Nat} {g : Nat → Nat → Int32} (hnp : 27 ≤ np) {a : Nat → Nat} {b nu : Nat → Nat → Int32} (hX : RX x g a b nu) (hW : WF a b nu) {plan row : Int32} : Cn l D cI cZ cQ ad np 1 yX2_weigh wsX2_weigh [.ref (ad 2), .int plan, .int row, .ref (ad 6)] x g (ri (fun r x' g' => r = baF b plan row (a 5) ∧ x' = x ∧ ∃ f, g' = va_up g 6 f ∧ ∀ n, n < a 4 → f n = wF b plan row n (a 5))) := by
  refine cn_of (own := RX2) (by decide) rfl rfl (by simp [Value.category]) (Nat.le_of_ble_eq_true rfl) ?_
  intro p e s m args below meth c A Q C HR HV
  obtain ⟨hx, hg, hnu⟩ := id hX
  obtain ⟨⟨w0, ⟨w1, w1'⟩, w2, w3, w4, w5, w6⟩, wt, wn, wq⟩ := id hW
  have e0 := hx 0 (by decide)
  have e1 := hx 1 (by decide)
  have e2 := hx 2 (by decide)
  have e3 := hx 3 (by decide)
  have e4 := hx 4 (by decide)
  have e5 := hx 5 (by decide)
  have e6 := hx 6 (by decide)
  have b9 := hg 9 (by decide) (by decide)
  have b10 := hg 10 (by decide) (by decide)
  have b11 := hg 11 (by decide) (by decide)
  have b12 := hg 12 (by decide) (by decide)
  have b13 := hg 13 (by decide) (by decide)
  have b14 := hg 14 (by decide) (by decide)
  have b15 := hg 15 (by decide) (by decide)
  have b16 := hg 16 (by decide) (by decide)
  have b17 := hg 17 (by decide) (by decide)
  have hL2 : ∀ (n : Nat) (i : Nat) (v : Int32) (f : Nat → Int32), i ≤ a 5 → a 5 - i < n → v = baF b plan row i → (∀ n, n < a 4 → f n = wF b plan row n i) → J p l e (Rm 1) s m args below meth c 0 0 D cI cZ cQ ad np A 6 Q x (va_up g 6 f) 27 [some (.ref (ad 2)), some (.int plan), some (.int row), some (.ref (ad 6)), some (.int v), some (.int (nI i))] [] := by
    intro n
    induction n with
    | zero => intros; omega
    | succ n ih =>
      intro i v f h1 h2 hv hf
      refine j_iload C dX2_weigh_27 rfl ?_
      refine j_aload_n C dX2_weigh_29 rfl ?_
      refine jg_X2_count C dX2_weigh_30 n_X2_weigh_X2 (by decide +kernel) (Nat.lt_of_lt_of_le (by decide) hnp) ?_
      refine j_icmp_ge C 111 dX2_weigh_33 (by decide) (fun hc => ?_) (fun hc => ?_)
      · have he : i = a 5 := by have := (nI_leI (by omega) (by omega)).mp hc; omega
        subst he
        refine j_iload C dX2_weigh_111 rfl ?_
        exact HR _ _ _ _ _ _ rfl rfl dX2_weigh_113 ⟨_, rfl, hv, rfl, f, rfl, hf⟩
      · have hlt : i < a 5 := by have := mt (nI_leI (by omega) (by omega)).mpr hc; omega
        obtain ⟨⟨r, hr1, hr⟩, hch, hnm, hf1, hf2⟩ := wt i hlt
        have hch2 : b 13 i = -1 ∨ ¬ b 13 i < 0 := hch.imp_right (fun ⟨j, hj, e⟩ => by rw [e]; exact nI_pos (by omega))
        have hnm2 : b 14 i = -1 ∨ ¬ b 14 i < 0 := hnm.imp_right (fun ⟨j, hj, e⟩ => by rw [e]; exact nI_pos (by omega))
        refine j_aload_n C dX2_weigh_36 rfl ?_
        refine jg_X2_rowOf C dX2_weigh_37 n_X2_weigh_X2 (by decide +kernel) (Nat.lt_of_lt_of_le (by decide) hnp) ?_
        refine j_iload C dX2_weigh_40 rfl ?_
        refine j_iald C i dX2_weigh_42 (Nat.lt_of_lt_of_le (by decide) hnp) rfl rfl (show _ < 40 by omega) ?_
        rw [va_un _ 6 12 _ (by decide), b12]
        refine j_iload_n C dX2_weigh_43 rfl ?_
        refine j_icmp_ne C 105 dX2_weigh_44 (by decide) (fun hc44 => ?_) (fun hc44 => ?_)
        · refine j_iincN (n := 1) C dX2_weigh_105 rfl (by decide) ?_
          refine j_goto C 27 dX2_weigh_108 (by decide) ?_
          first
          | exact ih (i + 1) _ _ (by omega) (by omega) (baF_off (on_off hc44) hv) (wF_off (on_off hc44) hf)
          | exact ih (i + 1) _ _ (by omega) (by omega) (baF_off (on_ntk (bI_0.mp hc54)) hv) (wF_off (on_ntk (bI_0.mp hc54)) hf)
          | exact ih (i + 1) _ _ (by omega) (by omega) (by simp only [baF]; rw [on_on hc44 (bI_n0.mp hc54), if_pos (by rw [hc68]; decide), hv]) (wF_no (by rw [hc68]; decide) (by omega) hf)
          | exact ih (i + 1) _ _ (by omega) (by omega) (by simp only [baF]; rw [on_on hc44 (bI_n0.mp hc54), decide_eq_false (hnm2.resolve_left hc68), hv]; rfl) (wF_on (on_on hc44 (bI_n0.mp hc54)) hnn hn1 (by omega) hf)
        · refine j_aload_n C dX2_weigh_47 rfl ?_
          refine j_iload C dX2_weigh_48 rfl ?_
          refine j_iload_n C dX2_weigh_50 rfl ?_
          refine jVp2 (ci := 2) C dX2_weigh_51 gX2_weigh_X2_isTaken rfl pd_X2_isTaken ⟨by decide, by decide⟩ (Nat.lt_of_lt_of_le (by decide) hnp) rfl rfl rfl (Nat.le_of_ble_eq_true rfl) (c_X2_isTaken hnp ((va_un _ 6 13 _ (by decide)).trans b13) (by omega) hch2) ?_
          refine j_if_ne C 60 dX2_weigh_54 (by decide) (fun hc54 => ?_) (fun hc54 => ?_)
          · refine j_aload_n C dX2_weigh_60 rfl ?_
            refine jg_X2_nameOf C dX2_weigh_61 n_X2_weigh_X2 (by decide +kernel) (Nat.lt_of_lt_of_le (by decide) hnp) ?_
            refine j_iload C dX2_weigh_64 rfl ?_
            refine j_iald C i dX2_weigh_66 (Nat.lt_of_lt_of_le (by decide) hnp) rfl rfl (show _ < 40 by omega) ?_
            rw [va_un _ 6 14 _ (by decide), b14]
            refine j_iconst (v := (-1)) C dX2_weigh_67 rfl ?_
            refine j_icmp_ne C 86 dX2_weigh_68 (by decide) (fun hc68 => ?_) (fun hc68 => ?_)
            · obtain ⟨nn, hn1, hnn⟩ := hnm.resolve_left hc68
              refine j_aload_n C dX2_weigh_86 rfl ?_
              refine j_aload_n C dX2_weigh_87 rfl ?_
              refine jg_X2_nameOf C dX2_weigh_88 n_X2_weigh_X2 (by decide +kernel) (Nat.lt_of_lt_of_le (by decide) hnp) ?_
              refine j_iload C dX2_weigh_91 rfl ?_
              refine j_iald C i dX2_weigh_93 (Nat.lt_of_lt_of_le (by decide) hnp) rfl rfl (show _ < 40 by omega) ?_
              rw [va_un _ 6 14 _ (by decide), b14]
              refine j_dup2 C dX2_weigh_94 rfl rfl ?_
              refine j_iald C nn dX2_weigh_95 (Nat.lt_of_lt_of_le (by decide) hnp) rfl hnn (show _ < 12 by omega) ?_
              rw [va_us]
              refine j_aload_n C dX2_weigh_96 rfl ?_
              refine jg_X2_factorOf C dX2_weigh_97 n_X2_weigh_X2 (by decide +kernel) (Nat.lt_of_lt_of_le (by decide) hnp) ?_
              refine j_iload C dX2_weigh_100 rfl ?_
              refine j_iald C i dX2_weigh_102 (Nat.lt_of_lt_of_le (by decide) hnp) rfl rfl (show _ < 40 by omega) ?_
              rw [va_un _ 6 15 _ (by decide), b15]
              refine j_iadd C dX2_weigh_103 ?_
              refine j_iast C nn dX2_weigh_104 (Nat.lt_of_lt_of_le (by decide) hnp) rfl hnn (show _ < 12 by omega) ?_
              rw [va_us, va_uu]
              refine j_iincN (n := 1) C dX2_weigh_105 rfl (by decide) ?_
              refine j_goto C 27 dX2_weigh_108 (by decide) ?_
              first
              | exact ih (i + 1) _ _ (by omega) (by omega) (baF_off (on_off hc44) hv) (wF_off (on_off hc44) hf)
              | exact ih (i + 1) _ _ (by omega) (by omega) (baF_off (on_ntk (bI_0.mp hc54)) hv) (wF_off (on_ntk (bI_0.mp hc54)) hf)
              | exact ih (i + 1) _ _ (by omega) (by omega) (by simp only [baF]; rw [on_on hc44 (bI_n0.mp hc54), if_pos (by rw [hc68]; decide), hv]) (wF_no (by rw [hc68]; decide) (by omega) hf)
              | exact ih (i + 1) _ _ (by omega) (by omega) (by simp only [baF]; rw [on_on hc44 (bI_n0.mp hc54), decide_eq_false (hnm2.resolve_left hc68), hv]; rfl) (wF_on (on_on hc44 (bI_n0.mp hc54)) hnn hn1 (by omega) hf)
            · refine j_iload C dX2_weigh_71 rfl ?_
              refine j_aload_n C dX2_weigh_73 rfl ?_
              refine jg_X2_factorOf C dX2_weigh_74 n_X2_weigh_X2 (by decide +kernel) (Nat.lt_of_lt_of_le (by decide) hnp) ?_
              refine j_iload C dX2_weigh_77 rfl ?_
              refine j_iald C i dX2_weigh_79 (Nat.lt_of_lt_of_le (by decide) hnp) rfl rfl (show _ < 40 by omega) ?_
              rw [va_un _ 6 15 _ (by decide), b15]
              refine j_iadd C dX2_weigh_80 ?_
              refine j_istore C dX2_weigh_81 (by decide) ?_
              refine j_goto C 105 dX2_weigh_83 (by decide) ?_
              refine j_iincN (n := 1) C dX2_weigh_105 rfl (by decide) ?_
              refine j_goto C 27 dX2_weigh_108 (by decide) ?_
              first
              | exact ih (i + 1) _ _ (by omega) (by omega) (baF_off (on_off hc44) hv) (wF_off (on_off hc44) hf)
              | exact ih (i + 1) _ _ (by omega) (by omega) (baF_off (on_ntk (bI_0.mp hc54)) hv) (wF_off (on_ntk (bI_0.mp hc54)) hf)
              | exact ih (i + 1) _ _ (by omega) (by omega) (by simp only [baF]; rw [on_on hc44 (bI_n0.mp hc54), if_pos (by rw [hc68]; decide), hv]) (wF_no (by rw [hc68]; decide) (by omega) hf)
              | exact ih (i + 1) _ _ (by omega) (by omega) (by simp only [baF]; rw [on_on hc44 (bI_n0.mp hc54), decide_eq_false (hnm2.resolve_left hc68), hv]; rfl) (wF_on (on_on hc44 (bI_n0.mp hc54)) hnn hn1 (by omega) hf)
          · refine j_goto C 105 dX2_weigh_57 (by decide) ?_
            refine j_iincN (n := 1) C dX2_weigh_105 rfl (by decide) ?_
            refine j_goto C 27 dX2_weigh_108 (by decide) ?_
            first
            | exact ih (i + 1) _ _ (by omega) (by omega) (baF_off (on_off hc44) hv) (wF_off (on_off hc44) hf)
            | exact ih (i + 1) _ _ (by omega) (by omega) (baF_off (on_ntk (bI_0.mp hc54)) hv) (wF_off (on_ntk (bI_0.mp hc54)) hf)
            | exact ih (i + 1) _ _ (by omega) (by omega) (by simp only [baF]; rw [on_on hc44 (bI_n0.mp hc54), if_pos (by rw [hc68]; decide), hv]) (wF_no (by rw [hc68]; decide) (by omega) hf)
            | exact ih (i + 1) _ _ (by omega) (by omega) (by simp only [baF]; rw [on_on hc44 (bI_n0.mp hc54), decide_eq_false (hnm2.resolve_left hc68), hv]; rfl) (wF_on (on_on hc44 (bI_n0.mp hc54)) hnn hn1 (by omega) hf)
  have hL1 : ∀ (n : Nat) (i : Nat), i ≤ 12 → 12 - i < n → J p l e (Rm 1) s m args below meth c 0 0 D cI cZ cQ ad np A 6 Q x (va_up g 6 (cpF (g 6) (fun _ => 0) i)) 3 [some (.ref (ad 2)), some (.int plan), some (.int row), some (.ref (ad 6)), some (.int (nI i)), none] [] := by
    intro n
    induction n with
    | zero => intros; omega
    | succ n ih =>
      intro i h1 h2
      refine j_iload C dX2_weigh_3 rfl ?_
      refine j_aload_n C dX2_weigh_5 rfl ?_
      refine j_alen (v := nI 12) C dX2_weigh_6 (Nat.lt_of_lt_of_le (by decide) hnp) rfl rfl ?_
      refine j_icmp_ge C 21 dX2_weigh_7 (by decide) (fun hc => ?_) (fun hc => ?_)
      · have he : i = 12 := by have := (nI_leI (by omega) (by omega)).mp hc; omega
        subst he
        refine j_iconst (v := 0) C dX2_weigh_21 rfl ?_
        refine j_istore C dX2_weigh_22 (by decide) ?_
        refine j_iconst (v := 0) C dX2_weigh_24 rfl ?_
        refine j_istore C dX2_weigh_25 (by decide) ?_
        exact hL2 (a 5 + 1) 0 _ _ (by omega) (by omega) rfl (fun q hq => by simp only [cpF]; rw [if_pos (by omega)]; rfl)
      · have hlt : i < 12 := by have := mt (nI_leI (by omega) (by omega)).mpr hc; omega
        refine j_aload_n C dX2_weigh_10 rfl ?_
        refine j_iload C dX2_weigh_11 rfl ?_
        refine j_iconst (v := 0) C dX2_weigh_13 rfl ?_
        refine j_iast C i dX2_weigh_14 (Nat.lt_of_lt_of_le (by decide) hnp) rfl rfl (show _ < 12 by omega) ?_
        rw [va_us, va_uu, zF_s]
        refine j_iincN (n := 1) C dX2_weigh_15 rfl (by decide) ?_
        refine j_goto C 3 dX2_weigh_18 (by decide) ?_
        exact ih (i + 1) (by omega) (by omega)
  refine j_iconst (v := 0) C dX2_weigh_0 rfl ?_
  refine j_istore C dX2_weigh_1 (by decide) ?_
  have hL0 := hL1 13 0 (by omega) (by omega)
  rw [cpF_0, va_id] at hL0
  exact hL0
theorem n_X4_counted_X4 : ∀ w ∈ wsX40, w ∈ wsX4_counted := by decide +kernel
set_option maxHeartbeats 4000000 in
set_option maxRecDepth 100000 in
theorem c_X4_counted {l : Launch} {D : va_G} {cI cZ cQ : ClassId} {ad : Nat → Nat} {np : Nat} {x : Nat → Nat} {g : Nat → Nat → Int32} (hnp : 41 ≤ np) {a : Nat → Nat} {b nu : Nat → Nat → Int32} (hM : RM x g a b nu) (hW : WF a b nu) : Cn l D cI cZ cQ ad np 0 yX4_counted wsX4_counted [.ref (ad 27)] x g (rp (cntF b (a 6)) x g) := by
  refine cn_of (own := RX4) (by decide) rfl rfl (by simp [Value.category]) (Nat.le_of_ble_eq_true rfl) ?_
  intro p e s m args below meth c A Q C HR HV
  obtain ⟨⟨e0, e1, e2, e3, e4, e5, e6⟩, hg, hnu⟩ := id hM
  obtain ⟨⟨w0, ⟨w1, w1'⟩, w2, w3, w4, w5, w6⟩, wt, wn, wq⟩ := id hW
  have b9 : g 28 = b 9 := hg 9 (by decide) (by decide)
  have b10 : g 29 = b 10 := hg 10 (by decide) (by decide)
  have b11 : g 30 = b 11 := hg 11 (by decide) (by decide)
  have b12 : g 31 = b 12 := hg 12 (by decide) (by decide)
  have b13 : g 32 = b 13 := hg 13 (by decide) (by decide)
  have b14 : g 33 = b 14 := hg 14 (by decide) (by decide)
  have b15 : g 34 = b 15 := hg 15 (by decide) (by decide)
  have b16 : g 35 = b 16 := hg 16 (by decide) (by decide)
  have b17 : g 36 = b 17 := hg 17 (by decide) (by decide)
  have hL : ∀ (n : Nat) (i : Nat) (r : Int32), i ≤ a 6 → a 6 - i < n → r = cntF b i → J p l e (Rm 0) s m args below meth c 0 0 D cI cZ cQ ad np A 3 Q x g 4 [some (.ref (ad 27)), some (.int r), some (.int (nI i))] [] := by
    intro n
    induction n with
    | zero => intros; omega
    | succ n ih =>
      intro i r h1 h2 hr
      refine j_iload_n C dX4_counted_4 rfl ?_
      refine j_aload_n C dX4_counted_5 rfl ?_
      refine jg_X4_futures C dX4_counted_6 n_X4_counted_X4 (by decide +kernel) (Nat.lt_of_lt_of_le (by decide) hnp) ?_
      refine j_icmp_ge C 35 dX4_counted_9 (by decide) (fun hc => ?_) (fun hc => ?_)
      · have he : i = a 6 := by have := (nI_leI (by omega) (by omega)).mp hc; omega
        subst he
        refine j_iload_n C dX4_counted_35 rfl ?_
        exact HR _ _ _ _ _ _ rfl rfl dX4_counted_36 ⟨_, rfl, hr, rfl, rfl⟩
      · have hlt : i < a 6 := by have := mt (nI_leI (by omega) (by omega)).mpr hc; omega
        refine j_iload_n C dX4_counted_12 rfl ?_
        refine j_aload_n C dX4_counted_13 rfl ?_
        refine jg_X4_kept C dX4_counted_14 n_X4_counted_X4 (by decide +kernel) (Nat.lt_of_lt_of_le (by decide) hnp) ?_
        refine j_iload_n C dX4_counted_17 rfl ?_
        refine j_zald C _ dX4_counted_18 (Nat.lt_of_lt_of_le (by decide) hnp) (Or.inr rfl) rfl (by omega) ?_
        rw [b17]
        refine j_if_eq C 26 dX4_counted_19 (by decide) (fun hc19 => ?_) (fun hc19 => ?_)
        · refine j_iconst (v := 1) C dX4_counted_26 rfl ?_
          refine j_iadd C dX4_counted_27 ?_
          refine j_istore_n C dX4_counted_28 (by decide) ?_
          refine j_iincN (n := 1) C dX4_counted_29 rfl (by decide) ?_
          refine j_goto C 4 dX4_counted_32 (by decide) ?_
          first
          | exact ih (i + 1) _ (by omega) (by omega) (by simp only [cntF]; rw [if_pos hc19, hr])
          | exact ih (i + 1) _ (by omega) (by omega) (by simp only [cntF]; rw [if_neg hc19, hr, Int32.add_zero])
        · refine j_iconst (v := 0) C dX4_counted_22 rfl ?_
          refine j_goto C 27 dX4_counted_23 (by decide) ?_
          refine j_iadd C dX4_counted_27 ?_
          refine j_istore_n C dX4_counted_28 (by decide) ?_
          refine j_iincN (n := 1) C dX4_counted_29 rfl (by decide) ?_
          refine j_goto C 4 dX4_counted_32 (by decide) ?_
          first
          | exact ih (i + 1) _ (by omega) (by omega) (by simp only [cntF]; rw [if_pos hc19, hr])
          | exact ih (i + 1) _ (by omega) (by omega) (by simp only [cntF]; rw [if_neg hc19, hr, Int32.add_zero])
  refine j_iconst (v := 0) C dX4_counted_0 rfl ?_
  refine j_istore_n C dX4_counted_1 (by decide) ?_
  refine j_iconst (v := 0) C dX4_counted_2 rfl ?_
  refine j_istore_n C dX4_counted_3 (by decide) ?_
  exact hL (a 6 + 1) 0 _ (by omega) (by omega) rfl
theorem n_X4_allOdds_X4 : ∀ w ∈ wsX40, w ∈ wsX4_allOdds := by decide +kernel
set_option maxHeartbeats 4000000 in
set_option maxRecDepth 100000 in
theorem c_X4_allOdds {l : Launch} {D : va_G} {cI cZ cQ : ClassId} {ad : Nat → Nat} {np : Nat} {x : Nat → Nat} {g : Nat → Nat → Int32} (hnp : 41 ≤ np) {a : Nat → Nat} {b nu : Nat → Nat → Int32} (hM : RM x g a b nu) (hW : WF a b nu) : Cn l D cI cZ cQ ad np 0 yX4_allOdds wsX4_allOdds [.ref (ad 27)] x g (rp (odsF b (a 6)) x g) := by
  refine cn_of (own := RX4) (by decide) rfl rfl (by simp [Value.category]) (Nat.le_of_ble_eq_true rfl) ?_
  intro p e s m args below meth c A Q C HR HV
  obtain ⟨⟨e0, e1, e2, e3, e4, e5, e6⟩, hg, hnu⟩ := id hM
  obtain ⟨⟨w0, ⟨w1, w1'⟩, w2, w3, w4, w5, w6⟩, wt, wn, wq⟩ := id hW
  have b9 : g 28 = b 9 := hg 9 (by decide) (by decide)
  have b10 : g 29 = b 10 := hg 10 (by decide) (by decide)
  have b11 : g 30 = b 11 := hg 11 (by decide) (by decide)
  have b12 : g 31 = b 12 := hg 12 (by decide) (by decide)
  have b13 : g 32 = b 13 := hg 13 (by decide) (by decide)
  have b14 : g 33 = b 14 := hg 14 (by decide) (by decide)
  have b15 : g 34 = b 15 := hg 15 (by decide) (by decide)
  have b16 : g 35 = b 16 := hg 16 (by decide) (by decide)
  have b17 : g 36 = b 17 := hg 17 (by decide) (by decide)
  have hL : ∀ (n : Nat) (i : Nat) (r : Int32), i ≤ a 6 → a 6 - i < n → r = odsF b i → J p l e (Rm 0) s m args below meth c 0 0 D cI cZ cQ ad np A 3 Q x g 4 [some (.ref (ad 27)), some (.int r), some (.int (nI i))] [] := by
    intro n
    induction n with
    | zero => intros; omega
    | succ n ih =>
      intro i r h1 h2 hr
      refine j_iload_n C dX4_allOdds_4 rfl ?_
      refine j_aload_n C dX4_allOdds_5 rfl ?_
      refine jg_X4_futures C dX4_allOdds_6 n_X4_allOdds_X4 (by decide +kernel) (Nat.lt_of_lt_of_le (by decide) hnp) ?_
      refine j_icmp_ge C 40 dX4_allOdds_9 (by decide) (fun hc => ?_) (fun hc => ?_)
      · have he : i = a 6 := by have := (nI_leI (by omega) (by omega)).mp hc; omega
        subst he
        refine j_iload_n C dX4_allOdds_40 rfl ?_
        exact HR _ _ _ _ _ _ rfl rfl dX4_allOdds_41 ⟨_, rfl, hr, rfl, rfl⟩
      · have hlt : i < a 6 := by have := mt (nI_leI (by omega) (by omega)).mpr hc; omega
        refine j_iload_n C dX4_allOdds_12 rfl ?_
        refine j_aload_n C dX4_allOdds_13 rfl ?_
        refine jg_X4_kept C dX4_allOdds_14 n_X4_allOdds_X4 (by decide +kernel) (Nat.lt_of_lt_of_le (by decide) hnp) ?_
        refine j_iload_n C dX4_allOdds_17 rfl ?_
        refine j_zald C _ dX4_allOdds_18 (Nat.lt_of_lt_of_le (by decide) hnp) (Or.inr rfl) rfl (by omega) ?_
        rw [b17]
        refine j_if_eq C 26 dX4_allOdds_19 (by decide) (fun hc19 => ?_) (fun hc19 => ?_)
        · refine j_aload_n C dX4_allOdds_26 rfl ?_
          refine jg_X4_odds C dX4_allOdds_27 n_X4_allOdds_X4 (by decide +kernel) (Nat.lt_of_lt_of_le (by decide) hnp) ?_
          refine j_iload_n C dX4_allOdds_30 rfl ?_
          refine j_iald C _ dX4_allOdds_31 (Nat.lt_of_lt_of_le (by decide) hnp) rfl rfl (show _ < 8 by omega) ?_
          rw [b16]
          refine j_iadd C dX4_allOdds_32 ?_
          refine j_istore_n C dX4_allOdds_33 (by decide) ?_
          refine j_iincN (n := 1) C dX4_allOdds_34 rfl (by decide) ?_
          refine j_goto C 4 dX4_allOdds_37 (by decide) ?_
          first
          | exact ih (i + 1) _ (by omega) (by omega) (by simp only [odsF]; rw [if_pos hc19, hr])
          | exact ih (i + 1) _ (by omega) (by omega) (by simp only [odsF]; rw [if_neg hc19, hr, Int32.add_zero])
        · refine j_iconst (v := 0) C dX4_allOdds_22 rfl ?_
          refine j_goto C 32 dX4_allOdds_23 (by decide) ?_
          refine j_iadd C dX4_allOdds_32 ?_
          refine j_istore_n C dX4_allOdds_33 (by decide) ?_
          refine j_iincN (n := 1) C dX4_allOdds_34 rfl (by decide) ?_
          refine j_goto C 4 dX4_allOdds_37 (by decide) ?_
          first
          | exact ih (i + 1) _ (by omega) (by omega) (by simp only [odsF]; rw [if_pos hc19, hr])
          | exact ih (i + 1) _ (by omega) (by omega) (by simp only [odsF]; rw [if_neg hc19, hr, Int32.add_zero])
  refine j_iconst (v := 0) C dX4_allOdds_0 rfl ?_
  refine j_istore_n C dX4_allOdds_1 (by decide) ?_
  refine j_iconst (v := 0) C dX4_allOdds_2 rfl ?_
  refine j_istore_n C dX4_allOdds_3 (by decide) ?_
  exact hL (a 6 + 1) 0 _ (by omega) (by omega) rfl
theorem n_X4_isOn_X4 : ∀ w ∈ wsX40, w ∈ wsX4_isOn := by decide +kernel
set_option maxHeartbeats 4000000 in
set_option maxRecDepth 100000 in
theorem c_X4_isOn {l : Launch} {D : va_G} {cI cZ cQ : ClassId} {ad : Nat → Nat} {np : Nat} {x : Nat → Nat} {g : Nat → Nat → Int32} (hnp : 41 ≤ np) {b : Nat → Nat → Int32} {i : Nat} {plan row : Int32} (b12 : g 31 = b 12) (b13 : g 32 = b 13) (hi : i < 40) : Cn l D cI cZ cQ ad np 0 yX4_isOn wsX4_isOn [.ref (ad 27), .int (nI i), .int plan, .int row] x g (rp (bI (onF b plan row i)) x g) := by
  refine cn_of (own := RX4) (by decide) rfl rfl (by simp [Value.category]) (Nat.le_of_ble_eq_true rfl) ?_
  intro p e s m args below meth c A Q C HR HV
  refine j_aload_n C dX4_isOn_0 rfl ?_
  refine jg_X4_termRow C dX4_isOn_1 n_X4_isOn_X4 (by decide +kernel) (Nat.lt_of_lt_of_le (by decide) hnp) ?_
  refine j_iload_n C dX4_isOn_4 rfl ?_
  refine j_iald C i dX4_isOn_5 (Nat.lt_of_lt_of_le (by decide) hnp) rfl rfl (show _ < 40 by omega) ?_
  rw [b12]
  refine j_iload_n C dX4_isOn_6 rfl ?_
  refine j_icmp_ne C 37 dX4_isOn_7 (by decide) (fun hc7 => ?_) (fun hc7 => ?_)
  · refine j_iconst (v := 0) C dX4_isOn_37 rfl ?_
    exact HR _ _ _ _ _ _ rfl rfl dX4_isOn_38 ⟨_, rfl, by simp_all [onF, tkF, bI], rfl, rfl⟩
  · refine j_aload_n C dX4_isOn_10 rfl ?_
    refine jg_X4_termChoice C dX4_isOn_11 n_X4_isOn_X4 (by decide +kernel) (Nat.lt_of_lt_of_le (by decide) hnp) ?_
    refine j_iload_n C dX4_isOn_14 rfl ?_
    refine j_iald C i dX4_isOn_15 (Nat.lt_of_lt_of_le (by decide) hnp) rfl rfl (show _ < 40 by omega) ?_
    rw [b13]
    refine j_if_lt C 33 dX4_isOn_16 (by decide) (fun hc16 => ?_) (fun hc16 => ?_)
    · refine j_iconst (v := 1) C dX4_isOn_33 rfl ?_
      refine j_goto C 38 dX4_isOn_34 (by decide) ?_
      exact HR _ _ _ _ _ _ rfl rfl dX4_isOn_38 ⟨_, rfl, by simp_all [onF, tkF, bI], rfl, rfl⟩
    · refine j_iload_n C dX4_isOn_19 rfl ?_
      refine j_aload_n C dX4_isOn_20 rfl ?_
      refine jg_X4_termChoice C dX4_isOn_21 n_X4_isOn_X4 (by decide +kernel) (Nat.lt_of_lt_of_le (by decide) hnp) ?_
      refine j_iload_n C dX4_isOn_24 rfl ?_
      refine j_iald C i dX4_isOn_25 (Nat.lt_of_lt_of_le (by decide) hnp) rfl rfl (show _ < 40 by omega) ?_
      rw [b13]
      refine j_ishr C dX4_isOn_26 ?_
      refine j_iconst (v := 1) C dX4_isOn_27 rfl ?_
      refine j_iand C dX4_isOn_28 ?_
      refine j_iconst (v := 1) C dX4_isOn_29 rfl ?_
      refine j_icmp_ne C 37 dX4_isOn_30 (by decide) (fun hc30 => ?_) (fun hc30 => ?_)
      · refine j_iconst (v := 0) C dX4_isOn_37 rfl ?_
        exact HR _ _ _ _ _ _ rfl rfl dX4_isOn_38 ⟨_, rfl, by simp_all [onF, tkF, bI], rfl, rfl⟩
      · refine j_iconst (v := 1) C dX4_isOn_33 rfl ?_
        refine j_goto C 38 dX4_isOn_34 (by decide) ?_
        exact HR _ _ _ _ _ _ rfl rfl dX4_isOn_38 ⟨_, rfl, by simp_all [onF, tkF, bI], rfl, rfl⟩
theorem ix12 (i n : Nat) : (12 : Int32) * nI i + nI n = nI (12 * i + n) := by
  rw [show (12 : Int32) = nI 12 from rfl, pk_mul, nI_add]
theorem n_X4_sum_X4 : ∀ w ∈ wsX40, w ∈ wsX4_sum := by decide +kernel
set_option maxHeartbeats 4000000 in
set_option maxRecDepth 100000 in
theorem c_X4_sum {l : Launch} {D : va_G} {cI cZ cQ : ClassId} {ad : Nat → Nat} {np : Nat} {x : Nat → Nat} {g : Nat → Nat → Int32} (hnp : 41 ≤ np) {a : Nat → Nat} {b nu : Nat → Nat → Int32} (hM : RM x g a b nu) (hW : WF a b nu) {num : Nat → Int32} {plan row fu : Int32} (hfu : (fu < 0 ∧ num = b 10) ∨ ∃ i, i < a 6 ∧ fu = nI i ∧ num = nu i) : Cn l D cI cZ cQ ad np 1 yX4_sum wsX4_sum [.ref (ad 27), .int plan, .int row, .int fu] x g (rp (sumF b num plan row (a 5)) x g) := by
  refine cn_of (own := RX4) (by decide) rfl rfl (by simp [Value.category]) (Nat.le_of_ble_eq_true rfl) ?_
  intro p e s m args below meth c A Q C HR HV
  obtain ⟨⟨e0, e1, e2, e3, e4, e5, e6⟩, hg, hnu⟩ := id hM
  obtain ⟨⟨w0, ⟨w1, w1'⟩, w2, w3, w4, w5, w6⟩, wt, wn, wq⟩ := id hW
  have b9 : g 28 = b 9 := hg 9 (by decide) (by decide)
  have b10 : g 29 = b 10 := hg 10 (by decide) (by decide)
  have b11 : g 30 = b 11 := hg 11 (by decide) (by decide)
  have b12 : g 31 = b 12 := hg 12 (by decide) (by decide)
  have b13 : g 32 = b 13 := hg 13 (by decide) (by decide)
  have b14 : g 33 = b 14 := hg 14 (by decide) (by decide)
  have b15 : g 34 = b 15 := hg 15 (by decide) (by decide)
  have b16 : g 35 = b 16 := hg 16 (by decide) (by decide)
  have b17 : g 36 = b 17 := hg 17 (by decide) (by decide)
  have hL : ∀ (n : Nat) (i : Nat) (ac : Int32), i ≤ a 5 → a 5 - i < n → ac = sumF b num plan row i → J p l e (Rm 1) s m args below meth c 0 0 D cI cZ cQ ad np A 8 Q x g 6 [some (.ref (ad 27)), some (.int plan), some (.int row), some (.int fu), some (.int ac), some (.int (nI i)), none, none] [] := by
    intro n
    induction n with
    | zero => intros; omega
    | succ n ih =>
      intro i ac h1 h2 hr2
      refine j_iload C dX4_sum_6 rfl ?_
      refine j_aload_n C dX4_sum_8 rfl ?_
      refine jg_X4_terms C dX4_sum_9 n_X4_sum_X4 (by decide +kernel) (Nat.lt_of_lt_of_le (by decide) hnp) ?_
      refine j_icmp_ge C 93 dX4_sum_12 (by decide) (fun hc => ?_) (fun hc => ?_)
      · have he : i = a 5 := by have := (nI_leI (by omega) (by omega)).mp hc; omega
        subst he
        refine j_iload C dX4_sum_93 rfl ?_
        exact HR _ _ _ _ _ _ rfl rfl dX4_sum_95 ⟨_, rfl, hr2, rfl, rfl⟩
      · have hlt : i < a 5 := by have := mt (nI_leI (by omega) (by omega)).mpr hc; omega
        obtain ⟨⟨r, hr1, hr⟩, hch, hnm, hf1, hf2⟩ := wt i hlt
        have hch2 : b 13 i = -1 ∨ ¬ b 13 i < 0 := hch.imp_right (fun ⟨j, hj, e⟩ => by rw [e]; exact nI_pos (by omega))
        have hnm2 : b 14 i = -1 ∨ ¬ b 14 i < 0 := hnm.imp_right (fun ⟨j, hj, e⟩ => by rw [e]; exact nI_pos (by omega))
        refine j_aload_n C dX4_sum_15 rfl ?_
        refine j_iload C dX4_sum_16 rfl ?_
        refine j_iload_n C dX4_sum_18 rfl ?_
        refine j_iload_n C dX4_sum_19 rfl ?_
        refine jVp3 (ci := 4) C dX4_sum_20 gX4_sum_X4_isOn rfl pd_X4_isOn ⟨by decide, by decide⟩ (Nat.lt_of_lt_of_le (by decide) hnp) rfl rfl rfl (Nat.le_of_ble_eq_true rfl) (c_X4_isOn hnp b12 b13 (by omega)) ?_
        refine j_if_eq C 87 dX4_sum_23 (by decide) (fun hc23 => ?_) (fun hc23 => ?_)
        · refine j_iincN (n := 1) C dX4_sum_87 rfl (by decide) ?_
          refine j_goto C 6 dX4_sum_90 (by decide) ?_
          exact ih (i + 1) _ (by omega) (by omega) (by simp only [sumF]; rw [if_neg (by rw [bI_0.mp hc23]; decide), hr2])
        · have hM2 : ∀ (v : Int32), v = vaF b num i → J p l e (Rm 1) s m args below meth c 0 0 D cI cZ cQ ad np A 8 Q x g 70 [some (.ref (ad 27)), some (.int plan), some (.int row), some (.int fu), some (.int ac), some (.int (nI i)), some (.int (b 14 i)), none] [.int v] := by
            intro v hv
            refine j_istore C dX4_sum_70 (by decide) ?_
            refine j_iload C dX4_sum_72 rfl ?_
            refine j_aload_n C dX4_sum_74 rfl ?_
            refine jg_X4_termFactor C dX4_sum_75 n_X4_sum_X4 (by decide +kernel) (Nat.lt_of_lt_of_le (by decide) hnp) ?_
            refine j_iload C dX4_sum_78 rfl ?_
            refine j_iald C i dX4_sum_80 (Nat.lt_of_lt_of_le (by decide) hnp) rfl rfl (show _ < 40 by omega) ?_
            rw [b15]
            refine j_iload C dX4_sum_81 rfl ?_
            refine j_imul C dX4_sum_83 ?_
            refine j_iadd C dX4_sum_84 ?_
            refine j_istore C dX4_sum_85 (by decide) ?_
            refine j_iincN (n := 1) C dX4_sum_87 rfl (by decide) ?_
            refine j_goto C 6 dX4_sum_90 (by decide) ?_
            refine j_drop 6 ?_
            refine j_drop 7 ?_
            exact ih (i + 1) _ (by omega) (by omega) (by simp only [sumF]; rw [if_pos (bI_n0.mp hc23), hr2, hv])
          refine j_aload_n C dX4_sum_26 rfl ?_
          refine jg_X4_termName C dX4_sum_27 n_X4_sum_X4 (by decide +kernel) (Nat.lt_of_lt_of_le (by decide) hnp) ?_
          refine j_iload C dX4_sum_30 rfl ?_
          refine j_iald C i dX4_sum_32 (Nat.lt_of_lt_of_le (by decide) hnp) rfl rfl (show _ < 40 by omega) ?_
          rw [b14]
          refine j_istore C dX4_sum_33 (by decide) ?_
          refine j_iload C dX4_sum_35 rfl ?_
          refine j_if_ge C 44 dX4_sum_37 (by decide) (fun hc37 => ?_) (fun hc37 => ?_)
          · obtain ⟨nn, hn1, hnn⟩ := hnm.resolve_left (fun q => absurd (q ▸ hc37) (by decide))
            refine j_iload_n C dX4_sum_44 rfl ?_
            refine j_if_ge C 58 dX4_sum_45 (by decide) (fun hc45 => ?_) (fun hc45 => ?_)
            · obtain ⟨iv, hi1, hi2, hi3⟩ := hfu.resolve_left (fun q => absurd q.1 (Int32.not_lt.mpr hc45))
              refine j_aload_n C dX4_sum_58 rfl ?_
              refine jg_X4_number C dX4_sum_59 n_X4_sum_X4 (by decide +kernel) (Nat.lt_of_lt_of_le (by decide) hnp) ?_
              refine j_bipush (v := 12) C dX4_sum_62 (by decide) ?_
              refine j_iload_n C dX4_sum_64 rfl ?_
              refine j_imul C dX4_sum_65 ?_
              refine j_iload C dX4_sum_66 rfl ?_
              refine j_iadd C dX4_sum_68 ?_
              refine j_iald C (12 * iv + nn) dX4_sum_69 (Nat.lt_of_lt_of_le (by decide) hnp) rfl (by rw [hi2, hnn]; exact ix12 iv nn) (show _ < 96 by omega) ?_
              rw [hnu iv hi1 nn hn1, ← hi3]
              first
              | exact hM2 _ (by simp only [vaF]; rw [if_pos (Int32.not_le.mp hc37)])
              | exact hM2 _ (by simp only [vaF]; rw [if_neg (Int32.not_lt.mpr hc37), hnn, nI_clamp (by omega)])
            · have hu := (hfu.resolve_right (fun ⟨iv, hi1, hi2, hi3⟩ => hc45 (by rw [hi2]; exact nI_pos' (by omega)))).2
              refine j_aload_n C dX4_sum_48 rfl ?_
              refine jg_X4_usual C dX4_sum_49 n_X4_sum_X4 (by decide +kernel) (Nat.lt_of_lt_of_le (by decide) hnp) ?_
              refine j_iload C dX4_sum_52 rfl ?_
              refine j_iald C nn dX4_sum_54 (Nat.lt_of_lt_of_le (by decide) hnp) rfl hnn (show _ < 12 by omega) ?_
              rw [b10, ← hu]
              refine j_goto C 70 dX4_sum_55 (by decide) ?_
              first
              | exact hM2 _ (by simp only [vaF]; rw [if_pos (Int32.not_le.mp hc37)])
              | exact hM2 _ (by simp only [vaF]; rw [if_neg (Int32.not_lt.mpr hc37), hnn, nI_clamp (by omega)])
          · refine j_iconst (v := 1) C dX4_sum_40 rfl ?_
            refine j_goto C 70 dX4_sum_41 (by decide) ?_
            first
            | exact hM2 _ (by simp only [vaF]; rw [if_pos (Int32.not_le.mp hc37)])
            | exact hM2 _ (by simp only [vaF]; rw [if_neg (Int32.not_lt.mpr hc37), hnn, nI_clamp (by omega)])
  refine j_iconst (v := 0) C dX4_sum_0 rfl ?_
  refine j_istore C dX4_sum_1 (by decide) ?_
  refine j_iconst (v := 0) C dX4_sum_3 rfl ?_
  refine j_istore C dX4_sum_4 (by decide) ?_
  exact hL (a 5 + 1) 0 _ (by omega) (by omega) rfl
theorem n_X4_isUp_X4 : ∀ w ∈ wsX40, w ∈ wsX4_isUp := by decide +kernel
set_option maxHeartbeats 4000000 in
set_option maxRecDepth 100000 in
theorem c_X4_isUp {l : Launch} {D : va_G} {cI cZ cQ : ClassId} {ad : Nat → Nat} {np : Nat} {x : Nat → Nat} {g : Nat → Nat → Int32} (hnp : 41 ≤ np) {a : Nat → Nat} {b nu : Nat → Nat → Int32} (hM : RM x g a b nu) (hW : WF a b nu) {plan row : Int32} {k : Nat} : Cn l D cI cZ cQ ad np 1 yX4_isUp wsX4_isUp [.ref (ad 27), .int plan, .int row, .int (nI k)] x g (rp (bI (decide (0 < wF b plan row k (a 5)))) x g) := by
  refine cn_of (own := RX4) (by decide) rfl rfl (by simp [Value.category]) (Nat.le_of_ble_eq_true rfl) ?_
  intro p e s m args below meth c A Q C HR HV
  obtain ⟨⟨e0, e1, e2, e3, e4, e5, e6⟩, hg, hnu⟩ := id hM
  obtain ⟨⟨w0, ⟨w1, w1'⟩, w2, w3, w4, w5, w6⟩, wt, wn, wq⟩ := id hW
  have b9 : g 28 = b 9 := hg 9 (by decide) (by decide)
  have b10 : g 29 = b 10 := hg 10 (by decide) (by decide)
  have b11 : g 30 = b 11 := hg 11 (by decide) (by decide)
  have b12 : g 31 = b 12 := hg 12 (by decide) (by decide)
  have b13 : g 32 = b 13 := hg 13 (by decide) (by decide)
  have b14 : g 33 = b 14 := hg 14 (by decide) (by decide)
  have b15 : g 34 = b 15 := hg 15 (by decide) (by decide)
  have b16 : g 35 = b 16 := hg 16 (by decide) (by decide)
  have b17 : g 36 = b 17 := hg 17 (by decide) (by decide)
  have hL : ∀ (n : Nat) (i : Nat) (r : Int32), i ≤ a 5 → a 5 - i < n → r = wF b plan row k i → J p l e (Rm 1) s m args below meth c 0 0 D cI cZ cQ ad np A 6 Q x g 6 [some (.ref (ad 27)), some (.int plan), some (.int row), some (.int (nI k)), some (.int r), some (.int (nI i))] [] := by
    intro n
    induction n with
    | zero => intros; omega
    | succ n ih =>
      intro i r h1 h2 hr2
      refine j_iload C dX4_isUp_6 rfl ?_
      refine j_aload_n C dX4_isUp_8 rfl ?_
      refine jg_X4_terms C dX4_isUp_9 n_X4_isUp_X4 (by decide +kernel) (Nat.lt_of_lt_of_le (by decide) hnp) ?_
      refine j_icmp_ge C 59 dX4_isUp_12 (by decide) (fun hc => ?_) (fun hc => ?_)
      · have he : i = a 5 := by have := (nI_leI (by omega) (by omega)).mp hc; omega
        subst he
        refine j_iload C dX4_isUp_59 rfl ?_
        refine j_if_le C 68 dX4_isUp_61 (by decide) (fun hc61 => ?_) (fun hc61 => ?_)
        · refine j_iconst (v := 0) C dX4_isUp_68 rfl ?_
          first
          | exact HR _ _ _ _ _ _ rfl rfl dX4_isUp_69 ⟨_, rfl, by rw [← hr2, decide_eq_true (Int32.not_le.mp hc61)]; rfl, rfl, rfl⟩
          | exact HR _ _ _ _ _ _ rfl rfl dX4_isUp_69 ⟨_, rfl, by rw [← hr2, decide_eq_false (Int32.not_lt.mpr hc61)]; rfl, rfl, rfl⟩
        · refine j_iconst (v := 1) C dX4_isUp_64 rfl ?_
          refine j_goto C 69 dX4_isUp_65 (by decide) ?_
          first
          | exact HR _ _ _ _ _ _ rfl rfl dX4_isUp_69 ⟨_, rfl, by rw [← hr2, decide_eq_true (Int32.not_le.mp hc61)]; rfl, rfl, rfl⟩
          | exact HR _ _ _ _ _ _ rfl rfl dX4_isUp_69 ⟨_, rfl, by rw [← hr2, decide_eq_false (Int32.not_lt.mpr hc61)]; rfl, rfl, rfl⟩
      · have hlt : i < a 5 := by have := mt (nI_leI (by omega) (by omega)).mpr hc; omega
        obtain ⟨⟨r, hr1, hr⟩, hch, hnm, hf1, hf2⟩ := wt i hlt
        have hch2 : b 13 i = -1 ∨ ¬ b 13 i < 0 := hch.imp_right (fun ⟨j, hj, e⟩ => by rw [e]; exact nI_pos (by omega))
        have hnm2 : b 14 i = -1 ∨ ¬ b 14 i < 0 := hnm.imp_right (fun ⟨j, hj, e⟩ => by rw [e]; exact nI_pos (by omega))
        refine j_iload C dX4_isUp_15 rfl ?_
        refine j_aload_n C dX4_isUp_17 rfl ?_
        refine j_iload C dX4_isUp_18 rfl ?_
        refine j_iload_n C dX4_isUp_20 rfl ?_
        refine j_iload_n C dX4_isUp_21 rfl ?_
        refine jVp3 (ci := 4) C dX4_isUp_22 gX4_isUp_X4_isOn rfl pd_X4_isOn ⟨by decide, by decide⟩ (Nat.lt_of_lt_of_le (by decide) hnp) rfl rfl rfl (Nat.le_of_ble_eq_true rfl) (c_X4_isOn hnp b12 b13 (by omega)) ?_
        refine j_if_eq C 49 dX4_isUp_25 (by decide) (fun hc25 => ?_) (fun hc25 => ?_)
        · refine j_iconst (v := 0) C dX4_isUp_49 rfl ?_
          refine j_iadd C dX4_isUp_50 ?_
          refine j_istore C dX4_isUp_51 (by decide) ?_
          refine j_iincN (n := 1) C dX4_isUp_53 rfl (by decide) ?_
          refine j_goto C 6 dX4_isUp_56 (by decide) ?_
          first
          | exact ih (i + 1) _ (by omega) (by omega) (by simp only [wF]; rw [bI_0.mp hc25, hr2, Int32.add_zero]; rfl)
          | exact ih (i + 1) _ (by omega) (by omega) (by simp only [wF]; rw [bI_n0.mp hc25, decide_eq_true hc36, hr2]; rfl)
          | exact ih (i + 1) _ (by omega) (by omega) (by simp only [wF]; rw [bI_n0.mp hc25, decide_eq_false hc36, hr2, Int32.add_zero]; rfl)
        · refine j_aload_n C dX4_isUp_28 rfl ?_
          refine jg_X4_termName C dX4_isUp_29 n_X4_isUp_X4 (by decide +kernel) (Nat.lt_of_lt_of_le (by decide) hnp) ?_
          refine j_iload C dX4_isUp_32 rfl ?_
          refine j_iald C i dX4_isUp_34 (Nat.lt_of_lt_of_le (by decide) hnp) rfl rfl (show _ < 40 by omega) ?_
          rw [b14]
          refine j_iload_n C dX4_isUp_35 rfl ?_
          refine j_icmp_ne C 49 dX4_isUp_36 (by decide) (fun hc36 => ?_) (fun hc36 => ?_)
          · refine j_iconst (v := 0) C dX4_isUp_49 rfl ?_
            refine j_iadd C dX4_isUp_50 ?_
            refine j_istore C dX4_isUp_51 (by decide) ?_
            refine j_iincN (n := 1) C dX4_isUp_53 rfl (by decide) ?_
            refine j_goto C 6 dX4_isUp_56 (by decide) ?_
            first
            | exact ih (i + 1) _ (by omega) (by omega) (by simp only [wF]; rw [bI_0.mp hc25, hr2, Int32.add_zero]; rfl)
            | exact ih (i + 1) _ (by omega) (by omega) (by simp only [wF]; rw [bI_n0.mp hc25, decide_eq_true hc36, hr2]; rfl)
            | exact ih (i + 1) _ (by omega) (by omega) (by simp only [wF]; rw [bI_n0.mp hc25, decide_eq_false hc36, hr2, Int32.add_zero]; rfl)
          · refine j_aload_n C dX4_isUp_39 rfl ?_
            refine jg_X4_termFactor C dX4_isUp_40 n_X4_isUp_X4 (by decide +kernel) (Nat.lt_of_lt_of_le (by decide) hnp) ?_
            refine j_iload C dX4_isUp_43 rfl ?_
            refine j_iald C i dX4_isUp_45 (Nat.lt_of_lt_of_le (by decide) hnp) rfl rfl (show _ < 40 by omega) ?_
            rw [b15]
            refine j_goto C 50 dX4_isUp_46 (by decide) ?_
            refine j_iadd C dX4_isUp_50 ?_
            refine j_istore C dX4_isUp_51 (by decide) ?_
            refine j_iincN (n := 1) C dX4_isUp_53 rfl (by decide) ?_
            refine j_goto C 6 dX4_isUp_56 (by decide) ?_
            first
            | exact ih (i + 1) _ (by omega) (by omega) (by simp only [wF]; rw [bI_0.mp hc25, hr2, Int32.add_zero]; rfl)
            | exact ih (i + 1) _ (by omega) (by omega) (by simp only [wF]; rw [bI_n0.mp hc25, decide_eq_true hc36, hr2]; rfl)
            | exact ih (i + 1) _ (by omega) (by omega) (by simp only [wF]; rw [bI_n0.mp hc25, decide_eq_false hc36, hr2, Int32.add_zero]; rfl)
  refine j_iconst (v := 0) C dX4_isUp_0 rfl ?_
  refine j_istore C dX4_isUp_1 (by decide) ?_
  refine j_iconst (v := 0) C dX4_isUp_3 rfl ?_
  refine j_istore C dX4_isUp_4 (by decide) ?_
  exact hL (a 5 + 1) 0 _ (by omega) (by omega) rfl
