theorem pkF_le0 {f : Nat → Int32} {n : Nat} (h : f n ≤ 0) : pkF f (n + 1) = pkF f n := by
  refine pkF_old fun h2 => ?_
  cases hp : pkF f n with
  | none => rw [hp] at h2; exact Int32.not_lt.mpr h h2
  | some j =>
    rw [hp] at h2
    have h3 : 0 < f n := Int32.lt_trans (pkF_pos hp) h2
    exact Int32.not_lt.mpr h h3
theorem n_X4_findWorst_X4 : ∀ w ∈ wsX40, w ∈ wsX4_findWorst := by decide +kernel
set_option maxHeartbeats 4000000 in
set_option maxRecDepth 100000 in
theorem c_X4_findWorst {l : Launch} {D : va_G} {cI cZ cQ : ClassId} {ad : Nat → Nat} {np : Nat} {x : Nat → Nat} {g : Nat → Nat → Int32} (hnp : 41 ≤ np) {a : Nat → Nat} {b nu : Nat → Nat → Int32} (hM : RM x g a b nu) (hW : WF a b nu) {plan row : Int32} : Cn l D cI cZ cQ ad np 2 yX4_findWorst wsX4_findWorst [.ref (ad 27), .int plan, .int row] x g (ri (fun r x' g' => r = (wsF a b plan row).2.2 ∧ x' = x ∧ Sm g g' ∧ ∀ n, n < a 4 → g' 39 n = (wsF a b plan row).2.1 n)) := by
  refine cn_of (own := RX4) (by decide) rfl rfl (by simp [Value.category]) (Nat.le_of_ble_eq_true rfl) ?_
  intro p e s m args below meth c A Q C HR HV
  obtain ⟨⟨e0, e1, e2, e3, e4, e5, e6⟩, hg, hnu⟩ := id hM
  obtain ⟨⟨w0, ⟨w1, w1'⟩, w2, w3, w4, w5, w6⟩, wt, wn, wq⟩ := id hW
  have b9 : g 28 = b 9 := hg 9 (by decide) (by decide)
  have b10 : g 29 = b 10 := hg 10 (by decide) (by decide)
  have b11 : g 30 = b 11 := hg 11 (by decide) (by decide)
  have b12 : g 31 = b 12 := hg 12 (by decide) (by decide)
  have b13 : g 32 = b 13 := hg 13 (by decide) (by decide)
  have b14 : g 33 = b 14 := hg 14 (by decide) (by decide)
  have b15 : g 34 = b 15 := hg 15 (by decide) (by decide)
  have b16 : g 35 = b 16 := hg 16 (by decide) (by decide)
  have b17 : g 36 = b 17 := hg 17 (by decide) (by decide)
  have hL2 : ∀ (n : Nat) (k : Nat) (v : Int32) (g2 : Nat → Nat → Int32), k ≤ a 3 → a 3 - k < n → Sm g g2 → (∀ n, n < a 4 → g2 38 n = (grF (a 4) (upF b plan row (a 5)) (gaF b plan row (a 5), b 10, sumF b (b 10) plan row (a 5)) k).1 n) → (∀ n, n < a 4 → g2 39 n = (grF (a 4) (upF b plan row (a 5)) (gaF b plan row (a 5), b 10, sumF b (b 10) plan row (a 5)) k).2.1 n) → v = (grF (a 4) (upF b plan row (a 5)) (gaF b plan row (a 5), b 10, sumF b (b 10) plan row (a 5)) k).2.2 → J p l e (Rm 2) s m args below meth c 0 0 D cI cZ cQ ad np A 7 Q x g2 152 [some (.ref (ad 27)), some (.int plan), some (.int row), some (.int v), some (.int (nI k)), none, none] [] := by
    intro n
    induction n with
    | zero => intros; omega
    | succ n ih =>
      intro k v g2 h1 h2 hS h7 h8 hv
      have iho := ih
      refine j_iload C dX4_findWorst_152 rfl ?_
      refine j_aload_n C dX4_findWorst_154 rfl ?_
      refine jg_X4_budget C dX4_findWorst_155 n_X4_findWorst_X4 (by decide +kernel) (Nat.lt_of_lt_of_le (by decide) hnp) ?_
      refine j_icmp_ge C 287 dX4_findWorst_158 (by decide) (fun hc => ?_) (fun hc => ?_)
      · have he : k = a 3 := by have := (nI_leI (by omega) (by omega)).mp hc; omega
        subst he
        refine j_iload_n C dX4_findWorst_287 rfl ?_
        exact HR _ _ _ _ _ _ rfl rfl dX4_findWorst_288 ⟨_, rfl, hv, rfl, hS, h8⟩
      · have hlt : k < a 3 := by have := mt (nI_leI (by omega) (by omega)).mpr hc; omega
        have hM2 := hM.sm hS
        have c9 : g2 28 = b 9 := hM2.2.1 9 (by decide) (by decide)
        have c10 : g2 29 = b 10 := hM2.2.1 10 (by decide) (by decide)
        have c11 : g2 30 = b 11 := hM2.2.1 11 (by decide) (by decide)
        have c12 : g2 31 = b 12 := hM2.2.1 12 (by decide) (by decide)
        have c13 : g2 32 = b 13 := hM2.2.1 13 (by decide) (by decide)
        have c14 : g2 33 = b 14 := hM2.2.1 14 (by decide) (by decide)
        have c15 : g2 34 = b 15 := hM2.2.1 15 (by decide) (by decide)
        have hLi : ∀ (n : Nat) (i : Nat) (v5 : Int32), i ≤ a 4 → a 4 - i < n → v5 = pkM (pkF (g2 38) i) → J p l e (Rm 2) s m args below meth c 0 0 D cI cZ cQ ad np A 7 Q x g2 167 [some (.ref (ad 27)), some (.int plan), some (.int row), some (.int v), some (.int (nI k)), some (.int v5), some (.int (nI i))] [] := by
          intro n
          induction n with
          | zero => intros; omega
          | succ n ih =>
            intro i v5 h3 h4 hv5
            refine j_iload C dX4_findWorst_167 rfl ?_
            refine j_aload_n C dX4_findWorst_169 rfl ?_
            refine jg_X4_names C dX4_findWorst_170 n_X4_findWorst_X4 (by decide +kernel) (Nat.lt_of_lt_of_le (by decide) hnp) ?_
            refine j_icmp_ge C 223 dX4_findWorst_173 (by decide) (fun hc => ?_) (fun hc => ?_)
            · have he : i = a 4 := by have := (nI_leI (by omega) (by omega)).mp hc; omega
              subst he
              refine j_iload C dX4_findWorst_223 rfl ?_
              refine j_if_lt C 281 dX4_findWorst_225 (by decide) (fun hc225 => ?_) (fun hc225 => ?_)
              · have hpn : pkF (g2 38) (a 4) = none := by
                  cases hpk : pkF (g2 38) (a 4) with
                  | none => rfl
                  | some j => rw [hv5, hpk] at hc225; exact absurd hc225 (nI_pos (by have := pkF_lt hpk; omega))
                refine j_iincN (n := 1) C dX4_findWorst_281 rfl (by decide) ?_
                refine j_goto C 152 dX4_findWorst_284 (by decide) ?_
                first
                | (have hpn2 : pkF (grF (a 4) (upF b plan row (a 5)) (gaF b plan row (a 5), b 10, sumF b (b 10) plan row (a 5)) k).1 (a 4) = none := by rw [← hpn]; exact (pkF_congr (fun n hn => h7 n hn)).symm
                   have hgs : grF (a 4) (upF b plan row (a 5)) (gaF b plan row (a 5), b 10, sumF b (b 10) plan row (a 5)) (k + 1) = (grF (a 4) (upF b plan row (a 5)) (gaF b plan row (a 5), b 10, sumF b (b 10) plan row (a 5)) k) := by
                     show gsF _ _ _ = _
                     unfold gsF
                     rw [hpn2]
                   refine j_drop 5 ?_
                   refine j_drop 6 ?_
                   exact iho (k + 1) _ _ (by omega) (by omega) hS (by rw [hgs]; exact h7) (by rw [hgs]; exact h8) (by rw [hgs]; exact hv))
                | (have hpk2 : pkF (grF (a 4) (upF b plan row (a 5)) (gaF b plan row (a 5), b 10, sumF b (b 10) plan row (a 5)) k).1 (a 4) = some j := by rw [← hpj]; exact (pkF_congr (fun n hn => h7 n hn)).symm
                   have hgs : grF (a 4) (upF b plan row (a 5)) (gaF b plan row (a 5), b 10, sumF b (b 10) plan row (a 5)) (k + 1) = (upd (grF (a 4) (upF b plan row (a 5)) (gaF b plan row (a 5), b 10, sumF b (b 10) plan row (a 5)) k).1 j 0, upd (grF (a 4) (upF b plan row (a 5)) (gaF b plan row (a 5), b 10, sumF b (b 10) plan row (a 5)) k).2.1 j (upF b plan row (a 5) j), (grF (a 4) (upF b plan row (a 5)) (gaF b plan row (a 5), b 10, sumF b (b 10) plan row (a 5)) k).2.2 + (grF (a 4) (upF b plan row (a 5)) (gaF b plan row (a 5), b 10, sumF b (b 10) plan row (a 5)) k).1 j) := by
                     show gsF _ _ _ = _
                     unfold gsF
                     rw [hpk2]
                   refine j_drop 5 ?_
                   refine j_drop 6 ?_
                   refine iho (k + 1) _ _ (by omega) (by omega) ((hS.up ⟨by decide, by decide⟩).up ⟨by decide, by decide⟩) (fun n hn => ?_) (fun n hn => ?_) ?_
                   · rw [va_un _ 39 38 _ (by decide), va_us, hgs]
                     simp only [upd]
                     rw [h7 n hn]
                   · rw [va_us, va_un _ 38 39 _ (by decide), hgs]
                     simp only [upd]
                     rw [h8 n hn]
                     by_cases hnj : n = j
                     · rw [if_pos hnj, if_pos hnj]
                       unfold upF
                       first
                       | rw [if_pos (of_decide_eq_true (bI_n0.mp hc260))]
                       | rw [if_neg (of_decide_eq_false (bI_0.mp hc260))]
                     · rw [if_neg hnj, if_neg hnj]
                   · rw [hgs, hv, h7 j (by omega)])
              · obtain ⟨j, hpj⟩ : ∃ j, pkF (g2 38) (a 4) = some j := by
                  cases hpk : pkF (g2 38) (a 4) with
                  | none => rw [hv5, hpk] at hc225; exact absurd (by decide) hc225
                  | some j => exact ⟨j, rfl⟩
                have hjl := pkF_lt hpj
                have hv6 : v5 = nI j := by rw [hv5, hpj]; rfl
                subst hv6
                refine j_iload_n C dX4_findWorst_228 rfl ?_
                refine j_aload_n C dX4_findWorst_229 rfl ?_
                refine jg_X4_gain C dX4_findWorst_230 n_X4_findWorst_X4 (by decide +kernel) (Nat.lt_of_lt_of_le (by decide) hnp) ?_
                refine j_iload C dX4_findWorst_233 rfl ?_
                refine j_iald C j dX4_findWorst_235 (Nat.lt_of_lt_of_le (by decide) hnp) rfl rfl (show _ < 12 by omega) ?_
                refine j_iadd C dX4_findWorst_236 ?_
                refine j_istore_n C dX4_findWorst_237 (by decide) ?_
                refine j_aload_n C dX4_findWorst_238 rfl ?_
                refine jg_X4_gain C dX4_findWorst_239 n_X4_findWorst_X4 (by decide +kernel) (Nat.lt_of_lt_of_le (by decide) hnp) ?_
                refine j_iload C dX4_findWorst_242 rfl ?_
                refine j_iconst (v := 0) C dX4_findWorst_244 rfl ?_
                refine j_iast C j dX4_findWorst_245 (Nat.lt_of_lt_of_le (by decide) hnp) rfl rfl (show _ < 12 by omega) ?_
                refine j_aload_n C dX4_findWorst_246 rfl ?_
                refine jg_X4_worstOf C dX4_findWorst_247 n_X4_findWorst_X4 (by decide +kernel) (Nat.lt_of_lt_of_le (by decide) hnp) ?_
                refine j_iload C dX4_findWorst_250 rfl ?_
                refine j_aload_n C dX4_findWorst_252 rfl ?_
                refine j_iload_n C dX4_findWorst_253 rfl ?_
                refine j_iload_n C dX4_findWorst_254 rfl ?_
                refine j_iload C dX4_findWorst_255 rfl ?_
                refine jVp3 (ci := 4) C dX4_findWorst_257 gX4_findWorst_X4_isUp rfl pd_X4_isUp ⟨by decide, by decide⟩ (Nat.lt_of_lt_of_le (by decide) hnp) rfl rfl rfl (Nat.le_of_ble_eq_true rfl) (c_X4_isUp hnp (hM.sm (hS.up ⟨by decide, by decide⟩)) hW) ?_
                refine j_if_eq C 273 dX4_findWorst_260 (by decide) (fun hc260 => ?_) (fun hc260 => ?_)
                · refine j_aload_n C dX4_findWorst_273 rfl ?_
                  refine jg_X4_least C dX4_findWorst_274 n_X4_findWorst_X4 (by decide +kernel) (Nat.lt_of_lt_of_le (by decide) hnp) ?_
                  refine j_iload C dX4_findWorst_277 rfl ?_
                  refine j_iald C j dX4_findWorst_279 (Nat.lt_of_lt_of_le (by decide) hnp) rfl rfl (show _ < 12 by omega) ?_
                  rw [va_un _ 38 28 _ (by decide), c9]
                  refine j_iast C j dX4_findWorst_280 (Nat.lt_of_lt_of_le (by decide) hnp) rfl rfl (show _ < 12 by omega) ?_
                  refine j_iincN (n := 1) C dX4_findWorst_281 rfl (by decide) ?_
                  refine j_goto C 152 dX4_findWorst_284 (by decide) ?_
                  first
                  | (have hpn2 : pkF (grF (a 4) (upF b plan row (a 5)) (gaF b plan row (a 5), b 10, sumF b (b 10) plan row (a 5)) k).1 (a 4) = none := by rw [← hpn]; exact (pkF_congr (fun n hn => h7 n hn)).symm
                     have hgs : grF (a 4) (upF b plan row (a 5)) (gaF b plan row (a 5), b 10, sumF b (b 10) plan row (a 5)) (k + 1) = (grF (a 4) (upF b plan row (a 5)) (gaF b plan row (a 5), b 10, sumF b (b 10) plan row (a 5)) k) := by
                       show gsF _ _ _ = _
                       unfold gsF
                       rw [hpn2]
                     refine j_drop 5 ?_
                     refine j_drop 6 ?_
                     exact iho (k + 1) _ _ (by omega) (by omega) hS (by rw [hgs]; exact h7) (by rw [hgs]; exact h8) (by rw [hgs]; exact hv))
                  | (have hpk2 : pkF (grF (a 4) (upF b plan row (a 5)) (gaF b plan row (a 5), b 10, sumF b (b 10) plan row (a 5)) k).1 (a 4) = some j := by rw [← hpj]; exact (pkF_congr (fun n hn => h7 n hn)).symm
                     have hgs : grF (a 4) (upF b plan row (a 5)) (gaF b plan row (a 5), b 10, sumF b (b 10) plan row (a 5)) (k + 1) = (upd (grF (a 4) (upF b plan row (a 5)) (gaF b plan row (a 5), b 10, sumF b (b 10) plan row (a 5)) k).1 j 0, upd (grF (a 4) (upF b plan row (a 5)) (gaF b plan row (a 5), b 10, sumF b (b 10) plan row (a 5)) k).2.1 j (upF b plan row (a 5) j), (grF (a 4) (upF b plan row (a 5)) (gaF b plan row (a 5), b 10, sumF b (b 10) plan row (a 5)) k).2.2 + (grF (a 4) (upF b plan row (a 5)) (gaF b plan row (a 5), b 10, sumF b (b 10) plan row (a 5)) k).1 j) := by
                       show gsF _ _ _ = _
                       unfold gsF
                       rw [hpk2]
                     refine j_drop 5 ?_
                     refine j_drop 6 ?_
                     refine iho (k + 1) _ _ (by omega) (by omega) ((hS.up ⟨by decide, by decide⟩).up ⟨by decide, by decide⟩) (fun n hn => ?_) (fun n hn => ?_) ?_
                     · rw [va_un _ 39 38 _ (by decide), va_us, hgs]
                       simp only [upd]
                       rw [h7 n hn]
                     · rw [va_us, va_un _ 38 39 _ (by decide), hgs]
                       simp only [upd]
                       rw [h8 n hn]
                       by_cases hnj : n = j
                       · rw [if_pos hnj, if_pos hnj]
                         unfold upF
                         first
                         | rw [if_pos (of_decide_eq_true (bI_n0.mp hc260))]
                         | rw [if_neg (of_decide_eq_false (bI_0.mp hc260))]
                       · rw [if_neg hnj, if_neg hnj]
                     · rw [hgs, hv, h7 j (by omega)])
                · refine j_aload_n C dX4_findWorst_263 rfl ?_
                  refine jg_X4_greatest C dX4_findWorst_264 n_X4_findWorst_X4 (by decide +kernel) (Nat.lt_of_lt_of_le (by decide) hnp) ?_
                  refine j_iload C dX4_findWorst_267 rfl ?_
                  refine j_iald C j dX4_findWorst_269 (Nat.lt_of_lt_of_le (by decide) hnp) rfl rfl (show _ < 12 by omega) ?_
                  rw [va_un _ 38 30 _ (by decide), c11]
                  refine j_goto C 280 dX4_findWorst_270 (by decide) ?_
                  refine j_iast C j dX4_findWorst_280 (Nat.lt_of_lt_of_le (by decide) hnp) rfl rfl (show _ < 12 by omega) ?_
                  refine j_iincN (n := 1) C dX4_findWorst_281 rfl (by decide) ?_
                  refine j_goto C 152 dX4_findWorst_284 (by decide) ?_
                  first
                  | (have hpn2 : pkF (grF (a 4) (upF b plan row (a 5)) (gaF b plan row (a 5), b 10, sumF b (b 10) plan row (a 5)) k).1 (a 4) = none := by rw [← hpn]; exact (pkF_congr (fun n hn => h7 n hn)).symm
                     have hgs : grF (a 4) (upF b plan row (a 5)) (gaF b plan row (a 5), b 10, sumF b (b 10) plan row (a 5)) (k + 1) = (grF (a 4) (upF b plan row (a 5)) (gaF b plan row (a 5), b 10, sumF b (b 10) plan row (a 5)) k) := by
                       show gsF _ _ _ = _
                       unfold gsF
                       rw [hpn2]
                     refine j_drop 5 ?_
                     refine j_drop 6 ?_
                     exact iho (k + 1) _ _ (by omega) (by omega) hS (by rw [hgs]; exact h7) (by rw [hgs]; exact h8) (by rw [hgs]; exact hv))
                  | (have hpk2 : pkF (grF (a 4) (upF b plan row (a 5)) (gaF b plan row (a 5), b 10, sumF b (b 10) plan row (a 5)) k).1 (a 4) = some j := by rw [← hpj]; exact (pkF_congr (fun n hn => h7 n hn)).symm
                     have hgs : grF (a 4) (upF b plan row (a 5)) (gaF b plan row (a 5), b 10, sumF b (b 10) plan row (a 5)) (k + 1) = (upd (grF (a 4) (upF b plan row (a 5)) (gaF b plan row (a 5), b 10, sumF b (b 10) plan row (a 5)) k).1 j 0, upd (grF (a 4) (upF b plan row (a 5)) (gaF b plan row (a 5), b 10, sumF b (b 10) plan row (a 5)) k).2.1 j (upF b plan row (a 5) j), (grF (a 4) (upF b plan row (a 5)) (gaF b plan row (a 5), b 10, sumF b (b 10) plan row (a 5)) k).2.2 + (grF (a 4) (upF b plan row (a 5)) (gaF b plan row (a 5), b 10, sumF b (b 10) plan row (a 5)) k).1 j) := by
                       show gsF _ _ _ = _
                       unfold gsF
                       rw [hpk2]
                     refine j_drop 5 ?_
                     refine j_drop 6 ?_
                     refine iho (k + 1) _ _ (by omega) (by omega) ((hS.up ⟨by decide, by decide⟩).up ⟨by decide, by decide⟩) (fun n hn => ?_) (fun n hn => ?_) ?_
                     · rw [va_un _ 39 38 _ (by decide), va_us, hgs]
                       simp only [upd]
                       rw [h7 n hn]
                     · rw [va_us, va_un _ 38 39 _ (by decide), hgs]
                       simp only [upd]
                       rw [h8 n hn]
                       by_cases hnj : n = j
                       · rw [if_pos hnj, if_pos hnj]
                         unfold upF
                         first
                         | rw [if_pos (of_decide_eq_true (bI_n0.mp hc260))]
                         | rw [if_neg (of_decide_eq_false (bI_0.mp hc260))]
                       · rw [if_neg hnj, if_neg hnj]
                     · rw [hgs, hv, h7 j (by omega)])
            · have hlt : i < a 4 := by have := mt (nI_leI (by omega) (by omega)).mpr hc; omega
              refine j_aload_n C dX4_findWorst_176 rfl ?_
              refine jg_X4_gain C dX4_findWorst_177 n_X4_findWorst_X4 (by decide +kernel) (Nat.lt_of_lt_of_le (by decide) hnp) ?_
              refine j_iload C dX4_findWorst_180 rfl ?_
              refine j_iald C i dX4_findWorst_182 (Nat.lt_of_lt_of_le (by decide) hnp) rfl rfl (show _ < 12 by omega) ?_
              refine j_if_le C 213 dX4_findWorst_183 (by decide) (fun hc183 => ?_) (fun hc183 => ?_)
              · refine j_iload C dX4_findWorst_213 rfl ?_
                refine j_istore C dX4_findWorst_215 (by decide) ?_
                refine j_iincN (n := 1) C dX4_findWorst_217 rfl (by decide) ?_
                refine j_goto C 167 dX4_findWorst_220 (by decide) ?_
                first
                | exact ih (i + 1) _ (by omega) (by omega) (by rw [pkF_le0 hc183]; exact hv5)
                | exact ih (i + 1) _ (by omega) (by omega) (by rw [pkF_new (by rw [hpn]; exact Int32.not_le.mp hc183)]; rfl)
                | exact ih (i + 1) _ (by omega) (by omega) (by rw [pkF_new (by rw [hpj]; exact Int32.not_le.mp hc205)]; rfl)
                | exact ih (i + 1) _ (by omega) (by omega) (by rw [pkF_old (by rw [hpj]; exact Int32.not_lt.mpr hc205)]; exact hv5)
              · refine j_iload C dX4_findWorst_186 rfl ?_
                refine j_if_lt C 208 dX4_findWorst_188 (by decide) (fun hc188 => ?_) (fun hc188 => ?_)
                · have hpn : pkF (g2 38) i = none := by
                    cases hpk : pkF (g2 38) i with
                    | none => rfl
                    | some j => rw [hv5, hpk] at hc188; exact absurd hc188 (nI_pos (by have := pkF_lt hpk; omega))
                  refine j_iload C dX4_findWorst_208 rfl ?_
                  refine j_goto C 215 dX4_findWorst_210 (by decide) ?_
                  refine j_istore C dX4_findWorst_215 (by decide) ?_
                  refine j_iincN (n := 1) C dX4_findWorst_217 rfl (by decide) ?_
                  refine j_goto C 167 dX4_findWorst_220 (by decide) ?_
                  first
                  | exact ih (i + 1) _ (by omega) (by omega) (by rw [pkF_le0 hc183]; exact hv5)
                  | exact ih (i + 1) _ (by omega) (by omega) (by rw [pkF_new (by rw [hpn]; exact Int32.not_le.mp hc183)]; rfl)
                  | exact ih (i + 1) _ (by omega) (by omega) (by rw [pkF_new (by rw [hpj]; exact Int32.not_le.mp hc205)]; rfl)
                  | exact ih (i + 1) _ (by omega) (by omega) (by rw [pkF_old (by rw [hpj]; exact Int32.not_lt.mpr hc205)]; exact hv5)
                · obtain ⟨j, hpj⟩ : ∃ j, pkF (g2 38) i = some j := by
                    cases hpk : pkF (g2 38) i with
                    | none => rw [hv5, hpk] at hc188; exact absurd (by decide) hc188
                    | some j => exact ⟨j, rfl⟩
                  have hjl := pkF_lt hpj
                  refine j_aload_n C dX4_findWorst_191 rfl ?_
                  refine jg_X4_gain C dX4_findWorst_192 n_X4_findWorst_X4 (by decide +kernel) (Nat.lt_of_lt_of_le (by decide) hnp) ?_
                  refine j_iload C dX4_findWorst_195 rfl ?_
                  refine j_iald C i dX4_findWorst_197 (Nat.lt_of_lt_of_le (by decide) hnp) rfl rfl (show _ < 12 by omega) ?_
                  refine j_aload_n C dX4_findWorst_198 rfl ?_
                  refine jg_X4_gain C dX4_findWorst_199 n_X4_findWorst_X4 (by decide +kernel) (Nat.lt_of_lt_of_le (by decide) hnp) ?_
                  refine j_iload C dX4_findWorst_202 rfl ?_
                  refine j_iald C j dX4_findWorst_204 (Nat.lt_of_lt_of_le (by decide) hnp) rfl (by rw [hv5, hpj]; rfl) (show _ < 12 by omega) ?_
                  refine j_icmp_le C 213 dX4_findWorst_205 (by decide) (fun hc205 => ?_) (fun hc205 => ?_)
                  · refine j_iload C dX4_findWorst_213 rfl ?_
                    refine j_istore C dX4_findWorst_215 (by decide) ?_
                    refine j_iincN (n := 1) C dX4_findWorst_217 rfl (by decide) ?_
                    refine j_goto C 167 dX4_findWorst_220 (by decide) ?_
                    first
                    | exact ih (i + 1) _ (by omega) (by omega) (by rw [pkF_le0 hc183]; exact hv5)
                    | exact ih (i + 1) _ (by omega) (by omega) (by rw [pkF_new (by rw [hpn]; exact Int32.not_le.mp hc183)]; rfl)
                    | exact ih (i + 1) _ (by omega) (by omega) (by rw [pkF_new (by rw [hpj]; exact Int32.not_le.mp hc205)]; rfl)
                    | exact ih (i + 1) _ (by omega) (by omega) (by rw [pkF_old (by rw [hpj]; exact Int32.not_lt.mpr hc205)]; exact hv5)
                  · refine j_iload C dX4_findWorst_208 rfl ?_
                    refine j_goto C 215 dX4_findWorst_210 (by decide) ?_
                    refine j_istore C dX4_findWorst_215 (by decide) ?_
                    refine j_iincN (n := 1) C dX4_findWorst_217 rfl (by decide) ?_
                    refine j_goto C 167 dX4_findWorst_220 (by decide) ?_
                    first
                    | exact ih (i + 1) _ (by omega) (by omega) (by rw [pkF_le0 hc183]; exact hv5)
                    | exact ih (i + 1) _ (by omega) (by omega) (by rw [pkF_new (by rw [hpn]; exact Int32.not_le.mp hc183)]; rfl)
                    | exact ih (i + 1) _ (by omega) (by omega) (by rw [pkF_new (by rw [hpj]; exact Int32.not_le.mp hc205)]; rfl)
                    | exact ih (i + 1) _ (by omega) (by omega) (by rw [pkF_old (by rw [hpj]; exact Int32.not_lt.mpr hc205)]; exact hv5)
        refine j_iconst (v := (-1)) C dX4_findWorst_161 rfl ?_
        refine j_istore C dX4_findWorst_162 (by decide) ?_
        refine j_iconst (v := 0) C dX4_findWorst_164 rfl ?_
        refine j_istore C dX4_findWorst_165 (by decide) ?_
        exact hLi (a 4 + 1) 0 _ (by omega) (by omega) rfl
  have hL1 : ∀ (n : Nat) (i : Nat) (g2 : Nat → Nat → Int32), i ≤ a 4 → a 4 - i < n → Sm g g2 → (∀ n, n < i → g2 38 n = gaF b plan row (a 5) n) → (∀ n, n < i → g2 39 n = b 10 n) → J p l e (Rm 2) s m args below meth c 0 0 D cI cZ cQ ad np A 7 Q x g2 2 [some (.ref (ad 27)), some (.int plan), some (.int row), some (.int (nI i)), none, none, none] [] := by
    intro n
    induction n with
    | zero => intros; omega
    | succ n ih =>
      intro i g2 h1 h2 hS h7 h8
      have iho := ih
      refine j_iload_n C dX4_findWorst_2 rfl ?_
      refine j_aload_n C dX4_findWorst_3 rfl ?_
      refine jg_X4_names C dX4_findWorst_4 n_X4_findWorst_X4 (by decide +kernel) (Nat.lt_of_lt_of_le (by decide) hnp) ?_
      refine j_icmp_ge C 141 dX4_findWorst_7 (by decide) (fun hc => ?_) (fun hc => ?_)
      · have he : i = a 4 := by have := (nI_leI (by omega) (by omega)).mp hc; omega
        subst he
        refine j_aload_n C dX4_findWorst_141 rfl ?_
        refine j_iload_n C dX4_findWorst_142 rfl ?_
        refine j_iload_n C dX4_findWorst_143 rfl ?_
        refine j_iconst (v := (-1)) C dX4_findWorst_144 rfl ?_
        refine jVp3 (ci := 4) C dX4_findWorst_145 gX4_findWorst_X4_sum rfl pd_X4_sum ⟨by decide, by decide⟩ (Nat.lt_of_lt_of_le (by decide) hnp) rfl rfl rfl (Nat.le_of_ble_eq_true rfl) (c_X4_sum (num := b 10) hnp (hM.sm hS) hW (Or.inl ⟨by decide, rfl⟩)) ?_
        refine j_istore_n C dX4_findWorst_148 (by decide) ?_
        refine j_iconst (v := 0) C dX4_findWorst_149 rfl ?_
        refine j_istore C dX4_findWorst_150 (by decide) ?_
        refine j_drop 5 ?_
        refine j_drop 6 ?_
        exact hL2 (a 3 + 1) 0 _ _ (by omega) (by omega) hS h7 h8 rfl
      · have hlt : i < a 4 := by have := mt (nI_leI (by omega) (by omega)).mpr hc; omega
        have hM2 := hM.sm hS
        have c9 : g2 28 = b 9 := hM2.2.1 9 (by decide) (by decide)
        have c10 : g2 29 = b 10 := hM2.2.1 10 (by decide) (by decide)
        have c11 : g2 30 = b 11 := hM2.2.1 11 (by decide) (by decide)
        have c12 : g2 31 = b 12 := hM2.2.1 12 (by decide) (by decide)
        have c13 : g2 32 = b 13 := hM2.2.1 13 (by decide) (by decide)
        have c14 : g2 33 = b 14 := hM2.2.1 14 (by decide) (by decide)
        have c15 : g2 34 = b 15 := hM2.2.1 15 (by decide) (by decide)
        have hLi : ∀ (n : Nat) (t : Nat) (ac : Int32), t ≤ a 5 → a 5 - t < n → ac = wF b plan row i t → J p l e (Rm 2) s m args below meth c 0 0 D cI cZ cQ ad np A 7 Q x g2 16 [some (.ref (ad 27)), some (.int plan), some (.int row), some (.int (nI i)), some (.int ac), some (.int (nI t)), none] [] := by
          intro n
          induction n with
          | zero => intros; omega
          | succ n ih =>
            intro t ac h3 h4 hac
            refine j_iload C dX4_findWorst_16 rfl ?_
            refine j_aload_n C dX4_findWorst_18 rfl ?_
            refine jg_X4_terms C dX4_findWorst_19 n_X4_findWorst_X4 (by decide +kernel) (Nat.lt_of_lt_of_le (by decide) hnp) ?_
            refine j_icmp_ge C 69 dX4_findWorst_22 (by decide) (fun hc => ?_) (fun hc => ?_)
            · have he : t = a 5 := by have := (nI_leI (by omega) (by omega)).mp hc; omega
              subst he
              have hM3 : ∀ (v : Int32), ac * (v - b 10 i) = gaF b plan row (a 5) i → J p l e (Rm 2) s m args below meth c 0 0 D cI cZ cQ ad np A 7 Q x g2 103 [some (.ref (ad 27)), some (.int plan), some (.int row), some (.int (nI i)), some (.int ac), none, none] [.int v] := by
                intro v hv
                refine j_istore C dX4_findWorst_103 (by decide) ?_
                refine j_aload_n C dX4_findWorst_105 rfl ?_
                refine jg_X4_gain C dX4_findWorst_106 n_X4_findWorst_X4 (by decide +kernel) (Nat.lt_of_lt_of_le (by decide) hnp) ?_
                refine j_iload_n C dX4_findWorst_109 rfl ?_
                refine j_iload C dX4_findWorst_110 rfl ?_
                refine j_iload C dX4_findWorst_112 rfl ?_
                refine j_aload_n C dX4_findWorst_114 rfl ?_
                refine jg_X4_usual C dX4_findWorst_115 n_X4_findWorst_X4 (by decide +kernel) (Nat.lt_of_lt_of_le (by decide) hnp) ?_
                refine j_iload_n C dX4_findWorst_118 rfl ?_
                refine j_iald C i dX4_findWorst_119 (Nat.lt_of_lt_of_le (by decide) hnp) rfl rfl (show _ < 12 by omega) ?_
                rw [c10]
                refine j_isub C dX4_findWorst_120 ?_
                refine j_imul C dX4_findWorst_121 ?_
                refine j_iast C i dX4_findWorst_122 (Nat.lt_of_lt_of_le (by decide) hnp) rfl rfl (show _ < 12 by omega) ?_
                refine j_aload_n C dX4_findWorst_123 rfl ?_
                refine jg_X4_worstOf C dX4_findWorst_124 n_X4_findWorst_X4 (by decide +kernel) (Nat.lt_of_lt_of_le (by decide) hnp) ?_
                refine j_iload_n C dX4_findWorst_127 rfl ?_
                refine j_aload_n C dX4_findWorst_128 rfl ?_
                refine jg_X4_usual C dX4_findWorst_129 n_X4_findWorst_X4 (by decide +kernel) (Nat.lt_of_lt_of_le (by decide) hnp) ?_
                refine j_iload_n C dX4_findWorst_132 rfl ?_
                refine j_iald C i dX4_findWorst_133 (Nat.lt_of_lt_of_le (by decide) hnp) rfl rfl (show _ < 12 by omega) ?_
                rw [va_un _ 38 29 _ (by decide), c10]
                refine j_iast C i dX4_findWorst_134 (Nat.lt_of_lt_of_le (by decide) hnp) rfl rfl (show _ < 12 by omega) ?_
                refine j_iincN (n := 1) C dX4_findWorst_135 rfl (by decide) ?_
                refine j_goto C 2 dX4_findWorst_138 (by decide) ?_
                refine j_drop 4 ?_
                refine j_drop 5 ?_
                refine iho (i + 1) _ (by omega) (by omega) ((hS.up ⟨by decide, by decide⟩).up ⟨by decide, by decide⟩) (fun n hn => ?_) (fun n hn => ?_)
                · rw [va_un _ 39 38 _ (by decide), va_us]
                  simp only [upd]
                  by_cases hni : n = i
                  · subst hni; rw [if_pos rfl]; exact hv
                  · rw [if_neg hni]; exact h7 n (by omega)
                · rw [va_us, va_un _ 38 39 _ (by decide)]
                  simp only [upd]
                  by_cases hni : n = i
                  · subst hni; rw [if_pos rfl]
                  · rw [if_neg hni]; exact h8 n (by omega)
              refine j_iload C dX4_findWorst_69 rfl ?_
              refine j_if_le C 83 dX4_findWorst_71 (by decide) (fun hc71 => ?_) (fun hc71 => ?_)
              · refine j_iload C dX4_findWorst_83 rfl ?_
                refine j_if_ge C 97 dX4_findWorst_85 (by decide) (fun hc85 => ?_) (fun hc85 => ?_)
                · refine j_aload_n C dX4_findWorst_97 rfl ?_
                  refine jg_X4_usual C dX4_findWorst_98 n_X4_findWorst_X4 (by decide +kernel) (Nat.lt_of_lt_of_le (by decide) hnp) ?_
                  refine j_iload_n C dX4_findWorst_101 rfl ?_
                  refine j_iald C i dX4_findWorst_102 (Nat.lt_of_lt_of_le (by decide) hnp) rfl rfl (show _ < 12 by omega) ?_
                  rw [c10]
                  subst hac
                  refine j_drop 5 ?_
                  exact hM3 _ (gaM (fun h => by first | rfl | exact absurd h (Int32.not_lt.mpr hc71)) (fun h1 h2 => by first | rfl | exact absurd h2 (Int32.not_lt.mpr hc85) | exact absurd (Int32.not_le.mp hc71) h1) (fun h1 h2 => by first | rfl | exact absurd (Int32.not_le.mp hc85) h2 | exact absurd (Int32.not_le.mp hc71) h1))
                · refine j_aload_n C dX4_findWorst_88 rfl ?_
                  refine jg_X4_least C dX4_findWorst_89 n_X4_findWorst_X4 (by decide +kernel) (Nat.lt_of_lt_of_le (by decide) hnp) ?_
                  refine j_iload_n C dX4_findWorst_92 rfl ?_
                  refine j_iald C i dX4_findWorst_93 (Nat.lt_of_lt_of_le (by decide) hnp) rfl rfl (show _ < 12 by omega) ?_
                  rw [c9]
                  refine j_goto C 103 dX4_findWorst_94 (by decide) ?_
                  subst hac
                  refine j_drop 5 ?_
                  exact hM3 _ (gaM (fun h => by first | rfl | exact absurd h (Int32.not_lt.mpr hc71)) (fun h1 h2 => by first | rfl | exact absurd h2 (Int32.not_lt.mpr hc85) | exact absurd (Int32.not_le.mp hc71) h1) (fun h1 h2 => by first | rfl | exact absurd (Int32.not_le.mp hc85) h2 | exact absurd (Int32.not_le.mp hc71) h1))
              · refine j_aload_n C dX4_findWorst_74 rfl ?_
                refine jg_X4_greatest C dX4_findWorst_75 n_X4_findWorst_X4 (by decide +kernel) (Nat.lt_of_lt_of_le (by decide) hnp) ?_
                refine j_iload_n C dX4_findWorst_78 rfl ?_
                refine j_iald C i dX4_findWorst_79 (Nat.lt_of_lt_of_le (by decide) hnp) rfl rfl (show _ < 12 by omega) ?_
                rw [c11]
                refine j_goto C 103 dX4_findWorst_80 (by decide) ?_
                subst hac
                refine j_drop 5 ?_
                exact hM3 _ (gaM (fun h => by first | rfl | exact absurd h (Int32.not_lt.mpr hc71)) (fun h1 h2 => by first | rfl | exact absurd h2 (Int32.not_lt.mpr hc85) | exact absurd (Int32.not_le.mp hc71) h1) (fun h1 h2 => by first | rfl | exact absurd (Int32.not_le.mp hc85) h2 | exact absurd (Int32.not_le.mp hc71) h1))
            · have hlt : t < a 5 := by have := mt (nI_leI (by omega) (by omega)).mpr hc; omega
              refine j_iload C dX4_findWorst_25 rfl ?_
              refine j_aload_n C dX4_findWorst_27 rfl ?_
              refine j_iload C dX4_findWorst_28 rfl ?_
              refine j_iload_n C dX4_findWorst_30 rfl ?_
              refine j_iload_n C dX4_findWorst_31 rfl ?_
              refine jVp3 (ci := 4) C dX4_findWorst_32 gX4_findWorst_X4_isOn rfl pd_X4_isOn ⟨by decide, by decide⟩ (Nat.lt_of_lt_of_le (by decide) hnp) rfl rfl rfl (Nat.le_of_ble_eq_true rfl) (c_X4_isOn hnp c12 c13 (by omega)) ?_
              refine j_if_eq C 59 dX4_findWorst_35 (by decide) (fun hc35 => ?_) (fun hc35 => ?_)
              · refine j_iconst (v := 0) C dX4_findWorst_59 rfl ?_
                refine j_iadd C dX4_findWorst_60 ?_
                refine j_istore C dX4_findWorst_61 (by decide) ?_
                refine j_iincN (n := 1) C dX4_findWorst_63 rfl (by decide) ?_
                refine j_goto C 16 dX4_findWorst_66 (by decide) ?_
                first
                | exact ih (t + 1) _ (by omega) (by omega) (by simp only [wF]; rw [bI_0.mp hc35, hac, Int32.add_zero]; rfl)
                | exact ih (t + 1) _ (by omega) (by omega) (by simp only [wF]; rw [bI_n0.mp hc35, decide_eq_true hc46, hac]; rfl)
                | exact ih (t + 1) _ (by omega) (by omega) (by simp only [wF]; rw [bI_n0.mp hc35, decide_eq_false hc46, hac, Int32.add_zero]; rfl)
              · refine j_aload_n C dX4_findWorst_38 rfl ?_
                refine jg_X4_termName C dX4_findWorst_39 n_X4_findWorst_X4 (by decide +kernel) (Nat.lt_of_lt_of_le (by decide) hnp) ?_
                refine j_iload C dX4_findWorst_42 rfl ?_
                refine j_iald C t dX4_findWorst_44 (Nat.lt_of_lt_of_le (by decide) hnp) rfl rfl (show _ < 40 by omega) ?_
                rw [c14]
                refine j_iload_n C dX4_findWorst_45 rfl ?_
                refine j_icmp_ne C 59 dX4_findWorst_46 (by decide) (fun hc46 => ?_) (fun hc46 => ?_)
                · refine j_iconst (v := 0) C dX4_findWorst_59 rfl ?_
                  refine j_iadd C dX4_findWorst_60 ?_
                  refine j_istore C dX4_findWorst_61 (by decide) ?_
                  refine j_iincN (n := 1) C dX4_findWorst_63 rfl (by decide) ?_
                  refine j_goto C 16 dX4_findWorst_66 (by decide) ?_
                  first
                  | exact ih (t + 1) _ (by omega) (by omega) (by simp only [wF]; rw [bI_0.mp hc35, hac, Int32.add_zero]; rfl)
                  | exact ih (t + 1) _ (by omega) (by omega) (by simp only [wF]; rw [bI_n0.mp hc35, decide_eq_true hc46, hac]; rfl)
                  | exact ih (t + 1) _ (by omega) (by omega) (by simp only [wF]; rw [bI_n0.mp hc35, decide_eq_false hc46, hac, Int32.add_zero]; rfl)
                · refine j_aload_n C dX4_findWorst_49 rfl ?_
                  refine jg_X4_termFactor C dX4_findWorst_50 n_X4_findWorst_X4 (by decide +kernel) (Nat.lt_of_lt_of_le (by decide) hnp) ?_
                  refine j_iload C dX4_findWorst_53 rfl ?_
                  refine j_iald C t dX4_findWorst_55 (Nat.lt_of_lt_of_le (by decide) hnp) rfl rfl (show _ < 40 by omega) ?_
                  rw [c15]
                  refine j_goto C 60 dX4_findWorst_56 (by decide) ?_
                  refine j_iadd C dX4_findWorst_60 ?_
                  refine j_istore C dX4_findWorst_61 (by decide) ?_
                  refine j_iincN (n := 1) C dX4_findWorst_63 rfl (by decide) ?_
                  refine j_goto C 16 dX4_findWorst_66 (by decide) ?_
                  first
                  | exact ih (t + 1) _ (by omega) (by omega) (by simp only [wF]; rw [bI_0.mp hc35, hac, Int32.add_zero]; rfl)
                  | exact ih (t + 1) _ (by omega) (by omega) (by simp only [wF]; rw [bI_n0.mp hc35, decide_eq_true hc46, hac]; rfl)
                  | exact ih (t + 1) _ (by omega) (by omega) (by simp only [wF]; rw [bI_n0.mp hc35, decide_eq_false hc46, hac, Int32.add_zero]; rfl)
        refine j_iconst (v := 0) C dX4_findWorst_10 rfl ?_
        refine j_istore C dX4_findWorst_11 (by decide) ?_
        refine j_iconst (v := 0) C dX4_findWorst_13 rfl ?_
        refine j_istore C dX4_findWorst_14 (by decide) ?_
        exact hLi (a 5 + 1) 0 _ (by omega) (by omega) rfl
  refine j_iconst (v := 0) C dX4_findWorst_0 rfl ?_
  refine j_istore_n C dX4_findWorst_1 (by decide) ?_
  exact hL1 (a 4 + 1) 0 _ (by omega) (by omega) Sm.rf (fun n hn => absurd hn (Nat.not_lt_zero n)) (fun n hn => absurd hn (Nat.not_lt_zero n))
