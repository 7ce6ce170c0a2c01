section JD
variable {p : Program} {l : Launch} {e : Env} {R : Room} {s : State} {m : MethodId} {args : Array Value} {below : List Frame} {meth : Method} {c : Code} {kc ks : Nat} {Q : State → Prop}
variable {cc : ByteArray} {nL : Nat} {own : String} {Ts : List Cond} {D : va_G} {cI cZ cQ : ClassId} {ad : Nat → Nat} {np : Nat} {A : Nat → Prop}
variable {x x' : Nat → Nat} {g g' : Nat → Nat → Int32} {pc tgt : Nat} {ls : List (Option Value)} {st : List Value}
theorem lz_drop {ls : List (Option Value)} {k : Nat} {q : Nat × Value} (h : q ∈ lz (ls.set k none)) : q ∈ lz ls := by
  obtain ⟨h1, h2⟩ := lz_mem.mp h
  refine lz_mem.mpr ⟨?_, h2⟩
  by_cases hk : q.1 = k
  · rw [hk] at h1
    have hl := (List.getElem?_eq_some_iff.mp h1).1
    rw [List.length_set] at hl
    rw [List.getElem?_set_self hl] at h1
    cases h1
  · rwa [List.getElem?_set_ne (Ne.symm hk)] at h1
theorem j_drop (k : Nat) (K : J p l e R s m args below meth c kc ks D cI cZ cQ ad np A nL Q x g (pc) (ls.set k none) (st)) : J p l e R s m args below meth c kc ks D cI cZ cQ ad np A nL Q x g (pc) (ls) (st) := fun H locs la hP hS hv => K H locs la hP hS ⟨hv.1, hv.2.1, fun q hq => hv.2.2 q (lz_drop hq)⟩
theorem j_eqi {u v : Int32} (h : u = v) (K : J p l e R s m args below meth c kc ks D cI cZ cQ ad np A nL Q x g (pc) (ls) (.int v :: st)) : J p l e R s m args below meth c kc ks D cI cZ cQ ad np A nL Q x g (pc) (ls) (.int u :: st) := h ▸ K
end JD
theorem slot_eq (r : Nat) : nI r - 1 - (-1) = nI r := by
  have h : ∀ u : Int32, u - 1 - (-1) = u := by intro u; grind
  exact h _
theorem sub1_inj {r q : Nat} (hr : r < 2 ^ 31) (hq : q < 2 ^ 31) (h : nI r - 1 = nI q - 1) : r = q := by
  have h2 : nI r = nI q := by rw [← slot_eq r, ← slot_eq q, h]
  exact (nI_eq hr hq).mp h2
theorem zF_s {f : Nat → Int32} {n : Nat} : upd (cpF f (fun _ => 0) n) n 0 = cpF f (fun _ => 0) (n + 1) := cpF_s
theorem sumF_on {b : Nat → Nat → Int32} {num f : Nat → Int32} {plan v : Int32} {t r R : Nat} (hr : b 12 t = nI r - 1) (ht : tkF b plan t = true) (hv : v = vaF b num t) (h : ∀ q, q ≤ R → f q = sumF b num plan (nI q - 1) t) (hr2 : r ≤ R) (hR : R ≤ 10) : ∀ q, q ≤ R → upd f r (f r + b 15 t * v) q = sumF b num plan (nI q - 1) (t + 1) := by
  intro q hq
  simp only [sumF, onF, ht, Bool.and_true, decide_eq_true_eq]
  by_cases hqr : q = r
  · subst hqr
    rw [if_pos hr, ← h q hq, hv]
    simp [upd]
  · rw [if_neg (fun e => hqr (sub1_inj (by omega) (by omega) (e.symm.trans hr)).symm.symm)]
    simp only [upd]
    rw [if_neg hqr]
    exact h q hq
theorem sumF_off {b : Nat → Nat → Int32} {num f : Nat → Int32} {plan : Int32} {t R : Nat} (ht : tkF b plan t = false) (h : ∀ q, q ≤ R → f q = sumF b num plan (nI q - 1) t) : ∀ q, q ≤ R → f q = sumF b num plan (nI q - 1) (t + 1) := by
  intro q hq
  simp only [sumF, onF, ht, Bool.and_false]
  exact h q hq
/-- a name's factors together, and those without a name -/
def wF (b : Nat → Nat → Int32) (plan row : Int32) (n : Nat) : Nat → Int32
  | 0 => 0
  | t + 1 => if onF b plan row t && decide (b 14 t = nI n) then wF b plan row n t + b 15 t else wF b plan row n t
def baF (b : Nat → Nat → Int32) (plan row : Int32) : Nat → Int32
  | 0 => 0
  | t + 1 => if onF b plan row t && decide (b 14 t < 0) then baF b plan row t + b 15 t else baF b plan row t
theorem n_X2_sumUp_X2 : ∀ w ∈ wsX20, w ∈ wsX2_sumUp := by decide +kernel
set_option maxHeartbeats 4000000 in
set_option maxRecDepth 100000 in
theorem c_X2_sumUp {l : Launch} {D : va_G} {cI cZ cQ : ClassId} {ad : Nat → Nat} {np : Nat} {x : Nat → Nat} {g : Nat → Nat → Int32} (hnp : 27 ≤ np) {a : Nat → Nat} {b nu : Nat → Nat → Int32} (hX : RX x g a b nu) (hW : WF a b nu) {num : Nat → Int32} {plan : Int32} {k : Nat} (hk : k < np) (hkI : isI k = true) (hkL : LN k = 12) (hk4 : k ≠ 4) (hnum : g k = num) : Cn l D cI cZ cQ ad np 1 yX2_sumUp wsX2_sumUp [.ref (ad 2), .int plan, .ref (ad k), .ref (ad 4)] x g (rv (fun x' g' => x' = x ∧ ∃ f, g' = va_up g 4 f ∧ ∀ q, q ≤ a 0 → f q = sumF b num plan (nI q - 1) (a 5))) := by
  refine cn_of (own := RX2) (by decide) rfl rfl (by simp [Value.category]) (Nat.le_of_ble_eq_true rfl) ?_
  intro p e s m args below meth c A Q C HR HV
  obtain ⟨hx, hg, hnu⟩ := id hX
  obtain ⟨⟨w0, ⟨w1, w1'⟩, w2, w3, w4, w5, w6⟩, wt, wn, wq⟩ := id hW
  have e0 := hx 0 (by decide)
  have e1 := hx 1 (by decide)
  have e2 := hx 2 (by decide)
  have e3 := hx 3 (by decide)
  have e4 := hx 4 (by decide)
  have e5 := hx 5 (by decide)
  have e6 := hx 6 (by decide)
  have b9 := hg 9 (by decide) (by decide)
  have b10 := hg 10 (by decide) (by decide)
  have b11 := hg 11 (by decide) (by decide)
  have b12 := hg 12 (by decide) (by decide)
  have b13 := hg 13 (by decide) (by decide)
  have b14 := hg 14 (by decide) (by decide)
  have b15 := hg 15 (by decide) (by decide)
  have b16 := hg 16 (by decide) (by decide)
  have b17 := hg 17 (by decide) (by decide)
  have hL2 : ∀ (n : Nat) (i : Nat) (f : Nat → Int32), i ≤ a 5 → a 5 - i < n → (∀ q, q ≤ a 0 → f q = sumF b num plan (nI q - 1) i) → J p l e (Rm 1) s m args below meth c 0 0 D cI cZ cQ ad np A 6 Q x (va_up g 4 f) 24 [some (.ref (ad 2)), some (.int plan), some (.ref (ad k)), some (.ref (ad 4)), some (.int (nI i)), none] [] := by
    intro n
    induction n with
    | zero => intros; omega
    | succ n ih =>
      intro i f h1 h2 hf
      refine j_iload C dX2_sumUp_24 rfl ?_
      refine j_aload_n C dX2_sumUp_26 rfl ?_
      refine jg_X2_count C dX2_sumUp_27 n_X2_sumUp_X2 (by decide +kernel) (Nat.lt_of_lt_of_le (by decide) hnp) ?_
      refine j_icmp_ge C 103 dX2_sumUp_30 (by decide) (fun hc => ?_) (fun hc => ?_)
      · have he : i = a 5 := by have := (nI_leI (by omega) (by omega)).mp hc; omega
        subst he
        exact HV _ _ _ _ rfl dX2_sumUp_103 ⟨rfl, rfl, f, rfl, hf⟩
      · have hlt : i < a 5 := by have := mt (nI_leI (by omega) (by omega)).mpr hc; omega
        obtain ⟨⟨r, hr1, hr⟩, hch, hnm, hf1, hf2⟩ := wt i hlt
        have hch2 : b 13 i = -1 ∨ ¬ b 13 i < 0 := hch.imp_right (fun ⟨j, hj, e⟩ => by rw [e]; exact nI_pos (by omega))
        have hnm2 : b 14 i = -1 ∨ ¬ b 14 i < 0 := hnm.imp_right (fun ⟨j, hj, e⟩ => by rw [e]; exact nI_pos (by omega))
        refine j_aload_n C dX2_sumUp_33 rfl ?_
        refine j_iload C dX2_sumUp_34 rfl ?_
        refine j_iload_n C dX2_sumUp_36 rfl ?_
        refine jVp2 (ci := 2) C dX2_sumUp_37 gX2_sumUp_X2_isTaken rfl pd_X2_isTaken ⟨by decide, by decide⟩ (Nat.lt_of_lt_of_le (by decide) hnp) rfl rfl rfl (Nat.le_of_ble_eq_true rfl) (c_X2_isTaken hnp ((va_un _ 4 13 _ (by decide)).trans b13) (by omega) hch2) ?_
        refine j_if_ne C 46 dX2_sumUp_40 (by decide) (fun hc40 => ?_) (fun hc40 => ?_)
        · have hM : ∀ (v : Int32), v = vaF b num i → J p l e (Rm 1) s m args below meth c 0 0 D cI cZ cQ ad np A 6 Q x (va_up g 4 f) 70 [some (.ref (ad 2)), some (.int plan), some (.ref (ad k)), some (.ref (ad 4)), some (.int (nI i)), none] [.int v] := by
            intro v hv
            refine j_istore C dX2_sumUp_70 (by decide) ?_
            refine j_aload_n C dX2_sumUp_72 rfl ?_
            refine j_aload_n C dX2_sumUp_73 rfl ?_
            refine jg_X2_rowOf C dX2_sumUp_74 n_X2_sumUp_X2 (by decide +kernel) (Nat.lt_of_lt_of_le (by decide) hnp) ?_
            refine j_iload C dX2_sumUp_77 rfl ?_
            refine j_iald C i dX2_sumUp_79 (Nat.lt_of_lt_of_le (by decide) hnp) rfl rfl (show _ < 40 by omega) ?_
            rw [va_un _ 4 12 _ (by decide), b12]
            refine jNp1 C dX2_sumUp_80 gX2_sumUp_X3_slotOf_n32 (by decide +kernel) (by decide +kernel) rfl pd_X3_slotOf ⟨by decide, by decide⟩ (Nat.le_of_ble_eq_true rfl) c_X3_slotOf ?_
            refine j_dup2 C dX2_sumUp_83 rfl rfl ?_
            refine j_iald C r dX2_sumUp_84 (Nat.lt_of_lt_of_le (by decide) hnp) rfl (by rw [hr]; exact slot_eq r) (show _ < 11 by omega) ?_
            rw [va_us]
            refine j_aload_n C dX2_sumUp_85 rfl ?_
            refine jg_X2_factorOf C dX2_sumUp_86 n_X2_sumUp_X2 (by decide +kernel) (Nat.lt_of_lt_of_le (by decide) hnp) ?_
            refine j_iload C dX2_sumUp_89 rfl ?_
            refine j_iald C i dX2_sumUp_91 (Nat.lt_of_lt_of_le (by decide) hnp) rfl rfl (show _ < 40 by omega) ?_
            rw [va_un _ 4 15 _ (by decide), b15]
            refine j_iload C dX2_sumUp_92 rfl ?_
            refine j_imul C dX2_sumUp_94 ?_
            refine j_iadd C dX2_sumUp_95 ?_
            refine j_iast C r dX2_sumUp_96 (Nat.lt_of_lt_of_le (by decide) hnp) rfl (by rw [hr]; exact slot_eq r) (show _ < 11 by omega) ?_
            rw [va_us, va_uu]
            refine j_iincN (n := 1) C dX2_sumUp_97 rfl (by decide) ?_
            refine j_goto C 24 dX2_sumUp_100 (by decide) ?_
            refine j_drop 5 ?_
            exact ih (i + 1) _ (by omega) (by omega) (sumF_on hr (bI_n0.mp hc40) hv hf hr1 w0)
          refine j_aload_n C dX2_sumUp_46 rfl ?_
          refine jg_X2_nameOf C dX2_sumUp_47 n_X2_sumUp_X2 (by decide +kernel) (Nat.lt_of_lt_of_le (by decide) hnp) ?_
          refine j_iload C dX2_sumUp_50 rfl ?_
          refine j_iald C i dX2_sumUp_52 (Nat.lt_of_lt_of_le (by decide) hnp) rfl rfl (show _ < 40 by omega) ?_
          rw [va_un _ 4 14 _ (by decide), b14]
          refine j_iconst (v := (-1)) C dX2_sumUp_53 rfl ?_
          refine j_icmp_ne C 61 dX2_sumUp_54 (by decide) (fun hc54 => ?_) (fun hc54 => ?_)
          · obtain ⟨nn, hn1, hnn⟩ := hnm.resolve_left hc54
            refine j_aload_n C dX2_sumUp_61 rfl ?_
            refine j_aload_n C dX2_sumUp_62 rfl ?_
            refine jg_X2_nameOf C dX2_sumUp_63 n_X2_sumUp_X2 (by decide +kernel) (Nat.lt_of_lt_of_le (by decide) hnp) ?_
            refine j_iload C dX2_sumUp_66 rfl ?_
            refine j_iald C i dX2_sumUp_68 (Nat.lt_of_lt_of_le (by decide) hnp) rfl rfl (show _ < 40 by omega) ?_
            rw [va_un _ 4 14 _ (by decide), b14]
            refine j_iald C nn dX2_sumUp_69 hk hkI hnn (by rw [hkL]; omega) ?_
            rw [va_un _ 4 k _ hk4, hnum]
            first
            | exact hM _ (by simp only [vaF]; rw [if_pos (by rw [hc54]; decide)])
            | exact hM _ (by simp only [vaF]; rw [if_neg (hnm2.resolve_left hc54), hnn, nI_clamp (by omega)])
          · refine j_iconst (v := 1) C dX2_sumUp_57 rfl ?_
            refine j_goto C 70 dX2_sumUp_58 (by decide) ?_
            first
            | exact hM _ (by simp only [vaF]; rw [if_pos (by rw [hc54]; decide)])
            | exact hM _ (by simp only [vaF]; rw [if_neg (hnm2.resolve_left hc54), hnn, nI_clamp (by omega)])
        · refine j_goto C 97 dX2_sumUp_43 (by decide) ?_
          refine j_iincN (n := 1) C dX2_sumUp_97 rfl (by decide) ?_
          refine j_goto C 24 dX2_sumUp_100 (by decide) ?_
          exact ih (i + 1) _ (by omega) (by omega) (sumF_off (bI_0.mp hc40) hf)
  have hL1 : ∀ (n : Nat) (i : Nat), i ≤ 11 → 11 - i < n → J p l e (Rm 1) s m args below meth c 0 0 D cI cZ cQ ad np A 6 Q x (va_up g 4 (cpF (g 4) (fun _ => 0) i)) 3 [some (.ref (ad 2)), some (.int plan), some (.ref (ad k)), some (.ref (ad 4)), some (.int (nI i)), none] [] := by
    intro n
    induction n with
    | zero => intros; omega
    | succ n ih =>
      intro i h1 h2
      refine j_iload C dX2_sumUp_3 rfl ?_
      refine j_aload_n C dX2_sumUp_5 rfl ?_
      refine j_alen (v := nI 11) C dX2_sumUp_6 (Nat.lt_of_lt_of_le (by decide) hnp) rfl rfl ?_
      refine j_icmp_ge C 21 dX2_sumUp_7 (by decide) (fun hc => ?_) (fun hc => ?_)
      · have he : i = 11 := by have := (nI_leI (by omega) (by omega)).mp hc; omega
        subst he
        refine j_iconst (v := 0) C dX2_sumUp_21 rfl ?_
        refine j_istore C dX2_sumUp_22 (by decide) ?_
        exact hL2 (a 5 + 1) 0 _ (by omega) (by omega) (fun q hq => by simp only [cpF]; rw [if_pos (by omega)]; rfl)
      · have hlt : i < 11 := by have := mt (nI_leI (by omega) (by omega)).mpr hc; omega
        refine j_aload_n C dX2_sumUp_10 rfl ?_
        refine j_iload C dX2_sumUp_11 rfl ?_
        refine j_iconst (v := 0) C dX2_sumUp_13 rfl ?_
        refine j_iast C i dX2_sumUp_14 (Nat.lt_of_lt_of_le (by decide) hnp) rfl rfl (show _ < 11 by omega) ?_
        rw [va_us, va_uu, zF_s]
        refine j_iincN (n := 1) C dX2_sumUp_15 rfl (by decide) ?_
        refine j_goto C 3 dX2_sumUp_18 (by decide) ?_
        exact ih (i + 1) (by omega) (by omega)
  refine j_iconst (v := 0) C dX2_sumUp_0 rfl ?_
  refine j_istore C dX2_sumUp_1 (by decide) ?_
  have hL0 := hL1 12 0 (by omega) (by omega)
  rw [cpF_0, va_id] at hL0
  exact hL0
