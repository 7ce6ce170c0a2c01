/-- n divisions are enough -/
def Euc : Nat → Nat → Nat → Prop
  | 0, _, L => L = 0
  | n + 1, G, L => L = 0 ∨ Euc n L (G % L)
theorem mod_half {L M : Nat} (h0 : 0 < M) (h : M < L) : 2 * (L % M) < L := by
  have h1 := Nat.mod_lt L h0
  have h2 := Nat.div_add_mod L M
  have h3 : 1 ≤ L / M := (Nat.le_div_iff_mul_le h0).mpr (by omega)
  have h4 : M * 1 ≤ M * (L / M) := Nat.mul_le_mul_left M h3
  omega
theorem euc_k : ∀ k G L, L < 2 ^ k → Euc (2 * k) G L := by
  intro k
  induction k with
  | zero => intro G L h; show L = 0; omega
  | succ k ih =>
    intro G L h
    show L = 0 ∨ (G % L = 0 ∨ Euc (2 * k) (G % L) (L % (G % L)))
    by_cases h0 : L = 0
    · exact Or.inl h0
    · refine Or.inr ?_
      by_cases h1 : G % L = 0
      · exact Or.inl h1
      · refine Or.inr (ih _ _ ?_)
        have := mod_half (L := L) (M := G % L) (by omega) (Nat.mod_lt _ (by omega))
        rw [Nat.pow_succ] at h
        omega
theorem gcd_st {G L : Nat} : Nat.gcd L (G % L) = Nat.gcd G L := by
  rw [Nat.gcd_comm L, ← Nat.gcd_rec L G, Nat.gcd_comm]
theorem abs_nI {v : Int32} (h : -2147483647 ≤ v.toInt) : (0 ≤ v → v = nI v.toInt.natAbs) ∧ (¬ 0 ≤ v → -v = nI v.toInt.natAbs) ∧ v.toInt.natAbs < 2 ^ 31 := by
  have hl := Int32.toInt_lt v
  have e0 : (0 : Int32).toInt = 0 := rfl
  refine ⟨fun h0 => ?_, fun h0 => ?_, by omega⟩
  · rw [Int32.le_iff_toInt_le, e0] at h0
    apply Int32.toInt_inj.mp
    rw [nI_toInt (by omega)]
    omega
  · rw [Int32.le_iff_toInt_le, e0] at h0
    apply Int32.toInt_inj.mp
    rw [nI_toInt (by omega), Int32.toInt_neg, Int.bmod_eq_of_le (by omega) (by omega)]
    omega
/-- a part of above / B in least terms -/
def frF (above : Int32) (B : Nat) (part : Int32) : Int32 := (if part = 0 then above else nI B) / nI (Nat.gcd above.toInt.natAbs B)
set_option maxHeartbeats 4000000 in
set_option maxRecDepth 100000 in
theorem c_X3_commonDivisor {l : Launch} {D : va_G} {cI cZ cQ : ClassId} {ad : Nat → Nat} {np : Nat} {x : Nat → Nat} {g : Nat → Nat → Int32} {A0 B0 : Nat} (hA : A0 < 2 ^ 31) (hB : B0 < 2 ^ 10) : Cn l D cI cZ cQ ad np 0 yX3_commonDivisor wsX3_commonDivisor [.int (nI A0), .int (nI B0)] x g (rp (nI (Nat.gcd A0 B0)) x g) := by
  refine cn_of (own := RX3) (by decide) rfl rfl (by simp [Value.category]) (Nat.le_of_ble_eq_true rfl) ?_
  intro p e s m args below meth c A Q C HR HV
  have hL : ∀ (n : Nat) (i G L : Nat), Euc n G L → i + n ≤ 99 → G < 2 ^ 31 → L < 2 ^ 31 → Nat.gcd G L = Nat.gcd A0 B0 → J p l e (Rm 0) s m args below meth c 0 0 D cI cZ cQ ad np A 6 Q x g 7 [some (.int (nI A0)), some (.int (nI B0)), some (.int (nI G)), some (.int (nI L)), some (.int (nI i)), none] [] := by
    intro n
    induction n with
    | zero =>
      intro i G L he hi hG hL hg
      refine j_iload C dX3_commonDivisor_7 rfl ?_
      refine j_bipush (v := 100) C dX3_commonDivisor_9 (by decide) ?_
      refine j_icmp_ge C 34 dX3_commonDivisor_11 (by decide) (fun hc11 => ?_) (fun hc11 => ?_)
      · exact absurd ((nI_leI (a := 100) (by omega) (by omega)).mp hc11) (by omega)
      · refine j_iload_n C dX3_commonDivisor_14 rfl ?_
        refine j_if_eq C 34 dX3_commonDivisor_15 (by decide) (fun hc15 => ?_) (fun hc15 => ?_)
        · have hL0 : L = 0 := (nI_eq (b := 0) (by omega) (by omega)).mp hc15
          refine j_iload_n C dX3_commonDivisor_34 rfl ?_
          exact HR _ _ _ _ _ _ rfl rfl dX3_commonDivisor_35 ⟨_, rfl, by rw [← hg, hL0, Nat.gcd_zero_right], rfl, rfl⟩
        · exact absurd (by rw [show L = 0 from he]; rfl) hc15
    | succ n ih =>
      intro i G L he hi hG hL hg
      refine j_iload C dX3_commonDivisor_7 rfl ?_
      refine j_bipush (v := 100) C dX3_commonDivisor_9 (by decide) ?_
      refine j_icmp_ge C 34 dX3_commonDivisor_11 (by decide) (fun hc11 => ?_) (fun hc11 => ?_)
      · exact absurd ((nI_leI (a := 100) (by omega) (by omega)).mp hc11) (by omega)
      · refine j_iload_n C dX3_commonDivisor_14 rfl ?_
        refine j_if_eq C 34 dX3_commonDivisor_15 (by decide) (fun hc15 => ?_) (fun hc15 => ?_)
        · have hL0 : L = 0 := (nI_eq (b := 0) (by omega) (by omega)).mp hc15
          refine j_iload_n C dX3_commonDivisor_34 rfl ?_
          exact HR _ _ _ _ _ _ rfl rfl dX3_commonDivisor_35 ⟨_, rfl, by rw [← hg, hL0, Nat.gcd_zero_right], rfl, rfl⟩
        · have hL0 : ¬ L = 0 := fun q => hc15 (by rw [q]; rfl)
          have hpos : 0 < L := by omega
          have hmod := Nat.mod_lt G hpos
          refine j_iload_n C dX3_commonDivisor_18 rfl ?_
          refine j_iload_n C dX3_commonDivisor_19 rfl ?_
          refine j_irem C dX3_commonDivisor_20 hc15 ?_
          rw [pk_rem (by omega) hpos (by omega)]
          refine j_istore C dX3_commonDivisor_21 (by decide) ?_
          refine j_iload_n C dX3_commonDivisor_23 rfl ?_
          refine j_istore_n C dX3_commonDivisor_24 (by decide) ?_
          refine j_iload C dX3_commonDivisor_25 rfl ?_
          refine j_istore_n C dX3_commonDivisor_27 (by decide) ?_
          refine j_iincN (n := 1) C dX3_commonDivisor_28 rfl (by decide) ?_
          refine j_goto C 7 dX3_commonDivisor_31 (by decide) ?_
          refine j_drop 5 ?_
          exact ih (i + 1) _ _ (he.resolve_left hL0) (by omega) (by omega) (by omega) (by rw [gcd_st]; exact hg)
  refine j_iload_n C dX3_commonDivisor_0 rfl ?_
  refine j_istore_n C dX3_commonDivisor_1 (by decide) ?_
  refine j_iload_n C dX3_commonDivisor_2 rfl ?_
  refine j_istore_n C dX3_commonDivisor_3 (by decide) ?_
  refine j_iconst (v := 0) C dX3_commonDivisor_4 rfl ?_
  refine j_istore C dX3_commonDivisor_5 (by decide) ?_
  exact hL 20 0 A0 B0 (euc_k 10 _ _ hB) (by omega) hA (by omega) rfl
set_option maxHeartbeats 4000000 in
set_option maxRecDepth 100000 in
theorem c_X3_partOfFraction {l : Launch} {D : va_G} {cI cZ cQ : ClassId} {ad : Nat → Nat} {np : Nat} {x : Nat → Nat} {g : Nat → Nat → Int32} {ab part : Int32} {B0 : Nat} (hab : -2147483647 ≤ ab.toInt) (hB0 : 0 < B0) (hB : B0 < 2 ^ 10) : Cn l D cI cZ cQ ad np 1 yX3_partOfFraction wsX3_partOfFraction [.int ab, .int (nI B0), .int part] x g (rp (frF ab B0 part) x g) := by
  refine cn_of (own := RX3) (by decide) rfl rfl (by simp [Value.category]) (Nat.le_of_ble_eq_true rfl) ?_
  intro p e s m args below meth c A Q C HR HV
  refine j_iload_n C dX3_partOfFraction_0 rfl ?_
  refine j_abs C dX3_partOfFraction_1 (by decide +kernel) (by decide +kernel) (by decide +kernel) (by decide +kernel) (by decide) (by decide) ?_
  rw [show (if 0 ≤ ab then ab else 0 - ab) = nI ab.toInt.natAbs by
    by_cases h0 : 0 ≤ ab
    · rw [if_pos h0]; exact (abs_nI hab).1 h0
    · rw [if_neg h0, Int32.zero_sub]; exact (abs_nI hab).2.1 h0]
  refine j_iload_n C dX3_partOfFraction_4 rfl ?_
  refine jSp2 C dX3_partOfFraction_5 gX3_partOfFraction_X3_commonDivisor rfl pd_X3_commonDivisor ⟨by decide, by decide⟩ (Nat.le_of_ble_eq_true rfl) (c_X3_commonDivisor (abs_nI hab).2.2 hB) ?_
  refine j_istore_n C dX3_partOfFraction_8 (by decide) ?_
  refine j_iload_n C dX3_partOfFraction_9 rfl ?_
  refine j_if_ne C 17 dX3_partOfFraction_10 (by decide) (fun hc10 => ?_) (fun hc10 => ?_)
  · refine j_iload_n C dX3_partOfFraction_17 rfl ?_
    refine j_istore C dX3_partOfFraction_18 (by decide) ?_
    refine j_iload_n C dX3_partOfFraction_20 rfl ?_
    refine j_iconst (v := 1) C dX3_partOfFraction_21 rfl ?_
    refine j_icmp_le C 32 dX3_partOfFraction_22 (by decide) (fun hc22 => ?_) (fun hc22 => ?_)
    · have hd1 : Nat.gcd ab.toInt.natAbs B0 = 1 := by
        have h1 := (nI_leI (b := 1) (Nat.lt_of_le_of_lt (Nat.gcd_le_right _ hB0) (by omega)) (by omega)).mp hc22
        have h2 := Nat.gcd_pos_of_pos_right ab.toInt.natAbs hB0
        omega
      refine j_iload C dX3_partOfFraction_32 rfl ?_
      exact HR _ _ _ _ _ _ rfl rfl dX3_partOfFraction_34 ⟨_, rfl, by unfold frF; rw [if_neg hc10, hd1]; exact (Int32.div_one (a := nI B0)).symm, rfl, rfl⟩
    · refine j_iload C dX3_partOfFraction_25 rfl ?_
      refine j_iload_n C dX3_partOfFraction_27 rfl ?_
      refine j_idiv C dX3_partOfFraction_28 (fun q => by rw [q] at hc22; exact hc22 (by decide)) ?_
      refine j_goto C 34 dX3_partOfFraction_29 (by decide) ?_
      exact HR _ _ _ _ _ _ rfl rfl dX3_partOfFraction_34 ⟨_, rfl, by unfold frF; rw [if_neg hc10], rfl, rfl⟩
  · refine j_iload_n C dX3_partOfFraction_13 rfl ?_
    refine j_goto C 18 dX3_partOfFraction_14 (by decide) ?_
    refine j_istore C dX3_partOfFraction_18 (by decide) ?_
    refine j_iload_n C dX3_partOfFraction_20 rfl ?_
    refine j_iconst (v := 1) C dX3_partOfFraction_21 rfl ?_
    refine j_icmp_le C 32 dX3_partOfFraction_22 (by decide) (fun hc22 => ?_) (fun hc22 => ?_)
    · have hd1 : Nat.gcd ab.toInt.natAbs B0 = 1 := by
        have h1 := (nI_leI (b := 1) (Nat.lt_of_le_of_lt (Nat.gcd_le_right _ hB0) (by omega)) (by omega)).mp hc22
        have h2 := Nat.gcd_pos_of_pos_right ab.toInt.natAbs hB0
        omega
      refine j_iload C dX3_partOfFraction_32 rfl ?_
      exact HR _ _ _ _ _ _ rfl rfl dX3_partOfFraction_34 ⟨_, rfl, by unfold frF; rw [if_pos hc10, hd1]; exact (Int32.div_one (a := ab)).symm, rfl, rfl⟩
    · refine j_iload C dX3_partOfFraction_25 rfl ?_
      refine j_iload_n C dX3_partOfFraction_27 rfl ?_
      refine j_idiv C dX3_partOfFraction_28 (fun q => by rw [q] at hc22; exact hc22 (by decide)) ?_
      refine j_goto C 34 dX3_partOfFraction_29 (by decide) ?_
      exact HR _ _ _ _ _ _ rfl rfl dX3_partOfFraction_34 ⟨_, rfl, by unfold frF; rw [if_pos hc10], rfl, rfl⟩
set_option maxHeartbeats 4000000 in
set_option maxRecDepth 100000 in
theorem c_X4_lowest {l : Launch} {D : va_G} {cI cZ cQ : ClassId} {ad : Nat → Nat} {np : Nat} {x : Nat → Nat} {g : Nat → Nat → Int32} {ab part : Int32} {B0 : Nat} (hab : -2147483647 ≤ ab.toInt) (hB0 : 0 < B0) (hB : B0 < 2 ^ 10) : Cn l D cI cZ cQ ad np 0 yX4_lowest wsX4_lowest [.int ab, .int (nI B0), .int part] x g (rp (frF ab B0 part) x g) := by
  refine cn_of (own := RX4) (by decide) rfl rfl (by simp [Value.category]) (Nat.le_of_ble_eq_true rfl) ?_
  intro p e s m args below meth c A Q C HR HV
  obtain ⟨A0, hA0⟩ : ∃ A0, A0 = ab.toInt.natAbs := ⟨_, rfl⟩
  have hL : ∀ (n : Nat) (G L : Nat), Euc n G L → G < 2 ^ 31 → L < 2 ^ 31 → Nat.gcd G L = Nat.gcd A0 B0 → J p l e (Rm 0) s m args below meth c 0 0 D cI cZ cQ ad np A 6 Q x g 14 [some (.int ab), some (.int (nI B0)), some (.int part), some (.int (nI G)), some (.int (nI L)), none] [] := by
    intro n
    induction n with
    | zero =>
      intro G L he hG hL hg
      refine j_iload C dX4_lowest_14 rfl ?_
      refine j_if_eq C 35 dX4_lowest_16 (by decide) (fun hc16 => ?_) (fun hc16 => ?_)
      · have hL0 : L = 0 := (nI_eq (b := 0) (by omega) (by omega)).mp hc16
        refine j_iload_n C dX4_lowest_35 rfl ?_
        refine j_if_ne C 43 dX4_lowest_36 (by decide) (fun hc36 => ?_) (fun hc36 => ?_)
        · refine j_iload_n C dX4_lowest_43 rfl ?_
          refine j_iload_n C dX4_lowest_44 rfl ?_
          refine j_idiv C dX4_lowest_45 (fun q => absurd ((nI_eq (b := 0) (by omega) (by omega)).mp q) (by have := Nat.gcd_pos_of_pos_right A0 hB0; rw [← hg, hL0, Nat.gcd_zero_right] at this; omega)) ?_
          first
          | exact HR _ _ _ _ _ _ rfl rfl dX4_lowest_46 ⟨_, rfl, by unfold frF; rw [if_pos hc36, ← hA0, ← hg, hL0, Nat.gcd_zero_right], rfl, rfl⟩
          | exact HR _ _ _ _ _ _ rfl rfl dX4_lowest_46 ⟨_, rfl, by unfold frF; rw [if_neg hc36, ← hA0, ← hg, hL0, Nat.gcd_zero_right], rfl, rfl⟩
        · refine j_iload_n C dX4_lowest_39 rfl ?_
          refine j_goto C 44 dX4_lowest_40 (by decide) ?_
          refine j_iload_n C dX4_lowest_44 rfl ?_
          refine j_idiv C dX4_lowest_45 (fun q => absurd ((nI_eq (b := 0) (by omega) (by omega)).mp q) (by have := Nat.gcd_pos_of_pos_right A0 hB0; rw [← hg, hL0, Nat.gcd_zero_right] at this; omega)) ?_
          first
          | exact HR _ _ _ _ _ _ rfl rfl dX4_lowest_46 ⟨_, rfl, by unfold frF; rw [if_pos hc36, ← hA0, ← hg, hL0, Nat.gcd_zero_right], rfl, rfl⟩
          | exact HR _ _ _ _ _ _ rfl rfl dX4_lowest_46 ⟨_, rfl, by unfold frF; rw [if_neg hc36, ← hA0, ← hg, hL0, Nat.gcd_zero_right], rfl, rfl⟩
      · exact absurd (by rw [show L = 0 from he]; rfl) hc16
    | succ n ih =>
      intro G L he hG hL hg
      refine j_iload C dX4_lowest_14 rfl ?_
      refine j_if_eq C 35 dX4_lowest_16 (by decide) (fun hc16 => ?_) (fun hc16 => ?_)
      · have hL0 : L = 0 := (nI_eq (b := 0) (by omega) (by omega)).mp hc16
        refine j_iload_n C dX4_lowest_35 rfl ?_
        refine j_if_ne C 43 dX4_lowest_36 (by decide) (fun hc36 => ?_) (fun hc36 => ?_)
        · refine j_iload_n C dX4_lowest_43 rfl ?_
          refine j_iload_n C dX4_lowest_44 rfl ?_
          refine j_idiv C dX4_lowest_45 (fun q => absurd ((nI_eq (b := 0) (by omega) (by omega)).mp q) (by have := Nat.gcd_pos_of_pos_right A0 hB0; rw [← hg, hL0, Nat.gcd_zero_right] at this; omega)) ?_
          first
          | exact HR _ _ _ _ _ _ rfl rfl dX4_lowest_46 ⟨_, rfl, by unfold frF; rw [if_pos hc36, ← hA0, ← hg, hL0, Nat.gcd_zero_right], rfl, rfl⟩
          | exact HR _ _ _ _ _ _ rfl rfl dX4_lowest_46 ⟨_, rfl, by unfold frF; rw [if_neg hc36, ← hA0, ← hg, hL0, Nat.gcd_zero_right], rfl, rfl⟩
        · refine j_iload_n C dX4_lowest_39 rfl ?_
          refine j_goto C 44 dX4_lowest_40 (by decide) ?_
          refine j_iload_n C dX4_lowest_44 rfl ?_
          refine j_idiv C dX4_lowest_45 (fun q => absurd ((nI_eq (b := 0) (by omega) (by omega)).mp q) (by have := Nat.gcd_pos_of_pos_right A0 hB0; rw [← hg, hL0, Nat.gcd_zero_right] at this; omega)) ?_
          first
          | exact HR _ _ _ _ _ _ rfl rfl dX4_lowest_46 ⟨_, rfl, by unfold frF; rw [if_pos hc36, ← hA0, ← hg, hL0, Nat.gcd_zero_right], rfl, rfl⟩
          | exact HR _ _ _ _ _ _ rfl rfl dX4_lowest_46 ⟨_, rfl, by unfold frF; rw [if_neg hc36, ← hA0, ← hg, hL0, Nat.gcd_zero_right], rfl, rfl⟩
      · have hL0 : ¬ L = 0 := fun q => hc16 (by rw [q]; rfl)
        have hpos : 0 < L := by omega
        have hmod := Nat.mod_lt G hpos
        refine j_iload_n C dX4_lowest_19 rfl ?_
        refine j_iload C dX4_lowest_20 rfl ?_
        refine j_irem C dX4_lowest_22 hc16 ?_
        rw [pk_rem (by omega) hpos (by omega)]
        refine j_istore C dX4_lowest_23 (by decide) ?_
        refine j_iload C dX4_lowest_25 rfl ?_
        refine j_istore_n C dX4_lowest_27 (by decide) ?_
        refine j_iload C dX4_lowest_28 rfl ?_
        refine j_istore C dX4_lowest_30 (by decide) ?_
        refine j_goto C 14 dX4_lowest_32 (by decide) ?_
        refine j_drop 5 ?_
        exact ih _ _ (he.resolve_left hL0) (by omega) (by omega) (by rw [gcd_st]; exact hg)
  refine j_iload_n C dX4_lowest_0 rfl ?_
  refine j_if_ge C 9 dX4_lowest_1 (by decide) (fun hc1 => ?_) (fun hc1 => ?_)
  · refine j_iload_n C dX4_lowest_9 rfl ?_
    refine j_eqi ((abs_nI hab).1 hc1) ?_
    rw [← hA0]
    refine j_istore_n C dX4_lowest_10 (by decide) ?_
    refine j_iload_n C dX4_lowest_11 rfl ?_
    refine j_istore C dX4_lowest_12 (by decide) ?_
    exact hL 20 A0 B0 (euc_k 10 _ _ hB) (by rw [hA0]; exact (abs_nI hab).2.2) (by omega) rfl
  · refine j_iload_n C dX4_lowest_4 rfl ?_
    refine j_ineg C dX4_lowest_5 ?_
    rw [(abs_nI hab).2.1 hc1, ← hA0]
    refine j_goto C 10 dX4_lowest_6 (by decide) ?_
    refine j_istore_n C dX4_lowest_10 (by decide) ?_
    refine j_iload_n C dX4_lowest_11 rfl ?_
    refine j_istore C dX4_lowest_12 (by decide) ?_
    exact hL 20 A0 B0 (euc_k 10 _ _ hB) (by rw [hA0]; exact (abs_nI hab).2.2) (by omega) rfl
