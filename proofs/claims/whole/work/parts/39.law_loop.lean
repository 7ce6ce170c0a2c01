/-! THE CLAIM OUT OF ONE WALK OF THE LAW'S BODY. Your part is whole_start (and what it stands on); all else here is the same for every law, but numbers. -/
def R_law : String := "FutureSetsLaw"
def lw_P (b : Addr) (xs : List Int32) (args : Array Value) (s : State) : Prop := args = #[.ref b] ∧ s.IntsAt b xs ∧ xs.length ≤ 2560 ∧ (Jvm.Cond.and given_1 narrow_1).before args s = true
def lw_Q (_ : Array Value) (s : State) (o : Outcome) (t : State) : Prop := o = .returned (some (.int 1)) ∧ Framed s o t [] 600000 7302250
def lw_Z (below : List Frame) (a : Array Value) (s : State) : State → Prop := fun t => ∃ o, t.status = .running ∧ Ended t below o ∧ lw_Q a s o t
/-- the law's own end, with 1 on the stack, nothing written that was there before, its room as the claim has it -/
theorem lw_ret {p : Program} {l : Launch} {e : Env} {s : State} {m : MethodId} {below : List Frame} {meth : Method} {c : Code} {b : Nat} (hx : p.tables.exec = Jvm.exec) (hb : c.code = code) (hr : meth.sig.returnType = ret) (hlocks : meth.locks = false) {pc : Nat} {H : Heap} {ls : Array Slot} (hdg : decode code pc = .ok (.ireturn, 1)) : W p l e room_1 s m #[Value.ref b] below meth c H [] 600000 7302250 (lw_Z below #[Value.ref b] s) (F0 m pc ls [.int 1]) := by
  intro T hT X
  obtain ⟨fs, hret, hrun, hended, hW, hframe⟩ := X.leave (v := some (.int 1)) (hlocks := hlocks) (fun h => by rw [hr] at h; cases h)
  have hmeth' : T.vm.method? m = some meth := X.method'
  refine ⟨T.setFrames fs, ?_, .returned (some (.int 1)), hrun, hended, rfl, ⟨_, rfl⟩, hW, hframe⟩
  jvm_step X.here [X.here.top, hx, hb, hdg, hmeth', hr, ret, narrow_b1]
  (try refine ⟨rfl, ?_⟩); (try refine ⟨rfl, ?_⟩)
  first | (intro acts; rw [hret _ acts rfl rfl rfl]) | rw [hret _ _ rfl rfl rfl]
  exact Steps.refl _
/-- what holds at the law's entry: the machine, the code, the tables' words (any of lw_tbl by 'hts w (by decide +kernel)'), the script of L ints xs at the cell b, what the Statement gives of the start (any of its parts by flat_of_before) -/
def lw_At (p : Program) (s : State) (m : MethodId) (meth : Method) (c : Code) (b L : Nat) (xs : Nat → Int32) : Prop :=
  p.tables.exec = Jvm.exec ∧ c.code = code ∧ meth.sig.returnType = ret ∧ c.maxLocals = 4 ∧ s.vm.findClass R_law = some m.cls ∧ (∀ w ∈ lw_tbl, w.before #[Value.ref b] s = true) ∧ va_X b L xs s s.heap ∧ b < s.heap.size ∧ meth.locks = false ∧ (Jvm.Cond.and given_1 narrow_1).before #[Value.ref b] s = true

set_option maxHeartbeats 4000000 in
set_option maxRecDepth 100000 in
theorem law_loop {p : Program} {l : Launch} {e : Env} {s : State} {m : MethodId} {below : List Frame} {meth : Method} {c : Code} {D : va_G} {cI cZ cQ : ClassId} {ad : Nat → Nat} {bs L : Nat} {xs : Nat → Int32} (C : GC p room_1 s m #[Value.ref bs] c 600000 7302250 code 4 RL wsL_law D cI cZ cQ ad 41 (fun q : Nat => s.heap.size ≤ q)) (hXs : va_X bs L xs s s.heap) (hbl : bs < s.heap.size) (hL : L ≤ 2560) (hr : meth.sig.returnType = ret) (hlocks : meth.locks = false) : ∀ (n i : Nat), L - i < n → i ≤ L + 4 → ∀ (x : Nat → Nat) (g : Nat → Nat → Int32), INV x g → J p l e room_1 s m #[Value.ref bs] below meth c 600000 7302250 D cI cZ cQ ad 41 (fun q : Nat => s.heap.size ≤ q) 4 (lw_Z below #[Value.ref bs] s) x g 18 [some (.ref bs), some (.ref (ad 0)), some (.ref (ad 27)), some (.int (nI i))] [] := by
  have hbA : ¬ (fun q : Nat => s.heap.size ≤ q) bs := Nat.not_le.mpr hbl
  intro n
  induction n with
  | zero => intros; omega
  | succ n ih =>
    intro i h1 h2 x g hI
    refine j_iload_n C dL_law_18 rfl ?_
    refine j_aload_n C dL_law_19 rfl ?_
    refine j_slen C hXs hbl hbA dL_law_20 ?_
    refine j_iconst (v := 5) C dL_law_21 rfl ?_
    refine j_isub C dL_law_22 ?_
    refine j_icmp_gt C 767 dL_law_23 (by decide) (fun hc23 => ?_) (fun hc23 => ?_)
    · refine j_iconst (v := 1) C dL_law_767 rfl ?_
      intro H locs la hP hS hv
      exact va_forget (fun q hq => hS.2.2 q hq) (lw_ret C.1.1 C.1.2.1 hr hlocks dL_law_768)
    · have hi : i + 5 ≤ L := by
        have h5 := Int32.not_lt.mp hc23
        rw [Int32.le_iff_toInt_le, nI_toInt (by omega), show (nI L - 5).toInt = (L : Int) - 5 from pk_sub_toInt (b := 5) (by omega) (by omega)] at h5
        omega
      refine j_aload_n C dL_law_26 rfl ?_
      refine j_iload_n C dL_law_27 rfl ?_
      refine j_sld C hXs hbl hbA i dL_law_28 rfl (by omega) (by omega) ?_
      refine j_bipush (v := 31) C dL_law_29 (by decide) ?_
      refine j_iand C dL_law_31 ?_
      obtain ⟨j, hj, he⟩ := pk_andE (xs i) (m := 31) 5 (by decide)
      rw [he]
      have hNext : ∀ (x' : Nat → Nat) (g' : Nat → Nat → Int32), INV x' g' → J p l e room_1 s m #[Value.ref bs] below meth c 600000 7302250 D cI cZ cQ ad 41 (fun q : Nat => s.heap.size ≤ q) 4 (lw_Z below #[Value.ref bs] s) x' g' 761 [some (.ref bs), some (.ref (ad 0)), some (.ref (ad 27)), some (.int (nI i))] [] := by
        intro x' g' hI2
        refine j_iincN (n := 5) C dL_law_761 rfl (by decide) ?_
        refine j_goto C 18 dL_law_764 (by decide) ?_
        exact ih (i + 5) (by omega) (by omega) x' g' hI2
      by_cases h0 : j = 0
      · subst h0
        exact j_tableIn C 132 (off := 100) dL_law_32 (by decide) (by decide) (by decide) (by decide) (lc_begin C hXs hbl hbA hL hi hI hNext)
      by_cases h1 : j = 1
      · subst h1
        exact j_tableIn C 165 (off := 133) dL_law_32 (by decide) (by decide) (by decide) (by decide) (lc_name C hXs hbl hbA hL hi hI hNext)
      by_cases h2 : j = 2
      · subst h2
        exact j_tableIn C 208 (off := 176) dL_law_32 (by decide) (by decide) (by decide) (by decide) (lc_budget C hXs hbl hbA hL hi hI hNext)
      by_cases h3 : j = 3
      · subst h3
        exact j_tableIn C 231 (off := 199) dL_law_32 (by decide) (by decide) (by decide) (by decide) (lc_row C hXs hbl hbA hL hi hI hNext)
      by_cases h4 : j = 4
      · subst h4
        exact j_tableIn C 244 (off := 212) dL_law_32 (by decide) (by decide) (by decide) (by decide) (lc_term C hXs hbl hbA hL hi hI hNext)
      by_cases h5 : j = 5
      · subst h5
        exact j_tableIn C 297 (off := 265) dL_law_32 (by decide) (by decide) (by decide) (by decide) (lc_future C hXs hbl hbA hL hi hI hNext)
      by_cases h6 : j = 6
      · subst h6
        exact j_tableIn C 346 (off := 314) dL_law_32 (by decide) (by decide) (by decide) (by decide) (lc_set C hXs hbl hbA hL hi hI hNext)
      by_cases h7 : j = 7
      · subst h7
        exact j_tableIn C 389 (off := 357) dL_law_32 (by decide) (by decide) (by decide) (by decide) (lc_told C hXs hbl hbA hL hi hI hNext)
      by_cases h8 : j = 8
      · subst h8
        exact j_tableIn C 412 (off := 380) dL_law_32 (by decide) (by decide) (by decide) (by decide) (lc_comes C hXs hbl hbA hL hi hI hNext)
      by_cases h9 : j = 9
      · subst h9
        exact j_tableIn C 455 (off := 423) dL_law_32 (by decide) (by decide) (by decide) (by decide) (lc_worst C hXs hbl hbA hL hi hI hNext)
      by_cases h10 : j = 10
      · subst h10
        exact j_tableIn C 488 (off := 456) dL_law_32 (by decide) (by decide) (by decide) (by decide) (lc_worstName C hXs hbl hbA hL hi hI hNext)
      by_cases h11 : j = 11
      · subst h11
        exact j_tableIn C 531 (off := 499) dL_law_32 (by decide) (by decide) (by decide) (by decide) (lc_breaks C hXs hbl hbA hL hi hI hNext)
      by_cases h12 : j = 12
      · subst h12
        exact j_tableIn C 554 (off := 522) dL_law_32 (by decide) (by decide) (by decide) (by decide) (lc_safest C hXs hbl hbA hL hi hI hNext)
      by_cases h13 : j = 13
      · subst h13
        exact j_tableIn C 567 (off := 535) dL_law_32 (by decide) (by decide) (by decide) (by decide) (lc_answer C hXs hbl hbA hL hi hI hNext)
      by_cases h14 : j = 14
      · subst h14
        exact j_tableIn C 600 (off := 568) dL_law_32 (by decide) (by decide) (by decide) (by decide) (lc_twoStep C hXs hbl hbA hL hi hI hNext)
      by_cases h15 : j = 15
      · subst h15
        exact j_tableIn C 613 (off := 581) dL_law_32 (by decide) (by decide) (by decide) (by decide) (lc_mean C hXs hbl hbA hL hi hI hNext)
      by_cases h16 : j = 16
      · subst h16
        exact j_tableIn C 646 (off := 614) dL_law_32 (by decide) (by decide) (by decide) (by decide) (lc_best C hXs hbl hbA hL hi hI hNext)
      by_cases h17 : j = 17
      · subst h17
        exact j_tableIn C 669 (off := 637) dL_law_32 (by decide) (by decide) (by decide) (by decide) (lc_regret C hXs hbl hbA hL hi hI hNext)
      by_cases h18 : j = 18
      · subst h18
        exact j_tableIn C 692 (off := 660) dL_law_32 (by decide) (by decide) (by decide) (by decide) (lc_calmest C hXs hbl hbA hL hi hI hNext)
      by_cases h19 : j = 19
      · subst h19
        exact j_tableIn C 705 (off := 673) dL_law_32 (by decide) (by decide) (by decide) (by decide) (lc_waiting C hXs hbl hbA hL hi hI hNext)
      by_cases h20 : j = 20
      · subst h20
        exact j_tableIn C 728 (off := 696) dL_law_32 (by decide) (by decide) (by decide) (by decide) (lc_chance C hXs hbl hbA hL hi hI hNext)
      exact j_tableOut C 761 dL_law_32 (Or.inr (by rw [nI_toInt (by omega)]; omega)) (by decide) (hNext x g hI)
theorem KX.same {u U : State} (h : u.vm = U.vm) (k : KX u) : KX U := ⟨va_AOA.moved (by rw [h]; exact Vm.Alike.refl _) k.1, va_Nw.same rfl h k.2.1, va_Nw.same rfl h k.2.2.1, va_Nw.same rfl h k.2.2.2.1, va_Nw.same rfl h k.2.2.2.2⟩
theorem KX.warm {u U : State} (h : u.WarmedH U.vm) (k : KX u) : KX U := ⟨va_AOA.moved h.alike k.1, va_Nw.warmM h k.2.1, va_Nw.warmM h k.2.2.1, va_Nw.warmM h k.2.2.2.1, va_Nw.warmM h k.2.2.2.2⟩
set_option maxRecDepth 20000 in
theorem KX_of {s : State} {args : Array Value} (hts : ∀ w ∈ lw_tbl, w.before args s = true) : KX s := ⟨va_AOA.of (hts _ (List.mem_of_getElem? (i := 106) (by decide +kernel) : Cond.arrayOver (.array .int) ∈ lw_tbl)), va_Nw.of rfl (hts _ (List.mem_of_getElem? (i := 52) (by decide +kernel) : Cond.methodLinkNest RX3 9 yX1_init "FutureSets" ∈ lw_tbl)), va_Nw.of rfl (hts _ (List.mem_of_getElem? (i := 78) (by decide +kernel) : Cond.methodLinkNest RX3 18 yX2_init "FutureSets" ∈ lw_tbl)), va_Nw.of rfl (hts _ (List.mem_of_getElem? (i := 101) (by decide +kernel) : Cond.methodLinkNest RX3 25 yX0_init "FutureSets" ∈ lw_tbl)), va_Nw.of rfl (hts _ (List.mem_of_getElem? (i := 255) (by decide +kernel) : Cond.methodLinkNest RX2 32 yX3_slotOf "FutureSets" ∈ lw_tbl))⟩
set_option maxRecDepth 20000 in
theorem mL_cl3 : Cond.classLink RL 7 RX3 ∈ wsL_law := List.mem_of_getElem? (i := 0) (by decide +kernel)
set_option maxRecDepth 20000 in
theorem mL_in3 : Cond.instantiable RX3 12 ∈ wsL_law := List.mem_of_getElem? (i := 1) (by decide +kernel)
set_option maxRecDepth 20000 in
theorem mL_ii3 : Cond.initialized RX3 ∈ wsL_law := List.mem_of_getElem? (i := 2) (by decide +kernel)
set_option maxRecDepth 20000 in
theorem mL_cl4 : Cond.classLink RL 10 RX4 ∈ wsL_law := List.mem_of_getElem? (i := 3) (by decide +kernel)
set_option maxRecDepth 20000 in
theorem mL_in4 : Cond.instantiable RX4 20 ∈ wsL_law := List.mem_of_getElem? (i := 4) (by decide +kernel)
set_option maxRecDepth 20000 in
theorem mL_ii4 : Cond.initialized RX4 ∈ wsL_law := List.mem_of_getElem? (i := 5) (by decide +kernel)
set_option maxRecDepth 20000 in
theorem mL_ml3 : Cond.methodLink RL 9 yX3_init ∈ wsL_law := List.mem_of_getElem? (i := 6) (by decide +kernel)
set_option maxRecDepth 20000 in
theorem mL_im3 : Cond.instanceMethod yX3_init ∈ wsL_law := List.mem_of_getElem? (i := 7) (by decide +kernel)
set_option maxRecDepth 20000 in
theorem mL_ml4 : Cond.methodLink RL 12 yX4_init ∈ wsL_law := List.mem_of_getElem? (i := 62) (by decide +kernel)
set_option maxRecDepth 20000 in
theorem mL_im4 : Cond.instanceMethod yX4_init ∈ wsL_law := List.mem_of_getElem? (i := 63) (by decide +kernel)
set_option maxRecDepth 20000 in
theorem mL_in0 : Cond.instantiable RX0 4 ∈ wsL_law := List.mem_of_getElem? (i := 21) (by decide +kernel)
set_option maxRecDepth 20000 in
theorem mL_in1 : Cond.instantiable RX1 4 ∈ wsL_law := List.mem_of_getElem? (i := 13) (by decide +kernel)
set_option maxRecDepth 20000 in
theorem mL_in2 : Cond.instantiable RX2 5 ∈ wsL_law := List.mem_of_getElem? (i := 17) (by decide +kernel)
set_option maxRecDepth 20000 in
theorem mL_aI : Cond.arrayClass .int ∈ wsL_law := List.mem_of_getElem? (i := 24) (by decide +kernel)
set_option maxRecDepth 20000 in
theorem mL_aZ : Cond.arrayClass .boolean ∈ wsL_law := List.mem_of_getElem? (i := 47) (by decide +kernel)
theorem INV_0 {x : Nat → Nat} (h0 : x 0 = 0) (h1 : x 1 = 1) (h2 : x 2 = 0) (h3 : x 3 = 0) (h4 : x 4 = 0) (h5 : x 5 = 0) (h6 : x 6 = 0) (h7 : x 7 = 1) (h8 : x 8 = 0) (h9 : x 9 = 0) (h10 : x 10 = 0) (h11 : x 11 = 0) (h12 : x 12 = 0) (h13 : x 13 = 0) : INV x (fun _ _ => 0) := by
  refine ⟨fun k => if k = 1 then 1 else 0, fun _ _ => 0, fun _ _ => 0, ⟨fun k hk => ?_, fun _ _ _ => rfl, fun _ _ => rfl⟩, ⟨⟨h11, h7, h8, h10, h9, h12, h13⟩, fun _ _ _ => rfl, fun _ _ _ _ => rfl⟩, ⟨⟨by decide, ⟨by decide, by decide⟩, by decide, by decide, by decide, by decide, by decide⟩, fun t ht => absurd ht (Nat.not_lt_zero t), fun t ht => absurd ht (Nat.not_lt_zero t), fun t ht => absurd ht (Nat.not_lt_zero t)⟩⟩
  rcases (show k = 0 ∨ k = 1 ∨ k = 2 ∨ k = 3 ∨ k = 4 ∨ k = 5 ∨ k = 6 by omega) with rfl | rfl | rfl | rfl | rfl | rfl | rfl
  · exact h0
  · exact h1
  · exact h2
  · exact h3
  · exact h4
  · exact h5
  · exact h6
def adM (ad u : Nat → Nat) : Nat → Nat := fun k => if k < 27 then ad k else u (k - 27)
theorem adM_rows (ad u : Nat → Nat) : (fun i => if i < 8 then some (adM ad u (19 + i)) else none) = (fun i => if i < 8 then some (ad (19 + i)) else none) := by
  funext i
  by_cases h : i < 8
  · rw [if_pos h, if_pos h]
    unfold adM
    rw [if_pos (by omega)]
  · rw [if_neg h, if_neg h]
def x0M (x : Nat → Nat) : Nat → Nat := fun k => if k < 7 then x k else if k = 7 then 1 else 0
