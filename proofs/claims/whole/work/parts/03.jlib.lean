def wl (ad : Nat → Nat) (np : Nat) (h : Nat → va_E) : va_W := (List.range np).map (fun k => (ad k, h k))
theorem wl_get {ad : Nat → Nat} {np k : Nat} {h : Nat → va_E} (hk : k < np) : (wl ad np h)[k]? = some (ad k, h k) := by simp [wl, hk]
theorem wl_get' {ad : Nat → Nat} {np k : Nat} {h : Nat → va_E} {q : Nat × va_E} (hq : (wl ad np h)[k]? = some q) : k < np ∧ q = (ad k, h k) := by
  by_cases hk : k < np
  · rw [wl_get hk] at hq; exact ⟨hk, (Option.some.inj hq).symm⟩
  · simp [wl, hk] at hq
theorem wl_set {ad : Nat → Nat} {np k : Nat} {h : Nat → va_E} {v : va_E} (hk : k < np) : (wl ad np h).set k (ad k, v) = wl ad np (va_up h k v) := by
  apply List.ext_getElem?
  intro i
  by_cases hi : i = k
  · subst hi
    rw [List.getElem?_set_self (by simp [wl, hk]), wl_get hk]
    simp [va_up]
  · rw [List.getElem?_set_ne (Ne.symm hi)]
    by_cases h2 : i < np
    · rw [wl_get h2, wl_get h2]; simp [va_up, hi]
    · simp [wl, h2]
theorem wl_D {A : Nat → Prop} {ad : Nat → Nat} {np : Nat} {h h' : Nat → va_E} (hD : va_D A (wl ad np h)) : va_D A (wl ad np h') := by
  refine ⟨fun i j q r hi hj hqr => ?_, fun k q hk => ?_⟩
  · obtain ⟨h1, rfl⟩ := wl_get' hi
    obtain ⟨h2, rfl⟩ := wl_get' hj
    exact hD.1 i j (ad i, h i) (ad j, h j) (wl_get h1) (wl_get h2) hqr
  · obtain ⟨h1, rfl⟩ := wl_get' hk
    exact hD.2 k (ad k, h k) (wl_get h1)
theorem wl_P {D : va_G} {cl : List vw_C} {ad : Nat → Nat} {np : Nat} {h h' : Nat → va_E} {H : Heap} (hP : va_P D cl (wl ad np h) H) (e : ∀ k, k < np → h k = h' k) : va_P D cl (wl ad np h') H := by
  intro k q hk
  obtain ⟨h1, rfl⟩ := wl_get' hk
  rw [← e k h1]
  exact hP k _ (wl_get h1)
theorem wl_A {ad : Nat → Nat} {np sz q : Nat} {h h' : Nat → va_E} (hq : va_A (wl ad np h) sz q) : va_A (wl ad np h') sz q := by
  rcases hq with ⟨k, v, hk⟩ | hq
  · obtain ⟨h1, h2⟩ := wl_get' hk
    cases h2
    exact Or.inl ⟨k, h' k, wl_get h1⟩
  · exact Or.inr hq
/-- the length of the array at a place -/
def LN (k : Nat) : Nat := [0, 0, 0, 0, 11, 8, 12, 12, 12, 12, 12, 12, 40, 40, 40, 40, 8, 8, 8, 12, 12, 12, 12, 12, 12, 12, 12, 0, 12, 12, 12, 40, 40, 40, 40, 8, 8, 96, 12, 12, 8].getD k 12
/-- the places that are int arrays -/
def isI (k : Nat) : Bool := !(k == 0 || k == 1 || k == 2 || k == 3 || k == 17 || k == 18 || k == 27 || k == 36)
/-- the world: place 0 FutureSets, 1 Names, 2 Terms, 3 Listed, 4..8 its own rows, 9..11 of Names, 12..15 of Terms, 16..18 of Listed, 19..26 the inner rows of numbers; 27 the reference, 28..40 its rows -/
def HH (ad : Nat → Nat) (cI cZ cQ : ClassId) (x : Nat → Nat) (g : Nat → Nat → Int32) : Nat → va_E := fun k =>
  if k = 0 then .inr (3, [.ref (ad 1), .ref (ad 2), .ref (ad 3), .int (nI (x 0)), .int (nI (x 1)), .int (nI (x 2)), .int (nI (x 3)), .ref (ad 4), .ref (ad 5), .ref (ad 6), .ref (ad 7), .ref (ad 8)])
  else if k = 1 then .inr (1, [.int (nI (x 4)), .ref (ad 9), .ref (ad 10), .ref (ad 11)])
  else if k = 2 then .inr (2, [.int (nI (x 5)), .ref (ad 12), .ref (ad 13), .ref (ad 14), .ref (ad 15)])
  else if k = 3 then .inr (0, [.int (nI (x 6)), .ref (ad 16), .ref (ad 17), .ref (ad 18)])
  else if k = 17 then .inl (cZ, 8, .inl (g 17))
  else if k = 18 then .inl (cQ, 8, .inr (.inr (.inr (.inr (fun i => if i < 8 then some (ad (19 + i)) else none)))))
  else if k = 27 then .inr (4, [.int (nI (x 7)), .int (nI (x 8)), .int (nI (x 9)), .ref (ad 28), .ref (ad 29), .ref (ad 30), .int (nI (x 10)), .int (nI (x 11)), .int (nI (x 12)), .ref (ad 31), .ref (ad 32), .ref (ad 33), .ref (ad 34), .int (nI (x 13)), .ref (ad 35), .ref (ad 36), .ref (ad 37), .ref (ad 38), .ref (ad 39), .ref (ad 40)])
  else if k = 36 then .inl (cZ, 8, .inl (g 36))
  else .inl (cI, LN k, .inl (g k))
theorem HH_I {ad : Nat → Nat} {cI cZ cQ : ClassId} {x : Nat → Nat} {g : Nat → Nat → Int32} {k : Nat} (h : isI k = true) : HH ad cI cZ cQ x g k = .inl (cI, LN k, .inl (g k)) := by
  simp [isI] at h
  simp [HH, h]
/-- a cell of an int array is written -/
theorem HH_w {ad : Nat → Nat} {cI cZ cQ : ClassId} {x : Nat → Nat} {g : Nat → Nat → Int32} {k : Nat} (f : Nat → Int32) (h : isI k = true) : ∀ i : Nat, va_up (HH ad cI cZ cQ x g) k (.inl (cI, LN k, .inl f)) i = HH ad cI cZ cQ x (va_up g k f) i := by
  intro i
  by_cases hi : i = k
  · subst hi
    rw [HH_I h]
    simp [va_up]
  · have e : ∀ j, j ≠ k → va_up g k f j = g j := fun j hj => by simp [va_up, hj]
    simp [isI] at h
    simp only [va_up, if_neg hi]
    unfold HH
    rw [e 17 (by omega), e 36 (by omega), e i hi]
theorem HH_wz17 {ad : Nat → Nat} {cI cZ cQ : ClassId} {x : Nat → Nat} {g : Nat → Nat → Int32} (f : Nat → Int32) : ∀ i : Nat, va_up (HH ad cI cZ cQ x g) 17 (.inl (cZ, 8, .inl f)) i = HH ad cI cZ cQ x (va_up g 17 f) i := by
  intro i
  by_cases hi : i = 17
  · subst hi; simp [va_up, HH]
  · simp only [va_up, if_neg hi]
    unfold HH
    simp [hi, va_up]
theorem HH_wz36 {ad : Nat → Nat} {cI cZ cQ : ClassId} {x : Nat → Nat} {g : Nat → Nat → Int32} (f : Nat → Int32) : ∀ i : Nat, va_up (HH ad cI cZ cQ x g) 36 (.inl (cZ, 8, .inl f)) i = HH ad cI cZ cQ x (va_up g 36 f) i := by
  intro i
  by_cases hi : i = 36
  · subst hi; simp [va_up, HH]
  · simp only [va_up, if_neg hi]
    unfold HH
    simp [hi, va_up]
/-- the locals, by their numbers -/
def lz (ls : List (Option Value)) : List (Nat × Value) := (List.range ls.length).filterMap (fun k => (ls.getD k none).bind (fun v => if v.category = 1 then some (k, v) else none))
theorem lz_mem {ls : List (Option Value)} {q : Nat × Value} : q ∈ lz ls ↔ ls[q.1]? = some (some q.2) ∧ q.2.category = 1 := by
  obtain ⟨k, v⟩ := q
  unfold lz
  rw [List.mem_filterMap]
  constructor
  · rintro ⟨i, hi, h⟩
    rw [List.mem_range] at hi
    rw [List.getD_eq_getElem?_getD, List.getElem?_eq_getElem hi] at h
    cases hv : ls[i] with
    | none => simp [hv] at h
    | some w =>
      rw [hv] at h
      simp at h
      obtain ⟨h1, rfl, rfl⟩ := h
      exact ⟨by rw [List.getElem?_eq_getElem hi, hv], h1⟩
  · rintro ⟨h1, h2⟩
    have hi := (List.getElem?_eq_some_iff.mp h1).1
    refine ⟨k, List.mem_range.mpr hi, ?_⟩
    rw [List.getD_eq_getElem?_getD, h1]
    simp at h2
    simp [h2]
theorem lz_get {la : Array Slot} {nL k : Nat} {ls : List (Option Value)} {v : Value} (hv : lv_has la nL (lz ls)) (h : ls[k]? = some (some v)) (hc : v.category = 1) : la[k]? = some (.val v) := hv.2.2 (k, v) (lz_mem.mpr ⟨h, hc⟩)
theorem lz_set {la : Array Slot} {nL k : Nat} {ls : List (Option Value)} {v : Value} (h : lv_has la nL ((k, v) :: (lz ls).filter (fun q => !(q.1 == k) && !(q.1 + 1 == k && q.2.category == 2)))) : lv_has la nL (lz (ls.set k (some v))) := by
  refine ⟨h.1, h.2.1, fun q hq => ?_⟩
  obtain ⟨h1, h2⟩ := lz_mem.mp hq
  by_cases hk : q.1 = k
  · rw [hk] at h1
    have hl : k < (ls.set k (some v)).length := (List.getElem?_eq_some_iff.mp h1).1
    rw [List.length_set] at hl
    rw [List.getElem?_set_self hl] at h1
    have e : v = q.2 := Option.some.inj (Option.some.inj h1)
    have := h.2.2 (k, v) List.mem_cons_self
    rw [hk, ← e]
    exact this
  · rw [List.getElem?_set_ne (Ne.symm hk)] at h1
    refine h.2.2 q (List.mem_cons_of_mem _ (List.mem_filter.mpr ⟨lz_mem.mpr ⟨h1, h2⟩, ?_⟩))
    simp [hk, h2]
def tyW (cI cZ cQ : ClassId) : List (ClassId × FieldType) := [(cI, .int), (cZ, .boolean), (cQ, .array .int)]
/-- what a method stands on -/
def GC (p : Program) (R : Room) (s : State) (m : MethodId) (args : Array Value) (c : Code) (kc ks : Nat) (cc : ByteArray) (nL : Nat) (own : String) (Ts : List Cond) (D : va_G) (cI cZ cQ : ClassId) (ad : Nat → Nat) (np : Nat) (A : Nat → Prop) : Prop :=
  (p.tables.exec = Jvm.exec ∧ c.code = cc ∧ c.maxLocals = nL ∧ s.vm.findClass own = some m.cls ∧ (∀ w ∈ Ts, w.before args s = true)) ∧ va_K D vwCl (tyW cI cZ cQ) s ∧ va_D A (wl ad np (fun _ => .inr (0, []))) ∧ (∀ q, s.heap.size ≤ q → A q) ∧ (kc ≤ R.cells ∧ ks ≤ R.slots) ∧ va_Nw (.methodLinkNest RX2 32 yX3_slotOf "FutureSets") s
/-- the machine at pc, over the world of x and g, comes to Q -/
def J (p : Program) (l : Launch) (e : Env) (R : Room) (s : State) (m : MethodId) (args : Array Value) (below : List Frame) (meth : Method) (c : Code) (kc ks : Nat) (D : va_G) (cI cZ cQ : ClassId) (ad : Nat → Nat) (np : Nat) (A : Nat → Prop) (nL : Nat) (Q : State → Prop) (x : Nat → Nat) (g : Nat → Nat → Int32) (pc : Nat) (ls : List (Option Value)) (st : List Value) : Prop :=
  ∀ (H : Heap) (locs : List Loc) (la : Array Slot), va_P D vwCl (wl ad np (HH ad cI cZ cQ x g)) H → va_S A s.heap H locs → lv_has la nL (lz ls) → W p l e R s m args below meth c H locs kc ks Q (F0 m pc la st)
section JL
variable {p : Program} {l : Launch} {e : Env} {R : Room} {s : State} {m : MethodId} {args : Array Value} {below : List Frame} {meth : Method} {c : Code} {kc ks : Nat} {Q : State → Prop}
variable {cc : ByteArray} {nL : Nat} {own : String} {Ts : List Cond} {D : va_G} {cI cZ cQ : ClassId} {ad : Nat → Nat} {np : Nat} {A : Nat → Prop}
variable {x x' : Nat → Nat} {g g' : Nat → Nat → Int32} {pc tgt : Nat} {ls : List (Option Value)} {st : List Value}
theorem j_iconst (C : GC p R s m args c kc ks cc nL own Ts D cI cZ cQ ad np A) {n : Int} {v : Int32} (hd : decode cc pc = .ok (.iconst n, 1)) (hn : Int32.ofInt n = v) (K : J p l e R s m args below meth c kc ks D cI cZ cQ ad np A nL Q x g (pc + 1) (ls) (.int v :: st)) : J p l e R s m args below meth c kc ks D cI cZ cQ ad np A nL Q x g (pc) (ls) (st) := fun H locs la hP hS hv => lv_iconst C.1.1 C.1.2.1 hd hn (K H locs la hP hS hv)
theorem j_bipush (C : GC p R s m args c kc ks cc nL own Ts D cI cZ cQ ad np A) {n : Int} {v : Int32} (hd : decode cc pc = .ok (.bipush n, 2)) (hn : (Int8.ofInt n).toInt32 = v) (K : J p l e R s m args below meth c kc ks D cI cZ cQ ad np A nL Q x g (pc + 2) (ls) (.int v :: st)) : J p l e R s m args below meth c kc ks D cI cZ cQ ad np A nL Q x g (pc) (ls) (st) := fun H locs la hP hS hv => lv_bipush C.1.1 C.1.2.1 hd hn (K H locs la hP hS hv)
theorem j_ldc (C : GC p R s m args c kc ks cc nL own Ts D cI cZ cQ ad np A) {v : Int32} {index : Nat} (hd : decode cc pc = .ok (.ldc index, 2)) (hc : Cond.constant own index v ∈ Ts) (K : J p l e R s m args below meth c kc ks D cI cZ cQ ad np A nL Q x g (pc + 2) (ls) (.int v :: st)) : J p l e R s m args below meth c kc ks D cI cZ cQ ad np A nL Q x g (pc) (ls) (st) := fun H locs la hP hS hv => lv_ldc C.1.1 C.1.2.1 C.1.2.2.2.1 (C.1.2.2.2.2 _ hc) hd (K H locs la hP hS hv)
theorem j_iload_n (C : GC p R s m args c kc ks cc nL own Ts D cI cZ cQ ad np A) {k : Fin 4} {v : Int32} (hd : decode cc pc = .ok (.iload_n k, 1)) (hl : ls[(k : Nat)]? = some (some (.int v))) (K : J p l e R s m args below meth c kc ks D cI cZ cQ ad np A nL Q x g (pc + 1) (ls) (.int v :: st)) : J p l e R s m args below meth c kc ks D cI cZ cQ ad np A nL Q x g (pc) (ls) (st) := fun H locs la hP hS hv => lv_iload_n C.1.1 C.1.2.1 hd rfl (lz_get hv hl rfl) (K H locs la hP hS hv)
theorem j_iload (C : GC p R s m args c kc ks cc nL own Ts D cI cZ cQ ad np A) {k : Nat} {v : Int32} (hd : decode cc pc = .ok (.iload k, 2)) (hl : ls[k]? = some (some (.int v))) (K : J p l e R s m args below meth c kc ks D cI cZ cQ ad np A nL Q x g (pc + 2) (ls) (.int v :: st)) : J p l e R s m args below meth c kc ks D cI cZ cQ ad np A nL Q x g (pc) (ls) (st) := fun H locs la hP hS hv => lv_iload C.1.1 C.1.2.1 hd (lz_get hv hl rfl) (K H locs la hP hS hv)
theorem j_istore_n (C : GC p R s m args c kc ks cc nL own Ts D cI cZ cQ ad np A) {k : Fin 4} {v : Int32} (hd : decode cc pc = .ok (.istore_n k, 1)) (hk : (k : Nat) < nL) (K : J p l e R s m args below meth c kc ks D cI cZ cQ ad np A nL Q x g (pc + 1) (ls.set (k : Nat) (some (.int v))) (st)) : J p l e R s m args below meth c kc ks D cI cZ cQ ad np A nL Q x g (pc) (ls) (.int v :: st) := fun H locs la hP hS hv => lv_istore_n C.1.1 C.1.2.1 hd rfl hv hk rfl (fun la2 hv2 => K H locs la2 hP hS (lz_set hv2))
theorem j_istore (C : GC p R s m args c kc ks cc nL own Ts D cI cZ cQ ad np A) {k : Nat} {v : Int32} (hd : decode cc pc = .ok (.istore k, 2)) (hk : k < nL) (K : J p l e R s m args below meth c kc ks D cI cZ cQ ad np A nL Q x g (pc + 2) (ls.set k (some (.int v))) (st)) : J p l e R s m args below meth c kc ks D cI cZ cQ ad np A nL Q x g (pc) (ls) (.int v :: st) := fun H locs la hP hS hv => lv_istore C.1.1 C.1.2.1 hd hv hk rfl (fun la2 hv2 => K H locs la2 hP hS (lz_set hv2))
theorem j_aload_n (C : GC p R s m args c kc ks cc nL own Ts D cI cZ cQ ad np A) {k : Fin 4} {v : Nat} (hd : decode cc pc = .ok (.aload_n k, 1)) (hl : ls[(k : Nat)]? = some (some (.ref v))) (K : J p l e R s m args below meth c kc ks D cI cZ cQ ad np A nL Q x g (pc + 1) (ls) (.ref v :: st)) : J p l e R s m args below meth c kc ks D cI cZ cQ ad np A nL Q x g (pc) (ls) (st) := fun H locs la hP hS hv => lv_aload_n C.1.1 C.1.2.1 hd rfl (lz_get hv hl rfl) (K H locs la hP hS hv)
theorem j_aload (C : GC p R s m args c kc ks cc nL own Ts D cI cZ cQ ad np A) {k : Nat} {v : Nat} (hd : decode cc pc = .ok (.aload k, 2)) (hl : ls[k]? = some (some (.ref v))) (K : J p l e R s m args below meth c kc ks D cI cZ cQ ad np A nL Q x g (pc + 2) (ls) (.ref v :: st)) : J p l e R s m args below meth c kc ks D cI cZ cQ ad np A nL Q x g (pc) (ls) (st) := fun H locs la hP hS hv => lv_aload C.1.1 C.1.2.1 hd (lz_get hv hl rfl) (K H locs la hP hS hv)
theorem j_astore_n (C : GC p R s m args c kc ks cc nL own Ts D cI cZ cQ ad np A) {k : Fin 4} {v : Nat} (hd : decode cc pc = .ok (.astore_n k, 1)) (hk : (k : Nat) < nL) (K : J p l e R s m args below meth c kc ks D cI cZ cQ ad np A nL Q x g (pc + 1) (ls.set (k : Nat) (some (.ref v))) (st)) : J p l e R s m args below meth c kc ks D cI cZ cQ ad np A nL Q x g (pc) (ls) (.ref v :: st) := fun H locs la hP hS hv => lv_astore_n C.1.1 C.1.2.1 hd rfl hv hk rfl (fun la2 hv2 => K H locs la2 hP hS (lz_set hv2))
theorem j_astore (C : GC p R s m args c kc ks cc nL own Ts D cI cZ cQ ad np A) {k : Nat} {v : Nat} (hd : decode cc pc = .ok (.astore k, 2)) (hk : k < nL) (K : J p l e R s m args below meth c kc ks D cI cZ cQ ad np A nL Q x g (pc + 2) (ls.set k (some (.ref v))) (st)) : J p l e R s m args below meth c kc ks D cI cZ cQ ad np A nL Q x g (pc) (ls) (.ref v :: st) := fun H locs la hP hS hv => lv_astore C.1.1 C.1.2.1 hd hv hk rfl (fun la2 hv2 => K H locs la2 hP hS (lz_set hv2))
theorem j_iinc (C : GC p R s m args c kc ks cc nL own Ts D cI cZ cQ ad np A) {k : Nat} {n : Int} {v v' : Int32} (hd : decode cc pc = .ok (.iinc k n, 3)) (hl : ls[k]? = some (some (.int v))) (hn : v + Int32.ofInt n = v') (hk : k < nL) (K : J p l e R s m args below meth c kc ks D cI cZ cQ ad np A nL Q x g (pc + 3) (ls.set k (some (.int v'))) (st)) : J p l e R s m args below meth c kc ks D cI cZ cQ ad np A nL Q x g (pc) (ls) (st) := fun H locs la hP hS hv => by
  obtain ⟨i, hi⟩ := List.getElem?_of_mem ((lz_mem (q := (k, .int v))).mpr ⟨hl, rfl⟩)
  exact lv_iinc C.1.1 C.1.2.1 hd hv hi hn hk rfl (fun la2 hv2 => K H locs la2 hP hS (lz_set hv2))
theorem nI_ofInt (t n : Nat) : nI t + Int32.ofInt (n : Int) = nI (t + n) := by
  have : Int32.ofInt (n : Int) = nI n := by
    unfold nI; rfl
  rw [this, nI_add]
theorem j_iincN (C : GC p R s m args c kc ks cc nL own Ts D cI cZ cQ ad np A) {k t n : Nat} (hd : decode cc pc = .ok (.iinc k (n : Int), 3)) (hl : ls[k]? = some (some (.int (nI t)))) (hk : k < nL) (K : J p l e R s m args below meth c kc ks D cI cZ cQ ad np A nL Q x g (pc + 3) (ls.set k (some (.int (nI (t + n))))) (st)) : J p l e R s m args below meth c kc ks D cI cZ cQ ad np A nL Q x g (pc) (ls) (st) := j_iinc C hd hl (nI_ofInt t n) hk K
theorem j_iadd (C : GC p R s m args c kc ks cc nL own Ts D cI cZ cQ ad np A) {a b : Int32} (hd : decode cc pc = .ok (.iadd, 1)) (K : J p l e R s m args below meth c kc ks D cI cZ cQ ad np A nL Q x g (pc + 1) (ls) (.int (a + b) :: st)) : J p l e R s m args below meth c kc ks D cI cZ cQ ad np A nL Q x g (pc) (ls) (.int b :: .int a :: st) := fun H locs la hP hS hv => lv_iadd C.1.1 C.1.2.1 hd (K H locs la hP hS hv)
theorem j_isub (C : GC p R s m args c kc ks cc nL own Ts D cI cZ cQ ad np A) {a b : Int32} (hd : decode cc pc = .ok (.isub, 1)) (K : J p l e R s m args below meth c kc ks D cI cZ cQ ad np A nL Q x g (pc + 1) (ls) (.int (a - b) :: st)) : J p l e R s m args below meth c kc ks D cI cZ cQ ad np A nL Q x g (pc) (ls) (.int b :: .int a :: st) := fun H locs la hP hS hv => lv_isub C.1.1 C.1.2.1 hd (K H locs la hP hS hv)
theorem j_imul (C : GC p R s m args c kc ks cc nL own Ts D cI cZ cQ ad np A) {a b : Int32} (hd : decode cc pc = .ok (.imul, 1)) (K : J p l e R s m args below meth c kc ks D cI cZ cQ ad np A nL Q x g (pc + 1) (ls) (.int (a * b) :: st)) : J p l e R s m args below meth c kc ks D cI cZ cQ ad np A nL Q x g (pc) (ls) (.int b :: .int a :: st) := fun H locs la hP hS hv => lv_imul C.1.1 C.1.2.1 hd (K H locs la hP hS hv)
theorem j_iand (C : GC p R s m args c kc ks cc nL own Ts D cI cZ cQ ad np A) {a b : Int32} (hd : decode cc pc = .ok (.iand, 1)) (K : J p l e R s m args below meth c kc ks D cI cZ cQ ad np A nL Q x g (pc + 1) (ls) (.int (a &&& b) :: st)) : J p l e R s m args below meth c kc ks D cI cZ cQ ad np A nL Q x g (pc) (ls) (.int b :: .int a :: st) := fun H locs la hP hS hv => lv_iand C.1.1 C.1.2.1 hd (K H locs la hP hS hv)
theorem j_ior (C : GC p R s m args c kc ks cc nL own Ts D cI cZ cQ ad np A) {a b : Int32} (hd : decode cc pc = .ok (.ior, 1)) (K : J p l e R s m args below meth c kc ks D cI cZ cQ ad np A nL Q x g (pc + 1) (ls) (.int (a ||| b) :: st)) : J p l e R s m args below meth c kc ks D cI cZ cQ ad np A nL Q x g (pc) (ls) (.int b :: .int a :: st) := fun H locs la hP hS hv => lv_ior C.1.1 C.1.2.1 hd (K H locs la hP hS hv)
theorem j_ishl (C : GC p R s m args c kc ks cc nL own Ts D cI cZ cQ ad np A) {a b : Int32} (hd : decode cc pc = .ok (.ishl, 1)) (K : J p l e R s m args below meth c kc ks D cI cZ cQ ad np A nL Q x g (pc + 1) (ls) (.int (a <<< (b &&& 31)) :: st)) : J p l e R s m args below meth c kc ks D cI cZ cQ ad np A nL Q x g (pc) (ls) (.int b :: .int a :: st) := fun H locs la hP hS hv => lv_ishl C.1.1 C.1.2.1 hd (K H locs la hP hS hv)
theorem j_ishr (C : GC p R s m args c kc ks cc nL own Ts D cI cZ cQ ad np A) {a b : Int32} (hd : decode cc pc = .ok (.ishr, 1)) (K : J p l e R s m args below meth c kc ks D cI cZ cQ ad np A nL Q x g (pc + 1) (ls) (.int (a >>> (b &&& 31)) :: st)) : J p l e R s m args below meth c kc ks D cI cZ cQ ad np A nL Q x g (pc) (ls) (.int b :: .int a :: st) := fun H locs la hP hS hv => lv_ishr C.1.1 C.1.2.1 hd (K H locs la hP hS hv)
theorem j_idiv (C : GC p R s m args c kc ks cc nL own Ts D cI cZ cQ ad np A) {a b : Int32} (hd : decode cc pc = .ok (.idiv, 1)) (hb : ¬ b = 0) (K : J p l e R s m args below meth c kc ks D cI cZ cQ ad np A nL Q x g (pc + 1) (ls) (.int (a / b) :: st)) : J p l e R s m args below meth c kc ks D cI cZ cQ ad np A nL Q x g (pc) (ls) (.int b :: .int a :: st) := fun H locs la hP hS hv => lv_idiv C.1.1 C.1.2.1 hd hb (K H locs la hP hS hv)
theorem j_irem (C : GC p R s m args c kc ks cc nL own Ts D cI cZ cQ ad np A) {a b : Int32} (hd : decode cc pc = .ok (.irem, 1)) (hb : ¬ b = 0) (K : J p l e R s m args below meth c kc ks D cI cZ cQ ad np A nL Q x g (pc + 1) (ls) (.int (a - a / b * b) :: st)) : J p l e R s m args below meth c kc ks D cI cZ cQ ad np A nL Q x g (pc) (ls) (.int b :: .int a :: st) := fun H locs la hP hS hv => lv_irem C.1.1 C.1.2.1 hd hb (K H locs la hP hS hv)
theorem j_ineg (C : GC p R s m args c kc ks cc nL own Ts D cI cZ cQ ad np A) {a : Int32} (hd : decode cc pc = .ok (.ineg, 1)) (K : J p l e R s m args below meth c kc ks D cI cZ cQ ad np A nL Q x g (pc + 1) (ls) (.int (-a) :: st)) : J p l e R s m args below meth c kc ks D cI cZ cQ ad np A nL Q x g (pc) (ls) (.int a :: st) := fun H locs la hP hS hv => lv_ineg C.1.1 C.1.2.1 hd (K H locs la hP hS hv)
theorem j_dup (C : GC p R s m args c kc ks cc nL own Ts D cI cZ cQ ad np A) {a : Value} (hd : decode cc pc = .ok (.dup, 1)) (ha : a.category = 1) (K : J p l e R s m args below meth c kc ks D cI cZ cQ ad np A nL Q x g (pc + 1) (ls) (a :: a :: st)) : J p l e R s m args below meth c kc ks D cI cZ cQ ad np A nL Q x g (pc) (ls) (a :: st) := fun H locs la hP hS hv => lv_dup C.1.1 C.1.2.1 hd ha (K H locs la hP hS hv)
theorem j_pop (C : GC p R s m args c kc ks cc nL own Ts D cI cZ cQ ad np A) {a : Value} (hd : decode cc pc = .ok (.pop, 1)) (ha : a.category = 1) (K : J p l e R s m args below meth c kc ks D cI cZ cQ ad np A nL Q x g (pc + 1) (ls) (st)) : J p l e R s m args below meth c kc ks D cI cZ cQ ad np A nL Q x g (pc) (ls) (a :: st) := fun H locs la hP hS hv => lv_pop C.1.1 C.1.2.1 hd ha (K H locs la hP hS hv)
theorem j_dup2 (C : GC p R s m args c kc ks cc nL own Ts D cI cZ cQ ad np A) {a b : Value} (hd : decode cc pc = .ok (.dup2, 1)) (ha : a.category = 1) (hb : b.category = 1) (K : J p l e R s m args below meth c kc ks D cI cZ cQ ad np A nL Q x g (pc + 1) (ls) (a :: b :: a :: b :: st)) : J p l e R s m args below meth c kc ks D cI cZ cQ ad np A nL Q x g (pc) (ls) (a :: b :: st) := fun H locs la hP hS hv => lv_dup2_11 C.1.1 C.1.2.1 hd ha hb (K H locs la hP hS hv)
theorem j_if_eq (C : GC p R s m args c kc ks cc nL own Ts D cI cZ cQ ad np A) {a : Int32} {off : Int} (tgt : Nat) (hd : decode cc pc = .ok (.ifCond .eq off, 3)) (ht : (pc : Int) + off = (tgt : Int)) (K : a = 0 → J p l e R s m args below meth c kc ks D cI cZ cQ ad np A nL Q x g (tgt) (ls) (st)) (K2 : ¬ a = 0 → J p l e R s m args below meth c kc ks D cI cZ cQ ad np A nL Q x g (pc + 3) (ls) (st)) : J p l e R s m args below meth c kc ks D cI cZ cQ ad np A nL Q x g (pc) (ls) (.int a :: st) := fun H locs la hP hS hv => lv_if_eq C.1.1 C.1.2.1 hd ht (fun h => K h H locs la hP hS hv) (fun h => K2 h H locs la hP hS hv)
theorem j_icmp_eq (C : GC p R s m args c kc ks cc nL own Ts D cI cZ cQ ad np A) {a b : Int32} {off : Int} (tgt : Nat) (hd : decode cc pc = .ok (.if_icmp .eq off, 3)) (ht : (pc : Int) + off = (tgt : Int)) (K : a = b → J p l e R s m args below meth c kc ks D cI cZ cQ ad np A nL Q x g (tgt) (ls) (st)) (K2 : ¬ a = b → J p l e R s m args below meth c kc ks D cI cZ cQ ad np A nL Q x g (pc + 3) (ls) (st)) : J p l e R s m args below meth c kc ks D cI cZ cQ ad np A nL Q x g (pc) (ls) (.int b :: .int a :: st) := fun H locs la hP hS hv => lv_icmp_eq C.1.1 C.1.2.1 hd ht (fun h => K h H locs la hP hS hv) (fun h => K2 h H locs la hP hS hv)
theorem j_if_ne (C : GC p R s m args c kc ks cc nL own Ts D cI cZ cQ ad np A) {a : Int32} {off : Int} (tgt : Nat) (hd : decode cc pc = .ok (.ifCond .ne off, 3)) (ht : (pc : Int) + off = (tgt : Int)) (K : ¬ a = 0 → J p l e R s m args below meth c kc ks D cI cZ cQ ad np A nL Q x g (tgt) (ls) (st)) (K2 : a = 0 → J p l e R s m args below meth c kc ks D cI cZ cQ ad np A nL Q x g (pc + 3) (ls) (st)) : J p l e R s m args below meth c kc ks D cI cZ cQ ad np A nL Q x g (pc) (ls) (.int a :: st) := fun H locs la hP hS hv => lv_if_ne C.1.1 C.1.2.1 hd ht (fun h => K h H locs la hP hS hv) (fun h => K2 h H locs la hP hS hv)
theorem j_icmp_ne (C : GC p R s m args c kc ks cc nL own Ts D cI cZ cQ ad np A) {a b : Int32} {off : Int} (tgt : Nat) (hd : decode cc pc = .ok (.if_icmp .ne off, 3)) (ht : (pc : Int) + off = (tgt : Int)) (K : ¬ a = b → J p l e R s m args below meth c kc ks D cI cZ cQ ad np A nL Q x g (tgt) (ls) (st)) (K2 : a = b → J p l e R s m args below meth c kc ks D cI cZ cQ ad np A nL Q x g (pc + 3) (ls) (st)) : J p l e R s m args below meth c kc ks D cI cZ cQ ad np A nL Q x g (pc) (ls) (.int b :: .int a :: st) := fun H locs la hP hS hv => lv_icmp_ne C.1.1 C.1.2.1 hd ht (fun h => K h H locs la hP hS hv) (fun h => K2 h H locs la hP hS hv)
theorem j_if_lt (C : GC p R s m args c kc ks cc nL own Ts D cI cZ cQ ad np A) {a : Int32} {off : Int} (tgt : Nat) (hd : decode cc pc = .ok (.ifCond .lt off, 3)) (ht : (pc : Int) + off = (tgt : Int)) (K : a < 0 → J p l e R s m args below meth c kc ks D cI cZ cQ ad np A nL Q x g (tgt) (ls) (st)) (K2 : ¬ a < 0 → J p l e R s m args below meth c kc ks D cI cZ cQ ad np A nL Q x g (pc + 3) (ls) (st)) : J p l e R s m args below meth c kc ks D cI cZ cQ ad np A nL Q x g (pc) (ls) (.int a :: st) := fun H locs la hP hS hv => lv_if_lt C.1.1 C.1.2.1 hd ht (fun h => K h H locs la hP hS hv) (fun h => K2 h H locs la hP hS hv)
theorem j_icmp_lt (C : GC p R s m args c kc ks cc nL own Ts D cI cZ cQ ad np A) {a b : Int32} {off : Int} (tgt : Nat) (hd : decode cc pc = .ok (.if_icmp .lt off, 3)) (ht : (pc : Int) + off = (tgt : Int)) (K : a < b → J p l e R s m args below meth c kc ks D cI cZ cQ ad np A nL Q x g (tgt) (ls) (st)) (K2 : ¬ a < b → J p l e R s m args below meth c kc ks D cI cZ cQ ad np A nL Q x g (pc + 3) (ls) (st)) : J p l e R s m args below meth c kc ks D cI cZ cQ ad np A nL Q x g (pc) (ls) (.int b :: .int a :: st) := fun H locs la hP hS hv => lv_icmp_lt C.1.1 C.1.2.1 hd ht (fun h => K h H locs la hP hS hv) (fun h => K2 h H locs la hP hS hv)
theorem j_if_ge (C : GC p R s m args c kc ks cc nL own Ts D cI cZ cQ ad np A) {a : Int32} {off : Int} (tgt : Nat) (hd : decode cc pc = .ok (.ifCond .ge off, 3)) (ht : (pc : Int) + off = (tgt : Int)) (K : 0 ≤ a → J p l e R s m args below meth c kc ks D cI cZ cQ ad np A nL Q x g (tgt) (ls) (st)) (K2 : ¬ 0 ≤ a → J p l e R s m args below meth c kc ks D cI cZ cQ ad np A nL Q x g (pc + 3) (ls) (st)) : J p l e R s m args below meth c kc ks D cI cZ cQ ad np A nL Q x g (pc) (ls) (.int a :: st) := fun H locs la hP hS hv => lv_if_ge C.1.1 C.1.2.1 hd ht (fun h => K h H locs la hP hS hv) (fun h => K2 h H locs la hP hS hv)
theorem j_icmp_ge (C : GC p R s m args c kc ks cc nL own Ts D cI cZ cQ ad np A) {a b : Int32} {off : Int} (tgt : Nat) (hd : decode cc pc = .ok (.if_icmp .ge off, 3)) (ht : (pc : Int) + off = (tgt : Int)) (K : b ≤ a → J p l e R s m args below meth c kc ks D cI cZ cQ ad np A nL Q x g (tgt) (ls) (st)) (K2 : ¬ b ≤ a → J p l e R s m args below meth c kc ks D cI cZ cQ ad np A nL Q x g (pc + 3) (ls) (st)) : J p l e R s m args below meth c kc ks D cI cZ cQ ad np A nL Q x g (pc) (ls) (.int b :: .int a :: st) := fun H locs la hP hS hv => lv_icmp_ge C.1.1 C.1.2.1 hd ht (fun h => K h H locs la hP hS hv) (fun h => K2 h H locs la hP hS hv)
theorem j_if_gt (C : GC p R s m args c kc ks cc nL own Ts D cI cZ cQ ad np A) {a : Int32} {off : Int} (tgt : Nat) (hd : decode cc pc = .ok (.ifCond .gt off, 3)) (ht : (pc : Int) + off = (tgt : Int)) (K : 0 < a → J p l e R s m args below meth c kc ks D cI cZ cQ ad np A nL Q x g (tgt) (ls) (st)) (K2 : ¬ 0 < a → J p l e R s m args below meth c kc ks D cI cZ cQ ad np A nL Q x g (pc + 3) (ls) (st)) : J p l e R s m args below meth c kc ks D cI cZ cQ ad np A nL Q x g (pc) (ls) (.int a :: st) := fun H locs la hP hS hv => lv_if_gt C.1.1 C.1.2.1 hd ht (fun h => K h H locs la hP hS hv) (fun h => K2 h H locs la hP hS hv)
theorem j_icmp_gt (C : GC p R s m args c kc ks cc nL own Ts D cI cZ cQ ad np A) {a b : Int32} {off : Int} (tgt : Nat) (hd : decode cc pc = .ok (.if_icmp .gt off, 3)) (ht : (pc : Int) + off = (tgt : Int)) (K : b < a → J p l e R s m args below meth c kc ks D cI cZ cQ ad np A nL Q x g (tgt) (ls) (st)) (K2 : ¬ b < a → J p l e R s m args below meth c kc ks D cI cZ cQ ad np A nL Q x g (pc + 3) (ls) (st)) : J p l e R s m args below meth c kc ks D cI cZ cQ ad np A nL Q x g (pc) (ls) (.int b :: .int a :: st) := fun H locs la hP hS hv => lv_icmp_gt C.1.1 C.1.2.1 hd ht (fun h => K h H locs la hP hS hv) (fun h => K2 h H locs la hP hS hv)
theorem j_if_le (C : GC p R s m args c kc ks cc nL own Ts D cI cZ cQ ad np A) {a : Int32} {off : Int} (tgt : Nat) (hd : decode cc pc = .ok (.ifCond .le off, 3)) (ht : (pc : Int) + off = (tgt : Int)) (K : a ≤ 0 → J p l e R s m args below meth c kc ks D cI cZ cQ ad np A nL Q x g (tgt) (ls) (st)) (K2 : ¬ a ≤ 0 → J p l e R s m args below meth c kc ks D cI cZ cQ ad np A nL Q x g (pc + 3) (ls) (st)) : J p l e R s m args below meth c kc ks D cI cZ cQ ad np A nL Q x g (pc) (ls) (.int a :: st) := fun H locs la hP hS hv => lv_if_le C.1.1 C.1.2.1 hd ht (fun h => K h H locs la hP hS hv) (fun h => K2 h H locs la hP hS hv)
theorem j_icmp_le (C : GC p R s m args c kc ks cc nL own Ts D cI cZ cQ ad np A) {a b : Int32} {off : Int} (tgt : Nat) (hd : decode cc pc = .ok (.if_icmp .le off, 3)) (ht : (pc : Int) + off = (tgt : Int)) (K : a ≤ b → J p l e R s m args below meth c kc ks D cI cZ cQ ad np A nL Q x g (tgt) (ls) (st)) (K2 : ¬ a ≤ b → J p l e R s m args below meth c kc ks D cI cZ cQ ad np A nL Q x g (pc + 3) (ls) (st)) : J p l e R s m args below meth c kc ks D cI cZ cQ ad np A nL Q x g (pc) (ls) (.int b :: .int a :: st) := fun H locs la hP hS hv => lv_icmp_le C.1.1 C.1.2.1 hd ht (fun h => K h H locs la hP hS hv) (fun h => K2 h H locs la hP hS hv)
theorem j_goto (C : GC p R s m args c kc ks cc nL own Ts D cI cZ cQ ad np A) {off : Int} (tgt : Nat) (hd : decode cc pc = .ok (.goto off, 3)) (ht : (pc : Int) + off = (tgt : Int)) (K : J p l e R s m args below meth c kc ks D cI cZ cQ ad np A nL Q x g (tgt) (ls) (st)) : J p l e R s m args below meth c kc ks D cI cZ cQ ad np A nL Q x g (pc) (ls) (st) := fun H locs la hP hS hv => lv_goto C.1.1 C.1.2.1 hd ht (K H locs la hP hS hv)
theorem j_tableIn (C : GC p R s m args c kc ks cc nL own Ts D cI cZ cQ ad np A) {dflt lo hi : Int} {offs : Array Int} {len : Nat} {a : Int32} {off : Int} (tgt : Nat) (hd : decode cc pc = .ok (.tableswitch dflt lo hi offs, len)) (h1 : ¬ a.toInt < lo) (h2 : ¬ hi < a.toInt) (ho : offs[(a.toInt - lo).toNat]? = some off) (ht : (pc : Int) + off = (tgt : Int)) (K : J p l e R s m args below meth c kc ks D cI cZ cQ ad np A nL Q x g (tgt) (ls) (st)) : J p l e R s m args below meth c kc ks D cI cZ cQ ad np A nL Q x g (pc) (ls) (.int a :: st) := fun H locs la hP hS hv => lv_tableIn C.1.1 C.1.2.1 hd h1 h2 ho ht (K H locs la hP hS hv)
theorem j_tableOut (C : GC p R s m args c kc ks cc nL own Ts D cI cZ cQ ad np A) {dflt lo hi : Int} {offs : Array Int} {len : Nat} {a : Int32} (tgt : Nat) (hd : decode cc pc = .ok (.tableswitch dflt lo hi offs, len)) (h1 : a.toInt < lo ∨ hi < a.toInt) (ht : (pc : Int) + dflt = (tgt : Int)) (K : J p l e R s m args below meth c kc ks D cI cZ cQ ad np A nL Q x g (tgt) (ls) (st)) : J p l e R s m args below meth c kc ks D cI cZ cQ ad np A nL Q x g (pc) (ls) (.int a :: st) := fun H locs la hP hS hv => lv_tableOut C.1.1 C.1.2.1 hd h1 ht (K H locs la hP hS hv)
theorem LN_lt (k : Nat) : LN k < 2 ^ 31 := by
  unfold LN
  by_cases h : k < 41
  · have : ∀ j, j < 41 → [0, 0, 0, 0, 11, 8, 12, 12, 12, 12, 12, 12, 40, 40, 40, 40, 8, 8, 8, 12, 12, 12, 12, 12, 12, 12, 12, 0, 12, 12, 12, 40, 40, 40, 40, 8, 8, 96, 12, 12, 8].getD j 12 < 2 ^ 31 := by decide
    exact this k h
  · rw [List.getD_eq_getElem?_getD, List.getElem?_eq_none (by simp; omega)]
    decide
theorem j_iald (C : GC p R s m args c kc ks cc nL own Ts D cI cZ cQ ad np A) {k : Nat} {i : Int32} (t : Nat) (hd : decode cc pc = .ok (.iaload, 1)) (hk : k < np) (hI : isI k = true) (hi : i = nI t) (ht : t < LN k) (K : J p l e R s m args below meth c kc ks D cI cZ cQ ad np A nL Q x g (pc + 1) (ls) (.int (g k t) :: st)) : J p l e R s m args below meth c kc ks D cI cZ cQ ad np A nL Q x g (pc) (ls) (.int i :: .ref (ad k) :: st) := fun H locs la hP hS hv => by
  subst hi
  have hb : LN k < 2 ^ 31 := LN_lt k
  have := wl_get (ad := ad) (h := HH ad cI cZ cQ x g) hk
  rw [HH_I hI] at this
  refine va_iald C.1.1 C.1.2.1 C.2.1 hP k 0 this rfl (vp_in_nI ht hb) hd ?_
  rw [nI_clamp (by omega)]
  exact K H locs la hP hS hv
theorem j_zald (C : GC p R s m args c kc ks cc nL own Ts D cI cZ cQ ad np A) {k : Nat} {i : Int32} (t : Nat) (hd : decode cc pc = .ok (.baload, 1)) (hk : k < np) (hI : k = 17 ∨ k = 36) (hi : i = nI t) (ht : t < 8) (K : J p l e R s m args below meth c kc ks D cI cZ cQ ad np A nL Q x g (pc + 1) (ls) (.int (g k t) :: st)) : J p l e R s m args below meth c kc ks D cI cZ cQ ad np A nL Q x g (pc) (ls) (.int i :: .ref (ad k) :: st) := fun H locs la hP hS hv => by
  subst hi
  have := wl_get (ad := ad) (h := HH ad cI cZ cQ x g) hk
  rw [show HH ad cI cZ cQ x g k = .inl (cZ, 8, .inl (g k)) by rcases hI with rfl | rfl <;> rfl] at this
  refine va_zald C.1.1 C.1.2.1 C.2.1 hP k 1 this rfl (vp_in_nI ht (by decide)) hd ?_
  rw [nI_clamp (by omega)]
  exact K H locs la hP hS hv
theorem j_iast (C : GC p R s m args c kc ks cc nL own Ts D cI cZ cQ ad np A) {k : Nat} {i v : Int32} (t : Nat) (hd : decode cc pc = .ok (.iastore, 1)) (hk : k < np) (hI : isI k = true) (hi : i = nI t) (ht : t < LN k) (K : J p l e R s m args below meth c kc ks D cI cZ cQ ad np A nL Q x (va_up g k (upd (g k) t v)) (pc + 1) (ls) (st)) : J p l e R s m args below meth c kc ks D cI cZ cQ ad np A nL Q x g (pc) (ls) (.int v :: .int i :: .ref (ad k) :: st) := fun H locs la hP hS hv => by
  subst hi
  have hb : LN k < 2 ^ 31 := LN_lt k
  have hg := wl_get (ad := ad) (h := HH ad cI cZ cQ x g) hk
  rw [HH_I hI] at hg
  refine va_iast C.1.1 C.1.2.1 C.2.1 hP (wl_D C.2.2.1) hS k 0 hg rfl (vp_in_nI ht hb) hd (fun H1 locs1 hP1 hD1 hS1 => ?_)
  rw [nI_clamp (by omega), wl_set hk] at hP1
  exact K H1 locs1 la (wl_P hP1 (fun i _ => HH_w _ hI i)) hS1 hv
theorem j_zast (C : GC p R s m args c kc ks cc nL own Ts D cI cZ cQ ad np A) {k : Nat} {i v : Int32} (t : Nat) (hd : decode cc pc = .ok (.bastore, 1)) (hk : k < np) (hI : k = 17 ∨ k = 36) (hi : i = nI t) (ht : t < 8) (hn : vp_nar .boolean v = v) (K : J p l e R s m args below meth c kc ks D cI cZ cQ ad np A nL Q x (va_up g k (upd (g k) t v)) (pc + 1) (ls) (st)) : J p l e R s m args below meth c kc ks D cI cZ cQ ad np A nL Q x g (pc) (ls) (.int v :: .int i :: .ref (ad k) :: st) := fun H locs la hP hS hv => by
  subst hi
  have hg := wl_get (ad := ad) (h := HH ad cI cZ cQ x g) hk
  rw [show HH ad cI cZ cQ x g k = .inl (cZ, 8, .inl (g k)) by rcases hI with rfl | rfl <;> rfl] at hg
  refine va_zast C.1.1 C.1.2.1 C.2.1 hP (wl_D C.2.2.1) hS k 1 hg rfl (vp_in_nI ht (by decide)) hd (fun H1 locs1 hP1 hD1 hS1 => ?_)
  rw [nI_clamp (by omega), wl_set hk, hn] at hP1
  exact K H1 locs1 la (wl_P hP1 (fun i _ => by rcases hI with rfl | rfl; exact HH_wz17 _ i; exact HH_wz36 _ i)) hS1 hv
theorem j_aald (C : GC p R s m args c kc ks cc nL own Ts D cI cZ cQ ad np A) {i : Int32} (t : Nat) (hd : decode cc pc = .ok (.aaload, 1)) (hk : 18 < np) (hi : i = nI t) (ht : t < 8) (K : J p l e R s m args below meth c kc ks D cI cZ cQ ad np A nL Q x g (pc + 1) (ls) (.ref (ad (19 + t)) :: st)) : J p l e R s m args below meth c kc ks D cI cZ cQ ad np A nL Q x g (pc) (ls) (.int i :: .ref (ad 18) :: st) := fun H locs la hP hS hv => by
  subst hi
  have hg := wl_get (ad := ad) (h := HH ad cI cZ cQ x g) hk
  have hc := hP 18 _ hg
  have hK := (C.2.1.2 2 _ rfl).1 8 (fun i => va_rf (if i < 8 then some (ad (19 + i)) else none))
  refine W.aald (v := .ref (ad (19 + t))) (ty := .array .int) C.1.1 C.1.2.1 hc hK rfl (fun q => by cases q) ?_ ?_ rfl rfl hd (K H locs la hP hS hv)
  · show ¬ (nI t < 0 ∨ (arrV _ _ _).slots.size ≤ _)
    rw [arrV_size]
    exact vp_in_nI (N := 8) ht (by decide)
  · show (arrV _ _ _).slots[_]? = _
    rw [nI_clamp (by omega), arrV_read _ _ ht]
    show some (va_rf (if t < 8 then some (ad (19 + t)) else none)) = _
    rw [if_pos ht]
    rfl
theorem j_alen (C : GC p R s m args c kc ks cc nL own Ts D cI cZ cQ ad np A) {k : Nat} {v : Int32} (hd : decode cc pc = .ok (.arraylength, 1)) (hk : k < np) (hI : isI k = true) (hn : nI (LN k) = v) (K : J p l e R s m args below meth c kc ks D cI cZ cQ ad np A nL Q x g (pc + 1) (ls) (.int v :: st)) : J p l e R s m args below meth c kc ks D cI cZ cQ ad np A nL Q x g (pc) (ls) (.ref (ad k) :: st) := fun H locs la hP hS hv => by
  have hg := wl_get (ad := ad) (h := HH ad cI cZ cQ x g) hk
  rw [HH_I hI] at hg
  exact va_alen C.1.1 C.1.2.1 C.2.1 hP k 0 hg rfl hn hd (K H locs la hP hS hv)
theorem jg_X3_names (C : GC p R s m args c kc ks cc nL own Ts D cI cZ cQ ad np A) {index : Nat} (hd : decode cc pc = .ok (.getfield index, 3)) (hin : ∀ w ∈ wsX30, w ∈ Ts) (hl : Cond.fieldLink own index "FutureSets" "names" "LFutureSets$Names;" ∈ Ts) (hk : 0 < np) (K : J p l e R s m args below meth c kc ks D cI cZ cQ ad np A nL Q x g (pc + 3) (ls) (.ref (ad 1) :: st)) : J p l e R s m args below meth c kc ks D cI cZ cQ ad np A nL Q x g (pc) (ls) (.ref (ad 0) :: st) := fun H locs la hP hS hv =>
  va_get (ref := "FutureSets") (T := TX3) (N := 12) (ci := 3) (k := 0) C.1.1 C.1.2.1 C.1.2.2.2.2 hin C.1.2.2.2.1 C.2.1 hP 0 (wl_get hk) rfl (hk := by decide) (C.1.2.2.2.2 _ hl) (fun _ h => h) rfl hd (K H locs la hP hS hv)
theorem jg_X3_terms (C : GC p R s m args c kc ks cc nL own Ts D cI cZ cQ ad np A) {index : Nat} (hd : decode cc pc = .ok (.getfield index, 3)) (hin : ∀ w ∈ wsX30, w ∈ Ts) (hl : Cond.fieldLink own index "FutureSets" "terms" "LFutureSets$Terms;" ∈ Ts) (hk : 0 < np) (K : J p l e R s m args below meth c kc ks D cI cZ cQ ad np A nL Q x g (pc + 3) (ls) (.ref (ad 2) :: st)) : J p l e R s m args below meth c kc ks D cI cZ cQ ad np A nL Q x g (pc) (ls) (.ref (ad 0) :: st) := fun H locs la hP hS hv =>
  va_get (ref := "FutureSets") (T := TX3) (N := 12) (ci := 3) (k := 1) C.1.1 C.1.2.1 C.1.2.2.2.2 hin C.1.2.2.2.1 C.2.1 hP 0 (wl_get hk) rfl (hk := by decide) (C.1.2.2.2.2 _ hl) (fun _ h => h) rfl hd (K H locs la hP hS hv)
theorem jg_X3_listed (C : GC p R s m args c kc ks cc nL own Ts D cI cZ cQ ad np A) {index : Nat} (hd : decode cc pc = .ok (.getfield index, 3)) (hin : ∀ w ∈ wsX30, w ∈ Ts) (hl : Cond.fieldLink own index "FutureSets" "listed" "LFutureSets$Listed;" ∈ Ts) (hk : 0 < np) (K : J p l e R s m args below meth c kc ks D cI cZ cQ ad np A nL Q x g (pc + 3) (ls) (.ref (ad 3) :: st)) : J p l e R s m args below meth c kc ks D cI cZ cQ ad np A nL Q x g (pc) (ls) (.ref (ad 0) :: st) := fun H locs la hP hS hv =>
  va_get (ref := "FutureSets") (T := TX3) (N := 12) (ci := 3) (k := 2) C.1.1 C.1.2.1 C.1.2.2.2.2 hin C.1.2.2.2.1 C.2.1 hP 0 (wl_get hk) rfl (hk := by decide) (C.1.2.2.2.2 _ hl) (fun _ h => h) rfl hd (K H locs la hP hS hv)
theorem jg_X3_rowCount (C : GC p R s m args c kc ks cc nL own Ts D cI cZ cQ ad np A) {index : Nat} (hd : decode cc pc = .ok (.getfield index, 3)) (hin : ∀ w ∈ wsX30, w ∈ Ts) (hl : Cond.fieldLink own index "FutureSets" "rowCount" "I" ∈ Ts) (hk : 0 < np) (K : J p l e R s m args below meth c kc ks D cI cZ cQ ad np A nL Q x g (pc + 3) (ls) (.int (nI (x 0)) :: st)) : J p l e R s m args below meth c kc ks D cI cZ cQ ad np A nL Q x g (pc) (ls) (.ref (ad 0) :: st) := fun H locs la hP hS hv =>
  va_get (ref := "FutureSets") (T := TX3) (N := 12) (ci := 3) (k := 3) C.1.1 C.1.2.1 C.1.2.2.2.2 hin C.1.2.2.2.1 C.2.1 hP 0 (wl_get hk) rfl (hk := by decide) (C.1.2.2.2.2 _ hl) (fun _ h => h) rfl hd (K H locs la hP hS hv)
theorem jp_X3_rowCount (C : GC p R s m args c kc ks cc nL own Ts D cI cZ cQ ad np A) {index : Nat} {v : Int32} (n : Nat) (hd : decode cc pc = .ok (.putfield index, 3)) (hin : ∀ w ∈ wsX30, w ∈ Ts) (hl : Cond.fieldLink own index "FutureSets" "rowCount" "I" ∈ Ts) (hk : 0 < np) (hv : v = nI n) (K : J p l e R s m args below meth c kc ks D cI cZ cQ ad np A nL Q (va_up x 0 n) g (pc + 3) (ls) (st)) : J p l e R s m args below meth c kc ks D cI cZ cQ ad np A nL Q x g (pc) (ls) (.int v :: .ref (ad 0) :: st) := fun H locs la hP hS hl2 => by
  subst hv
  refine va_put (ref := "FutureSets") (T := TX3) (N := 12) (ci := 3) (k := 3) (ty := .int) C.1.1 C.1.2.1 C.1.2.2.2.2 hin tyX3 tyX3_ok nmX3 C.1.2.2.2.1 C.2.1 hP (wl_D C.2.2.1) hS 0 (wl_get hk) rfl (hk := by decide) (C.1.2.2.2.2 _ hl) (fun _ h => h) rfl rfl rfl rfl (Nat.le_of_ble_eq_true rfl) hd (fun H1 locs1 hP1 hD1 hS1 => ?_)
  rw [wl_set hk] at hP1
  refine K H1 locs1 la (wl_P hP1 (fun i _ => ?_)) hS1 hl2
  by_cases hi : i = 0
  · subst hi; rfl
  · simp only [va_up, if_neg hi]
    unfold HH
    simp [hi, va_up]
theorem jg_X3_firstCount (C : GC p R s m args c kc ks cc nL own Ts D cI cZ cQ ad np A) {index : Nat} (hd : decode cc pc = .ok (.getfield index, 3)) (hin : ∀ w ∈ wsX30, w ∈ Ts) (hl : Cond.fieldLink own index "FutureSets" "firstCount" "I" ∈ Ts) (hk : 0 < np) (K : J p l e R s m args below meth c kc ks D cI cZ cQ ad np A nL Q x g (pc + 3) (ls) (.int (nI (x 1)) :: st)) : J p l e R s m args below meth c kc ks D cI cZ cQ ad np A nL Q x g (pc) (ls) (.ref (ad 0) :: st) := fun H locs la hP hS hv =>
  va_get (ref := "FutureSets") (T := TX3) (N := 12) (ci := 3) (k := 4) C.1.1 C.1.2.1 C.1.2.2.2.2 hin C.1.2.2.2.1 C.2.1 hP 0 (wl_get hk) rfl (hk := by decide) (C.1.2.2.2.2 _ hl) (fun _ h => h) rfl hd (K H locs la hP hS hv)
theorem jp_X3_firstCount (C : GC p R s m args c kc ks cc nL own Ts D cI cZ cQ ad np A) {index : Nat} {v : Int32} (n : Nat) (hd : decode cc pc = .ok (.putfield index, 3)) (hin : ∀ w ∈ wsX30, w ∈ Ts) (hl : Cond.fieldLink own index "FutureSets" "firstCount" "I" ∈ Ts) (hk : 0 < np) (hv : v = nI n) (K : J p l e R s m args below meth c kc ks D cI cZ cQ ad np A nL Q (va_up x 1 n) g (pc + 3) (ls) (st)) : J p l e R s m args below meth c kc ks D cI cZ cQ ad np A nL Q x g (pc) (ls) (.int v :: .ref (ad 0) :: st) := fun H locs la hP hS hl2 => by
  subst hv
  refine va_put (ref := "FutureSets") (T := TX3) (N := 12) (ci := 3) (k := 4) (ty := .int) C.1.1 C.1.2.1 C.1.2.2.2.2 hin tyX3 tyX3_ok nmX3 C.1.2.2.2.1 C.2.1 hP (wl_D C.2.2.1) hS 0 (wl_get hk) rfl (hk := by decide) (C.1.2.2.2.2 _ hl) (fun _ h => h) rfl rfl rfl rfl (Nat.le_of_ble_eq_true rfl) hd (fun H1 locs1 hP1 hD1 hS1 => ?_)
  rw [wl_set hk] at hP1
  refine K H1 locs1 la (wl_P hP1 (fun i _ => ?_)) hS1 hl2
  by_cases hi : i = 0
  · subst hi; rfl
  · simp only [va_up, if_neg hi]
    unfold HH
    simp [hi, va_up]
theorem jg_X3_secondCount (C : GC p R s m args c kc ks cc nL own Ts D cI cZ cQ ad np A) {index : Nat} (hd : decode cc pc = .ok (.getfield index, 3)) (hin : ∀ w ∈ wsX30, w ∈ Ts) (hl : Cond.fieldLink own index "FutureSets" "secondCount" "I" ∈ Ts) (hk : 0 < np) (K : J p l e R s m args below meth c kc ks D cI cZ cQ ad np A nL Q x g (pc + 3) (ls) (.int (nI (x 2)) :: st)) : J p l e R s m args below meth c kc ks D cI cZ cQ ad np A nL Q x g (pc) (ls) (.ref (ad 0) :: st) := fun H locs la hP hS hv =>
  va_get (ref := "FutureSets") (T := TX3) (N := 12) (ci := 3) (k := 5) C.1.1 C.1.2.1 C.1.2.2.2.2 hin C.1.2.2.2.1 C.2.1 hP 0 (wl_get hk) rfl (hk := by decide) (C.1.2.2.2.2 _ hl) (fun _ h => h) rfl hd (K H locs la hP hS hv)
theorem jp_X3_secondCount (C : GC p R s m args c kc ks cc nL own Ts D cI cZ cQ ad np A) {index : Nat} {v : Int32} (n : Nat) (hd : decode cc pc = .ok (.putfield index, 3)) (hin : ∀ w ∈ wsX30, w ∈ Ts) (hl : Cond.fieldLink own index "FutureSets" "secondCount" "I" ∈ Ts) (hk : 0 < np) (hv : v = nI n) (K : J p l e R s m args below meth c kc ks D cI cZ cQ ad np A nL Q (va_up x 2 n) g (pc + 3) (ls) (st)) : J p l e R s m args below meth c kc ks D cI cZ cQ ad np A nL Q x g (pc) (ls) (.int v :: .ref (ad 0) :: st) := fun H locs la hP hS hl2 => by
  subst hv
  refine va_put (ref := "FutureSets") (T := TX3) (N := 12) (ci := 3) (k := 5) (ty := .int) C.1.1 C.1.2.1 C.1.2.2.2.2 hin tyX3 tyX3_ok nmX3 C.1.2.2.2.1 C.2.1 hP (wl_D C.2.2.1) hS 0 (wl_get hk) rfl (hk := by decide) (C.1.2.2.2.2 _ hl) (fun _ h => h) rfl rfl rfl rfl (Nat.le_of_ble_eq_true rfl) hd (fun H1 locs1 hP1 hD1 hS1 => ?_)
  rw [wl_set hk] at hP1
  refine K H1 locs1 la (wl_P hP1 (fun i _ => ?_)) hS1 hl2
  by_cases hi : i = 0
  · subst hi; rfl
  · simp only [va_up, if_neg hi]
    unfold HH
    simp [hi, va_up]
theorem jg_X3_budgetNow (C : GC p R s m args c kc ks cc nL own Ts D cI cZ cQ ad np A) {index : Nat} (hd : decode cc pc = .ok (.getfield index, 3)) (hin : ∀ w ∈ wsX30, w ∈ Ts) (hl : Cond.fieldLink own index "FutureSets" "budgetNow" "I" ∈ Ts) (hk : 0 < np) (K : J p l e R s m args below meth c kc ks D cI cZ cQ ad np A nL Q x g (pc + 3) (ls) (.int (nI (x 3)) :: st)) : J p l e R s m args below meth c kc ks D cI cZ cQ ad np A nL Q x g (pc) (ls) (.ref (ad 0) :: st) := fun H locs la hP hS hv =>
  va_get (ref := "FutureSets") (T := TX3) (N := 12) (ci := 3) (k := 6) C.1.1 C.1.2.1 C.1.2.2.2.2 hin C.1.2.2.2.1 C.2.1 hP 0 (wl_get hk) rfl (hk := by decide) (C.1.2.2.2.2 _ hl) (fun _ h => h) rfl hd (K H locs la hP hS hv)
theorem jp_X3_budgetNow (C : GC p R s m args c kc ks cc nL own Ts D cI cZ cQ ad np A) {index : Nat} {v : Int32} (n : Nat) (hd : decode cc pc = .ok (.putfield index, 3)) (hin : ∀ w ∈ wsX30, w ∈ Ts) (hl : Cond.fieldLink own index "FutureSets" "budgetNow" "I" ∈ Ts) (hk : 0 < np) (hv : v = nI n) (K : J p l e R s m args below meth c kc ks D cI cZ cQ ad np A nL Q (va_up x 3 n) g (pc + 3) (ls) (st)) : J p l e R s m args below meth c kc ks D cI cZ cQ ad np A nL Q x g (pc) (ls) (.int v :: .ref (ad 0) :: st) := fun H locs la hP hS hl2 => by
  subst hv
  refine va_put (ref := "FutureSets") (T := TX3) (N := 12) (ci := 3) (k := 6) (ty := .int) C.1.1 C.1.2.1 C.1.2.2.2.2 hin tyX3 tyX3_ok nmX3 C.1.2.2.2.1 C.2.1 hP (wl_D C.2.2.1) hS 0 (wl_get hk) rfl (hk := by decide) (C.1.2.2.2.2 _ hl) (fun _ h => h) rfl rfl rfl rfl (Nat.le_of_ble_eq_true rfl) hd (fun H1 locs1 hP1 hD1 hS1 => ?_)
  rw [wl_set hk] at hP1
  refine K H1 locs1 la (wl_P hP1 (fun i _ => ?_)) hS1 hl2
  by_cases hi : i = 0
  · subst hi; rfl
  · simp only [va_up, if_neg hi]
    unfold HH
    simp [hi, va_up]
theorem jg_X3_sums (C : GC p R s m args c kc ks cc nL own Ts D cI cZ cQ ad np A) {index : Nat} (hd : decode cc pc = .ok (.getfield index, 3)) (hin : ∀ w ∈ wsX30, w ∈ Ts) (hl : Cond.fieldLink own index "FutureSets" "sums" "[I" ∈ Ts) (hk : 0 < np) (K : J p l e R s m args below meth c kc ks D cI cZ cQ ad np A nL Q x g (pc + 3) (ls) (.ref (ad 4) :: st)) : J p l e R s m args below meth c kc ks D cI cZ cQ ad np A nL Q x g (pc) (ls) (.ref (ad 0) :: st) := fun H locs la hP hS hv =>
  va_get (ref := "FutureSets") (T := TX3) (N := 12) (ci := 3) (k := 7) C.1.1 C.1.2.1 C.1.2.2.2.2 hin C.1.2.2.2.1 C.2.1 hP 0 (wl_get hk) rfl (hk := by decide) (C.1.2.2.2.2 _ hl) (fun _ h => h) rfl hd (K H locs la hP hS hv)
theorem jg_X3_bests (C : GC p R s m args c kc ks cc nL own Ts D cI cZ cQ ad np A) {index : Nat} (hd : decode cc pc = .ok (.getfield index, 3)) (hin : ∀ w ∈ wsX30, w ∈ Ts) (hl : Cond.fieldLink own index "FutureSets" "bests" "[I" ∈ Ts) (hk : 0 < np) (K : J p l e R s m args below meth c kc ks D cI cZ cQ ad np A nL Q x g (pc + 3) (ls) (.ref (ad 5) :: st)) : J p l e R s m args below meth c kc ks D cI cZ cQ ad np A nL Q x g (pc) (ls) (.ref (ad 0) :: st) := fun H locs la hP hS hv =>
  va_get (ref := "FutureSets") (T := TX3) (N := 12) (ci := 3) (k := 8) C.1.1 C.1.2.1 C.1.2.2.2.2 hin C.1.2.2.2.1 C.2.1 hP 0 (wl_get hk) rfl (hk := by decide) (C.1.2.2.2.2 _ hl) (fun _ h => h) rfl hd (K H locs la hP hS hv)
theorem jg_X3_weights (C : GC p R s m args c kc ks cc nL own Ts D cI cZ cQ ad np A) {index : Nat} (hd : decode cc pc = .ok (.getfield index, 3)) (hin : ∀ w ∈ wsX30, w ∈ Ts) (hl : Cond.fieldLink own index "FutureSets" "weights" "[I" ∈ Ts) (hk : 0 < np) (K : J p l e R s m args below meth c kc ks D cI cZ cQ ad np A nL Q x g (pc + 3) (ls) (.ref (ad 6) :: st)) : J p l e R s m args below meth c kc ks D cI cZ cQ ad np A nL Q x g (pc) (ls) (.ref (ad 0) :: st) := fun H locs la hP hS hv =>
  va_get (ref := "FutureSets") (T := TX3) (N := 12) (ci := 3) (k := 9) C.1.1 C.1.2.1 C.1.2.2.2.2 hin C.1.2.2.2.1 C.2.1 hP 0 (wl_get hk) rfl (hk := by decide) (C.1.2.2.2.2 _ hl) (fun _ h => h) rfl hd (K H locs la hP hS hv)
theorem jg_X3_gains (C : GC p R s m args c kc ks cc nL own Ts D cI cZ cQ ad np A) {index : Nat} (hd : decode cc pc = .ok (.getfield index, 3)) (hin : ∀ w ∈ wsX30, w ∈ Ts) (hl : Cond.fieldLink own index "FutureSets" "gains" "[I" ∈ Ts) (hk : 0 < np) (K : J p l e R s m args below meth c kc ks D cI cZ cQ ad np A nL Q x g (pc + 3) (ls) (.ref (ad 7) :: st)) : J p l e R s m args below meth c kc ks D cI cZ cQ ad np A nL Q x g (pc) (ls) (.ref (ad 0) :: st) := fun H locs la hP hS hv =>
  va_get (ref := "FutureSets") (T := TX3) (N := 12) (ci := 3) (k := 10) C.1.1 C.1.2.1 C.1.2.2.2.2 hin C.1.2.2.2.1 C.2.1 hP 0 (wl_get hk) rfl (hk := by decide) (C.1.2.2.2.2 _ hl) (fun _ h => h) rfl hd (K H locs la hP hS hv)
theorem jg_X3_worstNumbers (C : GC p R s m args c kc ks cc nL own Ts D cI cZ cQ ad np A) {index : Nat} (hd : decode cc pc = .ok (.getfield index, 3)) (hin : ∀ w ∈ wsX30, w ∈ Ts) (hl : Cond.fieldLink own index "FutureSets" "worstNumbers" "[I" ∈ Ts) (hk : 0 < np) (K : J p l e R s m args below meth c kc ks D cI cZ cQ ad np A nL Q x g (pc + 3) (ls) (.ref (ad 8) :: st)) : J p l e R s m args below meth c kc ks D cI cZ cQ ad np A nL Q x g (pc) (ls) (.ref (ad 0) :: st) := fun H locs la hP hS hv =>
  va_get (ref := "FutureSets") (T := TX3) (N := 12) (ci := 3) (k := 11) C.1.1 C.1.2.1 C.1.2.2.2.2 hin C.1.2.2.2.1 C.2.1 hP 0 (wl_get hk) rfl (hk := by decide) (C.1.2.2.2.2 _ hl) (fun _ h => h) rfl hd (K H locs la hP hS hv)
theorem jg_X1_count (C : GC p R s m args c kc ks cc nL own Ts D cI cZ cQ ad np A) {index : Nat} (hd : decode cc pc = .ok (.getfield index, 3)) (hin : ∀ w ∈ wsX10, w ∈ Ts) (hl : Cond.fieldLink own index "FutureSets$Names" "count" "I" ∈ Ts) (hk : 1 < np) (K : J p l e R s m args below meth c kc ks D cI cZ cQ ad np A nL Q x g (pc + 3) (ls) (.int (nI (x 4)) :: st)) : J p l e R s m args below meth c kc ks D cI cZ cQ ad np A nL Q x g (pc) (ls) (.ref (ad 1) :: st) := fun H locs la hP hS hv =>
  va_get (ref := "FutureSets$Names") (T := TX1) (N := 4) (ci := 1) (k := 0) C.1.1 C.1.2.1 C.1.2.2.2.2 hin C.1.2.2.2.1 C.2.1 hP 1 (wl_get hk) rfl (hk := by decide) (C.1.2.2.2.2 _ hl) (fun _ h => h) rfl hd (K H locs la hP hS hv)
theorem jp_X1_count (C : GC p R s m args c kc ks cc nL own Ts D cI cZ cQ ad np A) {index : Nat} {v : Int32} (n : Nat) (hd : decode cc pc = .ok (.putfield index, 3)) (hin : ∀ w ∈ wsX10, w ∈ Ts) (hl : Cond.fieldLink own index "FutureSets$Names" "count" "I" ∈ Ts) (hk : 1 < np) (hv : v = nI n) (K : J p l e R s m args below meth c kc ks D cI cZ cQ ad np A nL Q (va_up x 4 n) g (pc + 3) (ls) (st)) : J p l e R s m args below meth c kc ks D cI cZ cQ ad np A nL Q x g (pc) (ls) (.int v :: .ref (ad 1) :: st) := fun H locs la hP hS hl2 => by
  subst hv
  refine va_put (ref := "FutureSets$Names") (T := TX1) (N := 4) (ci := 1) (k := 0) (ty := .int) C.1.1 C.1.2.1 C.1.2.2.2.2 hin tyX1 tyX1_ok nmX1 C.1.2.2.2.1 C.2.1 hP (wl_D C.2.2.1) hS 1 (wl_get hk) rfl (hk := by decide) (C.1.2.2.2.2 _ hl) (fun _ h => h) rfl rfl rfl rfl (Nat.le_of_ble_eq_true rfl) hd (fun H1 locs1 hP1 hD1 hS1 => ?_)
  rw [wl_set hk] at hP1
  refine K H1 locs1 la (wl_P hP1 (fun i _ => ?_)) hS1 hl2
  by_cases hi : i = 1
  · subst hi; rfl
  · simp only [va_up, if_neg hi]
    unfold HH
    simp [hi, va_up]
theorem jg_X1_least (C : GC p R s m args c kc ks cc nL own Ts D cI cZ cQ ad np A) {index : Nat} (hd : decode cc pc = .ok (.getfield index, 3)) (hin : ∀ w ∈ wsX10, w ∈ Ts) (hl : Cond.fieldLink own index "FutureSets$Names" "least" "[I" ∈ Ts) (hk : 1 < np) (K : J p l e R s m args below meth c kc ks D cI cZ cQ ad np A nL Q x g (pc + 3) (ls) (.ref (ad 9) :: st)) : J p l e R s m args below meth c kc ks D cI cZ cQ ad np A nL Q x g (pc) (ls) (.ref (ad 1) :: st) := fun H locs la hP hS hv =>
  va_get (ref := "FutureSets$Names") (T := TX1) (N := 4) (ci := 1) (k := 1) C.1.1 C.1.2.1 C.1.2.2.2.2 hin C.1.2.2.2.1 C.2.1 hP 1 (wl_get hk) rfl (hk := by decide) (C.1.2.2.2.2 _ hl) (fun _ h => h) rfl hd (K H locs la hP hS hv)
theorem jg_X1_usual (C : GC p R s m args c kc ks cc nL own Ts D cI cZ cQ ad np A) {index : Nat} (hd : decode cc pc = .ok (.getfield index, 3)) (hin : ∀ w ∈ wsX10, w ∈ Ts) (hl : Cond.fieldLink own index "FutureSets$Names" "usual" "[I" ∈ Ts) (hk : 1 < np) (K : J p l e R s m args below meth c kc ks D cI cZ cQ ad np A nL Q x g (pc + 3) (ls) (.ref (ad 10) :: st)) : J p l e R s m args below meth c kc ks D cI cZ cQ ad np A nL Q x g (pc) (ls) (.ref (ad 1) :: st) := fun H locs la hP hS hv =>
  va_get (ref := "FutureSets$Names") (T := TX1) (N := 4) (ci := 1) (k := 2) C.1.1 C.1.2.1 C.1.2.2.2.2 hin C.1.2.2.2.1 C.2.1 hP 1 (wl_get hk) rfl (hk := by decide) (C.1.2.2.2.2 _ hl) (fun _ h => h) rfl hd (K H locs la hP hS hv)
theorem jg_X1_greatest (C : GC p R s m args c kc ks cc nL own Ts D cI cZ cQ ad np A) {index : Nat} (hd : decode cc pc = .ok (.getfield index, 3)) (hin : ∀ w ∈ wsX10, w ∈ Ts) (hl : Cond.fieldLink own index "FutureSets$Names" "greatest" "[I" ∈ Ts) (hk : 1 < np) (K : J p l e R s m args below meth c kc ks D cI cZ cQ ad np A nL Q x g (pc + 3) (ls) (.ref (ad 11) :: st)) : J p l e R s m args below meth c kc ks D cI cZ cQ ad np A nL Q x g (pc) (ls) (.ref (ad 1) :: st) := fun H locs la hP hS hv =>
  va_get (ref := "FutureSets$Names") (T := TX1) (N := 4) (ci := 1) (k := 3) C.1.1 C.1.2.1 C.1.2.2.2.2 hin C.1.2.2.2.1 C.2.1 hP 1 (wl_get hk) rfl (hk := by decide) (C.1.2.2.2.2 _ hl) (fun _ h => h) rfl hd (K H locs la hP hS hv)
theorem jg_X2_count (C : GC p R s m args c kc ks cc nL own Ts D cI cZ cQ ad np A) {index : Nat} (hd : decode cc pc = .ok (.getfield index, 3)) (hin : ∀ w ∈ wsX20, w ∈ Ts) (hl : Cond.fieldLink own index "FutureSets$Terms" "count" "I" ∈ Ts) (hk : 2 < np) (K : J p l e R s m args below meth c kc ks D cI cZ cQ ad np A nL Q x g (pc + 3) (ls) (.int (nI (x 5)) :: st)) : J p l e R s m args below meth c kc ks D cI cZ cQ ad np A nL Q x g (pc) (ls) (.ref (ad 2) :: st) := fun H locs la hP hS hv =>
  va_get (ref := "FutureSets$Terms") (T := TX2) (N := 5) (ci := 2) (k := 0) C.1.1 C.1.2.1 C.1.2.2.2.2 hin C.1.2.2.2.1 C.2.1 hP 2 (wl_get hk) rfl (hk := by decide) (C.1.2.2.2.2 _ hl) (fun _ h => h) rfl hd (K H locs la hP hS hv)
theorem jp_X2_count (C : GC p R s m args c kc ks cc nL own Ts D cI cZ cQ ad np A) {index : Nat} {v : Int32} (n : Nat) (hd : decode cc pc = .ok (.putfield index, 3)) (hin : ∀ w ∈ wsX20, w ∈ Ts) (hl : Cond.fieldLink own index "FutureSets$Terms" "count" "I" ∈ Ts) (hk : 2 < np) (hv : v = nI n) (K : J p l e R s m args below meth c kc ks D cI cZ cQ ad np A nL Q (va_up x 5 n) g (pc + 3) (ls) (st)) : J p l e R s m args below meth c kc ks D cI cZ cQ ad np A nL Q x g (pc) (ls) (.int v :: .ref (ad 2) :: st) := fun H locs la hP hS hl2 => by
  subst hv
  refine va_put (ref := "FutureSets$Terms") (T := TX2) (N := 5) (ci := 2) (k := 0) (ty := .int) C.1.1 C.1.2.1 C.1.2.2.2.2 hin tyX2 tyX2_ok nmX2 C.1.2.2.2.1 C.2.1 hP (wl_D C.2.2.1) hS 2 (wl_get hk) rfl (hk := by decide) (C.1.2.2.2.2 _ hl) (fun _ h => h) rfl rfl rfl rfl (Nat.le_of_ble_eq_true rfl) hd (fun H1 locs1 hP1 hD1 hS1 => ?_)
  rw [wl_set hk] at hP1
  refine K H1 locs1 la (wl_P hP1 (fun i _ => ?_)) hS1 hl2
  by_cases hi : i = 2
  · subst hi; rfl
  · simp only [va_up, if_neg hi]
    unfold HH
    simp [hi, va_up]
theorem jg_X2_rowOf (C : GC p R s m args c kc ks cc nL own Ts D cI cZ cQ ad np A) {index : Nat} (hd : decode cc pc = .ok (.getfield index, 3)) (hin : ∀ w ∈ wsX20, w ∈ Ts) (hl : Cond.fieldLink own index "FutureSets$Terms" "rowOf" "[I" ∈ Ts) (hk : 2 < np) (K : J p l e R s m args below meth c kc ks D cI cZ cQ ad np A nL Q x g (pc + 3) (ls) (.ref (ad 12) :: st)) : J p l e R s m args below meth c kc ks D cI cZ cQ ad np A nL Q x g (pc) (ls) (.ref (ad 2) :: st) := fun H locs la hP hS hv =>
  va_get (ref := "FutureSets$Terms") (T := TX2) (N := 5) (ci := 2) (k := 1) C.1.1 C.1.2.1 C.1.2.2.2.2 hin C.1.2.2.2.1 C.2.1 hP 2 (wl_get hk) rfl (hk := by decide) (C.1.2.2.2.2 _ hl) (fun _ h => h) rfl hd (K H locs la hP hS hv)
theorem jg_X2_choiceOf (C : GC p R s m args c kc ks cc nL own Ts D cI cZ cQ ad np A) {index : Nat} (hd : decode cc pc = .ok (.getfield index, 3)) (hin : ∀ w ∈ wsX20, w ∈ Ts) (hl : Cond.fieldLink own index "FutureSets$Terms" "choiceOf" "[I" ∈ Ts) (hk : 2 < np) (K : J p l e R s m args below meth c kc ks D cI cZ cQ ad np A nL Q x g (pc + 3) (ls) (.ref (ad 13) :: st)) : J p l e R s m args below meth c kc ks D cI cZ cQ ad np A nL Q x g (pc) (ls) (.ref (ad 2) :: st) := fun H locs la hP hS hv =>
  va_get (ref := "FutureSets$Terms") (T := TX2) (N := 5) (ci := 2) (k := 2) C.1.1 C.1.2.1 C.1.2.2.2.2 hin C.1.2.2.2.1 C.2.1 hP 2 (wl_get hk) rfl (hk := by decide) (C.1.2.2.2.2 _ hl) (fun _ h => h) rfl hd (K H locs la hP hS hv)
theorem jg_X2_nameOf (C : GC p R s m args c kc ks cc nL own Ts D cI cZ cQ ad np A) {index : Nat} (hd : decode cc pc = .ok (.getfield index, 3)) (hin : ∀ w ∈ wsX20, w ∈ Ts) (hl : Cond.fieldLink own index "FutureSets$Terms" "nameOf" "[I" ∈ Ts) (hk : 2 < np) (K : J p l e R s m args below meth c kc ks D cI cZ cQ ad np A nL Q x g (pc + 3) (ls) (.ref (ad 14) :: st)) : J p l e R s m args below meth c kc ks D cI cZ cQ ad np A nL Q x g (pc) (ls) (.ref (ad 2) :: st) := fun H locs la hP hS hv =>
  va_get (ref := "FutureSets$Terms") (T := TX2) (N := 5) (ci := 2) (k := 3) C.1.1 C.1.2.1 C.1.2.2.2.2 hin C.1.2.2.2.1 C.2.1 hP 2 (wl_get hk) rfl (hk := by decide) (C.1.2.2.2.2 _ hl) (fun _ h => h) rfl hd (K H locs la hP hS hv)
theorem jg_X2_factorOf (C : GC p R s m args c kc ks cc nL own Ts D cI cZ cQ ad np A) {index : Nat} (hd : decode cc pc = .ok (.getfield index, 3)) (hin : ∀ w ∈ wsX20, w ∈ Ts) (hl : Cond.fieldLink own index "FutureSets$Terms" "factorOf" "[I" ∈ Ts) (hk : 2 < np) (K : J p l e R s m args below meth c kc ks D cI cZ cQ ad np A nL Q x g (pc + 3) (ls) (.ref (ad 15) :: st)) : J p l e R s m args below meth c kc ks D cI cZ cQ ad np A nL Q x g (pc) (ls) (.ref (ad 2) :: st) := fun H locs la hP hS hv =>
  va_get (ref := "FutureSets$Terms") (T := TX2) (N := 5) (ci := 2) (k := 4) C.1.1 C.1.2.1 C.1.2.2.2.2 hin C.1.2.2.2.1 C.2.1 hP 2 (wl_get hk) rfl (hk := by decide) (C.1.2.2.2.2 _ hl) (fun _ h => h) rfl hd (K H locs la hP hS hv)
theorem jg_X0_count (C : GC p R s m args c kc ks cc nL own Ts D cI cZ cQ ad np A) {index : Nat} (hd : decode cc pc = .ok (.getfield index, 3)) (hin : ∀ w ∈ wsX00, w ∈ Ts) (hl : Cond.fieldLink own index "FutureSets$Listed" "count" "I" ∈ Ts) (hk : 3 < np) (K : J p l e R s m args below meth c kc ks D cI cZ cQ ad np A nL Q x g (pc + 3) (ls) (.int (nI (x 6)) :: st)) : J p l e R s m args below meth c kc ks D cI cZ cQ ad np A nL Q x g (pc) (ls) (.ref (ad 3) :: st) := fun H locs la hP hS hv =>
  va_get (ref := "FutureSets$Listed") (T := TX0) (N := 4) (ci := 0) (k := 0) C.1.1 C.1.2.1 C.1.2.2.2.2 hin C.1.2.2.2.1 C.2.1 hP 3 (wl_get hk) rfl (hk := by decide) (C.1.2.2.2.2 _ hl) (fun _ h => h) rfl hd (K H locs la hP hS hv)
theorem jp_X0_count (C : GC p R s m args c kc ks cc nL own Ts D cI cZ cQ ad np A) {index : Nat} {v : Int32} (n : Nat) (hd : decode cc pc = .ok (.putfield index, 3)) (hin : ∀ w ∈ wsX00, w ∈ Ts) (hl : Cond.fieldLink own index "FutureSets$Listed" "count" "I" ∈ Ts) (hk : 3 < np) (hv : v = nI n) (K : J p l e R s m args below meth c kc ks D cI cZ cQ ad np A nL Q (va_up x 6 n) g (pc + 3) (ls) (st)) : J p l e R s m args below meth c kc ks D cI cZ cQ ad np A nL Q x g (pc) (ls) (.int v :: .ref (ad 3) :: st) := fun H locs la hP hS hl2 => by
  subst hv
  refine va_put (ref := "FutureSets$Listed") (T := TX0) (N := 4) (ci := 0) (k := 0) (ty := .int) C.1.1 C.1.2.1 C.1.2.2.2.2 hin tyX0 tyX0_ok nmX0 C.1.2.2.2.1 C.2.1 hP (wl_D C.2.2.1) hS 3 (wl_get hk) rfl (hk := by decide) (C.1.2.2.2.2 _ hl) (fun _ h => h) rfl rfl rfl rfl (Nat.le_of_ble_eq_true rfl) hd (fun H1 locs1 hP1 hD1 hS1 => ?_)
  rw [wl_set hk] at hP1
  refine K H1 locs1 la (wl_P hP1 (fun i _ => ?_)) hS1 hl2
  by_cases hi : i = 3
  · subst hi; rfl
  · simp only [va_up, if_neg hi]
    unfold HH
    simp [hi, va_up]
theorem jg_X0_odds (C : GC p R s m args c kc ks cc nL own Ts D cI cZ cQ ad np A) {index : Nat} (hd : decode cc pc = .ok (.getfield index, 3)) (hin : ∀ w ∈ wsX00, w ∈ Ts) (hl : Cond.fieldLink own index "FutureSets$Listed" "odds" "[I" ∈ Ts) (hk : 3 < np) (K : J p l e R s m args below meth c kc ks D cI cZ cQ ad np A nL Q x g (pc + 3) (ls) (.ref (ad 16) :: st)) : J p l e R s m args below meth c kc ks D cI cZ cQ ad np A nL Q x g (pc) (ls) (.ref (ad 3) :: st) := fun H locs la hP hS hv =>
  va_get (ref := "FutureSets$Listed") (T := TX0) (N := 4) (ci := 0) (k := 1) C.1.1 C.1.2.1 C.1.2.2.2.2 hin C.1.2.2.2.1 C.2.1 hP 3 (wl_get hk) rfl (hk := by decide) (C.1.2.2.2.2 _ hl) (fun _ h => h) rfl hd (K H locs la hP hS hv)
theorem jg_X0_kept (C : GC p R s m args c kc ks cc nL own Ts D cI cZ cQ ad np A) {index : Nat} (hd : decode cc pc = .ok (.getfield index, 3)) (hin : ∀ w ∈ wsX00, w ∈ Ts) (hl : Cond.fieldLink own index "FutureSets$Listed" "kept" "[Z" ∈ Ts) (hk : 3 < np) (K : J p l e R s m args below meth c kc ks D cI cZ cQ ad np A nL Q x g (pc + 3) (ls) (.ref (ad 17) :: st)) : J p l e R s m args below meth c kc ks D cI cZ cQ ad np A nL Q x g (pc) (ls) (.ref (ad 3) :: st) := fun H locs la hP hS hv =>
  va_get (ref := "FutureSets$Listed") (T := TX0) (N := 4) (ci := 0) (k := 2) C.1.1 C.1.2.1 C.1.2.2.2.2 hin C.1.2.2.2.1 C.2.1 hP 3 (wl_get hk) rfl (hk := by decide) (C.1.2.2.2.2 _ hl) (fun _ h => h) rfl hd (K H locs la hP hS hv)
theorem jg_X0_numbers (C : GC p R s m args c kc ks cc nL own Ts D cI cZ cQ ad np A) {index : Nat} (hd : decode cc pc = .ok (.getfield index, 3)) (hin : ∀ w ∈ wsX00, w ∈ Ts) (hl : Cond.fieldLink own index "FutureSets$Listed" "numbers" "[[I" ∈ Ts) (hk : 3 < np) (K : J p l e R s m args below meth c kc ks D cI cZ cQ ad np A nL Q x g (pc + 3) (ls) (.ref (ad 18) :: st)) : J p l e R s m args below meth c kc ks D cI cZ cQ ad np A nL Q x g (pc) (ls) (.ref (ad 3) :: st) := fun H locs la hP hS hv =>
  va_get (ref := "FutureSets$Listed") (T := TX0) (N := 4) (ci := 0) (k := 3) C.1.1 C.1.2.1 C.1.2.2.2.2 hin C.1.2.2.2.1 C.2.1 hP 3 (wl_get hk) rfl (hk := by decide) (C.1.2.2.2.2 _ hl) (fun _ h => h) rfl hd (K H locs la hP hS hv)
theorem jg_X4_firsts (C : GC p R s m args c kc ks cc nL own Ts D cI cZ cQ ad np A) {index : Nat} (hd : decode cc pc = .ok (.getfield index, 3)) (hin : ∀ w ∈ wsX40, w ∈ Ts) (hl : Cond.fieldLink own index "FutureSetsModel" "firsts" "I" ∈ Ts) (hk : 27 < np) (K : J p l e R s m args below meth c kc ks D cI cZ cQ ad np A nL Q x g (pc + 3) (ls) (.int (nI (x 7)) :: st)) : J p l e R s m args below meth c kc ks D cI cZ cQ ad np A nL Q x g (pc) (ls) (.ref (ad 27) :: st) := fun H locs la hP hS hv =>
  va_get (ref := "FutureSetsModel") (T := TX4) (N := 20) (ci := 4) (k := 0) C.1.1 C.1.2.1 C.1.2.2.2.2 hin C.1.2.2.2.1 C.2.1 hP 27 (wl_get hk) rfl (hk := by decide) (C.1.2.2.2.2 _ hl) (fun _ h => h) rfl hd (K H locs la hP hS hv)
theorem jp_X4_firsts (C : GC p R s m args c kc ks cc nL own Ts D cI cZ cQ ad np A) {index : Nat} {v : Int32} (n : Nat) (hd : decode cc pc = .ok (.putfield index, 3)) (hin : ∀ w ∈ wsX40, w ∈ Ts) (hl : Cond.fieldLink own index "FutureSetsModel" "firsts" "I" ∈ Ts) (hk : 27 < np) (hv : v = nI n) (K : J p l e R s m args below meth c kc ks D cI cZ cQ ad np A nL Q (va_up x 7 n) g (pc + 3) (ls) (st)) : J p l e R s m args below meth c kc ks D cI cZ cQ ad np A nL Q x g (pc) (ls) (.int v :: .ref (ad 27) :: st) := fun H locs la hP hS hl2 => by
  subst hv
  refine va_put (ref := "FutureSetsModel") (T := TX4) (N := 20) (ci := 4) (k := 0) (ty := .int) C.1.1 C.1.2.1 C.1.2.2.2.2 hin tyX4 tyX4_ok nmX4 C.1.2.2.2.1 C.2.1 hP (wl_D C.2.2.1) hS 27 (wl_get hk) rfl (hk := by decide) (C.1.2.2.2.2 _ hl) (fun _ h => h) rfl rfl rfl rfl (Nat.le_of_ble_eq_true rfl) hd (fun H1 locs1 hP1 hD1 hS1 => ?_)
  rw [wl_set hk] at hP1
  refine K H1 locs1 la (wl_P hP1 (fun i _ => ?_)) hS1 hl2
  by_cases hi : i = 27
  · subst hi; rfl
  · simp only [va_up, if_neg hi]
    unfold HH
    simp [hi, va_up]
theorem jg_X4_seconds (C : GC p R s m args c kc ks cc nL own Ts D cI cZ cQ ad np A) {index : Nat} (hd : decode cc pc = .ok (.getfield index, 3)) (hin : ∀ w ∈ wsX40, w ∈ Ts) (hl : Cond.fieldLink own index "FutureSetsModel" "seconds" "I" ∈ Ts) (hk : 27 < np) (K : J p l e R s m args below meth c kc ks D cI cZ cQ ad np A nL Q x g (pc + 3) (ls) (.int (nI (x 8)) :: st)) : J p l e R s m args below meth c kc ks D cI cZ cQ ad np A nL Q x g (pc) (ls) (.ref (ad 27) :: st) := fun H locs la hP hS hv =>
  va_get (ref := "FutureSetsModel") (T := TX4) (N := 20) (ci := 4) (k := 1) C.1.1 C.1.2.1 C.1.2.2.2.2 hin C.1.2.2.2.1 C.2.1 hP 27 (wl_get hk) rfl (hk := by decide) (C.1.2.2.2.2 _ hl) (fun _ h => h) rfl hd (K H locs la hP hS hv)
theorem jp_X4_seconds (C : GC p R s m args c kc ks cc nL own Ts D cI cZ cQ ad np A) {index : Nat} {v : Int32} (n : Nat) (hd : decode cc pc = .ok (.putfield index, 3)) (hin : ∀ w ∈ wsX40, w ∈ Ts) (hl : Cond.fieldLink own index "FutureSetsModel" "seconds" "I" ∈ Ts) (hk : 27 < np) (hv : v = nI n) (K : J p l e R s m args below meth c kc ks D cI cZ cQ ad np A nL Q (va_up x 8 n) g (pc + 3) (ls) (st)) : J p l e R s m args below meth c kc ks D cI cZ cQ ad np A nL Q x g (pc) (ls) (.int v :: .ref (ad 27) :: st) := fun H locs la hP hS hl2 => by
  subst hv
  refine va_put (ref := "FutureSetsModel") (T := TX4) (N := 20) (ci := 4) (k := 1) (ty := .int) C.1.1 C.1.2.1 C.1.2.2.2.2 hin tyX4 tyX4_ok nmX4 C.1.2.2.2.1 C.2.1 hP (wl_D C.2.2.1) hS 27 (wl_get hk) rfl (hk := by decide) (C.1.2.2.2.2 _ hl) (fun _ h => h) rfl rfl rfl rfl (Nat.le_of_ble_eq_true rfl) hd (fun H1 locs1 hP1 hD1 hS1 => ?_)
  rw [wl_set hk] at hP1
  refine K H1 locs1 la (wl_P hP1 (fun i _ => ?_)) hS1 hl2
  by_cases hi : i = 27
  · subst hi; rfl
  · simp only [va_up, if_neg hi]
    unfold HH
    simp [hi, va_up]
theorem jg_X4_names (C : GC p R s m args c kc ks cc nL own Ts D cI cZ cQ ad np A) {index : Nat} (hd : decode cc pc = .ok (.getfield index, 3)) (hin : ∀ w ∈ wsX40, w ∈ Ts) (hl : Cond.fieldLink own index "FutureSetsModel" "names" "I" ∈ Ts) (hk : 27 < np) (K : J p l e R s m args below meth c kc ks D cI cZ cQ ad np A nL Q x g (pc + 3) (ls) (.int (nI (x 9)) :: st)) : J p l e R s m args below meth c kc ks D cI cZ cQ ad np A nL Q x g (pc) (ls) (.ref (ad 27) :: st) := fun H locs la hP hS hv =>
  va_get (ref := "FutureSetsModel") (T := TX4) (N := 20) (ci := 4) (k := 2) C.1.1 C.1.2.1 C.1.2.2.2.2 hin C.1.2.2.2.1 C.2.1 hP 27 (wl_get hk) rfl (hk := by decide) (C.1.2.2.2.2 _ hl) (fun _ h => h) rfl hd (K H locs la hP hS hv)
theorem jp_X4_names (C : GC p R s m args c kc ks cc nL own Ts D cI cZ cQ ad np A) {index : Nat} {v : Int32} (n : Nat) (hd : decode cc pc = .ok (.putfield index, 3)) (hin : ∀ w ∈ wsX40, w ∈ Ts) (hl : Cond.fieldLink own index "FutureSetsModel" "names" "I" ∈ Ts) (hk : 27 < np) (hv : v = nI n) (K : J p l e R s m args below meth c kc ks D cI cZ cQ ad np A nL Q (va_up x 9 n) g (pc + 3) (ls) (st)) : J p l e R s m args below meth c kc ks D cI cZ cQ ad np A nL Q x g (pc) (ls) (.int v :: .ref (ad 27) :: st) := fun H locs la hP hS hl2 => by
  subst hv
  refine va_put (ref := "FutureSetsModel") (T := TX4) (N := 20) (ci := 4) (k := 2) (ty := .int) C.1.1 C.1.2.1 C.1.2.2.2.2 hin tyX4 tyX4_ok nmX4 C.1.2.2.2.1 C.2.1 hP (wl_D C.2.2.1) hS 27 (wl_get hk) rfl (hk := by decide) (C.1.2.2.2.2 _ hl) (fun _ h => h) rfl rfl rfl rfl (Nat.le_of_ble_eq_true rfl) hd (fun H1 locs1 hP1 hD1 hS1 => ?_)
  rw [wl_set hk] at hP1
  refine K H1 locs1 la (wl_P hP1 (fun i _ => ?_)) hS1 hl2
  by_cases hi : i = 27
  · subst hi; rfl
  · simp only [va_up, if_neg hi]
    unfold HH
    simp [hi, va_up]
theorem jg_X4_least (C : GC p R s m args c kc ks cc nL own Ts D cI cZ cQ ad np A) {index : Nat} (hd : decode cc pc = .ok (.getfield index, 3)) (hin : ∀ w ∈ wsX40, w ∈ Ts) (hl : Cond.fieldLink own index "FutureSetsModel" "least" "[I" ∈ Ts) (hk : 27 < np) (K : J p l e R s m args below meth c kc ks D cI cZ cQ ad np A nL Q x g (pc + 3) (ls) (.ref (ad 28) :: st)) : J p l e R s m args below meth c kc ks D cI cZ cQ ad np A nL Q x g (pc) (ls) (.ref (ad 27) :: st) := fun H locs la hP hS hv =>
  va_get (ref := "FutureSetsModel") (T := TX4) (N := 20) (ci := 4) (k := 3) C.1.1 C.1.2.1 C.1.2.2.2.2 hin C.1.2.2.2.1 C.2.1 hP 27 (wl_get hk) rfl (hk := by decide) (C.1.2.2.2.2 _ hl) (fun _ h => h) rfl hd (K H locs la hP hS hv)
theorem jg_X4_usual (C : GC p R s m args c kc ks cc nL own Ts D cI cZ cQ ad np A) {index : Nat} (hd : decode cc pc = .ok (.getfield index, 3)) (hin : ∀ w ∈ wsX40, w ∈ Ts) (hl : Cond.fieldLink own index "FutureSetsModel" "usual" "[I" ∈ Ts) (hk : 27 < np) (K : J p l e R s m args below meth c kc ks D cI cZ cQ ad np A nL Q x g (pc + 3) (ls) (.ref (ad 29) :: st)) : J p l e R s m args below meth c kc ks D cI cZ cQ ad np A nL Q x g (pc) (ls) (.ref (ad 27) :: st) := fun H locs la hP hS hv =>
  va_get (ref := "FutureSetsModel") (T := TX4) (N := 20) (ci := 4) (k := 4) C.1.1 C.1.2.1 C.1.2.2.2.2 hin C.1.2.2.2.1 C.2.1 hP 27 (wl_get hk) rfl (hk := by decide) (C.1.2.2.2.2 _ hl) (fun _ h => h) rfl hd (K H locs la hP hS hv)
theorem jg_X4_greatest (C : GC p R s m args c kc ks cc nL own Ts D cI cZ cQ ad np A) {index : Nat} (hd : decode cc pc = .ok (.getfield index, 3)) (hin : ∀ w ∈ wsX40, w ∈ Ts) (hl : Cond.fieldLink own index "FutureSetsModel" "greatest" "[I" ∈ Ts) (hk : 27 < np) (K : J p l e R s m args below meth c kc ks D cI cZ cQ ad np A nL Q x g (pc + 3) (ls) (.ref (ad 30) :: st)) : J p l e R s m args below meth c kc ks D cI cZ cQ ad np A nL Q x g (pc) (ls) (.ref (ad 27) :: st) := fun H locs la hP hS hv =>
  va_get (ref := "FutureSetsModel") (T := TX4) (N := 20) (ci := 4) (k := 5) C.1.1 C.1.2.1 C.1.2.2.2.2 hin C.1.2.2.2.1 C.2.1 hP 27 (wl_get hk) rfl (hk := by decide) (C.1.2.2.2.2 _ hl) (fun _ h => h) rfl hd (K H locs la hP hS hv)
theorem jg_X4_budget (C : GC p R s m args c kc ks cc nL own Ts D cI cZ cQ ad np A) {index : Nat} (hd : decode cc pc = .ok (.getfield index, 3)) (hin : ∀ w ∈ wsX40, w ∈ Ts) (hl : Cond.fieldLink own index "FutureSetsModel" "budget" "I" ∈ Ts) (hk : 27 < np) (K : J p l e R s m args below meth c kc ks D cI cZ cQ ad np A nL Q x g (pc + 3) (ls) (.int (nI (x 10)) :: st)) : J p l e R s m args below meth c kc ks D cI cZ cQ ad np A nL Q x g (pc) (ls) (.ref (ad 27) :: st) := fun H locs la hP hS hv =>
  va_get (ref := "FutureSetsModel") (T := TX4) (N := 20) (ci := 4) (k := 6) C.1.1 C.1.2.1 C.1.2.2.2.2 hin C.1.2.2.2.1 C.2.1 hP 27 (wl_get hk) rfl (hk := by decide) (C.1.2.2.2.2 _ hl) (fun _ h => h) rfl hd (K H locs la hP hS hv)
theorem jp_X4_budget (C : GC p R s m args c kc ks cc nL own Ts D cI cZ cQ ad np A) {index : Nat} {v : Int32} (n : Nat) (hd : decode cc pc = .ok (.putfield index, 3)) (hin : ∀ w ∈ wsX40, w ∈ Ts) (hl : Cond.fieldLink own index "FutureSetsModel" "budget" "I" ∈ Ts) (hk : 27 < np) (hv : v = nI n) (K : J p l e R s m args below meth c kc ks D cI cZ cQ ad np A nL Q (va_up x 10 n) g (pc + 3) (ls) (st)) : J p l e R s m args below meth c kc ks D cI cZ cQ ad np A nL Q x g (pc) (ls) (.int v :: .ref (ad 27) :: st) := fun H locs la hP hS hl2 => by
  subst hv
  refine va_put (ref := "FutureSetsModel") (T := TX4) (N := 20) (ci := 4) (k := 6) (ty := .int) C.1.1 C.1.2.1 C.1.2.2.2.2 hin tyX4 tyX4_ok nmX4 C.1.2.2.2.1 C.2.1 hP (wl_D C.2.2.1) hS 27 (wl_get hk) rfl (hk := by decide) (C.1.2.2.2.2 _ hl) (fun _ h => h) rfl rfl rfl rfl (Nat.le_of_ble_eq_true rfl) hd (fun H1 locs1 hP1 hD1 hS1 => ?_)
  rw [wl_set hk] at hP1
  refine K H1 locs1 la (wl_P hP1 (fun i _ => ?_)) hS1 hl2
  by_cases hi : i = 27
  · subst hi; rfl
  · simp only [va_up, if_neg hi]
    unfold HH
    simp [hi, va_up]
theorem jg_X4_rows (C : GC p R s m args c kc ks cc nL own Ts D cI cZ cQ ad np A) {index : Nat} (hd : decode cc pc = .ok (.getfield index, 3)) (hin : ∀ w ∈ wsX40, w ∈ Ts) (hl : Cond.fieldLink own index "FutureSetsModel" "rows" "I" ∈ Ts) (hk : 27 < np) (K : J p l e R s m args below meth c kc ks D cI cZ cQ ad np A nL Q x g (pc + 3) (ls) (.int (nI (x 11)) :: st)) : J p l e R s m args below meth c kc ks D cI cZ cQ ad np A nL Q x g (pc) (ls) (.ref (ad 27) :: st) := fun H locs la hP hS hv =>
  va_get (ref := "FutureSetsModel") (T := TX4) (N := 20) (ci := 4) (k := 7) C.1.1 C.1.2.1 C.1.2.2.2.2 hin C.1.2.2.2.1 C.2.1 hP 27 (wl_get hk) rfl (hk := by decide) (C.1.2.2.2.2 _ hl) (fun _ h => h) rfl hd (K H locs la hP hS hv)
theorem jp_X4_rows (C : GC p R s m args c kc ks cc nL own Ts D cI cZ cQ ad np A) {index : Nat} {v : Int32} (n : Nat) (hd : decode cc pc = .ok (.putfield index, 3)) (hin : ∀ w ∈ wsX40, w ∈ Ts) (hl : Cond.fieldLink own index "FutureSetsModel" "rows" "I" ∈ Ts) (hk : 27 < np) (hv : v = nI n) (K : J p l e R s m args below meth c kc ks D cI cZ cQ ad np A nL Q (va_up x 11 n) g (pc + 3) (ls) (st)) : J p l e R s m args below meth c kc ks D cI cZ cQ ad np A nL Q x g (pc) (ls) (.int v :: .ref (ad 27) :: st) := fun H locs la hP hS hl2 => by
  subst hv
  refine va_put (ref := "FutureSetsModel") (T := TX4) (N := 20) (ci := 4) (k := 7) (ty := .int) C.1.1 C.1.2.1 C.1.2.2.2.2 hin tyX4 tyX4_ok nmX4 C.1.2.2.2.1 C.2.1 hP (wl_D C.2.2.1) hS 27 (wl_get hk) rfl (hk := by decide) (C.1.2.2.2.2 _ hl) (fun _ h => h) rfl rfl rfl rfl (Nat.le_of_ble_eq_true rfl) hd (fun H1 locs1 hP1 hD1 hS1 => ?_)
  rw [wl_set hk] at hP1
  refine K H1 locs1 la (wl_P hP1 (fun i _ => ?_)) hS1 hl2
  by_cases hi : i = 27
  · subst hi; rfl
  · simp only [va_up, if_neg hi]
    unfold HH
    simp [hi, va_up]
theorem jg_X4_terms (C : GC p R s m args c kc ks cc nL own Ts D cI cZ cQ ad np A) {index : Nat} (hd : decode cc pc = .ok (.getfield index, 3)) (hin : ∀ w ∈ wsX40, w ∈ Ts) (hl : Cond.fieldLink own index "FutureSetsModel" "terms" "I" ∈ Ts) (hk : 27 < np) (K : J p l e R s m args below meth c kc ks D cI cZ cQ ad np A nL Q x g (pc + 3) (ls) (.int (nI (x 12)) :: st)) : J p l e R s m args below meth c kc ks D cI cZ cQ ad np A nL Q x g (pc) (ls) (.ref (ad 27) :: st) := fun H locs la hP hS hv =>
  va_get (ref := "FutureSetsModel") (T := TX4) (N := 20) (ci := 4) (k := 8) C.1.1 C.1.2.1 C.1.2.2.2.2 hin C.1.2.2.2.1 C.2.1 hP 27 (wl_get hk) rfl (hk := by decide) (C.1.2.2.2.2 _ hl) (fun _ h => h) rfl hd (K H locs la hP hS hv)
theorem jp_X4_terms (C : GC p R s m args c kc ks cc nL own Ts D cI cZ cQ ad np A) {index : Nat} {v : Int32} (n : Nat) (hd : decode cc pc = .ok (.putfield index, 3)) (hin : ∀ w ∈ wsX40, w ∈ Ts) (hl : Cond.fieldLink own index "FutureSetsModel" "terms" "I" ∈ Ts) (hk : 27 < np) (hv : v = nI n) (K : J p l e R s m args below meth c kc ks D cI cZ cQ ad np A nL Q (va_up x 12 n) g (pc + 3) (ls) (st)) : J p l e R s m args below meth c kc ks D cI cZ cQ ad np A nL Q x g (pc) (ls) (.int v :: .ref (ad 27) :: st) := fun H locs la hP hS hl2 => by
  subst hv
  refine va_put (ref := "FutureSetsModel") (T := TX4) (N := 20) (ci := 4) (k := 8) (ty := .int) C.1.1 C.1.2.1 C.1.2.2.2.2 hin tyX4 tyX4_ok nmX4 C.1.2.2.2.1 C.2.1 hP (wl_D C.2.2.1) hS 27 (wl_get hk) rfl (hk := by decide) (C.1.2.2.2.2 _ hl) (fun _ h => h) rfl rfl rfl rfl (Nat.le_of_ble_eq_true rfl) hd (fun H1 locs1 hP1 hD1 hS1 => ?_)
  rw [wl_set hk] at hP1
  refine K H1 locs1 la (wl_P hP1 (fun i _ => ?_)) hS1 hl2
  by_cases hi : i = 27
  · subst hi; rfl
  · simp only [va_up, if_neg hi]
    unfold HH
    simp [hi, va_up]
theorem jg_X4_termRow (C : GC p R s m args c kc ks cc nL own Ts D cI cZ cQ ad np A) {index : Nat} (hd : decode cc pc = .ok (.getfield index, 3)) (hin : ∀ w ∈ wsX40, w ∈ Ts) (hl : Cond.fieldLink own index "FutureSetsModel" "termRow" "[I" ∈ Ts) (hk : 27 < np) (K : J p l e R s m args below meth c kc ks D cI cZ cQ ad np A nL Q x g (pc + 3) (ls) (.ref (ad 31) :: st)) : J p l e R s m args below meth c kc ks D cI cZ cQ ad np A nL Q x g (pc) (ls) (.ref (ad 27) :: st) := fun H locs la hP hS hv =>
  va_get (ref := "FutureSetsModel") (T := TX4) (N := 20) (ci := 4) (k := 9) C.1.1 C.1.2.1 C.1.2.2.2.2 hin C.1.2.2.2.1 C.2.1 hP 27 (wl_get hk) rfl (hk := by decide) (C.1.2.2.2.2 _ hl) (fun _ h => h) rfl hd (K H locs la hP hS hv)
theorem jg_X4_termChoice (C : GC p R s m args c kc ks cc nL own Ts D cI cZ cQ ad np A) {index : Nat} (hd : decode cc pc = .ok (.getfield index, 3)) (hin : ∀ w ∈ wsX40, w ∈ Ts) (hl : Cond.fieldLink own index "FutureSetsModel" "termChoice" "[I" ∈ Ts) (hk : 27 < np) (K : J p l e R s m args below meth c kc ks D cI cZ cQ ad np A nL Q x g (pc + 3) (ls) (.ref (ad 32) :: st)) : J p l e R s m args below meth c kc ks D cI cZ cQ ad np A nL Q x g (pc) (ls) (.ref (ad 27) :: st) := fun H locs la hP hS hv =>
  va_get (ref := "FutureSetsModel") (T := TX4) (N := 20) (ci := 4) (k := 10) C.1.1 C.1.2.1 C.1.2.2.2.2 hin C.1.2.2.2.1 C.2.1 hP 27 (wl_get hk) rfl (hk := by decide) (C.1.2.2.2.2 _ hl) (fun _ h => h) rfl hd (K H locs la hP hS hv)
theorem jg_X4_termName (C : GC p R s m args c kc ks cc nL own Ts D cI cZ cQ ad np A) {index : Nat} (hd : decode cc pc = .ok (.getfield index, 3)) (hin : ∀ w ∈ wsX40, w ∈ Ts) (hl : Cond.fieldLink own index "FutureSetsModel" "termName" "[I" ∈ Ts) (hk : 27 < np) (K : J p l e R s m args below meth c kc ks D cI cZ cQ ad np A nL Q x g (pc + 3) (ls) (.ref (ad 33) :: st)) : J p l e R s m args below meth c kc ks D cI cZ cQ ad np A nL Q x g (pc) (ls) (.ref (ad 27) :: st) := fun H locs la hP hS hv =>
  va_get (ref := "FutureSetsModel") (T := TX4) (N := 20) (ci := 4) (k := 11) C.1.1 C.1.2.1 C.1.2.2.2.2 hin C.1.2.2.2.1 C.2.1 hP 27 (wl_get hk) rfl (hk := by decide) (C.1.2.2.2.2 _ hl) (fun _ h => h) rfl hd (K H locs la hP hS hv)
theorem jg_X4_termFactor (C : GC p R s m args c kc ks cc nL own Ts D cI cZ cQ ad np A) {index : Nat} (hd : decode cc pc = .ok (.getfield index, 3)) (hin : ∀ w ∈ wsX40, w ∈ Ts) (hl : Cond.fieldLink own index "FutureSetsModel" "termFactor" "[I" ∈ Ts) (hk : 27 < np) (K : J p l e R s m args below meth c kc ks D cI cZ cQ ad np A nL Q x g (pc + 3) (ls) (.ref (ad 34) :: st)) : J p l e R s m args below meth c kc ks D cI cZ cQ ad np A nL Q x g (pc) (ls) (.ref (ad 27) :: st) := fun H locs la hP hS hv =>
  va_get (ref := "FutureSetsModel") (T := TX4) (N := 20) (ci := 4) (k := 12) C.1.1 C.1.2.1 C.1.2.2.2.2 hin C.1.2.2.2.1 C.2.1 hP 27 (wl_get hk) rfl (hk := by decide) (C.1.2.2.2.2 _ hl) (fun _ h => h) rfl hd (K H locs la hP hS hv)
theorem jg_X4_futures (C : GC p R s m args c kc ks cc nL own Ts D cI cZ cQ ad np A) {index : Nat} (hd : decode cc pc = .ok (.getfield index, 3)) (hin : ∀ w ∈ wsX40, w ∈ Ts) (hl : Cond.fieldLink own index "FutureSetsModel" "futures" "I" ∈ Ts) (hk : 27 < np) (K : J p l e R s m args below meth c kc ks D cI cZ cQ ad np A nL Q x g (pc + 3) (ls) (.int (nI (x 13)) :: st)) : J p l e R s m args below meth c kc ks D cI cZ cQ ad np A nL Q x g (pc) (ls) (.ref (ad 27) :: st) := fun H locs la hP hS hv =>
  va_get (ref := "FutureSetsModel") (T := TX4) (N := 20) (ci := 4) (k := 13) C.1.1 C.1.2.1 C.1.2.2.2.2 hin C.1.2.2.2.1 C.2.1 hP 27 (wl_get hk) rfl (hk := by decide) (C.1.2.2.2.2 _ hl) (fun _ h => h) rfl hd (K H locs la hP hS hv)
theorem jp_X4_futures (C : GC p R s m args c kc ks cc nL own Ts D cI cZ cQ ad np A) {index : Nat} {v : Int32} (n : Nat) (hd : decode cc pc = .ok (.putfield index, 3)) (hin : ∀ w ∈ wsX40, w ∈ Ts) (hl : Cond.fieldLink own index "FutureSetsModel" "futures" "I" ∈ Ts) (hk : 27 < np) (hv : v = nI n) (K : J p l e R s m args below meth c kc ks D cI cZ cQ ad np A nL Q (va_up x 13 n) g (pc + 3) (ls) (st)) : J p l e R s m args below meth c kc ks D cI cZ cQ ad np A nL Q x g (pc) (ls) (.int v :: .ref (ad 27) :: st) := fun H locs la hP hS hl2 => by
  subst hv
  refine va_put (ref := "FutureSetsModel") (T := TX4) (N := 20) (ci := 4) (k := 13) (ty := .int) C.1.1 C.1.2.1 C.1.2.2.2.2 hin tyX4 tyX4_ok nmX4 C.1.2.2.2.1 C.2.1 hP (wl_D C.2.2.1) hS 27 (wl_get hk) rfl (hk := by decide) (C.1.2.2.2.2 _ hl) (fun _ h => h) rfl rfl rfl rfl (Nat.le_of_ble_eq_true rfl) hd (fun H1 locs1 hP1 hD1 hS1 => ?_)
  rw [wl_set hk] at hP1
  refine K H1 locs1 la (wl_P hP1 (fun i _ => ?_)) hS1 hl2
  by_cases hi : i = 27
  · subst hi; rfl
  · simp only [va_up, if_neg hi]
    unfold HH
    simp [hi, va_up]
theorem jg_X4_odds (C : GC p R s m args c kc ks cc nL own Ts D cI cZ cQ ad np A) {index : Nat} (hd : decode cc pc = .ok (.getfield index, 3)) (hin : ∀ w ∈ wsX40, w ∈ Ts) (hl : Cond.fieldLink own index "FutureSetsModel" "odds" "[I" ∈ Ts) (hk : 27 < np) (K : J p l e R s m args below meth c kc ks D cI cZ cQ ad np A nL Q x g (pc + 3) (ls) (.ref (ad 35) :: st)) : J p l e R s m args below meth c kc ks D cI cZ cQ ad np A nL Q x g (pc) (ls) (.ref (ad 27) :: st) := fun H locs la hP hS hv =>
  va_get (ref := "FutureSetsModel") (T := TX4) (N := 20) (ci := 4) (k := 14) C.1.1 C.1.2.1 C.1.2.2.2.2 hin C.1.2.2.2.1 C.2.1 hP 27 (wl_get hk) rfl (hk := by decide) (C.1.2.2.2.2 _ hl) (fun _ h => h) rfl hd (K H locs la hP hS hv)
theorem jg_X4_kept (C : GC p R s m args c kc ks cc nL own Ts D cI cZ cQ ad np A) {index : Nat} (hd : decode cc pc = .ok (.getfield index, 3)) (hin : ∀ w ∈ wsX40, w ∈ Ts) (hl : Cond.fieldLink own index "FutureSetsModel" "kept" "[Z" ∈ Ts) (hk : 27 < np) (K : J p l e R s m args below meth c kc ks D cI cZ cQ ad np A nL Q x g (pc + 3) (ls) (.ref (ad 36) :: st)) : J p l e R s m args below meth c kc ks D cI cZ cQ ad np A nL Q x g (pc) (ls) (.ref (ad 27) :: st) := fun H locs la hP hS hv =>
  va_get (ref := "FutureSetsModel") (T := TX4) (N := 20) (ci := 4) (k := 15) C.1.1 C.1.2.1 C.1.2.2.2.2 hin C.1.2.2.2.1 C.2.1 hP 27 (wl_get hk) rfl (hk := by decide) (C.1.2.2.2.2 _ hl) (fun _ h => h) rfl hd (K H locs la hP hS hv)
theorem jg_X4_number (C : GC p R s m args c kc ks cc nL own Ts D cI cZ cQ ad np A) {index : Nat} (hd : decode cc pc = .ok (.getfield index, 3)) (hin : ∀ w ∈ wsX40, w ∈ Ts) (hl : Cond.fieldLink own index "FutureSetsModel" "number" "[I" ∈ Ts) (hk : 27 < np) (K : J p l e R s m args below meth c kc ks D cI cZ cQ ad np A nL Q x g (pc + 3) (ls) (.ref (ad 37) :: st)) : J p l e R s m args below meth c kc ks D cI cZ cQ ad np A nL Q x g (pc) (ls) (.ref (ad 27) :: st) := fun H locs la hP hS hv =>
  va_get (ref := "FutureSetsModel") (T := TX4) (N := 20) (ci := 4) (k := 16) C.1.1 C.1.2.1 C.1.2.2.2.2 hin C.1.2.2.2.1 C.2.1 hP 27 (wl_get hk) rfl (hk := by decide) (C.1.2.2.2.2 _ hl) (fun _ h => h) rfl hd (K H locs la hP hS hv)
theorem jg_X4_gain (C : GC p R s m args c kc ks cc nL own Ts D cI cZ cQ ad np A) {index : Nat} (hd : decode cc pc = .ok (.getfield index, 3)) (hin : ∀ w ∈ wsX40, w ∈ Ts) (hl : Cond.fieldLink own index "FutureSetsModel" "gain" "[I" ∈ Ts) (hk : 27 < np) (K : J p l e R s m args below meth c kc ks D cI cZ cQ ad np A nL Q x g (pc + 3) (ls) (.ref (ad 38) :: st)) : J p l e R s m args below meth c kc ks D cI cZ cQ ad np A nL Q x g (pc) (ls) (.ref (ad 27) :: st) := fun H locs la hP hS hv =>
  va_get (ref := "FutureSetsModel") (T := TX4) (N := 20) (ci := 4) (k := 17) C.1.1 C.1.2.1 C.1.2.2.2.2 hin C.1.2.2.2.1 C.2.1 hP 27 (wl_get hk) rfl (hk := by decide) (C.1.2.2.2.2 _ hl) (fun _ h => h) rfl hd (K H locs la hP hS hv)
theorem jg_X4_worstOf (C : GC p R s m args c kc ks cc nL own Ts D cI cZ cQ ad np A) {index : Nat} (hd : decode cc pc = .ok (.getfield index, 3)) (hin : ∀ w ∈ wsX40, w ∈ Ts) (hl : Cond.fieldLink own index "FutureSetsModel" "worstOf" "[I" ∈ Ts) (hk : 27 < np) (K : J p l e R s m args below meth c kc ks D cI cZ cQ ad np A nL Q x g (pc + 3) (ls) (.ref (ad 39) :: st)) : J p l e R s m args below meth c kc ks D cI cZ cQ ad np A nL Q x g (pc) (ls) (.ref (ad 27) :: st) := fun H locs la hP hS hv =>
  va_get (ref := "FutureSetsModel") (T := TX4) (N := 20) (ci := 4) (k := 18) C.1.1 C.1.2.1 C.1.2.2.2.2 hin C.1.2.2.2.1 C.2.1 hP 27 (wl_get hk) rfl (hk := by decide) (C.1.2.2.2.2 _ hl) (fun _ h => h) rfl hd (K H locs la hP hS hv)
theorem jg_X4_bests (C : GC p R s m args c kc ks cc nL own Ts D cI cZ cQ ad np A) {index : Nat} (hd : decode cc pc = .ok (.getfield index, 3)) (hin : ∀ w ∈ wsX40, w ∈ Ts) (hl : Cond.fieldLink own index "FutureSetsModel" "bests" "[I" ∈ Ts) (hk : 27 < np) (K : J p l e R s m args below meth c kc ks D cI cZ cQ ad np A nL Q x g (pc + 3) (ls) (.ref (ad 40) :: st)) : J p l e R s m args below meth c kc ks D cI cZ cQ ad np A nL Q x g (pc) (ls) (.ref (ad 27) :: st) := fun H locs la hP hS hv =>
  va_get (ref := "FutureSetsModel") (T := TX4) (N := 20) (ci := 4) (k := 19) C.1.1 C.1.2.1 C.1.2.2.2.2 hin C.1.2.2.2.1 C.2.1 hP 27 (wl_get hk) rfl (hk := by decide) (C.1.2.2.2.2 _ hl) (fun _ h => h) rfl hd (K H locs la hP hS hv)
end JL
